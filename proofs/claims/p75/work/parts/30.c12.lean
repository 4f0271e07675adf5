abbrev q_X9_isAlike (h : PH)  : Option PV → PH → Prop := fun r h' => h = h' ∧ ∃ z : Int32, r = some (.inl z) ∧ ((z.toInt = 1) ∨ (z.toInt = 0))
set_option maxHeartbeats 4000000 in
set_option maxRecDepth 100000 in
theorem k_X9_isAlike (h : PH) (hI : INV h)  : CALL d_X9_isAlike [.inr (.inr (.inl 121)), .inr (.inr (.inl 122))] h (q_X9_isAlike h) := by
  show RUN d_X9_isAlike 0 [(0, .inr (.inr (.inl 121))), (1, .inr (.inr (.inl 122)))] [] h _
  refine R_iconst 0 rfl rfl ?_
  refine R_istore_n (k := 2) rfl [(2, .inl 0), (0, .inr (.inr (.inl 121))), (1, .inr (.inr (.inl 122)))] rfl rfl (by decide) ?_
  have lp2 : ∀ (n1 : Nat) (x3 : Int32), 0 ≤ x3.toInt ∧ x3.toInt ≤ 29 → (29 - x3.toInt).toNat < n1 → RUN d_X9_isAlike 2 [(2, .inl x3), (0, .inr (.inr (.inl 121))), (1, .inr (.inr (.inl 122)))] [] h (q_X9_isAlike h) := by
    intro n1
    induction n1 with
    | zero => intro x3 m5 hz; exact absurd hz (Nat.not_lt_zero _)
    | succ n1 ih4 =>
      intro x3 m5 hz
      refine R_iload_n (k := 2) rfl rfl rfl ?_
      refine R_bipush 29 rfl rfl ?_
      refine N_icmp_ge (a := x3.toInt) (b := 29) 25 rfl rfl rfl (by decide) (fun c6 => ?_) (fun c6 => ?_)
      · refine R_iconst 1 rfl rfl ?_
        exact R_iret rfl rfl rfl ⟨rfl, _, rfl, by rw [show (1 : Int32).toInt = 1 from rfl] <;> omega⟩
      · refine R_aload_n (k := 0) rfl rfl rfl ?_
        refine R_iload_n (k := 2) rfl rfl rfl ?_
        refine R_iald rfl sh_121 ⟨by omega, by omega⟩ ?_
        refine N_any (fun x7 => ?_)
        refine R_aload_n (k := 1) rfl rfl rfl ?_
        refine R_iload_n (k := 2) rfl rfl rfl ?_
        refine R_iald rfl sh_122 ⟨by omega, by omega⟩ ?_
        refine N_any (fun x8 => ?_)
        refine N_icmp_eq (a := x7.toInt) (b := x8.toInt) 19 rfl rfl rfl rfl (fun c9 => ?_) (fun c9 => ?_)
        · refine N_iinc (a := x3.toInt) (c := 1) (fun w => [(2, .inl w), (0, .inr (.inr (.inl 121))), (1, .inr (.inr (.inl 122)))]) rfl rfl (fun _ => rfl) (by decide) rfl (by decide) (by omega) (fun x10 q11 => ?_)
          refine R_goto 2 rfl rfl ?_
          exact RUN_weak (psub_cons rfl (psub_cons rfl (psub_cons rfl (psub_nil _)))) (ih4 x10 (by omega) (by omega))
        · refine R_iconst 0 rfl rfl ?_
          exact R_iret rfl rfl rfl ⟨rfl, _, rfl, by rw [show (0 : Int32).toInt = 0 from rfl] <;> omega⟩
  exact lp2 _ (0 : Int32) (by decide) (Nat.lt_succ_self _)
abbrev q_X9_setState (h : PH)  : Option PV → PH → Prop := fun r h' => INV h' ∧ FR [107, 108, 109] h h' ∧ (True) ∧ r = none
set_option maxHeartbeats 4000000 in
set_option maxRecDepth 100000 in
theorem k_X9_setState (h : PH) (hI : INV h)  : CALL d_X9_setState [.inr (.inr (.inl 96)), .inr (.inr (.inl 121))] h (q_X9_setState h) := by
  show RUN d_X9_setState 0 [(0, .inr (.inr (.inl 96))), (1, .inr (.inr (.inl 121)))] [] h _
  have fr : FR [107, 108, 109] h h := FR.rf _ _
  refine R_iconst 0 rfl rfl ?_
  refine R_istore_n (k := 2) rfl [(2, .inl 0), (0, .inr (.inr (.inl 96))), (1, .inr (.inr (.inl 121)))] rfl rfl (by decide) ?_
  have lp2 : ∀ (n1 : Nat) (h3 : PH) (x5 : Int32), INV h3 → FR [107, 108, 109] h h3 → FR [107, 108, 109] h h3 → 0 ≤ x5.toInt ∧ x5.toInt ≤ 6 → (6 - x5.toInt).toNat < n1 → RUN d_X9_setState 2 [(2, .inl x5), (0, .inr (.inr (.inl 96))), (1, .inr (.inr (.inl 121)))] [] h3 (q_X9_setState h) := by
    intro n1
    induction n1 with
    | zero => intro h3 x5 m7 m8 m9 m10 hz; exact absurd hz (Nat.not_lt_zero _)
    | succ n1 ih6 =>
      intro h3 x5 hI fr fl4 m10 hz
      refine R_iload_n (k := 2) rfl rfl rfl ?_
      refine R_bipush 6 rfl rfl ?_
      refine N_icmp_ge (a := x5.toInt) (b := 6) 30 rfl rfl rfl (by decide) (fun c11 => ?_) (fun c11 => ?_)
      · refine R_iconst 0 rfl rfl ?_
        refine R_istore_n (k := 2) rfl [(2, .inl 0), (0, .inr (.inr (.inl 96))), (1, .inr (.inr (.inl 121)))] rfl rfl (by decide) ?_
        have lp13 : ∀ (n12 : Nat) (h14 : PH) (x16 : Int32), INV h14 → FR [107, 108, 109] h h14 → FR [109] h3 h14 → 0 ≤ x16.toInt ∧ x16.toInt ≤ 23 → (23 - x16.toInt).toNat < n12 → RUN d_X9_setState 32 [(2, .inl x16), (0, .inr (.inr (.inl 96))), (1, .inr (.inr (.inl 121)))] [] h14 (q_X9_setState h) := by
          intro n12
          induction n12 with
          | zero => intro h14 x16 m18 m19 m20 m21 hz; exact absurd hz (Nat.not_lt_zero _)
          | succ n12 ih17 =>
            intro h14 x16 hI fr fl15 m21 hz
            have fl4 : FR [107, 108, 109] h h14 := fl4.trans fl15 (by decide)
            refine R_iload_n (k := 2) rfl rfl rfl ?_
            refine R_bipush 23 rfl rfl ?_
            refine N_icmp_ge (a := x16.toInt) (b := 23) 56 rfl rfl rfl (by decide) (fun c22 => ?_) (fun c22 => ?_)
            · exact R_vret rfl rfl ⟨hI, fr, trivial, rfl⟩
            · refine R_aload_n (k := 0) rfl rfl rfl ?_
              refine R_getf_r (j := 24) rfl ft_9_52 sh_96 rfl ?_
              refine R_iload_n (k := 2) rfl rfl rfl ?_
              refine R_aload_n (k := 1) rfl rfl rfl ?_
              refine R_bipush 6 rfl rfl ?_
              refine R_iload_n (k := 2) rfl rfl rfl ?_
              refine N_iadd (a := 6) (b := x16.toInt) rfl (by decide) rfl (by omega) (fun x23 q24 => ?_)
              refine R_iald rfl sh_121 ⟨by omega, by omega⟩ ?_
              refine N_any (fun x25 => ?_)
              refine K_iast (a := x16.toInt) (lo := (-2147483648)) (hi' := 2147483647) rfl sh_109 rfl ⟨by omega, by omega⟩ hI (by decide) rfl (i_rng _) fr (by decide) (fun h26 g27 hI fr => ?_)
              have fl15 : FR [109] h3 h26 := by rw [g27]; exact FR_wI _ _ fl15 (by decide)
              have fl4 : FR [107, 108, 109] h h26 := by rw [g27]; exact FR_wI _ _ fl4 (by decide)
              refine N_iinc (a := x16.toInt) (c := 1) (fun w => [(2, .inl w), (0, .inr (.inr (.inl 96))), (1, .inr (.inr (.inl 121)))]) rfl rfl (fun _ => rfl) (by decide) rfl (by decide) (by omega) (fun x28 q29 => ?_)
              refine R_goto 32 rfl rfl ?_
              exact RUN_weak (psub_cons rfl (psub_cons rfl (psub_cons rfl (psub_nil _)))) (ih17 h26 x28 hI fr fl15 (by omega) (by omega))
        exact lp13 _ h3 (0 : Int32) hI fr (FR.rf _ _) (by decide) (Nat.lt_succ_self _)
      · refine R_aload_n (k := 0) rfl rfl rfl ?_
        refine R_getf_r (j := 22) rfl ft_9_46 sh_96 rfl ?_
        refine R_iload_n (k := 2) rfl rfl rfl ?_
        refine R_aload_n (k := 1) rfl rfl rfl ?_
        refine R_iload_n (k := 2) rfl rfl rfl ?_
        refine R_iald rfl sh_121 ⟨by omega, by omega⟩ ?_
        refine N_any (fun x30 => ?_)
        refine K_iast (a := x5.toInt) (lo := (-2147483648)) (hi' := 2147483647) rfl sh_107 rfl ⟨by omega, by omega⟩ hI (by decide) rfl (i_rng _) fr (by decide) (fun h31 g32 hI fr => ?_)
        have fl4 : FR [107, 108, 109] h h31 := by rw [g32]; exact FR_wI _ _ fl4 (by decide)
        refine R_aload_n (k := 0) rfl rfl rfl ?_
        refine R_getf_r (j := 23) rfl ft_9_49 sh_96 rfl ?_
        refine R_iload_n (k := 2) rfl rfl rfl ?_
        refine R_iconst 0 rfl rfl ?_
        refine K_iast (a := x5.toInt) (lo := (-2147483648)) (hi' := 2147483647) rfl sh_108 rfl ⟨by omega, by omega⟩ hI (by decide) rfl (by decide) fr (by decide) (fun h33 g34 hI fr => ?_)
        have fl4 : FR [107, 108, 109] h h33 := by rw [g34]; exact FR_wI _ _ fl4 (by decide)
        refine N_iinc (a := x5.toInt) (c := 1) (fun w => [(2, .inl w), (0, .inr (.inr (.inl 96))), (1, .inr (.inr (.inl 121)))]) rfl rfl (fun _ => rfl) (by decide) rfl (by decide) (by omega) (fun x35 q36 => ?_)
        refine R_goto 2 rfl rfl ?_
        exact RUN_weak (psub_cons rfl (psub_cons rfl (psub_cons rfl (psub_nil _)))) (ih6 h33 x35 hI fr fl4 (by omega) (by omega))
  exact lp2 _ h (0 : Int32) hI fr (FR.rf _ _) (by decide) (Nat.lt_succ_self _)
abbrev q_X9_setState_1 (h : PH)  : Option PV → PH → Prop := fun r h' => INV h' ∧ FR [107, 108, 109] h h' ∧ (True) ∧ r = none
set_option maxHeartbeats 4000000 in
set_option maxRecDepth 100000 in
theorem k_X9_setState_1 (h : PH) (hI : INV h)  : CALL d_X9_setState [.inr (.inr (.inl 96)), .inr (.inr (.inl 122))] h (q_X9_setState_1 h) := by
  show RUN d_X9_setState 0 [(0, .inr (.inr (.inl 96))), (1, .inr (.inr (.inl 122)))] [] h _
  have fr : FR [107, 108, 109] h h := FR.rf _ _
  refine R_iconst 0 rfl rfl ?_
  refine R_istore_n (k := 2) rfl [(2, .inl 0), (0, .inr (.inr (.inl 96))), (1, .inr (.inr (.inl 122)))] rfl rfl (by decide) ?_
  have lp2 : ∀ (n1 : Nat) (h3 : PH) (x5 : Int32), INV h3 → FR [107, 108, 109] h h3 → FR [107, 108, 109] h h3 → 0 ≤ x5.toInt ∧ x5.toInt ≤ 6 → (6 - x5.toInt).toNat < n1 → RUN d_X9_setState 2 [(2, .inl x5), (0, .inr (.inr (.inl 96))), (1, .inr (.inr (.inl 122)))] [] h3 (q_X9_setState_1 h) := by
    intro n1
    induction n1 with
    | zero => intro h3 x5 m7 m8 m9 m10 hz; exact absurd hz (Nat.not_lt_zero _)
    | succ n1 ih6 =>
      intro h3 x5 hI fr fl4 m10 hz
      refine R_iload_n (k := 2) rfl rfl rfl ?_
      refine R_bipush 6 rfl rfl ?_
      refine N_icmp_ge (a := x5.toInt) (b := 6) 30 rfl rfl rfl (by decide) (fun c11 => ?_) (fun c11 => ?_)
      · refine R_iconst 0 rfl rfl ?_
        refine R_istore_n (k := 2) rfl [(2, .inl 0), (0, .inr (.inr (.inl 96))), (1, .inr (.inr (.inl 122)))] rfl rfl (by decide) ?_
        have lp13 : ∀ (n12 : Nat) (h14 : PH) (x16 : Int32), INV h14 → FR [107, 108, 109] h h14 → FR [109] h3 h14 → 0 ≤ x16.toInt ∧ x16.toInt ≤ 23 → (23 - x16.toInt).toNat < n12 → RUN d_X9_setState 32 [(2, .inl x16), (0, .inr (.inr (.inl 96))), (1, .inr (.inr (.inl 122)))] [] h14 (q_X9_setState_1 h) := by
          intro n12
          induction n12 with
          | zero => intro h14 x16 m18 m19 m20 m21 hz; exact absurd hz (Nat.not_lt_zero _)
          | succ n12 ih17 =>
            intro h14 x16 hI fr fl15 m21 hz
            have fl4 : FR [107, 108, 109] h h14 := fl4.trans fl15 (by decide)
            refine R_iload_n (k := 2) rfl rfl rfl ?_
            refine R_bipush 23 rfl rfl ?_
            refine N_icmp_ge (a := x16.toInt) (b := 23) 56 rfl rfl rfl (by decide) (fun c22 => ?_) (fun c22 => ?_)
            · exact R_vret rfl rfl ⟨hI, fr, trivial, rfl⟩
            · refine R_aload_n (k := 0) rfl rfl rfl ?_
              refine R_getf_r (j := 24) rfl ft_9_52 sh_96 rfl ?_
              refine R_iload_n (k := 2) rfl rfl rfl ?_
              refine R_aload_n (k := 1) rfl rfl rfl ?_
              refine R_bipush 6 rfl rfl ?_
              refine R_iload_n (k := 2) rfl rfl rfl ?_
              refine N_iadd (a := 6) (b := x16.toInt) rfl (by decide) rfl (by omega) (fun x23 q24 => ?_)
              refine R_iald rfl sh_122 ⟨by omega, by omega⟩ ?_
              refine N_any (fun x25 => ?_)
              refine K_iast (a := x16.toInt) (lo := (-2147483648)) (hi' := 2147483647) rfl sh_109 rfl ⟨by omega, by omega⟩ hI (by decide) rfl (i_rng _) fr (by decide) (fun h26 g27 hI fr => ?_)
              have fl15 : FR [109] h3 h26 := by rw [g27]; exact FR_wI _ _ fl15 (by decide)
              have fl4 : FR [107, 108, 109] h h26 := by rw [g27]; exact FR_wI _ _ fl4 (by decide)
              refine N_iinc (a := x16.toInt) (c := 1) (fun w => [(2, .inl w), (0, .inr (.inr (.inl 96))), (1, .inr (.inr (.inl 122)))]) rfl rfl (fun _ => rfl) (by decide) rfl (by decide) (by omega) (fun x28 q29 => ?_)
              refine R_goto 32 rfl rfl ?_
              exact RUN_weak (psub_cons rfl (psub_cons rfl (psub_cons rfl (psub_nil _)))) (ih17 h26 x28 hI fr fl15 (by omega) (by omega))
        exact lp13 _ h3 (0 : Int32) hI fr (FR.rf _ _) (by decide) (Nat.lt_succ_self _)
      · refine R_aload_n (k := 0) rfl rfl rfl ?_
        refine R_getf_r (j := 22) rfl ft_9_46 sh_96 rfl ?_
        refine R_iload_n (k := 2) rfl rfl rfl ?_
        refine R_aload_n (k := 1) rfl rfl rfl ?_
        refine R_iload_n (k := 2) rfl rfl rfl ?_
        refine R_iald rfl sh_122 ⟨by omega, by omega⟩ ?_
        refine N_any (fun x30 => ?_)
        refine K_iast (a := x5.toInt) (lo := (-2147483648)) (hi' := 2147483647) rfl sh_107 rfl ⟨by omega, by omega⟩ hI (by decide) rfl (i_rng _) fr (by decide) (fun h31 g32 hI fr => ?_)
        have fl4 : FR [107, 108, 109] h h31 := by rw [g32]; exact FR_wI _ _ fl4 (by decide)
        refine R_aload_n (k := 0) rfl rfl rfl ?_
        refine R_getf_r (j := 23) rfl ft_9_49 sh_96 rfl ?_
        refine R_iload_n (k := 2) rfl rfl rfl ?_
        refine R_iconst 0 rfl rfl ?_
        refine K_iast (a := x5.toInt) (lo := (-2147483648)) (hi' := 2147483647) rfl sh_108 rfl ⟨by omega, by omega⟩ hI (by decide) rfl (by decide) fr (by decide) (fun h33 g34 hI fr => ?_)
        have fl4 : FR [107, 108, 109] h h33 := by rw [g34]; exact FR_wI _ _ fl4 (by decide)
        refine N_iinc (a := x5.toInt) (c := 1) (fun w => [(2, .inl w), (0, .inr (.inr (.inl 96))), (1, .inr (.inr (.inl 122)))]) rfl rfl (fun _ => rfl) (by decide) rfl (by decide) (by omega) (fun x35 q36 => ?_)
        refine R_goto 2 rfl rfl ?_
        exact RUN_weak (psub_cons rfl (psub_cons rfl (psub_cons rfl (psub_nil _)))) (ih6 h33 x35 hI fr fl4 (by omega) (by omega))
  exact lp2 _ h (0 : Int32) hI fr (FR.rf _ _) (by decide) (Nat.lt_succ_self _)
abbrev q_X0_length (h : PH)  : Option PV → PH → Prop := fun r h' => h = h' ∧ ∃ z : Int32, r = some (.inl z) ∧ (((-255) ≤ z.toInt ∧ z.toInt ≤ 255))
set_option maxHeartbeats 4000000 in
set_option maxRecDepth 100000 in
theorem k_X0_length (h : PH) (hI : INV h)  : CALL d_X0_length [.inr (.inr (.inl 94))] h (q_X0_length h) := by
  show RUN d_X0_length 0 [(0, .inr (.inr (.inl 94)))] [] h _
  refine R_aload_n (k := 0) rfl rfl rfl ?_
  refine R_getf_i (j := 2) rfl ft_0_19 sh_94 rfl ?_
  have b1 : (0 : Int) ≤ (h.1 94 2).toInt ∧ (h.1 94 2).toInt ≤ 255 := hI.1 94 2
  refine R_aload_n (k := 0) rfl rfl rfl ?_
  refine R_getf_i (j := 1) rfl ft_0_15 sh_94 rfl ?_
  have b2 : (0 : Int) ≤ (h.1 94 1).toInt ∧ (h.1 94 1).toInt ≤ 255 := hI.1 94 1
  refine N_isub (a := (h.1 94 2).toInt) (b := (h.1 94 1).toInt) rfl rfl rfl (by omega) (fun x3 q4 => ?_)
  exact R_iret rfl rfl rfl ⟨rfl, _, rfl, by omega⟩
abbrev q_X8_round (h : PH)  : Option PV → PH → Prop := fun r h' => INV h' ∧ FR [70, 71, 72, 73, 74, 94, 95] h h' ∧ (True) ∧ ∃ z : Int32, r = some (.inl z) ∧ (((-255) ≤ z.toInt ∧ z.toInt ≤ 255))
set_option maxHeartbeats 4000000 in
set_option maxRecDepth 100000 in
theorem k_X8_round (h : PH) (hI : INV h)  : CALL d_X8_round [.inr (.inr (.inl 0))] h (q_X8_round h) := by
  show RUN d_X8_round 0 [(0, .inr (.inr (.inl 0)))] [] h _
  have fr : FR [70, 71, 72, 73, 74, 94, 95] h h := FR.rf _ _
  refine R_aload_n (k := 0) rfl rfl rfl ?_
  refine R_callV (v := .inr (.inr (.inl 0))) (As := []) (rest := []) rfl mt_8_i271 pp_X8_roundRefusal (by decide) rfl rfl rfl (Nat.le_of_ble_eq_true rfl) (Nat.le_of_ble_eq_true rfl) ((k_X8_roundRefusal h hI).mono (fun r1 h2 p3 => ?_))
  obtain ⟨hJ, fj, -, x4, rfl, q5⟩ := p3
  have f6 := fj
  have fr := fr.trans fj (by decide)
  have hI := hJ
  show RUN d_X8_round 4 [(0, .inr (.inr (.inl 0)))] [.inl x4] h2 _
  refine R_istore_n (k := 1) rfl [(1, .inl x4), (0, .inr (.inr (.inl 0)))] rfl rfl (by decide) ?_
  refine R_iload_n (k := 1) rfl rfl rfl ?_
  refine N_if_eq (a := x4.toInt) 13 rfl rfl rfl (fun c7 => ?_) (fun c7 => ?_)
  · refine R_aload_n (k := 0) rfl rfl rfl ?_
    refine R_getf_r (j := 10) rfl ft_8_70 sh_0 rfl ?_
    refine R_callV (v := .inr (.inr (.inl 94))) (As := []) (rest := []) rfl mt_8_i277 pp_X0_length (by decide) rfl rfl rfl (Nat.le_of_ble_eq_true rfl) (Nat.le_of_ble_eq_true rfl) ((k_X0_length h2 hI).mono (fun r8 h9 p10 => ?_))
    obtain ⟨rfl, x11, rfl, q12⟩ := p10
    show RUN d_X8_round 20 [(1, .inl x4), (0, .inr (.inr (.inl 0)))] [.inl x11] h2 _
    exact R_iret rfl rfl rfl ⟨hI, fr, trivial, _, rfl, by omega⟩
  · refine R_iload_n (k := 1) rfl rfl rfl ?_
    refine R_goto 20 rfl rfl ?_
    exact R_iret rfl rfl rfl ⟨hI, fr, trivial, _, rfl, by omega⟩
abbrev q_X0_throwsInIt (h : PH)  : Option PV → PH → Prop := fun r h' => h = h' ∧ ∃ z : Int32, r = some (.inl z) ∧ (((-255) ≤ z.toInt ∧ z.toInt ≤ 255))
set_option maxHeartbeats 4000000 in
set_option maxRecDepth 100000 in
theorem k_X0_throwsInIt (h : PH) (hI : INV h)  : CALL d_X0_throwsInIt [.inr (.inr (.inl 94))] h (q_X0_throwsInIt h) := by
  show RUN d_X0_throwsInIt 0 [(0, .inr (.inr (.inl 94)))] [] h _
  refine R_iconst 0 rfl rfl ?_
  refine R_istore_n (k := 1) rfl [(1, .inl 0), (0, .inr (.inr (.inl 94)))] rfl rfl (by decide) ?_
  refine R_aload_n (k := 0) rfl rfl rfl ?_
  refine R_getf_i (j := 1) rfl ft_0_15 sh_94 rfl ?_
  have b1 : (0 : Int) ≤ (h.1 94 1).toInt ∧ (h.1 94 1).toInt ≤ 255 := hI.1 94 1
  refine R_iconst 1 rfl rfl ?_
  refine N_iadd (a := (h.1 94 1).toInt) (b := 1) rfl rfl (by decide) (by omega) (fun x2 q3 => ?_)
  refine R_istore_n (k := 2) rfl [(2, .inl x2), (1, .inl 0), (0, .inr (.inr (.inl 94)))] rfl rfl (by decide) ?_
  have lp5 : ∀ (n4 : Nat) (x6 : Int32) (x7 : Int32), (-255) ≤ x6.toInt ∧ x6.toInt ≤ 255 → 1 ≤ x7.toInt ∧ x7.toInt ≤ 256 → x6.toInt ≤ x7.toInt + (-1) → (h.1 94 1).toInt ≤ x6.toInt + 255 → (h.1 94 1).toInt ≤ x7.toInt + (-1) → (256 - x7.toInt).toNat < n4 → RUN d_X0_throwsInIt 9 [(2, .inl x7), (1, .inl x6), (0, .inr (.inr (.inl 94)))] [] h (q_X0_throwsInIt h) := by
    intro n4
    induction n4 with
    | zero => intro x6 x7 m9 m10 m11 m12 m13 hz; exact absurd hz (Nat.not_lt_zero _)
    | succ n4 ih8 =>
      intro x6 x7 m9 m10 m11 m12 m13 hz
      refine R_iload_n (k := 2) rfl rfl rfl ?_
      refine R_aload_n (k := 0) rfl rfl rfl ?_
      refine R_getf_i (j := 2) rfl ft_0_19 sh_94 rfl ?_
      have b14 : (0 : Int) ≤ (h.1 94 2).toInt ∧ (h.1 94 2).toInt ≤ 255 := hI.1 94 2
      refine N_icmp_gt (a := x7.toInt) (b := (h.1 94 2).toInt) 39 rfl rfl rfl rfl (fun c15 => ?_) (fun c15 => ?_)
      · refine R_iload_n (k := 1) rfl rfl rfl ?_
        exact R_iret rfl rfl rfl ⟨rfl, _, rfl, by omega⟩
      · refine R_aload_n (k := 0) rfl rfl rfl ?_
        refine R_getf_r (j := 0) rfl ft_0_11 sh_94 rfl ?_
        refine R_iload_n (k := 2) rfl rfl rfl ?_
        refine R_lald rfl sh_95 ⟨by omega, by omega⟩ ?_
        refine N_anyL (fun w16 => ?_)
        refine R_iconst 0 rfl rfl ?_
        have k17 : (0 : Int32).toInt = 0 := by decide
        refine R_callS (As := [.inr (.inl w16), .inl 0]) (rest := []) rfl mt_0_i42 (by decide) pp_X8_hasBit (by decide) rfl rfl (Nat.le_of_ble_eq_true rfl) (Nat.le_of_ble_eq_true rfl) ((k_X8_hasBit h hI w16 (0 : Int32)).mono (fun r18 h19 p20 => ?_))
        obtain ⟨rfl, x21, rfl, q22 | q22⟩ := p20
        · show RUN d_X0_throwsInIt 27 [(2, .inl x7), (1, .inl x6), (0, .inr (.inr (.inl 94)))] [.inl x21] h _
          refine N_if_eq (a := x21.toInt) 33 rfl rfl rfl (fun c23 => ?_) (fun c23 => ?_)
          · refine N_iinc (a := x7.toInt) (c := 1) (fun w => [(2, .inl w), (1, .inl x6), (0, .inr (.inr (.inl 94)))]) rfl rfl (fun _ => rfl) (by decide) rfl (by decide) (by omega) (fun x24 q25 => ?_)
            refine R_goto 9 rfl rfl ?_
            exact RUN_weak (psub_cons rfl (psub_cons rfl (psub_cons rfl (psub_nil _)))) (ih8 x6 x24 (by omega) (by omega) (by omega) (by omega) (by omega) (by omega))
          · exfalso; omega
        · show RUN d_X0_throwsInIt 27 [(2, .inl x7), (1, .inl x6), (0, .inr (.inr (.inl 94)))] [.inl x21] h _
          refine N_if_eq (a := x21.toInt) 33 rfl rfl rfl (fun c26 => ?_) (fun c26 => ?_)
          · exfalso; omega
          · refine N_iinc (a := x6.toInt) (c := 1) (fun w => [(1, .inl w), (2, .inl x7), (0, .inr (.inr (.inl 94)))]) rfl rfl (fun _ => rfl) (by decide) rfl (by decide) (by omega) (fun x27 q28 => ?_)
            refine N_iinc (a := x7.toInt) (c := 1) (fun w => [(2, .inl w), (1, .inl x27), (0, .inr (.inr (.inl 94)))]) rfl rfl (fun _ => rfl) (by decide) rfl (by decide) (by omega) (fun x29 q30 => ?_)
            refine R_goto 9 rfl rfl ?_
            exact RUN_weak (psub_cons rfl (psub_cons rfl (psub_cons rfl (psub_nil _)))) (ih8 x27 x29 (by omega) (by omega) (by omega) (by omega) (by omega) (by omega))
  have k31 : (0 : Int32).toInt = 0 := by decide
  exact lp5 _ (0 : Int32) x2 (by decide) (by omega) (by omega) (by omega) (by omega) (Nat.lt_succ_self _)
abbrev q_X8_part (h : PH) (a0 : Int64) (a1 : Int64) (a2 : Int32) : Option PV → PH → Prop := fun r h' => h = h' ∧ ∃ z : Int64, r = some (.inr (.inl z))
set_option maxHeartbeats 4000000 in
set_option maxRecDepth 100000 in
theorem k_X8_part (h : PH) (hI : INV h) (a0 : Int64) (a1 : Int64) (a2 : Int32) (h2a : 0 ≤ a2.toInt ∧ a2.toInt ≤ 1) : CALL d_X8_part [.inr (.inl a0), .inr (.inl a1), .inl a2] h (q_X8_part h a0 a1 a2) := by
  show RUN d_X8_part 0 [(0, .inr (.inl a0)), (2, .inr (.inl a1)), (4, .inl a2)] [] h _
  refine R_lload_n (k := 0) rfl rfl rfl ?_
  refine R_nat (b := 3) rfl mt_8_i450 rfl ⟨by decide, by decide, Nat.le_of_ble_eq_true rfl⟩ ?_
  refine N_anyL (fun w1 => ?_)
  refine R_lstore (k := 5) [(5, .inr (.inl w1)), (0, .inr (.inl a0)), (2, .inr (.inl a1)), (4, .inl a2)] rfl rfl (by decide) ?_
  refine R_lload_n (k := 2) rfl rfl rfl ?_
  refine R_lstore (k := 7) [(7, .inr (.inl a1)), (5, .inr (.inl w1)), (0, .inr (.inl a0)), (2, .inr (.inl a1)), (4, .inl a2)] rfl rfl (by decide) ?_
  refine R_iconst 0 rfl rfl ?_
  refine R_istore (k := 9) [(9, .inl 0), (7, .inr (.inl a1)), (5, .inr (.inl w1)), (0, .inr (.inl a0)), (2, .inr (.inl a1)), (4, .inl a2)] rfl rfl (by decide) ?_
  have lp3 : ∀ (n2 : Nat) (w4 : Int64) (w5 : Int64) (x6 : Int32), 0 ≤ x6.toInt ∧ x6.toInt ≤ 100 → (100 - x6.toInt).toNat < n2 → RUN d_X8_part 12 [(9, .inl x6), (7, .inr (.inl w5)), (5, .inr (.inl w4)), (0, .inr (.inl a0)), (2, .inr (.inl a1)), (4, .inl a2)] [] h (q_X8_part h a0 a1 a2) := by
    intro n2
    induction n2 with
    | zero => intro w4 w5 x6 m8 hz; exact absurd hz (Nat.not_lt_zero _)
    | succ n2 ih7 =>
      intro w4 w5 x6 m8 hz
      refine R_iload (k := 9) rfl rfl ?_
      refine R_bipush 100 rfl rfl ?_
      refine N_icmp_ge (a := x6.toInt) (b := 100) 47 rfl rfl rfl (by decide) (fun c9 => ?_) (fun c9 => ?_)
      · refine R_iload (k := 4) rfl rfl ?_
        refine N_if_ne (a := a2.toInt) 56 rfl rfl rfl (fun c10 => ?_) (fun c10 => ?_)
        · refine R_lload_n (k := 2) rfl rfl rfl ?_
          refine R_lstore (k := 9) [(9, .inr (.inl a1)), (7, .inr (.inl w5)), (5, .inr (.inl w4)), (0, .inr (.inl a0)), (2, .inr (.inl a1)), (4, .inl a2)] rfl rfl (by decide) ?_
          refine R_lload (k := 5) rfl rfl ?_
          refine R_lconst 0 rfl rfl ?_
          refine N_lcmp (a := w4.toInt) (b := 0) rfl rfl (by decide) (fun x11 q12 => ?_)
          refine N_if_ne (a := x11.toInt) 71 rfl rfl rfl (fun c13 => ?_) (fun c13 => ?_)
          · refine R_lload (k := 9) rfl rfl ?_
            refine R_lload (k := 5) rfl rfl ?_
            refine R_ldiv rfl (l_nz (by omega)) ?_
            refine N_anyL (fun w14 => ?_)
            exact R_lret rfl rfl ⟨rfl, _, rfl⟩
          · refine R_lload (k := 9) rfl rfl ?_
            refine R_goto 76 rfl rfl ?_
            exact R_lret rfl rfl ⟨rfl, _, rfl⟩
        · refine R_lload_n (k := 0) rfl rfl rfl ?_
          refine R_goto 57 rfl rfl ?_
          refine R_lstore (k := 9) [(9, .inr (.inl a0)), (7, .inr (.inl w5)), (5, .inr (.inl w4)), (0, .inr (.inl a0)), (2, .inr (.inl a1)), (4, .inl a2)] rfl rfl (by decide) ?_
          refine R_lload (k := 5) rfl rfl ?_
          refine R_lconst 0 rfl rfl ?_
          refine N_lcmp (a := w4.toInt) (b := 0) rfl rfl (by decide) (fun x15 q16 => ?_)
          refine N_if_ne (a := x15.toInt) 71 rfl rfl rfl (fun c17 => ?_) (fun c17 => ?_)
          · refine R_lload (k := 9) rfl rfl ?_
            refine R_lload (k := 5) rfl rfl ?_
            refine R_ldiv rfl (l_nz (by omega)) ?_
            refine N_anyL (fun w18 => ?_)
            exact R_lret rfl rfl ⟨rfl, _, rfl⟩
          · refine R_lload (k := 9) rfl rfl ?_
            refine R_goto 76 rfl rfl ?_
            exact R_lret rfl rfl ⟨rfl, _, rfl⟩
      · refine R_lload (k := 7) rfl rfl ?_
        refine R_lconst 0 rfl rfl ?_
        refine N_lcmp (a := w5.toInt) (b := 0) rfl rfl (by decide) (fun x19 q20 => ?_)
        refine N_if_eq (a := x19.toInt) 47 rfl rfl rfl (fun c21 => ?_) (fun c21 => ?_)
        · refine R_iload (k := 4) rfl rfl ?_
          refine N_if_ne (a := a2.toInt) 56 rfl rfl rfl (fun c22 => ?_) (fun c22 => ?_)
          · refine R_lload_n (k := 2) rfl rfl rfl ?_
            refine R_lstore (k := 9) [(9, .inr (.inl a1)), (7, .inr (.inl w5)), (5, .inr (.inl w4)), (0, .inr (.inl a0)), (2, .inr (.inl a1)), (4, .inl a2)] rfl rfl (by decide) ?_
            refine R_lload (k := 5) rfl rfl ?_
            refine R_lconst 0 rfl rfl ?_
            refine N_lcmp (a := w4.toInt) (b := 0) rfl rfl (by decide) (fun x23 q24 => ?_)
            refine N_if_ne (a := x23.toInt) 71 rfl rfl rfl (fun c25 => ?_) (fun c25 => ?_)
            · refine R_lload (k := 9) rfl rfl ?_
              refine R_lload (k := 5) rfl rfl ?_
              refine R_ldiv rfl (l_nz (by omega)) ?_
              refine N_anyL (fun w26 => ?_)
              exact R_lret rfl rfl ⟨rfl, _, rfl⟩
            · refine R_lload (k := 9) rfl rfl ?_
              refine R_goto 76 rfl rfl ?_
              exact R_lret rfl rfl ⟨rfl, _, rfl⟩
          · refine R_lload_n (k := 0) rfl rfl rfl ?_
            refine R_goto 57 rfl rfl ?_
            refine R_lstore (k := 9) [(9, .inr (.inl a0)), (7, .inr (.inl w5)), (5, .inr (.inl w4)), (0, .inr (.inl a0)), (2, .inr (.inl a1)), (4, .inl a2)] rfl rfl (by decide) ?_
            refine R_lload (k := 5) rfl rfl ?_
            refine R_lconst 0 rfl rfl ?_
            refine N_lcmp (a := w4.toInt) (b := 0) rfl rfl (by decide) (fun x27 q28 => ?_)
            refine N_if_ne (a := x27.toInt) 71 rfl rfl rfl (fun c29 => ?_) (fun c29 => ?_)
            · refine R_lload (k := 9) rfl rfl ?_
              refine R_lload (k := 5) rfl rfl ?_
              refine R_ldiv rfl (l_nz (by omega)) ?_
              refine N_anyL (fun w30 => ?_)
              exact R_lret rfl rfl ⟨rfl, _, rfl⟩
            · refine R_lload (k := 9) rfl rfl ?_
              refine R_goto 76 rfl rfl ?_
              exact R_lret rfl rfl ⟨rfl, _, rfl⟩
        · refine R_lload (k := 5) rfl rfl ?_
          refine R_lload (k := 7) rfl rfl ?_
          refine R_lrem rfl (l_nz (by omega)) ?_
          refine N_anyL (fun w31 => ?_)
          refine R_lstore (k := 10) [(10, .inr (.inl w31)), (9, .inl x6), (7, .inr (.inl w5)), (5, .inr (.inl w4)), (0, .inr (.inl a0)), (2, .inr (.inl a1)), (4, .inl a2)] rfl rfl (by decide) ?_
          refine R_lload (k := 7) rfl rfl ?_
          refine R_lstore (k := 5) [(5, .inr (.inl w5)), (10, .inr (.inl w31)), (9, .inl x6), (7, .inr (.inl w5)), (0, .inr (.inl a0)), (2, .inr (.inl a1)), (4, .inl a2)] rfl rfl (by decide) ?_
          refine R_lload (k := 10) rfl rfl ?_
          refine R_lstore (k := 7) [(7, .inr (.inl w31)), (5, .inr (.inl w5)), (10, .inr (.inl w31)), (9, .inl x6), (0, .inr (.inl a0)), (2, .inr (.inl a1)), (4, .inl a2)] rfl rfl (by decide) ?_
          refine N_iinc (a := x6.toInt) (c := 1) (fun w => [(9, .inl w), (7, .inr (.inl w31)), (5, .inr (.inl w5)), (10, .inr (.inl w31)), (0, .inr (.inl a0)), (2, .inr (.inl a1)), (4, .inl a2)]) rfl rfl (fun _ => rfl) (by decide) rfl (by decide) (by omega) (fun x32 q33 => ?_)
          refine R_goto 12 rfl rfl ?_
          exact RUN_weak (psub_cons rfl (psub_cons rfl (psub_cons rfl (psub_cons rfl (psub_cons rfl (psub_cons rfl (psub_nil _))))))) (ih7 w5 w31 x32 (by omega) (by omega))
  exact lp3 _ w1 a1 (0 : Int32) (by decide) (Nat.lt_succ_self _)
abbrev q_X8_rate (h : PH) (a0 : Int32) : Option PV → PH → Prop := fun r h' => INV h' ∧ FR [70, 71, 72, 73, 74, 94, 95] h h' ∧ (True) ∧ ∃ z : Int32, r = some (.inl z) ∧ ((True))
set_option maxHeartbeats 4000000 in
set_option maxRecDepth 100000 in
theorem k_X8_rate (h : PH) (hI : INV h) (a0 : Int32) : CALL d_X8_rate [.inr (.inr (.inl 0)), .inl a0] h (q_X8_rate h a0) := by
  show RUN d_X8_rate 0 [(0, .inr (.inr (.inl 0))), (1, .inl a0)] [] h _
  have b1 := i_rng a0
  have fr : FR [70, 71, 72, 73, 74, 94, 95] h h := FR.rf _ _
  refine R_iload_n (k := 1) rfl rfl rfl ?_
  refine R_callS (As := [.inl a0]) (rest := []) rfl mt_8_i122 (by decide) pp_X8_isEither (by decide) rfl rfl (Nat.le_of_ble_eq_true rfl) (Nat.le_of_ble_eq_true rfl) ((k_X8_isEither h hI a0).mono (fun r2 h3 p4 => ?_))
  obtain ⟨rfl, x5, rfl, q6 | q6 | q6⟩ := p4
  · show RUN d_X8_rate 4 [(0, .inr (.inr (.inl 0))), (1, .inl a0)] [.inl x5] h _
    refine N_if_ne (a := x5.toInt) 10 rfl rfl rfl (fun c7 => ?_) (fun c7 => ?_)
    · refine R_aload_n (k := 0) rfl rfl rfl ?_
      refine R_callV (v := .inr (.inr (.inl 0))) (As := []) (rest := []) rfl mt_8_i271 pp_X8_roundRefusal (by decide) rfl rfl rfl (Nat.le_of_ble_eq_true rfl) (Nat.le_of_ble_eq_true rfl) ((k_X8_roundRefusal h hI).mono (fun r8 h9 p10 => ?_))
      obtain ⟨hJ, fj, -, x11, rfl, q12⟩ := p10
      have f13 := fj
      have fr := fr.trans fj (by decide)
      have hI := hJ
      show RUN d_X8_rate 14 [(0, .inr (.inr (.inl 0))), (1, .inl a0)] [.inl x11] h9 _
      refine R_istore_n (k := 2) rfl [(2, .inl x11), (0, .inr (.inr (.inl 0))), (1, .inl a0)] rfl rfl (by decide) ?_
      refine R_iload_n (k := 2) rfl rfl rfl ?_
      refine N_if_eq (a := x11.toInt) 23 rfl rfl rfl (fun c14 => ?_) (fun c14 => ?_)
      · refine R_aload_n (k := 0) rfl rfl rfl ?_
        refine R_getf_r (j := 10) rfl ft_8_70 sh_0 rfl ?_
        refine R_callV (v := .inr (.inr (.inl 94))) (As := []) (rest := []) rfl mt_8_i279 pp_X0_throwsInIt (by decide) rfl rfl rfl (Nat.le_of_ble_eq_true rfl) (Nat.le_of_ble_eq_true rfl) ((k_X0_throwsInIt h9 hI).mono (fun r15 h16 p17 => ?_))
        obtain ⟨rfl, x18, rfl, q19⟩ := p17
        show RUN d_X8_rate 30 [(2, .inl x11), (0, .inr (.inr (.inl 0))), (1, .inl a0)] [.inl x18] h9 _
        refine N_i2l rfl (fun w20 q21 => ?_)
        refine R_aload_n (k := 0) rfl rfl rfl ?_
        refine R_getf_r (j := 10) rfl ft_8_70 sh_0 rfl ?_
        refine R_callV (v := .inr (.inr (.inl 94))) (As := []) (rest := [.inr (.inl w20)]) rfl mt_8_i277 pp_X0_length (by decide) rfl rfl rfl (Nat.le_of_ble_eq_true rfl) (Nat.le_of_ble_eq_true rfl) ((k_X0_length h9 hI).mono (fun r22 h23 p24 => ?_))
        obtain ⟨rfl, x25, rfl, q26⟩ := p24
        show RUN d_X8_rate 38 [(2, .inl x11), (0, .inr (.inr (.inl 0))), (1, .inl a0)] [.inl x25, .inr (.inl w20)] h9 _
        refine N_i2l rfl (fun w27 q28 => ?_)
        refine R_iload_n (k := 1) rfl rfl rfl ?_
        refine R_callS (As := [.inr (.inl w20), .inr (.inl w27), .inl a0]) (rest := []) rfl mt_8_i282 (by decide) pp_X8_part (by decide) rfl rfl (Nat.le_of_ble_eq_true rfl) (Nat.le_of_ble_eq_true rfl) ((k_X8_part h9 hI w20 w27 a0 (by omega)).mono (fun r29 h30 p31 => ?_))
        obtain ⟨rfl, w32, rfl⟩ := p31
        show RUN d_X8_rate 43 [(2, .inl x11), (0, .inr (.inr (.inl 0))), (1, .inl a0)] [.inr (.inl w32)] h9 _
        refine R_l2i rfl ?_
        refine N_any (fun x33 => ?_)
        exact R_iret rfl rfl rfl ⟨hI, fr, trivial, _, rfl, trivial⟩
      · refine R_iload_n (k := 2) rfl rfl rfl ?_
        refine R_goto 44 rfl rfl ?_
        exact R_iret rfl rfl rfl ⟨hI, fr, trivial, _, rfl, trivial⟩
    · exfalso; omega
  · show RUN d_X8_rate 4 [(0, .inr (.inr (.inl 0))), (1, .inl a0)] [.inl x5] h _
    refine N_if_ne (a := x5.toInt) 10 rfl rfl rfl (fun c34 => ?_) (fun c34 => ?_)
    · exfalso; omega
    · refine R_bipush (-2) rfl rfl ?_
      exact R_iret rfl rfl rfl ⟨hI, fr, trivial, _, rfl, trivial⟩
  · show RUN d_X8_rate 4 [(0, .inr (.inr (.inl 0))), (1, .inl a0)] [.inl x5] h _
    refine N_if_ne (a := x5.toInt) 10 rfl rfl rfl (fun c35 => ?_) (fun c35 => ?_)
    · refine R_aload_n (k := 0) rfl rfl rfl ?_
      refine R_callV (v := .inr (.inr (.inl 0))) (As := []) (rest := []) rfl mt_8_i271 pp_X8_roundRefusal (by decide) rfl rfl rfl (Nat.le_of_ble_eq_true rfl) (Nat.le_of_ble_eq_true rfl) ((k_X8_roundRefusal h hI).mono (fun r36 h37 p38 => ?_))
      obtain ⟨hJ, fj, -, x39, rfl, q40⟩ := p38
      have f41 := fj
      have fr := fr.trans fj (by decide)
      have hI := hJ
      show RUN d_X8_rate 14 [(0, .inr (.inr (.inl 0))), (1, .inl a0)] [.inl x39] h37 _
      refine R_istore_n (k := 2) rfl [(2, .inl x39), (0, .inr (.inr (.inl 0))), (1, .inl a0)] rfl rfl (by decide) ?_
      refine R_iload_n (k := 2) rfl rfl rfl ?_
      refine N_if_eq (a := x39.toInt) 23 rfl rfl rfl (fun c42 => ?_) (fun c42 => ?_)
      · refine R_aload_n (k := 0) rfl rfl rfl ?_
        refine R_getf_r (j := 10) rfl ft_8_70 sh_0 rfl ?_
        refine R_callV (v := .inr (.inr (.inl 94))) (As := []) (rest := []) rfl mt_8_i279 pp_X0_throwsInIt (by decide) rfl rfl rfl (Nat.le_of_ble_eq_true rfl) (Nat.le_of_ble_eq_true rfl) ((k_X0_throwsInIt h37 hI).mono (fun r43 h44 p45 => ?_))
        obtain ⟨rfl, x46, rfl, q47⟩ := p45
        show RUN d_X8_rate 30 [(2, .inl x39), (0, .inr (.inr (.inl 0))), (1, .inl a0)] [.inl x46] h37 _
        refine N_i2l rfl (fun w48 q49 => ?_)
        refine R_aload_n (k := 0) rfl rfl rfl ?_
        refine R_getf_r (j := 10) rfl ft_8_70 sh_0 rfl ?_
        refine R_callV (v := .inr (.inr (.inl 94))) (As := []) (rest := [.inr (.inl w48)]) rfl mt_8_i277 pp_X0_length (by decide) rfl rfl rfl (Nat.le_of_ble_eq_true rfl) (Nat.le_of_ble_eq_true rfl) ((k_X0_length h37 hI).mono (fun r50 h51 p52 => ?_))
        obtain ⟨rfl, x53, rfl, q54⟩ := p52
        show RUN d_X8_rate 38 [(2, .inl x39), (0, .inr (.inr (.inl 0))), (1, .inl a0)] [.inl x53, .inr (.inl w48)] h37 _
        refine N_i2l rfl (fun w55 q56 => ?_)
        refine R_iload_n (k := 1) rfl rfl rfl ?_
        refine R_callS (As := [.inr (.inl w48), .inr (.inl w55), .inl a0]) (rest := []) rfl mt_8_i282 (by decide) pp_X8_part (by decide) rfl rfl (Nat.le_of_ble_eq_true rfl) (Nat.le_of_ble_eq_true rfl) ((k_X8_part h37 hI w48 w55 a0 (by omega)).mono (fun r57 h58 p59 => ?_))
        obtain ⟨rfl, w60, rfl⟩ := p59
        show RUN d_X8_rate 43 [(2, .inl x39), (0, .inr (.inr (.inl 0))), (1, .inl a0)] [.inr (.inl w60)] h37 _
        refine R_l2i rfl ?_
        refine N_any (fun x61 => ?_)
        exact R_iret rfl rfl rfl ⟨hI, fr, trivial, _, rfl, trivial⟩
      · refine R_iload_n (k := 2) rfl rfl rfl ?_
        refine R_goto 44 rfl rfl ?_
        exact R_iret rfl rfl rfl ⟨hI, fr, trivial, _, rfl, trivial⟩
    · exfalso; omega
abbrev q_X9_divisor (h : PH) (a0 : Int64) (a1 : Int64) : Option PV → PH → Prop := fun r h' => h = h' ∧ ∃ z : Int64, r = some (.inr (.inl z)) ∧ (¬ z.toInt = 0) ∧ True
set_option maxHeartbeats 4000000 in
set_option maxRecDepth 100000 in
theorem k_X9_divisor (h : PH) (hI : INV h) (a0 : Int64) (a1 : Int64) (xp0 : ¬ a1.toInt = 0) : CALL d_X9_divisor [.inr (.inl a0), .inr (.inl a1)] h (q_X9_divisor h a0 a1) := by
  show RUN d_X9_divisor 0 [(0, .inr (.inl a0)), (2, .inr (.inl a1))] [] h _
  refine R_lload_n (k := 0) rfl rfl rfl ?_
  refine R_nat (b := 3) rfl mt_9_i377 rfl ⟨by decide, by decide, Nat.le_of_ble_eq_true rfl⟩ ?_
  refine N_anyL (fun w1 => ?_)
  refine R_lstore (k := 4) [(4, .inr (.inl w1)), (0, .inr (.inl a0)), (2, .inr (.inl a1))] rfl rfl (by decide) ?_
  refine R_lload_n (k := 2) rfl rfl rfl ?_
  refine R_lstore (k := 6) [(6, .inr (.inl a1)), (4, .inr (.inl w1)), (0, .inr (.inl a0)), (2, .inr (.inl a1))] rfl rfl (by decide) ?_
  have lp3 : ∀ (n2 : Nat) (w4 : Int64) (w5 : Int64), (¬ (w4.toInt = 0 ∧ w5.toInt = 0)) → (w5.toInt).natAbs < n2 → RUN d_X9_divisor 9 [(6, .inr (.inl w5)), (4, .inr (.inl w4)), (0, .inr (.inl a0)), (2, .inr (.inl a1))] [] h (q_X9_divisor h a0 a1) := by
    intro n2
    induction n2 with
    | zero => intro w4 w5 m7 hz; exact absurd hz (Nat.not_lt_zero _)
    | succ n2 ih6 =>
      intro w4 w5 m7 hz
      refine R_lload (k := 6) rfl rfl ?_
      refine R_lconst 0 rfl rfl ?_
      refine N_lcmp (a := w5.toInt) (b := 0) rfl rfl (by decide) (fun x8 q9 => ?_)
      refine N_if_eq (a := x8.toInt) 34 rfl rfl rfl (fun c10 => ?_) (fun c10 => ?_)
      · refine R_lload (k := 4) rfl rfl ?_
        exact R_lret rfl rfl ⟨rfl, _, rfl, by omega, trivial⟩
      · refine R_lload (k := 4) rfl rfl ?_
        refine R_lload (k := 6) rfl rfl ?_
        refine N_lrem (b := w5.toInt) rfl rfl (by omega) (fun w11 q12 => ?_)
        refine R_lstore (k := 8) [(8, .inr (.inl w11)), (6, .inr (.inl w5)), (4, .inr (.inl w4)), (0, .inr (.inl a0)), (2, .inr (.inl a1))] rfl rfl (by decide) ?_
        refine R_lload (k := 6) rfl rfl ?_
        refine R_lstore (k := 4) [(4, .inr (.inl w5)), (8, .inr (.inl w11)), (6, .inr (.inl w5)), (0, .inr (.inl a0)), (2, .inr (.inl a1))] rfl rfl (by decide) ?_
        refine R_lload (k := 8) rfl rfl ?_
        refine R_lstore (k := 6) [(6, .inr (.inl w11)), (4, .inr (.inl w5)), (8, .inr (.inl w11)), (0, .inr (.inl a0)), (2, .inr (.inl a1))] rfl rfl (by decide) ?_
        refine R_goto 9 rfl rfl ?_
        exact RUN_weak (psub_cons rfl (psub_cons rfl (psub_cons rfl (psub_cons rfl (psub_nil _))))) (ih6 w5 w11 (by omega) (by omega))
  exact lp3 _ w1 a1 (by omega) (Nat.lt_succ_self _)
abbrev q_X9_part (h : PH) (a0 : Int64) (a1 : Int64) (a2 : Int32) : Option PV → PH → Prop := fun r h' => h = h' ∧ ∃ z : Int64, r = some (.inr (.inl z))
set_option maxHeartbeats 4000000 in
set_option maxRecDepth 100000 in
theorem k_X9_part (h : PH) (hI : INV h) (a0 : Int64) (a1 : Int64) (a2 : Int32) (h2a : 0 ≤ a2.toInt ∧ a2.toInt ≤ 1) (xp0 : ¬ a1.toInt = 0) : CALL d_X9_part [.inr (.inl a0), .inr (.inl a1), .inl a2] h (q_X9_part h a0 a1 a2) := by
  show RUN d_X9_part 0 [(0, .inr (.inl a0)), (2, .inr (.inl a1)), (4, .inl a2)] [] h _
  refine R_iload (k := 4) rfl rfl ?_
  refine N_if_ne (a := a2.toInt) 9 rfl rfl rfl (fun c1 => ?_) (fun c1 => ?_)
  · refine R_lload_n (k := 2) rfl rfl rfl ?_
    refine R_lload_n (k := 0) rfl rfl rfl ?_
    refine R_lload_n (k := 2) rfl rfl rfl ?_
    refine R_callS (As := [.inr (.inl a0), .inr (.inl a1)]) (rest := [.inr (.inl a1)]) rfl mt_9_i381 (by decide) pp_X9_divisor (by decide) rfl rfl (Nat.le_of_ble_eq_true rfl) (Nat.le_of_ble_eq_true rfl) ((k_X9_divisor h hI a0 a1 (by omega)).mono (fun r2 h3 p4 => ?_))
    obtain ⟨rfl, w6, rfl, zq5, -⟩ := p4
    show RUN d_X9_part 15 [(0, .inr (.inl a0)), (2, .inr (.inl a1)), (4, .inl a2)] [.inr (.inl w6), .inr (.inl a1)] h _
    refine R_ldiv rfl (l_nz (by omega)) ?_
    refine N_anyL (fun w7 => ?_)
    exact R_lret rfl rfl ⟨rfl, _, rfl⟩
  · refine R_lload_n (k := 0) rfl rfl rfl ?_
    refine R_goto 10 rfl rfl ?_
    refine R_lload_n (k := 0) rfl rfl rfl ?_
    refine R_lload_n (k := 2) rfl rfl rfl ?_
    refine R_callS (As := [.inr (.inl a0), .inr (.inl a1)]) (rest := [.inr (.inl a0)]) rfl mt_9_i381 (by decide) pp_X9_divisor (by decide) rfl rfl (Nat.le_of_ble_eq_true rfl) (Nat.le_of_ble_eq_true rfl) ((k_X9_divisor h hI a0 a1 (by omega)).mono (fun r8 h9 p10 => ?_))
    obtain ⟨rfl, w12, rfl, zq11, -⟩ := p10
    show RUN d_X9_part 15 [(0, .inr (.inl a0)), (2, .inr (.inl a1)), (4, .inl a2)] [.inr (.inl w12), .inr (.inl a0)] h _
    refine R_ldiv rfl (l_nz (by omega)) ?_
    refine N_anyL (fun w13 => ?_)
    exact R_lret rfl rfl ⟨rfl, _, rfl⟩
abbrev q_X8_slow (h : PH)  : Option PV → PH → Prop := fun r h' => INV h' ∧ FR [0, 70, 71, 72, 73, 74, 75, 76, 77, 78, 79, 80, 81, 82, 83, 84, 85, 86] h h' ∧ (True) ∧ ∃ z : Int32, r = some (.inl z) ∧ (((-2) ≤ z.toInt ∧ z.toInt ≤ 5))
set_option maxHeartbeats 4000000 in
set_option maxRecDepth 100000 in
theorem k_X8_slow (h : PH) (hI : INV h)  : CALL d_X8_slow [.inr (.inr (.inl 0))] h (q_X8_slow h) := by
  show RUN d_X8_slow 0 [(0, .inr (.inr (.inl 0)))] [] h _
  have fr : FR [0, 70, 71, 72, 73, 74, 75, 76, 77, 78, 79, 80, 81, 82, 83, 84, 85, 86] h h := FR.rf _ _
  refine R_aload_n (k := 0) rfl rfl rfl ?_
  refine R_getf_r (j := 3) rfl ft_8_28 sh_0 rfl ?_
  have b1 : (0 : Int) ≤ (h.1 17 0).toInt ∧ (h.1 17 0).toInt ≤ 60 := hI.1 17 0
  have e2 : 0 < (h.1 17 10).toInt → 1 ≤ (h.1 17 0).toInt := hI.2.1
  refine R_callV (v := .inr (.inr (.inl 16))) (As := []) (rest := []) rfl mt_8_i146 pp_X1_stands (by decide) rfl rfl rfl (Nat.le_of_ble_eq_true rfl) (Nat.le_of_ble_eq_true rfl) ((k_X1_stands h hI).mono (fun r3 h4 p5 => ?_))
  obtain ⟨rfl, x6, rfl, q7 | q7⟩ := p5
  · show RUN d_X8_slow 7 [(0, .inr (.inr (.inl 0)))] [.inl x6] h _
    refine N_if_ne (a := x6.toInt) 13 rfl rfl rfl (fun c8 => ?_) (fun c8 => ?_)
    · exfalso; omega
    · refine R_bipush (-2) rfl rfl ?_
      exact R_iret rfl rfl rfl ⟨hI, fr, trivial, _, rfl, by rw [show ((-2) : Int32).toInt = (-2) from rfl] <;> omega⟩
  · show RUN d_X8_slow 7 [(0, .inr (.inr (.inl 0)))] [.inl x6] h _
    refine N_if_ne (a := x6.toInt) 13 rfl rfl rfl (fun c9 => ?_) (fun c9 => ?_)
    · refine R_aload_n (k := 0) rfl rfl rfl ?_
      refine R_callV (v := .inr (.inr (.inl 0))) (As := []) (rest := []) rfl mt_8_i249 pp_X8_waterNow (by decide) rfl rfl rfl (Nat.le_of_ble_eq_true rfl) (Nat.le_of_ble_eq_true rfl) ((k_X8_waterNow h hI).mono (fun r10 h11 p12 => ?_))
      obtain ⟨hJ, fj, -, x13, rfl, q14⟩ := p12
      have f15 := fj
      have fr := fr.trans fj (by decide)
      have hI := hJ
      have s16 : (h11.1 17 10).toInt = (h.1 17 10).toInt := by rw [(f15 17 (by decide)).1]
      have s17 : (h11.1 17 0).toInt = (h.1 17 0).toInt := by rw [(f15 17 (by decide)).1]
      show RUN d_X8_slow 17 [(0, .inr (.inr (.inl 0)))] [.inl x13] h11 _
      refine R_istore_n (k := 1) rfl [(1, .inl x13), (0, .inr (.inr (.inl 0)))] rfl rfl (by decide) ?_
      refine R_iconst (-1) rfl rfl ?_
      refine R_istore_n (k := 2) rfl [(2, .inl (-1)), (1, .inl x13), (0, .inr (.inr (.inl 0)))] rfl rfl (by decide) ?_
      refine R_iconst 0 rfl rfl ?_
      refine R_istore_n (k := 3) rfl [(3, .inl 0), (2, .inl (-1)), (1, .inl x13), (0, .inr (.inr (.inl 0)))] rfl rfl (by decide) ?_
      have lp19 : ∀ (n18 : Nat) (h20 : PH) (x22 : Int32) (x23 : Int32) (x24 : Int32), INV h20 → FR [0, 70, 71, 72, 73, 74, 75, 76, 77, 78, 79, 80, 81, 82, 83, 84, 85, 86] h h20 → FR [70, 71, 72, 73, 74] h11 h20 → (-1) ≤ x23.toInt ∧ x23.toInt ≤ 5 → 0 ≤ x24.toInt ∧ x24.toInt ≤ 6 → x23.toInt ≤ x24.toInt + (-1) → (6 - x24.toInt).toNat < n18 → RUN d_X8_slow 22 [(3, .inl x24), (2, .inl x23), (1, .inl x22), (0, .inr (.inr (.inl 0)))] [] h20 (q_X8_slow h) := by
        intro n18
        induction n18 with
        | zero => intro h20 x22 x23 x24 m26 m27 m28 m29 m30 m31 hz; exact absurd hz (Nat.not_lt_zero _)
        | succ n18 ih25 =>
          intro h20 x22 x23 x24 hI fr fl21 m29 m30 m31 hz
          have s32 : (h20.1 17 10).toInt = (h11.1 17 10).toInt := by rw [(fl21 17 (by decide)).1]
          have s33 : (h20.1 17 0).toInt = (h11.1 17 0).toInt := by rw [(fl21 17 (by decide)).1]
          refine R_iload_n (k := 3) rfl rfl rfl ?_
          refine R_aload_n (k := 0) rfl rfl rfl ?_
          refine R_getf_r (j := 3) rfl ft_8_28 sh_0 rfl ?_
          refine R_getf_r (j := 0) rfl ft_8_109 sh_16 rfl ?_
          refine R_iconst 5 rfl rfl ?_
          refine R_iald rfl sh_17 (by decide) ?_
          have b34 : (0 : Int) ≤ (h20.1 17 5).toInt ∧ (h20.1 17 5).toInt ≤ 6 := hI.1 17 5
          show RUN d_X8_slow 32 [(3, .inl x24), (2, .inl x23), (1, .inl x22), (0, .inr (.inr (.inl 0)))] [.inl (h20.1 17 5), .inl x24] h20 _
          refine N_icmp_ge (a := x24.toInt) (b := (h20.1 17 5).toInt) 60 rfl rfl rfl rfl (fun c35 => ?_) (fun c35 => ?_)
          · refine R_iload_n (k := 2) rfl rfl rfl ?_
            exact R_iret rfl rfl rfl ⟨hI, fr, trivial, _, rfl, by omega⟩
          · refine R_aload_n (k := 0) rfl rfl rfl ?_
            refine R_iload_n (k := 3) rfl rfl rfl ?_
            refine R_iconst 1 rfl rfl ?_
            have k36 : (1 : Int32).toInt = 1 := by decide
            refine R_callV (v := .inr (.inr (.inl 0))) (As := [.inl x24, .inl 1]) (rest := []) rfl mt_8_i252 pp_X8_waterByPace (by decide) rfl rfl rfl (Nat.le_of_ble_eq_true rfl) (Nat.le_of_ble_eq_true rfl) ((k_X8_waterByPace h20 hI x24 (1 : Int32) (by omega) (by decide)).mono (fun r37 h38 p39 => ?_))
            obtain ⟨hJ, fj, -, x40, rfl, q41⟩ := p39
            have f42 := fj
            have fr := fr.trans fj (by decide)
            have hI := hJ
            have fl21 : FR [70, 71, 72, 73, 74] h11 h38 := fl21.trans fj (by decide)
            have s43 : (h38.1 17 10).toInt = (h20.1 17 10).toInt := by rw [(f42 17 (by decide)).1]
            have s44 : (h38.1 17 0).toInt = (h20.1 17 0).toInt := by rw [(f42 17 (by decide)).1]
            have s45 : (h38.1 17 5).toInt = (h20.1 17 5).toInt := by rw [(f42 17 (by decide)).1]
            show RUN d_X8_slow 41 [(3, .inl x24), (2, .inl x23), (1, .inl x22), (0, .inr (.inr (.inl 0)))] [.inl x40] h38 _
            refine R_istore (k := 4) [(4, .inl x40), (3, .inl x24), (2, .inl x23), (1, .inl x22), (0, .inr (.inr (.inl 0)))] rfl rfl (by decide) ?_
            refine R_iload (k := 4) rfl rfl ?_
            refine R_iload_n (k := 1) rfl rfl rfl ?_
            refine N_icmp_le (a := x40.toInt) (b := x22.toInt) 54 rfl rfl rfl rfl (fun c46 => ?_) (fun c46 => ?_)
            · refine N_iinc (a := x24.toInt) (c := 1) (fun w => [(3, .inl w), (4, .inl x40), (2, .inl x23), (1, .inl x22), (0, .inr (.inr (.inl 0)))]) rfl rfl (fun _ => rfl) (by decide) rfl (by decide) (by omega) (fun x47 q48 => ?_)
              refine R_goto 22 rfl rfl ?_
              exact RUN_weak (psub_cons rfl (psub_cons rfl (psub_cons rfl (psub_cons rfl (psub_nil _))))) (ih25 h38 x22 x23 x47 hI fr fl21 (by omega) (by omega) (by omega) (by omega))
            · refine R_iload (k := 4) rfl rfl ?_
              refine R_istore_n (k := 1) rfl [(1, .inl x40), (4, .inl x40), (3, .inl x24), (2, .inl x23), (0, .inr (.inr (.inl 0)))] rfl rfl (by decide) ?_
              refine R_iload_n (k := 3) rfl rfl rfl ?_
              refine R_istore_n (k := 2) rfl [(2, .inl x24), (1, .inl x40), (4, .inl x40), (3, .inl x24), (0, .inr (.inr (.inl 0)))] rfl rfl (by decide) ?_
              refine N_iinc (a := x24.toInt) (c := 1) (fun w => [(3, .inl w), (2, .inl x24), (1, .inl x40), (4, .inl x40), (0, .inr (.inr (.inl 0)))]) rfl rfl (fun _ => rfl) (by decide) rfl (by decide) (by omega) (fun x49 q50 => ?_)
              refine R_goto 22 rfl rfl ?_
              exact RUN_weak (psub_cons rfl (psub_cons rfl (psub_cons rfl (psub_cons rfl (psub_nil _))))) (ih25 h38 x40 x24 x49 hI fr fl21 (by omega) (by omega) (by omega) (by omega))
      have k51 : ((-1) : Int32).toInt = (-1) := by decide
      have k52 : (0 : Int32).toInt = 0 := by decide
      exact lp19 _ h11 x13 ((-1) : Int32) (0 : Int32) hI fr (FR.rf _ _) (by decide) (by decide) (by omega) (Nat.lt_succ_self _)
    · exfalso; omega
abbrev q_X9_slow (h : PH)  : Option PV → PH → Prop := fun r h' => INV h' ∧ FR [96, 103, 104, 105, 106, 107, 108, 109, 110, 111, 112, 113, 114, 115, 116, 117, 118, 119] h h' ∧ (True) ∧ ∃ z : Int32, r = some (.inl z) ∧ (((-2) ≤ z.toInt ∧ z.toInt ≤ 5))
set_option maxHeartbeats 4000000 in
set_option maxRecDepth 100000 in
theorem k_X9_slow (h : PH) (hI : INV h)  : CALL d_X9_slow [.inr (.inr (.inl 96))] h (q_X9_slow h) := by
  show RUN d_X9_slow 0 [(0, .inr (.inr (.inl 96)))] [] h _
  have fr : FR [96, 103, 104, 105, 106, 107, 108, 109, 110, 111, 112, 113, 114, 115, 116, 117, 118, 119] h h := FR.rf _ _
  refine R_aload_n (k := 0) rfl rfl rfl ?_
  have b1 : (0 : Int) ≤ (h.1 97 0).toInt ∧ (h.1 97 0).toInt ≤ 60 := hI.1 97 0
  have e2 : 0 < (h.1 97 10).toInt → 1 ≤ (h.1 97 0).toInt := hI.2.2.2.2.2.1.2.1
  refine R_callV (v := .inr (.inr (.inl 96))) (As := []) (rest := []) rfl mt_9_i307 pp_X9_asksBrigade (by decide) rfl rfl rfl (Nat.le_of_ble_eq_true rfl) (Nat.le_of_ble_eq_true rfl) ((k_X9_asksBrigade h hI).mono (fun r3 h4 p5 => ?_))
  obtain ⟨hJ, fj, -, x6, rfl, q7 | q7⟩ := p5
  · have f8 := fj
    have fr := fr.trans fj (by decide)
    have hI := hJ
    have s9 : (h4.1 97 10).toInt = (h.1 97 10).toInt := by rw [(f8 97 (by decide)).1]
    have s10 : (h4.1 97 0).toInt = (h.1 97 0).toInt := by rw [(f8 97 (by decide)).1]
    show RUN d_X9_slow 4 [(0, .inr (.inr (.inl 96)))] [.inl x6] h4 _
    refine N_if_ne (a := x6.toInt) 10 rfl rfl rfl (fun c11 => ?_) (fun c11 => ?_)
    · exfalso; omega
    · refine R_bipush (-2) rfl rfl ?_
      exact R_iret rfl rfl rfl ⟨hI, fr, trivial, _, rfl, by rw [show ((-2) : Int32).toInt = (-2) from rfl] <;> omega⟩
  · have f12 := fj
    have fr := fr.trans fj (by decide)
    have hI := hJ
    have s13 : (h4.1 97 10).toInt = (h.1 97 10).toInt := by rw [(f12 97 (by decide)).1]
    have s14 : (h4.1 97 0).toInt = (h.1 97 0).toInt := by rw [(f12 97 (by decide)).1]
    show RUN d_X9_slow 4 [(0, .inr (.inr (.inl 96)))] [.inl x6] h4 _
    refine N_if_ne (a := x6.toInt) 10 rfl rfl rfl (fun c15 => ?_) (fun c15 => ?_)
    · refine R_aload_n (k := 0) rfl rfl rfl ?_
      refine R_getf_r (j := 29) rfl ft_9_67 sh_96 rfl ?_
      refine R_aload_n (k := 0) rfl rfl rfl ?_
      refine R_callV (v := .inr (.inr (.inl 96))) (As := []) (rest := [.inr (.inr (.inl 114))]) rfl mt_9_i129 pp_X9_last (by decide) rfl rfl rfl (Nat.le_of_ble_eq_true rfl) (Nat.le_of_ble_eq_true rfl) ((k_X9_last h4 hI).mono (fun r16 h17 p18 => ?_))
      obtain ⟨rfl, x19, rfl, q20⟩ := p18
      show RUN d_X9_slow 18 [(0, .inr (.inr (.inl 96)))] [.inl x19, .inr (.inr (.inl 114))] h4 _
      refine R_iald rfl sh_114 ⟨by omega, by omega⟩ ?_
      refine N_any (fun x21 => ?_)
      refine R_istore_n (k := 1) rfl [(1, .inl x21), (0, .inr (.inr (.inl 96)))] rfl rfl (by decide) ?_
      refine R_iconst (-1) rfl rfl ?_
      refine R_istore_n (k := 2) rfl [(2, .inl (-1)), (1, .inl x21), (0, .inr (.inr (.inl 96)))] rfl rfl (by decide) ?_
      refine R_iconst 0 rfl rfl ?_
      refine R_istore_n (k := 3) rfl [(3, .inl 0), (2, .inl (-1)), (1, .inl x21), (0, .inr (.inr (.inl 96)))] rfl rfl (by decide) ?_
      have lp23 : ∀ (n22 : Nat) (h24 : PH) (x26 : Int32) (x27 : Int32) (x28 : Int32), INV h24 → FR [96, 103, 104, 105, 106, 107, 108, 109, 110, 111, 112, 113, 114, 115, 116, 117, 118, 119] h h24 → FR [96, 103, 107, 108, 109, 110, 111, 112, 113, 114, 115, 116, 117, 118, 119] h4 h24 → (-1) ≤ x27.toInt ∧ x27.toInt ≤ 5 → 0 ≤ x28.toInt ∧ x28.toInt ≤ 6 → x27.toInt ≤ x28.toInt + (-1) → (6 - x28.toInt).toNat < n22 → RUN d_X9_slow 24 [(3, .inl x28), (2, .inl x27), (1, .inl x26), (0, .inr (.inr (.inl 96)))] [] h24 (q_X9_slow h) := by
        intro n22
        induction n22 with
        | zero => intro h24 x26 x27 x28 m30 m31 m32 m33 m34 m35 hz; exact absurd hz (Nat.not_lt_zero _)
        | succ n22 ih29 =>
          intro h24 x26 x27 x28 hI fr fl25 m33 m34 m35 hz
          have s36 : (h24.1 97 10).toInt = (h4.1 97 10).toInt := by rw [(fl25 97 (by decide)).1]
          have s37 : (h24.1 97 0).toInt = (h4.1 97 0).toInt := by rw [(fl25 97 (by decide)).1]
          refine R_iload_n (k := 3) rfl rfl rfl ?_
          refine R_aload_n (k := 0) rfl rfl rfl ?_
          have b38 : (0 : Int) ≤ (h24.1 97 5).toInt ∧ (h24.1 97 5).toInt ≤ 6 := hI.1 97 5
          have e39 : 0 < (h24.1 97 5).toInt → 1 ≤ (h24.1 97 0).toInt := hI.2.2.2.2.2.1.2.2
          refine R_callV (v := .inr (.inr (.inl 96))) (As := []) (rest := [.inl x28]) rfl mt_9_i133 pp_X9_hands (by decide) rfl rfl rfl (Nat.le_of_ble_eq_true rfl) (Nat.le_of_ble_eq_true rfl) ((k_X9_hands h24 hI).mono (fun r40 h41 p42 => ?_))
          obtain ⟨rfl, x43, rfl, q44⟩ := p42
          show RUN d_X9_slow 29 [(3, .inl x28), (2, .inl x27), (1, .inl x26), (0, .inr (.inr (.inl 96)))] [.inl x43, .inl x28] h24 _
          refine N_icmp_ge (a := x28.toInt) (b := x43.toInt) 81 rfl rfl rfl rfl (fun c45 => ?_) (fun c45 => ?_)
          · refine R_iload_n (k := 2) rfl rfl rfl ?_
            exact R_iret rfl rfl rfl ⟨hI, fr, trivial, _, rfl, by omega⟩
          · refine R_aload_n (k := 0) rfl rfl rfl ?_
            refine R_getf_r (j := 15) rfl ft_9_34 sh_96 rfl ?_
            refine R_iload_n (k := 3) rfl rfl rfl ?_
            refine R_iald rfl sh_103 ⟨by omega, by omega⟩ ?_
            refine N_any (fun x46 => ?_)
            refine R_istore (k := 4) [(4, .inl x46), (3, .inl x28), (2, .inl x27), (1, .inl x26), (0, .inr (.inr (.inl 96)))] rfl rfl (by decide) ?_
            refine R_aload_n (k := 0) rfl rfl rfl ?_
            refine R_getf_r (j := 15) rfl ft_9_34 sh_96 rfl ?_
            refine R_iload_n (k := 3) rfl rfl rfl ?_
            refine R_iconst 1 rfl rfl ?_
            refine K_iast (a := x28.toInt) (lo := (-2147483648)) (hi' := 2147483647) rfl sh_103 rfl ⟨by omega, by omega⟩ hI (by decide) rfl (by decide) fr (by decide) (fun h47 g48 hI fr => ?_)
            have fl25 : FR [96, 103, 107, 108, 109, 110, 111, 112, 113, 114, 115, 116, 117, 118, 119] h4 h47 := by rw [g48]; exact FR_wI _ _ fl25 (by decide)
            have s49 : (h47.1 97 10).toInt = (h24.1 97 10).toInt := by rw [g48, wI_ne _ _ _ (by decide)]
            have s50 : (h47.1 97 0).toInt = (h24.1 97 0).toInt := by rw [g48, wI_ne _ _ _ (by decide)]
            have s51 : (h47.1 97 5).toInt = (h24.1 97 5).toInt := by rw [g48, wI_ne _ _ _ (by decide)]
            refine R_aload_n (k := 0) rfl rfl rfl ?_
            refine R_callV (v := .inr (.inr (.inl 96))) (As := []) (rest := []) rfl mt_9_i389 pp_X9_waterNow (by decide) rfl rfl rfl (Nat.le_of_ble_eq_true rfl) (Nat.le_of_ble_eq_true rfl) ((k_X9_waterNow h47 hI (by omega)).mono (fun r52 h53 p54 => ?_))
            obtain ⟨hJ, fj, ⟨kp55, kp56, kp57, kp58, kp59, kp60, -⟩, x61, rfl, q62⟩ := p54
            have f63 := fj
            have fr := fr.trans fj (by decide)
            have hI := hJ
            have fl25 : FR [96, 103, 107, 108, 109, 110, 111, 112, 113, 114, 115, 116, 117, 118, 119] h4 h53 := fl25.trans fj (by decide)
            have s64 : (h53.1 97 10).toInt = (h47.1 97 10).toInt := by rw [(f63 97 (by decide)).1]
            have s65 : (h53.1 97 0).toInt = (h47.1 97 0).toInt := by rw [(f63 97 (by decide)).1]
            have s66 : (h53.1 97 5).toInt = (h47.1 97 5).toInt := by rw [(f63 97 (by decide)).1]
            show RUN d_X9_slow 51 [(4, .inl x46), (3, .inl x28), (2, .inl x27), (1, .inl x26), (0, .inr (.inr (.inl 96)))] [.inl x61] h53 _
            refine R_istore (k := 5) [(5, .inl x61), (4, .inl x46), (3, .inl x28), (2, .inl x27), (1, .inl x26), (0, .inr (.inr (.inl 96)))] rfl rfl (by decide) ?_
            refine R_aload_n (k := 0) rfl rfl rfl ?_
            refine R_getf_r (j := 15) rfl ft_9_34 sh_96 rfl ?_
            refine R_iload_n (k := 3) rfl rfl rfl ?_
            refine R_iload (k := 4) rfl rfl ?_
            refine K_iast (a := x28.toInt) (lo := (-2147483648)) (hi' := 2147483647) rfl sh_103 rfl ⟨by omega, by omega⟩ hI (by decide) rfl (i_rng _) fr (by decide) (fun h67 g68 hI fr => ?_)
            have fl25 : FR [96, 103, 107, 108, 109, 110, 111, 112, 113, 114, 115, 116, 117, 118, 119] h4 h67 := by rw [g68]; exact FR_wI _ _ fl25 (by decide)
            have s69 : (h67.1 97 10).toInt = (h53.1 97 10).toInt := by rw [g68, wI_ne _ _ _ (by decide)]
            have s70 : (h67.1 97 0).toInt = (h53.1 97 0).toInt := by rw [g68, wI_ne _ _ _ (by decide)]
            have s71 : (h67.1 97 5).toInt = (h53.1 97 5).toInt := by rw [g68, wI_ne _ _ _ (by decide)]
            refine R_iload (k := 5) rfl rfl ?_
            refine R_iload_n (k := 1) rfl rfl rfl ?_
            refine N_icmp_gt (a := x61.toInt) (b := x26.toInt) 70 rfl rfl rfl rfl (fun c72 => ?_) (fun c72 => ?_)
            · refine R_iload (k := 5) rfl rfl ?_
              refine R_istore_n (k := 1) rfl [(1, .inl x61), (5, .inl x61), (4, .inl x46), (3, .inl x28), (2, .inl x27), (0, .inr (.inr (.inl 96)))] rfl rfl (by decide) ?_
              refine R_iload_n (k := 3) rfl rfl rfl ?_
              refine R_istore_n (k := 2) rfl [(2, .inl x28), (1, .inl x61), (5, .inl x61), (4, .inl x46), (3, .inl x28), (0, .inr (.inr (.inl 96)))] rfl rfl (by decide) ?_
              refine N_iinc (a := x28.toInt) (c := 1) (fun w => [(3, .inl w), (2, .inl x28), (1, .inl x61), (5, .inl x61), (4, .inl x46), (0, .inr (.inr (.inl 96)))]) rfl rfl (fun _ => rfl) (by decide) rfl (by decide) (by omega) (fun x73 q74 => ?_)
              refine R_goto 24 rfl rfl ?_
              exact RUN_weak (psub_cons rfl (psub_cons rfl (psub_cons rfl (psub_cons rfl (psub_nil _))))) (ih29 h67 x61 x28 x73 hI fr fl25 (by omega) (by omega) (by omega) (by omega))
            · refine R_goto 75 rfl rfl ?_
              refine N_iinc (a := x28.toInt) (c := 1) (fun w => [(3, .inl w), (5, .inl x61), (4, .inl x46), (2, .inl x27), (1, .inl x26), (0, .inr (.inr (.inl 96)))]) rfl rfl (fun _ => rfl) (by decide) rfl (by decide) (by omega) (fun x75 q76 => ?_)
              refine R_goto 24 rfl rfl ?_
              exact RUN_weak (psub_cons rfl (psub_cons rfl (psub_cons rfl (psub_cons rfl (psub_nil _))))) (ih29 h67 x26 x27 x75 hI fr fl25 (by omega) (by omega) (by omega) (by omega))
      have k77 : ((-1) : Int32).toInt = (-1) := by decide
      have k78 : (0 : Int32).toInt = 0 := by decide
      exact lp23 _ h4 x21 ((-1) : Int32) (0 : Int32) hI fr (FR.rf _ _) (by decide) (by decide) (by omega) (Nat.lt_succ_self _)
    · exfalso; omega
abbrev q_X8_waterByBuckets (h : PH) (a0 : Int32) : Option PV → PH → Prop := fun r h' => INV h' ∧ FR [70, 71, 72, 73, 74] h h' ∧ (True) ∧ ∃ z : Int32, r = some (.inl z) ∧ ((True))
set_option maxHeartbeats 4000000 in
set_option maxRecDepth 100000 in
theorem k_X8_waterByBuckets (h : PH) (hI : INV h) (a0 : Int32) (h0a : 1 ≤ a0.toInt ∧ a0.toInt ≤ 8) : CALL d_X8_waterByBuckets [.inr (.inr (.inl 0)), .inl a0] h (q_X8_waterByBuckets h a0) := by
  show RUN d_X8_waterByBuckets 0 [(0, .inr (.inr (.inl 0))), (1, .inl a0)] [] h _
  have fr : FR [70, 71, 72, 73, 74] h h := FR.rf _ _
  refine R_aload_n (k := 0) rfl rfl rfl ?_
  refine R_callV (v := .inr (.inr (.inl 0))) (As := []) (rest := []) rfl mt_8_i237 pp_X8_lineAsNow (by decide) rfl rfl rfl (Nat.le_of_ble_eq_true rfl) (Nat.le_of_ble_eq_true rfl) ((k_X8_lineAsNow h hI).mono (fun r1 h2 p3 => ?_))
  obtain ⟨hJ, fj, -, rfl⟩ := p3
  have f4 := fj
  have fr := fr.trans fj (by decide)
  have hI := hJ
  show RUN d_X8_waterByBuckets 4 [(0, .inr (.inr (.inl 0))), (1, .inl a0)] [] h2 _
  refine R_aload_n (k := 0) rfl rfl rfl ?_
  refine R_getf_r (j := 7) rfl ft_8_49 sh_0 rfl ?_
  refine R_iload_n (k := 1) rfl rfl rfl ?_
  refine K_putf (j := 5) (lo := (-2147483648)) (hi' := 2147483647) rfl ft_8_240 sh_70 rfl hI (by decide) rfl (i_rng _) fr (by decide) (fun h5 g6 hI fr => ?_)
  have s7 : (h5.1 70 5).toInt = a0.toInt := by rw [g6, wI_is]
  refine R_aload_n (k := 0) rfl rfl rfl ?_
  refine R_callV (v := .inr (.inr (.inl 0))) (As := []) (rest := []) rfl mt_8_i268 pp_X8_waterOfLine (by decide) rfl rfl rfl (Nat.le_of_ble_eq_true rfl) (Nat.le_of_ble_eq_true rfl) ((k_X8_waterOfLine h5 hI).mono (fun r8 h9 p10 => ?_))
  obtain ⟨hJ, fj, ⟨kp11, -⟩, x12, rfl, q13⟩ := p10
  have f14 := fj
  have fr := fr.trans fj (by decide)
  have hI := hJ
  show RUN d_X8_waterByBuckets 16 [(0, .inr (.inr (.inl 0))), (1, .inl a0)] [.inl x12] h9 _
  exact R_iret rfl rfl rfl ⟨hI, fr, trivial, _, rfl, trivial⟩
abbrev q_X8_enough (h : PH)  : Option PV → PH → Prop := fun r h' => INV h' ∧ FR [70, 71, 72, 73, 74] h h' ∧ (True) ∧ ∃ z : Int32, r = some (.inl z) ∧ (((-2) ≤ z.toInt ∧ z.toInt ≤ 8))
set_option maxHeartbeats 4000000 in
set_option maxRecDepth 100000 in
theorem k_X8_enough (h : PH) (hI : INV h)  : CALL d_X8_enough [.inr (.inr (.inl 0))] h (q_X8_enough h) := by
  show RUN d_X8_enough 0 [(0, .inr (.inr (.inl 0)))] [] h _
  have fr : FR [70, 71, 72, 73, 74] h h := FR.rf _ _
  refine R_aload_n (k := 0) rfl rfl rfl ?_
  refine R_getf_r (j := 3) rfl ft_8_28 sh_0 rfl ?_
  have b1 : (0 : Int) ≤ (h.1 17 0).toInt ∧ (h.1 17 0).toInt ≤ 60 := hI.1 17 0
  have e2 : 0 < (h.1 17 10).toInt → 1 ≤ (h.1 17 0).toInt := hI.2.1
  refine R_callV (v := .inr (.inr (.inl 16))) (As := []) (rest := []) rfl mt_8_i146 pp_X1_stands (by decide) rfl rfl rfl (Nat.le_of_ble_eq_true rfl) (Nat.le_of_ble_eq_true rfl) ((k_X1_stands h hI).mono (fun r3 h4 p5 => ?_))
  obtain ⟨rfl, x6, rfl, q7 | q7⟩ := p5
  · show RUN d_X8_enough 7 [(0, .inr (.inr (.inl 0)))] [.inl x6] h _
    refine N_if_ne (a := x6.toInt) 13 rfl rfl rfl (fun c8 => ?_) (fun c8 => ?_)
    · exfalso; omega
    · refine R_bipush (-2) rfl rfl ?_
      exact R_iret rfl rfl rfl ⟨hI, fr, trivial, _, rfl, by rw [show ((-2) : Int32).toInt = (-2) from rfl] <;> omega⟩
  · show RUN d_X8_enough 7 [(0, .inr (.inr (.inl 0)))] [.inl x6] h _
    refine N_if_ne (a := x6.toInt) 13 rfl rfl rfl (fun c9 => ?_) (fun c9 => ?_)
    · refine R_aload_n (k := 0) rfl rfl rfl ?_
      refine R_bipush 8 rfl rfl ?_
      have k10 : (8 : Int32).toInt = 8 := by decide
      refine R_callV (v := .inr (.inr (.inl 0))) (As := [.inl 8]) (rest := []) rfl mt_8_i255 pp_X8_waterByBuckets (by decide) rfl rfl rfl (Nat.le_of_ble_eq_true rfl) (Nat.le_of_ble_eq_true rfl) ((k_X8_waterByBuckets h hI (8 : Int32) (by decide)).mono (fun r11 h12 p13 => ?_))
      obtain ⟨hJ, fj, -, x14, rfl, q15⟩ := p13
      have f16 := fj
      have fr := fr.trans fj (by decide)
      have hI := hJ
      have s17 : (h12.1 17 10).toInt = (h.1 17 10).toInt := by rw [(f16 17 (by decide)).1]
      have s18 : (h12.1 17 0).toInt = (h.1 17 0).toInt := by rw [(f16 17 (by decide)).1]
      show RUN d_X8_enough 19 [(0, .inr (.inr (.inl 0)))] [.inl x14] h12 _
      refine R_istore_n (k := 1) rfl [(1, .inl x14), (0, .inr (.inr (.inl 0)))] rfl rfl (by decide) ?_
      refine R_iconst 1 rfl rfl ?_
      refine R_istore_n (k := 2) rfl [(2, .inl 1), (1, .inl x14), (0, .inr (.inr (.inl 0)))] rfl rfl (by decide) ?_
      have lp20 : ∀ (n19 : Nat) (h21 : PH) (x23 : Int32), INV h21 → FR [70, 71, 72, 73, 74] h h21 → FR [70, 71, 72, 73, 74] h12 h21 → 1 ≤ x23.toInt ∧ x23.toInt ≤ 8 → (8 - x23.toInt).toNat < n19 → RUN d_X8_enough 22 [(2, .inl x23), (1, .inl x14), (0, .inr (.inr (.inl 0)))] [] h21 (q_X8_enough h) := by
        intro n19
        induction n19 with
        | zero => intro h21 x23 m25 m26 m27 m28 hz; exact absurd hz (Nat.not_lt_zero _)
        | succ n19 ih24 =>
          intro h21 x23 hI fr fl22 m28 hz
          have s29 : (h21.1 17 10).toInt = (h12.1 17 10).toInt := by rw [(fl22 17 (by decide)).1]
          have s30 : (h21.1 17 0).toInt = (h12.1 17 0).toInt := by rw [(fl22 17 (by decide)).1]
          refine R_iload_n (k := 2) rfl rfl rfl ?_
          refine R_bipush 8 rfl rfl ?_
          refine N_icmp_ge (a := x23.toInt) (b := 8) 43 rfl rfl rfl (by decide) (fun c31 => ?_) (fun c31 => ?_)
          · refine R_iload_n (k := 2) rfl rfl rfl ?_
            exact R_iret rfl rfl rfl ⟨hI, fr, trivial, _, rfl, by omega⟩
          · refine R_aload_n (k := 0) rfl rfl rfl ?_
            refine R_iload_n (k := 2) rfl rfl rfl ?_
            refine R_callV (v := .inr (.inr (.inl 0))) (As := [.inl x23]) (rest := []) rfl mt_8_i255 pp_X8_waterByBuckets (by decide) rfl rfl rfl (Nat.le_of_ble_eq_true rfl) (Nat.le_of_ble_eq_true rfl) ((k_X8_waterByBuckets h21 hI x23 (by omega)).mono (fun r32 h33 p34 => ?_))
            obtain ⟨hJ, fj, -, x35, rfl, q36⟩ := p34
            have f37 := fj
            have fr := fr.trans fj (by decide)
            have hI := hJ
            have fl22 : FR [70, 71, 72, 73, 74] h12 h33 := fl22.trans fj (by decide)
            have s38 : (h33.1 17 10).toInt = (h21.1 17 10).toInt := by rw [(f37 17 (by decide)).1]
            have s39 : (h33.1 17 0).toInt = (h21.1 17 0).toInt := by rw [(f37 17 (by decide)).1]
            show RUN d_X8_enough 33 [(2, .inl x23), (1, .inl x14), (0, .inr (.inr (.inl 0)))] [.inl x35] h33 _
            refine R_iload_n (k := 1) rfl rfl rfl ?_
            refine N_icmp_ge (a := x35.toInt) (b := x14.toInt) 43 rfl rfl rfl rfl (fun c40 => ?_) (fun c40 => ?_)
            · refine R_iload_n (k := 2) rfl rfl rfl ?_
              exact R_iret rfl rfl rfl ⟨hI, fr, trivial, _, rfl, by omega⟩
            · refine N_iinc (a := x23.toInt) (c := 1) (fun w => [(2, .inl w), (1, .inl x14), (0, .inr (.inr (.inl 0)))]) rfl rfl (fun _ => rfl) (by decide) rfl (by decide) (by omega) (fun x41 q42 => ?_)
              refine R_goto 22 rfl rfl ?_
              exact RUN_weak (psub_cons rfl (psub_cons rfl (psub_cons rfl (psub_nil _)))) (ih24 h33 x41 hI fr fl22 (by omega) (by omega))
      exact lp20 _ h12 (1 : Int32) hI fr (FR.rf _ _) (by decide) (Nat.lt_succ_self _)
    · exfalso; omega
abbrev q_X8_size (h : PH)  : Option PV → PH → Prop := fun r h' => INV h' ∧ FR [0, 70, 71, 72, 73, 74, 75, 76, 77, 78, 79, 80, 81, 82, 83, 84, 85, 86] h h' ∧ (True) ∧ ∃ z : Int32, r = some (.inl z) ∧ (((-2) ≤ z.toInt ∧ z.toInt ≤ 30))
set_option maxHeartbeats 4000000 in
set_option maxRecDepth 100000 in
theorem k_X8_size (h : PH) (hI : INV h)  : CALL d_X8_size [.inr (.inr (.inl 0))] h (q_X8_size h) := by
  show RUN d_X8_size 0 [(0, .inr (.inr (.inl 0)))] [] h _
  have fr : FR [0, 70, 71, 72, 73, 74, 75, 76, 77, 78, 79, 80, 81, 82, 83, 84, 85, 86] h h := FR.rf _ _
  refine R_aload_n (k := 0) rfl rfl rfl ?_
  refine R_getf_r (j := 3) rfl ft_8_28 sh_0 rfl ?_
  have b1 : (0 : Int) ≤ (h.1 17 0).toInt ∧ (h.1 17 0).toInt ≤ 60 := hI.1 17 0
  have e2 : 0 < (h.1 17 10).toInt → 1 ≤ (h.1 17 0).toInt := hI.2.1
  refine R_callV (v := .inr (.inr (.inl 16))) (As := []) (rest := []) rfl mt_8_i146 pp_X1_stands (by decide) rfl rfl rfl (Nat.le_of_ble_eq_true rfl) (Nat.le_of_ble_eq_true rfl) ((k_X1_stands h hI).mono (fun r3 h4 p5 => ?_))
  obtain ⟨rfl, x6, rfl, q7 | q7⟩ := p5
  · show RUN d_X8_size 7 [(0, .inr (.inr (.inl 0)))] [.inl x6] h _
    refine N_if_ne (a := x6.toInt) 13 rfl rfl rfl (fun c8 => ?_) (fun c8 => ?_)
    · exfalso; omega
    · refine R_bipush (-2) rfl rfl ?_
      exact R_iret rfl rfl rfl ⟨hI, fr, trivial, _, rfl, by rw [show ((-2) : Int32).toInt = (-2) from rfl] <;> omega⟩
  · show RUN d_X8_size 7 [(0, .inr (.inr (.inl 0)))] [.inl x6] h _
    refine N_if_ne (a := x6.toInt) 13 rfl rfl rfl (fun c9 => ?_) (fun c9 => ?_)
    · refine R_aload_n (k := 0) rfl rfl rfl ?_
      refine R_callV (v := .inr (.inr (.inl 0))) (As := []) (rest := []) rfl mt_8_i153 pp_X8_told (by decide) rfl rfl rfl (Nat.le_of_ble_eq_true rfl) (Nat.le_of_ble_eq_true rfl) ((k_X8_told h hI).mono (fun r10 h11 p12 => ?_))
      obtain ⟨hJ, fj, -, rfl⟩ := p12
      have f13 := fj
      have fr := fr.trans fj (by decide)
      have hI := hJ
      have s14 : (h11.1 17 10).toInt = (h.1 17 10).toInt := by rw [(f13 17 (by decide)).1]
      have s15 : (h11.1 17 0).toInt = (h.1 17 0).toInt := by rw [(f13 17 (by decide)).1]
      show RUN d_X8_size 17 [(0, .inr (.inr (.inl 0)))] [.inr (.inr (.inl 75))] h11 _
      refine R_getf_l (j := 11) rfl ft_8_212 sh_75 rfl ?_
      refine N_anyL (fun w16 => ?_)
      refine R_lstore_n (k := 1) rfl [(1, .inr (.inl w16)), (0, .inr (.inr (.inl 0)))] rfl rfl (by decide) ?_
      refine R_aload_n (k := 0) rfl rfl rfl ?_
      refine R_callV (v := .inr (.inr (.inl 0))) (As := []) (rest := []) rfl mt_8_i237 pp_X8_lineAsNow (by decide) rfl rfl rfl (Nat.le_of_ble_eq_true rfl) (Nat.le_of_ble_eq_true rfl) ((k_X8_lineAsNow h11 hI).mono (fun r17 h18 p19 => ?_))
      obtain ⟨hJ, fj, -, rfl⟩ := p19
      have f20 := fj
      have fr := fr.trans fj (by decide)
      have hI := hJ
      have s21 : (h18.1 17 10).toInt = (h11.1 17 10).toInt := by rw [(f20 17 (by decide)).1]
      have s22 : (h18.1 17 0).toInt = (h11.1 17 0).toInt := by rw [(f20 17 (by decide)).1]
      show RUN d_X8_size 25 [(1, .inr (.inl w16)), (0, .inr (.inr (.inl 0)))] [] h18 _
      refine R_iconst 1 rfl rfl ?_
      refine R_istore_n (k := 3) rfl [(3, .inl 1), (1, .inr (.inl w16)), (0, .inr (.inr (.inl 0)))] rfl rfl (by decide) ?_
      have lp24 : ∀ (n23 : Nat) (h25 : PH) (x27 : Int32), INV h25 → FR [0, 70, 71, 72, 73, 74, 75, 76, 77, 78, 79, 80, 81, 82, 83, 84, 85, 86] h h25 → FR [70] h18 h25 → 1 ≤ x27.toInt ∧ x27.toInt ≤ 31 → True → (31 - x27.toInt).toNat < n23 → RUN d_X8_size 27 [(3, .inl x27), (1, .inr (.inl w16)), (0, .inr (.inr (.inl 0)))] [] h25 (q_X8_size h) := by
        intro n23
        induction n23 with
        | zero => intro h25 x27 m29 m30 m31 m32 m33 hz; exact absurd hz (Nat.not_lt_zero _)
        | succ n23 ih28 =>
          intro h25 x27 hI fr fl26 m32 m33 hz
          have s34 : (h25.1 17 10).toInt = (h18.1 17 10).toInt := by rw [(fl26 17 (by decide)).1]
          have s35 : (h25.1 17 0).toInt = (h18.1 17 0).toInt := by rw [(fl26 17 (by decide)).1]
          refine R_iload_n (k := 3) rfl rfl rfl ?_
          refine R_bipush 30 rfl rfl ?_
          refine N_icmp_gt (a := x27.toInt) (b := 30) 65 rfl rfl rfl (by decide) (fun c36 => ?_) (fun c36 => ?_)
          · refine R_iconst (-1) rfl rfl ?_
            exact R_iret rfl rfl rfl ⟨hI, fr, trivial, _, rfl, by rw [show ((-1) : Int32).toInt = (-1) from rfl] <;> omega⟩
          · refine R_aload_n (k := 0) rfl rfl rfl ?_
            refine R_getf_r (j := 7) rfl ft_8_49 sh_0 rfl ?_
            refine R_iload_n (k := 3) rfl rfl rfl ?_
            refine K_putf (j := 6) (lo := (-2147483648)) (hi' := 2147483647) rfl ft_8_258 sh_70 rfl hI (by decide) rfl (i_rng _) fr (by decide) (fun h37 g38 hI fr => ?_)
            have fl26 : FR [70] h18 h37 := by rw [g38]; exact FR_wI _ _ fl26 (by decide)
            have s39 : (h37.1 17 10).toInt = (h25.1 17 10).toInt := by rw [g38, wI_ne _ _ _ (by decide)]
            have s40 : (h37.1 17 0).toInt = (h25.1 17 0).toInt := by rw [g38, wI_ne _ _ _ (by decide)]
            have s41 : (h37.1 70 6).toInt = x27.toInt := by rw [g38, wI_is]
            refine R_aload_n (k := 0) rfl rfl rfl ?_
            refine R_lload_n (k := 1) rfl rfl rfl ?_
            refine R_aload_n (k := 0) rfl rfl rfl ?_
            refine R_getf_r (j := 7) rfl ft_8_49 sh_0 rfl ?_
            refine R_callV (v := .inr (.inr (.inl 70))) (As := []) (rest := [.inr (.inl w16), .inr (.inr (.inl 0))]) rfl mt_8_i247 pp_X2_poured (by decide) rfl rfl rfl (Nat.le_of_ble_eq_true rfl) (Nat.le_of_ble_eq_true rfl) ((k_X2_poured h37 hI).mono (fun r42 h43 p44 => ?_))
            obtain ⟨rfl, x45, rfl, q46⟩ := p44
            show RUN d_X8_size 50 [(3, .inl x27), (1, .inr (.inl w16)), (0, .inr (.inr (.inl 0)))] [.inl x45, .inr (.inl w16), .inr (.inr (.inl 0))] h37 _
            refine R_callV (v := .inr (.inr (.inl 0))) (As := [.inr (.inl w16), .inl x45]) (rest := []) rfl mt_8_i219 pp_X8_outBy (by decide) rfl rfl rfl (Nat.le_of_ble_eq_true rfl) (Nat.le_of_ble_eq_true rfl) ((k_X8_outBy h37 hI w16 x45).mono (fun r47 h48 p49 => ?_))
            obtain ⟨rfl, x50, rfl, q51⟩ := p49
            show RUN d_X8_size 53 [(3, .inl x27), (1, .inr (.inl w16)), (0, .inr (.inr (.inl 0)))] [.inl x50] h37 _
            refine R_iconst (-1) rfl rfl ?_
            refine N_icmp_eq (a := x50.toInt) (b := (-1)) 59 rfl rfl rfl (by decide) (fun c52 => ?_) (fun c52 => ?_)
            · refine N_iinc (a := x27.toInt) (c := 1) (fun w => [(3, .inl w), (1, .inr (.inl w16)), (0, .inr (.inr (.inl 0)))]) rfl rfl (fun _ => rfl) (by decide) rfl (by decide) (by omega) (fun x53 q54 => ?_)
              refine R_goto 27 rfl rfl ?_
              exact RUN_weak (psub_cons rfl (psub_cons rfl (psub_cons rfl (psub_nil _)))) (ih28 h37 x53 hI fr fl26 (by omega) trivial (by omega))
            · refine R_iload_n (k := 3) rfl rfl rfl ?_
              exact R_iret rfl rfl rfl ⟨hI, fr, trivial, _, rfl, by omega⟩
      exact lp24 _ h18 (1 : Int32) hI fr (FR.rf _ _) (by decide) trivial (Nat.lt_succ_self _)
    · exfalso; omega
abbrev q_X9_size (h : PH)  : Option PV → PH → Prop := fun r h' => INV h' ∧ FR [96, 103, 104, 105, 106, 107, 108, 109, 110, 111, 112, 113, 114, 115, 116, 117, 118, 119, 120] h h' ∧ (True) ∧ ∃ z : Int32, r = some (.inl z) ∧ (((-2) ≤ z.toInt ∧ z.toInt ≤ 30))
set_option maxHeartbeats 4000000 in
set_option maxRecDepth 100000 in
theorem k_X9_size (h : PH) (hI : INV h)  : CALL d_X9_size [.inr (.inr (.inl 96))] h (q_X9_size h) := by
  show RUN d_X9_size 0 [(0, .inr (.inr (.inl 96)))] [] h _
  have fr : FR [96, 103, 104, 105, 106, 107, 108, 109, 110, 111, 112, 113, 114, 115, 116, 117, 118, 119, 120] h h := FR.rf _ _
  refine R_aload_n (k := 0) rfl rfl rfl ?_
  have b1 : (0 : Int) ≤ (h.1 97 0).toInt ∧ (h.1 97 0).toInt ≤ 60 := hI.1 97 0
  have e2 : 0 < (h.1 97 10).toInt → 1 ≤ (h.1 97 0).toInt := hI.2.2.2.2.2.1.2.1
  refine R_callV (v := .inr (.inr (.inl 96))) (As := []) (rest := []) rfl mt_9_i301 pp_X9_isBrigade (by decide) rfl rfl rfl (Nat.le_of_ble_eq_true rfl) (Nat.le_of_ble_eq_true rfl) ((k_X9_isBrigade h hI).mono (fun r3 h4 p5 => ?_))
  obtain ⟨rfl, x6, rfl, q7 | q7⟩ := p5
  · show RUN d_X9_size 4 [(0, .inr (.inr (.inl 96)))] [.inl x6] h _
    refine N_if_ne (a := x6.toInt) 10 rfl rfl rfl (fun c8 => ?_) (fun c8 => ?_)
    · exfalso; omega
    · refine R_bipush (-2) rfl rfl ?_
      exact R_iret rfl rfl rfl ⟨hI, fr, trivial, _, rfl, by rw [show ((-2) : Int32).toInt = (-2) from rfl] <;> omega⟩
  · show RUN d_X9_size 4 [(0, .inr (.inr (.inl 96)))] [.inl x6] h _
    refine N_if_ne (a := x6.toInt) 10 rfl rfl rfl (fun c9 => ?_) (fun c9 => ?_)
    · refine R_aload_n (k := 0) rfl rfl rfl ?_
      refine R_callV (v := .inr (.inr (.inl 96))) (As := []) (rest := []) rfl mt_9_i298 pp_X9_asItIs (by decide) rfl rfl rfl (Nat.le_of_ble_eq_true rfl) (Nat.le_of_ble_eq_true rfl) ((k_X9_asItIs h hI).mono (fun r10 h11 p12 => ?_))
      obtain ⟨hJ, fj, ⟨kp13, -⟩, rfl⟩ := p12
      have f14 := fj
      have fr := fr.trans fj (by decide)
      have hI := hJ
      have s15 : (h11.1 97 10).toInt = (h.1 97 10).toInt := by rw [(f14 97 (by decide)).1]
      have s16 : (h11.1 97 0).toInt = (h.1 97 0).toInt := by rw [(f14 97 (by decide)).1]
      show RUN d_X9_size 14 [(0, .inr (.inr (.inl 96)))] [] h11 _
      refine R_aload_n (k := 0) rfl rfl rfl ?_
      refine R_iconst 1 rfl rfl ?_
      refine K_putf (j := 20) (lo := (-2147483648)) (hi' := 2147483647) rfl ft_9_259 sh_96 rfl hI (by decide) rfl (by decide) fr (by decide) (fun h17 g18 hI fr => ?_)
      have s19 : (h17.1 97 10).toInt = (h11.1 97 10).toInt := by rw [g18, wI_ne _ _ _ (by decide)]
      have s20 : (h17.1 97 0).toInt = (h11.1 97 0).toInt := by rw [g18, wI_ne _ _ _ (by decide)]
      have s21 : (h17.1 96 20).toInt = 1 := by rw [g18, wI_is]; rfl
      have lp23 : ∀ (n22 : Nat) (h24 : PH), INV h24 → FR [96, 103, 104, 105, 106, 107, 108, 109, 110, 111, 112, 113, 114, 115, 116, 117, 118, 119, 120] h h24 → FR [96, 107, 108, 109, 110, 111, 112, 113, 114, 115, 116, 117, 118, 119, 120] h17 h24 → 1 ≤ (h24.1 96 20).toInt ∧ (h24.1 96 20).toInt ≤ 31 → (31 - (h24.1 96 20).toInt).toNat < n22 → RUN d_X9_size 19 [(0, .inr (.inr (.inl 96)))] [] h24 (q_X9_size h) := by
        intro n22
        induction n22 with
        | zero => intro h24 m27 m28 m29 m30 hz; exact absurd hz (Nat.not_lt_zero _)
        | succ n22 ih26 =>
          intro h24 hI fr fl25 m30 hz
          have s31 : (h24.1 97 10).toInt = (h17.1 97 10).toInt := by rw [(fl25 97 (by decide)).1]
          have s32 : (h24.1 97 0).toInt = (h17.1 97 0).toInt := by rw [(fl25 97 (by decide)).1]
          refine R_aload_n (k := 0) rfl rfl rfl ?_
          refine R_getf_i (j := 20) rfl ft_9_259 sh_96 rfl ?_
          refine R_bipush 30 rfl rfl ?_
          refine N_icmp_gt (a := (h24.1 96 20).toInt) (b := 30) 69 rfl rfl rfl (by decide) (fun c33 => ?_) (fun c33 => ?_)
          · refine R_iconst (-1) rfl rfl ?_
            exact R_iret rfl rfl rfl ⟨hI, fr, trivial, _, rfl, by rw [show ((-1) : Int32).toInt = (-1) from rfl] <;> omega⟩
          · refine R_aload_n (k := 0) rfl rfl rfl ?_
            refine R_aload_n (k := 0) rfl rfl rfl ?_
            refine R_callV (v := .inr (.inr (.inl 96))) (As := []) (rest := [.inr (.inr (.inl 96))]) rfl mt_9_i129 pp_X9_last (by decide) rfl rfl rfl (Nat.le_of_ble_eq_true rfl) (Nat.le_of_ble_eq_true rfl) ((k_X9_last h24 hI).mono (fun r34 h35 p36 => ?_))
            obtain ⟨rfl, x37, rfl, q38⟩ := p36
            show RUN d_X9_size 33 [(0, .inr (.inr (.inl 96)))] [.inl x37, .inr (.inr (.inl 96))] h24 _
            refine R_callV (v := .inr (.inr (.inl 96))) (As := [.inl x37]) (rest := []) rfl mt_9_i304 pp_X9_goAll (by decide) rfl rfl rfl (Nat.le_of_ble_eq_true rfl) (Nat.le_of_ble_eq_true rfl) ((k_X9_goAll h24 hI x37 (by omega)).mono (fun r39 h40 p41 => ?_))
            obtain ⟨hJ, fj, ⟨kp42, kp43, kp44, kp45, kp46, kp47, kp48, kp49, -⟩, rfl⟩ := p41
            have f50 := fj
            have fr := fr.trans fj (by decide)
            have hI := hJ
            have fl25 : FR [96, 107, 108, 109, 110, 111, 112, 113, 114, 115, 116, 117, 118, 119, 120] h17 h40 := fl25.trans fj (by decide)
            have s51 : (h40.1 97 10).toInt = (h24.1 97 10).toInt := by rw [(f50 97 (by decide)).1]
            have s52 : (h40.1 97 0).toInt = (h24.1 97 0).toInt := by rw [(f50 97 (by decide)).1]
            show RUN d_X9_size 36 [(0, .inr (.inr (.inl 96)))] [] h40 _
            refine R_aload_n (k := 0) rfl rfl rfl ?_
            refine R_aload_n (k := 0) rfl rfl rfl ?_
            refine R_getf_r (j := 1) rfl ft_9_9 sh_96 rfl ?_
            refine R_bipush 7 rfl rfl ?_
            refine R_iald rfl sh_97 (by decide) ?_
            show RUN d_X9_size 44 [(0, .inr (.inr (.inl 96)))] [.inl (h40.1 97 7), .inr (.inr (.inl 96))] h40 _
            refine R_callV (v := .inr (.inr (.inl 96))) (As := [.inl (h40.1 97 7)]) (rest := []) rfl mt_9_i345 pp_X9_goFire (by decide) rfl rfl rfl (Nat.le_of_ble_eq_true rfl) (Nat.le_of_ble_eq_true rfl) ((k_X9_goFire h40 hI (h40.1 97 7)).mono (fun r53 h54 p55 => ?_))
            obtain ⟨hJ, fj, -, x56, rfl, q57⟩ := p55
            have f58 := fj
            have fr := fr.trans fj (by decide)
            have hI := hJ
            have fl25 : FR [96, 107, 108, 109, 110, 111, 112, 113, 114, 115, 116, 117, 118, 119, 120] h17 h54 := fl25.trans fj (by decide)
            have s59 : (h54.1 97 10).toInt = (h40.1 97 10).toInt := by rw [(f58 97 (by decide)).1]
            have s60 : (h54.1 97 0).toInt = (h40.1 97 0).toInt := by rw [(f58 97 (by decide)).1]
            have s61 : (h54.1 96 20).toInt = (h40.1 96 20).toInt := by rw [(f58 96 (by decide)).1]
            have s62 : (h54.1 97 7).toInt = (h40.1 97 7).toInt := by rw [(f58 97 (by decide)).1]
            show RUN d_X9_size 47 [(0, .inr (.inr (.inl 96)))] [.inl x56] h54 _
            refine R_iconst (-1) rfl rfl ?_
            refine N_icmp_eq (a := x56.toInt) (b := (-1)) 56 rfl rfl rfl (by decide) (fun c63 => ?_) (fun c63 => ?_)
            · refine R_aload_n (k := 0) rfl rfl rfl ?_
              refine R_dup_r rfl ?_
              refine R_getf_i (j := 20) rfl ft_9_259 sh_96 rfl ?_
              refine R_iconst 1 rfl rfl ?_
              refine N_iadd (a := (h54.1 96 20).toInt) (b := 1) rfl rfl (by decide) (by omega) (fun x64 q65 => ?_)
              refine K_putf (j := 20) (lo := (-2147483648)) (hi' := 2147483647) rfl ft_9_259 sh_96 rfl hI (by decide) rfl (i_rng _) fr (by decide) (fun h66 g67 hI fr => ?_)
              have fl25 : FR [96, 107, 108, 109, 110, 111, 112, 113, 114, 115, 116, 117, 118, 119, 120] h17 h66 := by rw [g67]; exact FR_wI _ _ fl25 (by decide)
              have s68 : (h66.1 97 10).toInt = (h54.1 97 10).toInt := by rw [g67, wI_ne _ _ _ (by decide)]
              have s69 : (h66.1 97 0).toInt = (h54.1 97 0).toInt := by rw [g67, wI_ne _ _ _ (by decide)]
              have s70 : (h66.1 97 7).toInt = (h54.1 97 7).toInt := by rw [g67, wI_ne _ _ _ (by decide)]
              have s71 : (h66.1 96 20).toInt = x64.toInt := by rw [g67, wI_is]
              refine R_goto 19 rfl rfl ?_
              exact RUN_weak (psub_cons rfl (psub_nil _)) (ih26 h66 hI fr fl25 (by omega) (by omega))
            · refine R_aload_n (k := 0) rfl rfl rfl ?_
              refine R_getf_i (j := 20) rfl ft_9_259 sh_96 rfl ?_
              exact R_iret rfl rfl rfl ⟨hI, fr, trivial, _, rfl, by omega⟩
      exact lp23 _ h17 hI fr (FR.rf _ _) (by omega) (Nat.lt_succ_self _)
    · exfalso; omega
abbrev q_X8_heat (h : PH)  : Option PV → PH → Prop := fun r h' => INV h' ∧ FR [0, 70, 71, 72, 73, 74, 75, 76, 77, 78, 79, 80, 81, 82, 83, 84, 85, 86] h h' ∧ (True) ∧ ∃ z : Int32, r = some (.inl z) ∧ (((-2) ≤ z.toInt ∧ z.toInt ≤ 999))
set_option maxHeartbeats 4000000 in
set_option maxRecDepth 100000 in
theorem k_X8_heat (h : PH) (hI : INV h)  : CALL d_X8_heat [.inr (.inr (.inl 0))] h (q_X8_heat h) := by
  show RUN d_X8_heat 0 [(0, .inr (.inr (.inl 0)))] [] h _
  have fr : FR [0, 70, 71, 72, 73, 74, 75, 76, 77, 78, 79, 80, 81, 82, 83, 84, 85, 86] h h := FR.rf _ _
  refine R_aload_n (k := 0) rfl rfl rfl ?_
  refine R_getf_r (j := 3) rfl ft_8_28 sh_0 rfl ?_
  have b1 : (0 : Int) ≤ (h.1 17 0).toInt ∧ (h.1 17 0).toInt ≤ 60 := hI.1 17 0
  have e2 : 0 < (h.1 17 10).toInt → 1 ≤ (h.1 17 0).toInt := hI.2.1
  refine R_callV (v := .inr (.inr (.inl 16))) (As := []) (rest := []) rfl mt_8_i146 pp_X1_stands (by decide) rfl rfl rfl (Nat.le_of_ble_eq_true rfl) (Nat.le_of_ble_eq_true rfl) ((k_X1_stands h hI).mono (fun r3 h4 p5 => ?_))
  obtain ⟨rfl, x6, rfl, q7 | q7⟩ := p5
  · show RUN d_X8_heat 7 [(0, .inr (.inr (.inl 0)))] [.inl x6] h _
    refine N_if_ne (a := x6.toInt) 13 rfl rfl rfl (fun c8 => ?_) (fun c8 => ?_)
    · exfalso; omega
    · refine R_bipush (-2) rfl rfl ?_
      exact R_iret rfl rfl rfl ⟨hI, fr, trivial, _, rfl, by rw [show ((-2) : Int32).toInt = (-2) from rfl] <;> omega⟩
  · show RUN d_X8_heat 7 [(0, .inr (.inr (.inl 0)))] [.inl x6] h _
    refine N_if_ne (a := x6.toInt) 13 rfl rfl rfl (fun c9 => ?_) (fun c9 => ?_)
    · refine R_aload_n (k := 0) rfl rfl rfl ?_
      refine R_callV (v := .inr (.inr (.inl 0))) (As := []) (rest := []) rfl mt_8_i153 pp_X8_told (by decide) rfl rfl rfl (Nat.le_of_ble_eq_true rfl) (Nat.le_of_ble_eq_true rfl) ((k_X8_told h hI).mono (fun r10 h11 p12 => ?_))
      obtain ⟨hJ, fj, -, rfl⟩ := p12
      have f13 := fj
      have fr := fr.trans fj (by decide)
      have hI := hJ
      have s14 : (h11.1 17 10).toInt = (h.1 17 10).toInt := by rw [(f13 17 (by decide)).1]
      have s15 : (h11.1 17 0).toInt = (h.1 17 0).toInt := by rw [(f13 17 (by decide)).1]
      show RUN d_X8_heat 17 [(0, .inr (.inr (.inl 0)))] [.inr (.inr (.inl 75))] h11 _
      refine R_pop_r rfl ?_
      refine R_iconst (-1) rfl rfl ?_
      refine R_istore_n (k := 1) rfl [(1, .inl (-1)), (0, .inr (.inr (.inl 0)))] rfl rfl (by decide) ?_
      refine R_iconst 0 rfl rfl ?_
      refine R_istore_n (k := 2) rfl [(2, .inl 0), (1, .inl (-1)), (0, .inr (.inr (.inl 0)))] rfl rfl (by decide) ?_
      have lp17 : ∀ (n16 : Nat) (x18 : Int32) (x19 : Int32), (-1) ≤ x18.toInt → 0 ≤ x19.toInt ∧ x19.toInt ≤ 60 → (60 - x19.toInt).toNat < n16 → RUN d_X8_heat 22 [(2, .inl x19), (1, .inl x18), (0, .inr (.inr (.inl 0)))] [] h11 (q_X8_heat h) := by
        intro n16
        induction n16 with
        | zero => intro x18 x19 m21 m22 hz; exact absurd hz (Nat.not_lt_zero _)
        | succ n16 ih20 =>
          intro x18 x19 m21 m22 hz
          refine R_iload_n (k := 2) rfl rfl rfl ?_
          refine R_aload_n (k := 0) rfl rfl rfl ?_
          refine R_getf_r (j := 3) rfl ft_8_28 sh_0 rfl ?_
          refine R_getf_r (j := 0) rfl ft_8_109 sh_16 rfl ?_
          refine R_iconst 0 rfl rfl ?_
          refine R_iald rfl sh_17 (by decide) ?_
          show RUN d_X8_heat 32 [(2, .inl x19), (1, .inl x18), (0, .inr (.inr (.inl 0)))] [.inl (h11.1 17 0), .inl x19] h11 _
          refine N_icmp_ge (a := x19.toInt) (b := (h11.1 17 0).toInt) 67 rfl rfl rfl rfl (fun c23 => ?_) (fun c23 => ?_)
          · refine R_iload_n (k := 1) rfl rfl rfl ?_
            refine R_sipush 999 rfl rfl ?_
            refine N_min (a := x18.toInt) (b := 999) rfl mt_8_i261 rfl (by decide) ⟨by decide, by decide, Nat.le_of_ble_eq_true rfl⟩ (fun x24 q25 => ?_)
            exact R_iret rfl rfl rfl ⟨hI, fr, trivial, _, rfl, by omega⟩
          · refine R_iload_n (k := 1) rfl rfl rfl ?_
            refine R_aload_n (k := 0) rfl rfl rfl ?_
            refine R_getf_r (j := 8) rfl ft_8_56 sh_0 rfl ?_
            refine R_iload_n (k := 2) rfl rfl rfl ?_
            refine R_callV (v := .inr (.inr (.inl 75))) (As := [.inl x19]) (rest := [.inl x18]) rfl mt_8_i196 pp_X6_waterTo (by decide) rfl rfl rfl (Nat.le_of_ble_eq_true rfl) (Nat.le_of_ble_eq_true rfl) ((k_X6_waterTo h11 hI x19 (by omega)).mono (fun r26 h27 p28 => ?_))
            obtain ⟨rfl, x29, rfl, q30⟩ := p28
            show RUN d_X8_heat 44 [(2, .inl x19), (1, .inl x18), (0, .inr (.inr (.inl 0)))] [.inl x29, .inl x18] h11 _
            refine R_iload_n (k := 2) rfl rfl rfl ?_
            refine R_aload_n (k := 0) rfl rfl rfl ?_
            refine R_getf_r (j := 3) rfl ft_8_28 sh_0 rfl ?_
            refine R_getf_r (j := 0) rfl ft_8_109 sh_16 rfl ?_
            refine R_bipush 8 rfl rfl ?_
            refine R_iald rfl sh_17 (by decide) ?_
            show RUN d_X8_heat 55 [(2, .inl x19), (1, .inl x18), (0, .inr (.inr (.inl 0)))] [.inl (h11.1 17 8), .inl x19, .inl x29, .inl x18] h11 _
            have b31 := i_rng (h11.1 17 8)
            refine R_imul rfl ?_
            refine N_any (fun x32 => ?_)
            have b33 := i_rng x29
            have b34 := i_rng x32
            refine R_isub rfl ?_
            refine N_any (fun x35 => ?_)
            refine N_max (a := x18.toInt) (b := x35.toInt) rfl mt_8_i223 rfl rfl ⟨by decide, by decide, Nat.le_of_ble_eq_true rfl⟩ (fun x36 q37 => ?_)
            refine R_istore_n (k := 1) rfl [(1, .inl x36), (2, .inl x19), (0, .inr (.inr (.inl 0)))] rfl rfl (by decide) ?_
            refine N_iinc (a := x19.toInt) (c := 1) (fun w => [(2, .inl w), (1, .inl x36), (0, .inr (.inr (.inl 0)))]) rfl rfl (fun _ => rfl) (by decide) rfl (by decide) (by omega) (fun x38 q39 => ?_)
            refine R_goto 22 rfl rfl ?_
            have b40 := i_rng x36
            exact RUN_weak (psub_cons rfl (psub_cons rfl (psub_cons rfl (psub_nil _)))) (ih20 x36 x38 (by omega) (by omega) (by omega))
      exact lp17 _ ((-1) : Int32) (0 : Int32) (by decide) (by decide) (Nat.lt_succ_self _)
    · exfalso; omega
abbrev q_X9_heat (h : PH)  : Option PV → PH → Prop := fun r h' => INV h' ∧ FR [96, 103, 104, 105, 106, 107, 108, 109, 110, 111, 112, 113, 114, 115, 116, 117, 118, 119, 120] h h' ∧ (True) ∧ ∃ z : Int32, r = some (.inl z) ∧ (((-2) ≤ z.toInt ∧ z.toInt ≤ 999))
set_option maxHeartbeats 4000000 in
set_option maxRecDepth 100000 in
theorem k_X9_heat (h : PH) (hI : INV h)  : CALL d_X9_heat [.inr (.inr (.inl 96))] h (q_X9_heat h) := by
  show RUN d_X9_heat 0 [(0, .inr (.inr (.inl 96)))] [] h _
  have fr : FR [96, 103, 104, 105, 106, 107, 108, 109, 110, 111, 112, 113, 114, 115, 116, 117, 118, 119, 120] h h := FR.rf _ _
  refine R_aload_n (k := 0) rfl rfl rfl ?_
  have b1 : (0 : Int) ≤ (h.1 97 0).toInt ∧ (h.1 97 0).toInt ≤ 60 := hI.1 97 0
  have e2 : 0 < (h.1 97 10).toInt → 1 ≤ (h.1 97 0).toInt := hI.2.2.2.2.2.1.2.1
  refine R_callV (v := .inr (.inr (.inl 96))) (As := []) (rest := []) rfl mt_9_i307 pp_X9_asksBrigade (by decide) rfl rfl rfl (Nat.le_of_ble_eq_true rfl) (Nat.le_of_ble_eq_true rfl) ((k_X9_asksBrigade h hI).mono (fun r3 h4 p5 => ?_))
  obtain ⟨hJ, fj, -, x6, rfl, q7 | q7⟩ := p5
  · have f8 := fj
    have fr := fr.trans fj (by decide)
    have hI := hJ
    have s9 : (h4.1 97 10).toInt = (h.1 97 10).toInt := by rw [(f8 97 (by decide)).1]
    have s10 : (h4.1 97 0).toInt = (h.1 97 0).toInt := by rw [(f8 97 (by decide)).1]
    show RUN d_X9_heat 4 [(0, .inr (.inr (.inl 96)))] [.inl x6] h4 _
    refine N_if_ne (a := x6.toInt) 10 rfl rfl rfl (fun c11 => ?_) (fun c11 => ?_)
    · exfalso; omega
    · refine R_bipush (-2) rfl rfl ?_
      exact R_iret rfl rfl rfl ⟨hI, fr, trivial, _, rfl, by rw [show ((-2) : Int32).toInt = (-2) from rfl] <;> omega⟩
  · have f12 := fj
    have fr := fr.trans fj (by decide)
    have hI := hJ
    have s13 : (h4.1 97 10).toInt = (h.1 97 10).toInt := by rw [(f12 97 (by decide)).1]
    have s14 : (h4.1 97 0).toInt = (h.1 97 0).toInt := by rw [(f12 97 (by decide)).1]
    show RUN d_X9_heat 4 [(0, .inr (.inr (.inl 96)))] [.inl x6] h4 _
    refine N_if_ne (a := x6.toInt) 10 rfl rfl rfl (fun c15 => ?_) (fun c15 => ?_)
    · refine R_sipush 999 rfl rfl ?_
      refine R_istore_n (k := 1) rfl [(1, .inl 999), (0, .inr (.inr (.inl 96)))] rfl rfl (by decide) ?_
      have lp17 : ∀ (n16 : Nat) (h18 : PH) (x20 : Int32), INV h18 → FR [96, 103, 104, 105, 106, 107, 108, 109, 110, 111, 112, 113, 114, 115, 116, 117, 118, 119, 120] h h18 → FR [120] h4 h18 → (-1) ≤ x20.toInt ∧ x20.toInt ≤ 999 → (x20.toInt - (-1)).toNat < n16 → RUN d_X9_heat 14 [(1, .inl x20), (0, .inr (.inr (.inl 96)))] [] h18 (q_X9_heat h) := by
        intro n16
        induction n16 with
        | zero => intro h18 x20 m22 m23 m24 m25 hz; exact absurd hz (Nat.not_lt_zero _)
        | succ n16 ih21 =>
          intro h18 x20 hI fr fl19 m25 hz
          have s26 : (h18.1 97 10).toInt = (h4.1 97 10).toInt := by rw [(fl19 97 (by decide)).1]
          have s27 : (h18.1 97 0).toInt = (h4.1 97 0).toInt := by rw [(fl19 97 (by decide)).1]
          refine R_iload_n (k := 1) rfl rfl rfl ?_
          refine N_if_lt (a := x20.toInt) 35 rfl rfl rfl (fun c28 => ?_) (fun c28 => ?_)
          · refine R_iconst (-1) rfl rfl ?_
            exact R_iret rfl rfl rfl ⟨hI, fr, trivial, _, rfl, by rw [show ((-1) : Int32).toInt = (-1) from rfl] <;> omega⟩
          · refine R_aload_n (k := 0) rfl rfl rfl ?_
            refine R_iload_n (k := 1) rfl rfl rfl ?_
            refine R_callV (v := .inr (.inr (.inl 96))) (As := [.inl x20]) (rest := []) rfl mt_9_i345 pp_X9_goFire (by decide) rfl rfl rfl (Nat.le_of_ble_eq_true rfl) (Nat.le_of_ble_eq_true rfl) ((k_X9_goFire h18 hI x20).mono (fun r29 h30 p31 => ?_))
            obtain ⟨hJ, fj, -, x32, rfl, q33⟩ := p31
            have f34 := fj
            have fr := fr.trans fj (by decide)
            have hI := hJ
            have fl19 : FR [120] h4 h30 := fl19.trans fj (by decide)
            have s35 : (h30.1 97 10).toInt = (h18.1 97 10).toInt := by rw [(f34 97 (by decide)).1]
            have s36 : (h30.1 97 0).toInt = (h18.1 97 0).toInt := by rw [(f34 97 (by decide)).1]
            show RUN d_X9_heat 23 [(1, .inl x20), (0, .inr (.inr (.inl 96)))] [.inl x32] h30 _
            refine R_iconst (-1) rfl rfl ?_
            refine N_icmp_eq (a := x32.toInt) (b := (-1)) 29 rfl rfl rfl (by decide) (fun c37 => ?_) (fun c37 => ?_)
            · refine N_iinc (a := x20.toInt) (c := (-1)) (fun w => [(1, .inl w), (0, .inr (.inr (.inl 96)))]) rfl rfl (fun _ => rfl) (by decide) rfl (by decide) (by omega) (fun x38 q39 => ?_)
              refine R_goto 14 rfl rfl ?_
              exact RUN_weak (psub_cons rfl (psub_cons rfl (psub_nil _))) (ih21 h30 x38 hI fr fl19 (by omega) (by omega))
            · refine R_iload_n (k := 1) rfl rfl rfl ?_
              exact R_iret rfl rfl rfl ⟨hI, fr, trivial, _, rfl, by omega⟩
      exact lp17 _ h4 (999 : Int32) hI fr (FR.rf _ _) (by decide) (Nat.lt_succ_self _)
    · exfalso; omega
abbrev q_X3_brokenPairs (h : PH) (a1 : Int32) : Option PV → PH → Prop := fun r h' => INV h' ∧ FR [89] h h' ∧ (True) ∧ ∃ z : Int32, r = some (.inl z) ∧ ((True))
set_option maxHeartbeats 4000000 in
set_option maxRecDepth 100000 in
theorem k_X3_brokenPairs (h : PH) (hI : INV h) (a1 : Int32) (h1a : 0 ≤ a1.toInt ∧ a1.toInt ≤ 6) : CALL d_X3_brokenPairs [.inr (.inr (.inl 87)), .inr (.inr (.inl 16)), .inl a1] h (q_X3_brokenPairs h a1) := by
  show RUN d_X3_brokenPairs 0 [(0, .inr (.inr (.inl 87))), (1, .inr (.inr (.inl 16))), (2, .inl a1)] [] h _
  have fr : FR [89] h h := FR.rf _ _
  refine R_iconst 0 rfl rfl ?_
  refine R_istore_n (k := 3) rfl [(3, .inl 0), (0, .inr (.inr (.inl 87))), (1, .inr (.inr (.inl 16))), (2, .inl a1)] rfl rfl (by decide) ?_
  have lp2 : ∀ (n1 : Nat) (h3 : PH) (x5 : Int32), INV h3 → FR [89] h h3 → FR [89] h h3 → 0 ≤ x5.toInt ∧ x5.toInt ≤ 6 → x5.toInt ≤ a1.toInt + 0 → (6 - x5.toInt).toNat < n1 → RUN d_X3_brokenPairs 2 [(3, .inl x5), (0, .inr (.inr (.inl 87))), (1, .inr (.inr (.inl 16))), (2, .inl a1)] [] h3 (q_X3_brokenPairs h a1) := by
    intro n1
    induction n1 with
    | zero => intro h3 x5 m7 m8 m9 m10 m11 hz; exact absurd hz (Nat.not_lt_zero _)
    | succ n1 ih6 =>
      intro h3 x5 hI fr fl4 m10 m11 hz
      refine R_iload_n (k := 3) rfl rfl rfl ?_
      refine R_iload_n (k := 2) rfl rfl rfl ?_
      refine N_icmp_ge (a := x5.toInt) (b := a1.toInt) 25 rfl rfl rfl rfl (fun c12 => ?_) (fun c12 => ?_)
      · refine R_iconst 0 rfl rfl ?_
        refine R_istore_n (k := 3) rfl [(3, .inl 0), (0, .inr (.inr (.inl 87))), (1, .inr (.inr (.inl 16))), (2, .inl a1)] rfl rfl (by decide) ?_
        refine R_iconst 0 rfl rfl ?_
        refine R_istore (k := 4) [(4, .inl 0), (3, .inl 0), (0, .inr (.inr (.inl 87))), (1, .inr (.inr (.inl 16))), (2, .inl a1)] rfl rfl (by decide) ?_
        have lp14 : ∀ (n13 : Nat) (x15 : Int32) (x16 : Int32), 0 ≤ x16.toInt ∧ x16.toInt ≤ 5 → (5 - x16.toInt).toNat < n13 → RUN d_X3_brokenPairs 30 [(4, .inl x16), (3, .inl x15), (0, .inr (.inr (.inl 87))), (1, .inr (.inr (.inl 16))), (2, .inl a1)] [] h3 (q_X3_brokenPairs h a1) := by
          intro n13
          induction n13 with
          | zero => intro x15 x16 m18 hz; exact absurd hz (Nat.not_lt_zero _)
          | succ n13 ih17 =>
            intro x15 x16 m18 hz
            refine R_iload (k := 4) rfl rfl ?_
            refine R_aload_n (k := 1) rfl rfl rfl ?_
            refine R_getf_r (j := 0) rfl ft_3_41 sh_16 rfl ?_
            refine R_bipush 6 rfl rfl ?_
            refine R_iald rfl sh_17 (by decide) ?_
            have b19 : (0 : Int) ≤ (h3.1 17 6).toInt ∧ (h3.1 17 6).toInt ≤ 5 := hI.1 17 6
            show RUN d_X3_brokenPairs 39 [(4, .inl x16), (3, .inl x15), (0, .inr (.inr (.inl 87))), (1, .inr (.inr (.inl 16))), (2, .inl a1)] [.inl (h3.1 17 6), .inl x16] h3 _
            refine N_icmp_ge (a := x16.toInt) (b := (h3.1 17 6).toInt) 96 rfl rfl rfl rfl (fun c20 => ?_) (fun c20 => ?_)
            · refine R_iload_n (k := 3) rfl rfl rfl ?_
              exact R_iret rfl rfl rfl ⟨hI, fr, trivial, _, rfl, trivial⟩
            · refine R_aload_n (k := 0) rfl rfl rfl ?_
              refine R_getf_r (j := 1) rfl ft_3_15 sh_87 rfl ?_
              refine R_aload_n (k := 1) rfl rfl rfl ?_
              refine R_getf_r (j := 5) rfl ft_3_122 sh_16 rfl ?_
              refine R_iload (k := 4) rfl rfl ?_
              refine R_iald rfl sh_22 ⟨by omega, by omega⟩ ?_
              refine N_bd (lo := 0) (hi := 5) (hI.1 22 _) (fun x21 q22 => ?_)
              refine R_iald rfl sh_89 ⟨by omega, by omega⟩ ?_
              refine N_any (fun x23 => ?_)
              refine R_istore (k := 5) [(5, .inl x23), (4, .inl x16), (3, .inl x15), (0, .inr (.inr (.inl 87))), (1, .inr (.inr (.inl 16))), (2, .inl a1)] rfl rfl (by decide) ?_
              refine R_aload_n (k := 0) rfl rfl rfl ?_
              refine R_getf_r (j := 1) rfl ft_3_15 sh_87 rfl ?_
              refine R_aload_n (k := 1) rfl rfl rfl ?_
              refine R_getf_r (j := 6) rfl ft_3_125 sh_16 rfl ?_
              refine R_iload (k := 4) rfl rfl ?_
              refine R_iald rfl sh_23 ⟨by omega, by omega⟩ ?_
              refine N_bd (lo := 0) (hi := 5) (hI.1 23 _) (fun x24 q25 => ?_)
              refine R_iald rfl sh_89 ⟨by omega, by omega⟩ ?_
              refine N_any (fun x26 => ?_)
              refine R_istore (k := 6) [(6, .inl x26), (5, .inl x23), (4, .inl x16), (3, .inl x15), (0, .inr (.inr (.inl 87))), (1, .inr (.inr (.inl 16))), (2, .inl a1)] rfl rfl (by decide) ?_
              refine R_aload_n (k := 1) rfl rfl rfl ?_
              refine R_iload (k := 4) rfl rfl ?_
              refine R_iload (k := 5) rfl rfl ?_
              refine R_iload (k := 6) rfl rfl ?_
              refine R_callV (v := .inr (.inr (.inl 16))) (As := [.inl x16, .inl x23, .inl x26]) (rest := []) rfl mt_3_i128 pp_X1_keptAt (by decide) rfl rfl rfl (Nat.le_of_ble_eq_true rfl) (Nat.le_of_ble_eq_true rfl) ((k_X1_keptAt h3 hI x16 x23 x26 (by omega)).mono (fun r27 h28 p29 => ?_))
              obtain ⟨rfl, x30, rfl, q31 | q31⟩ := p29
              · show RUN d_X3_brokenPairs 80 [(6, .inl x26), (5, .inl x23), (4, .inl x16), (3, .inl x15), (0, .inr (.inr (.inl 87))), (1, .inr (.inr (.inl 16))), (2, .inl a1)] [.inl x30] h3 _
                refine N_if_ne (a := x30.toInt) 90 rfl rfl rfl (fun c32 => ?_) (fun c32 => ?_)
                · refine N_iinc (a := x16.toInt) (c := 1) (fun w => [(4, .inl w), (6, .inl x26), (5, .inl x23), (3, .inl x15), (0, .inr (.inr (.inl 87))), (1, .inr (.inr (.inl 16))), (2, .inl a1)]) rfl rfl (fun _ => rfl) (by decide) rfl (by decide) (by omega) (fun x33 q34 => ?_)
                  refine R_goto 30 rfl rfl ?_
                  exact RUN_weak (psub_cons rfl (psub_cons rfl (psub_cons rfl (psub_cons rfl (psub_cons rfl (psub_nil _)))))) (ih17 x15 x33 (by omega) (by omega))
                · exfalso; omega
              · show RUN d_X3_brokenPairs 80 [(6, .inl x26), (5, .inl x23), (4, .inl x16), (3, .inl x15), (0, .inr (.inr (.inl 87))), (1, .inr (.inr (.inl 16))), (2, .inl a1)] [.inl x30] h3 _
                refine N_if_ne (a := x30.toInt) 90 rfl rfl rfl (fun c35 => ?_) (fun c35 => ?_)
                · exfalso; omega
                · refine R_iload_n (k := 3) rfl rfl rfl ?_
                  refine R_iconst 1 rfl rfl ?_
                  refine R_iload (k := 4) rfl rfl ?_
                  refine N_ishl1 (b := x16.toInt) rfl rfl (by omega) (fun x36 q37 => ?_)
                  refine R_ior rfl ?_
                  refine N_any (fun x38 => ?_)
                  refine R_istore_n (k := 3) rfl [(3, .inl x38), (6, .inl x26), (5, .inl x23), (4, .inl x16), (0, .inr (.inr (.inl 87))), (1, .inr (.inr (.inl 16))), (2, .inl a1)] rfl rfl (by decide) ?_
                  refine N_iinc (a := x16.toInt) (c := 1) (fun w => [(4, .inl w), (3, .inl x38), (6, .inl x26), (5, .inl x23), (0, .inr (.inr (.inl 87))), (1, .inr (.inr (.inl 16))), (2, .inl a1)]) rfl rfl (fun _ => rfl) (by decide) rfl (by decide) (by omega) (fun x39 q40 => ?_)
                  refine R_goto 30 rfl rfl ?_
                  exact RUN_weak (psub_cons rfl (psub_cons rfl (psub_cons rfl (psub_cons rfl (psub_cons rfl (psub_nil _)))))) (ih17 x38 x39 (by omega) (by omega))
        exact lp14 _ (0 : Int32) (0 : Int32) (by decide) (Nat.lt_succ_self _)
      · refine R_aload_n (k := 0) rfl rfl rfl ?_
        refine R_getf_r (j := 1) rfl ft_3_15 sh_87 rfl ?_
        refine R_aload_n (k := 0) rfl rfl rfl ?_
        refine R_getf_r (j := 0) rfl ft_3_9 sh_87 rfl ?_
        refine R_iload_n (k := 3) rfl rfl rfl ?_
        refine R_iald rfl sh_88 ⟨by omega, by omega⟩ ?_
        refine N_bd (lo := 0) (hi := 5) (hI.1 88 _) (fun x41 q42 => ?_)
        refine R_iload_n (k := 3) rfl rfl rfl ?_
        refine K_iast (a := x41.toInt) (lo := (-2147483648)) (hi' := 2147483647) rfl sh_89 rfl ⟨by omega, by omega⟩ hI (by decide) rfl (i_rng _) fr (by decide) (fun h43 g44 hI fr => ?_)
        have fl4 : FR [89] h h43 := by rw [g44]; exact FR_wI _ _ fl4 (by decide)
        refine N_iinc (a := x5.toInt) (c := 1) (fun w => [(3, .inl w), (0, .inr (.inr (.inl 87))), (1, .inr (.inr (.inl 16))), (2, .inl a1)]) rfl rfl (fun _ => rfl) (by decide) rfl (by decide) (by omega) (fun x45 q46 => ?_)
        refine R_goto 2 rfl rfl ?_
        exact RUN_weak (psub_cons rfl (psub_cons rfl (psub_cons rfl (psub_cons rfl (psub_nil _))))) (ih6 h43 x45 hI fr fl4 (by omega) (by omega) (by omega))
  have k47 : (0 : Int32).toInt = 0 := by decide
  exact lp2 _ h (0 : Int32) hI fr (FR.rf _ _) (by decide) (by omega) (Nat.lt_succ_self _)
abbrev q_X3_fewer (h : PH) (a0 : Int32) (a1 : Int32) : Option PV → PH → Prop := fun r h' => h = h' ∧ ∃ z : Int32, r = some (.inl z) ∧ ((True))
set_option maxHeartbeats 4000000 in
set_option maxRecDepth 100000 in
theorem k_X3_fewer (h : PH) (hI : INV h) (a0 : Int32) (a1 : Int32) : CALL d_X3_fewer [.inl a0, .inl a1] h (q_X3_fewer h a0 a1) := by
  show RUN d_X3_fewer 0 [(0, .inl a0), (1, .inl a1)] [] h _
  have b1 := i_rng a0
  have b2 := i_rng a1
  refine R_iload_n (k := 0) rfl rfl rfl ?_
  refine R_callS (As := [.inl a0]) (rest := []) rfl mt_3_i115 (by decide) pp_J6_bitCount_0f7a4 (by decide) rfl rfl (Nat.le_of_ble_eq_true rfl) (Nat.le_of_ble_eq_true rfl) ((k_J6_bitCount_0f7a4 h hI a0).mono (fun r3 h4 p5 => ?_))
  obtain ⟨rfl, x6, rfl, q7⟩ := p5
  show RUN d_X3_fewer 4 [(0, .inl a0), (1, .inl a1)] [.inl x6] h _
  refine R_iload_n (k := 1) rfl rfl rfl ?_
  refine R_callS (As := [.inl a1]) (rest := [.inl x6]) rfl mt_3_i115 (by decide) pp_J6_bitCount_0f7a4 (by decide) rfl rfl (Nat.le_of_ble_eq_true rfl) (Nat.le_of_ble_eq_true rfl) ((k_J6_bitCount_0f7a4 h hI a1).mono (fun r8 h9 p10 => ?_))
  obtain ⟨rfl, x11, rfl, q12⟩ := p10
  show RUN d_X3_fewer 8 [(0, .inl a0), (1, .inl a1)] [.inl x11, .inl x6] h _
  refine N_isub (a := x6.toInt) (b := x11.toInt) rfl rfl rfl (by omega) (fun x13 q14 => ?_)
  refine R_istore_n (k := 2) rfl [(2, .inl x13), (0, .inl a0), (1, .inl a1)] rfl rfl (by decide) ?_
  refine R_iload_n (k := 2) rfl rfl rfl ?_
  refine N_if_eq (a := x13.toInt) 24 rfl rfl rfl (fun c15 => ?_) (fun c15 => ?_)
  · refine R_iload_n (k := 0) rfl rfl rfl ?_
    refine R_iload_n (k := 1) rfl rfl rfl ?_
    refine N_min (a := a0.toInt) (b := a1.toInt) rfl mt_3_i119 rfl rfl ⟨by decide, by decide, Nat.le_of_ble_eq_true rfl⟩ (fun x16 q17 => ?_)
    exact R_iret rfl rfl rfl ⟨rfl, _, rfl, trivial⟩
  · refine R_iload_n (k := 2) rfl rfl rfl ?_
    refine N_if_ge (a := x13.toInt) 22 rfl rfl rfl (fun c18 => ?_) (fun c18 => ?_)
    · refine R_iload_n (k := 1) rfl rfl rfl ?_
      exact R_iret rfl rfl rfl ⟨rfl, _, rfl, trivial⟩
    · refine R_iload_n (k := 0) rfl rfl rfl ?_
      refine R_goto 23 rfl rfl ?_
      exact R_iret rfl rfl rfl ⟨rfl, _, rfl, trivial⟩
abbrev q_X3_addOrder (h : PH) (a0 : Int32) : Option PV → PH → Prop := fun r h' => INV h' ∧ FR [87, 90] h h' ∧ ((h'.1 87 7).toInt = (h.1 87 7).toInt ∧ True) ∧ r = none
set_option maxHeartbeats 4000000 in
set_option maxRecDepth 100000 in
theorem k_X3_addOrder (h : PH) (hI : INV h) (a0 : Int32) (h0a : 0 ≤ a0.toInt ∧ a0.toInt ≤ 6) : CALL d_X3_addOrder [.inr (.inr (.inl 87)), .inl a0] h (q_X3_addOrder h a0) := by
  show RUN d_X3_addOrder 0 [(0, .inr (.inr (.inl 87))), (1, .inl a0)] [] h _
  have fr : FR [87, 90] h h := FR.rf _ _
  have b1 : (0 : Int) ≤ (h.1 87 6).toInt ∧ (h.1 87 6).toInt ≤ 720 := hI.1 87 6
  refine R_iconst 0 rfl rfl ?_
  refine R_istore_n (k := 2) rfl [(2, .inl 0), (0, .inr (.inr (.inl 87))), (1, .inl a0)] rfl rfl (by decide) ?_
  refine R_iconst 0 rfl rfl ?_
  refine R_istore_n (k := 3) rfl [(3, .inl 0), (2, .inl 0), (0, .inr (.inr (.inl 87))), (1, .inl a0)] rfl rfl (by decide) ?_
  have lp3 : ∀ (n2 : Nat) (h4 : PH) (x6 : Int32) (x7 : Int32), INV h4 → FR [87, 90] h h4 → FR [87, 90] h h4 → 0 ≤ x7.toInt ∧ x7.toInt ≤ 6 → (h4.1 87 7).toInt = (h.1 87 7).toInt → 0 ≤ (h4.1 87 6).toInt ∧ (h4.1 87 6).toInt ≤ 720 → x7.toInt ≤ a0.toInt + 0 → (6 - x7.toInt).toNat < n2 → RUN d_X3_addOrder 4 [(3, .inl x7), (2, .inl x6), (0, .inr (.inr (.inl 87))), (1, .inl a0)] [] h4 (q_X3_addOrder h a0) := by
    intro n2
    induction n2 with
    | zero => intro h4 x6 x7 m9 m10 m11 m12 m13 m14 m15 hz; exact absurd hz (Nat.not_lt_zero _)
    | succ n2 ih8 =>
      intro h4 x6 x7 hI fr fl5 m12 m13 m14 m15 hz
      refine R_iload_n (k := 3) rfl rfl rfl ?_
      refine R_iload_n (k := 1) rfl rfl rfl ?_
      refine N_icmp_ge (a := x7.toInt) (b := a0.toInt) 28 rfl rfl rfl rfl (fun c16 => ?_) (fun c16 => ?_)
      · refine R_aload_n (k := 0) rfl rfl rfl ?_
        refine R_getf_i (j := 6) rfl ft_3_31 sh_87 rfl ?_
        refine R_sipush 720 rfl rfl ?_
        refine N_icmp_ge (a := (h4.1 87 6).toInt) (b := 720) 58 rfl rfl rfl (by decide) (fun c17 => ?_) (fun c17 => ?_)
        · exact R_vret rfl rfl ⟨hI, fr, ⟨by omega, trivial⟩, rfl⟩
        · refine R_aload_n (k := 0) rfl rfl rfl ?_
          refine R_getf_r (j := 2) rfl ft_3_18 sh_87 rfl ?_
          refine R_aload_n (k := 0) rfl rfl rfl ?_
          refine R_getf_i (j := 6) rfl ft_3_31 sh_87 rfl ?_
          refine R_iload_n (k := 2) rfl rfl rfl ?_
          refine K_iast (a := (h4.1 87 6).toInt) (lo := (-2147483648)) (hi' := 2147483647) rfl sh_90 rfl ⟨by omega, by omega⟩ hI (by decide) rfl (i_rng _) fr (by decide) (fun h18 g19 hI fr => ?_)
          have fl5 : FR [87, 90] h h18 := by rw [g19]; exact FR_wI _ _ fl5 (by decide)
          have s20 : (h18.1 87 6).toInt = (h4.1 87 6).toInt := by rw [g19, wI_ne _ _ _ (by decide)]
          have s21 : (h18.1 87 7).toInt = (h4.1 87 7).toInt := by rw [g19, wI_ne _ _ _ (by decide)]
          refine R_aload_n (k := 0) rfl rfl rfl ?_
          refine R_dup_r rfl ?_
          refine R_getf_i (j := 6) rfl ft_3_31 sh_87 rfl ?_
          refine R_iconst 1 rfl rfl ?_
          refine N_iadd (a := (h18.1 87 6).toInt) (b := 1) rfl rfl (by decide) (by omega) (fun x22 q23 => ?_)
          refine K_putf (j := 6) (lo := 0) (hi' := 720) rfl ft_3_31 sh_87 rfl hI (by decide) rfl (by omega) fr (by decide) (fun h24 g25 hI fr => ?_)
          have fl5 : FR [87, 90] h h24 := by rw [g25]; exact FR_wI _ _ fl5 (by decide)
          have s26 : (h24.1 87 7).toInt = (h18.1 87 7).toInt := by rw [g25, wI_at (by decide)]
          have s27 : (h24.1 87 6).toInt = x22.toInt := by rw [g25, wI_is]
          exact R_vret rfl rfl ⟨hI, fr, ⟨by omega, trivial⟩, rfl⟩
      · refine R_iload_n (k := 2) rfl rfl rfl ?_
        refine R_aload_n (k := 0) rfl rfl rfl ?_
        refine R_getf_r (j := 0) rfl ft_3_9 sh_87 rfl ?_
        refine R_iload_n (k := 3) rfl rfl rfl ?_
        refine R_iald rfl sh_88 ⟨by omega, by omega⟩ ?_
        refine N_bd (lo := 0) (hi := 5) (hI.1 88 _) (fun x28 q29 => ?_)
        refine R_iconst 3 rfl rfl ?_
        refine R_iload_n (k := 3) rfl rfl rfl ?_
        refine N_imul (a := 3) (b := x7.toInt) rfl (by decide) rfl (by omega) (fun x30 q31 => ?_)
        refine R_ishl rfl ?_
        refine N_any (fun x32 => ?_)
        refine R_ior rfl ?_
        refine N_any (fun x33 => ?_)
        refine R_istore_n (k := 2) rfl [(2, .inl x33), (3, .inl x7), (0, .inr (.inr (.inl 87))), (1, .inl a0)] rfl rfl (by decide) ?_
        refine N_iinc (a := x7.toInt) (c := 1) (fun w => [(3, .inl w), (2, .inl x33), (0, .inr (.inr (.inl 87))), (1, .inl a0)]) rfl rfl (fun _ => rfl) (by decide) rfl (by decide) (by omega) (fun x34 q35 => ?_)
        refine R_goto 4 rfl rfl ?_
        exact RUN_weak (psub_cons rfl (psub_cons rfl (psub_cons rfl (psub_cons rfl (psub_nil _))))) (ih8 h4 x33 x34 hI fr fl5 (by omega) (by omega) (by omega) (by omega) (by omega))
  have k36 : (0 : Int32).toInt = 0 := by decide
  have k37 : (0 : Int32).toInt = 0 := by decide
  exact lp3 _ h (0 : Int32) (0 : Int32) hI fr (FR.rf _ _) (by decide) rfl (by omega) (by omega) (Nat.lt_succ_self _)
abbrev q_X3_exchange (h : PH) (a0 : Int32) (a1 : Int32) : Option PV → PH → Prop := fun r h' => INV h' ∧ FR [88] h h' ∧ (True) ∧ r = none
set_option maxHeartbeats 4000000 in
set_option maxRecDepth 100000 in
theorem k_X3_exchange (h : PH) (hI : INV h) (a0 : Int32) (a1 : Int32) (h0a : 0 ≤ a0.toInt ∧ a0.toInt ≤ 4) (h1a : 1 ≤ a1.toInt ∧ a1.toInt ≤ 5) : CALL d_X3_exchange [.inr (.inr (.inl 87)), .inl a0, .inl a1] h (q_X3_exchange h a0 a1) := by
  show RUN d_X3_exchange 0 [(0, .inr (.inr (.inl 87))), (1, .inl a0), (2, .inl a1)] [] h _
  have fr : FR [88] h h := FR.rf _ _
  refine R_aload_n (k := 0) rfl rfl rfl ?_
  refine R_getf_r (j := 0) rfl ft_3_9 sh_87 rfl ?_
  refine R_iload_n (k := 1) rfl rfl rfl ?_
  refine R_iald rfl sh_88 ⟨by omega, by omega⟩ ?_
  refine N_bd (lo := 0) (hi := 5) (hI.1 88 _) (fun x1 q2 => ?_)
  refine R_istore_n (k := 3) rfl [(3, .inl x1), (0, .inr (.inr (.inl 87))), (1, .inl a0), (2, .inl a1)] rfl rfl (by decide) ?_
  refine R_aload_n (k := 0) rfl rfl rfl ?_
  refine R_getf_r (j := 0) rfl ft_3_9 sh_87 rfl ?_
  refine R_iload_n (k := 1) rfl rfl rfl ?_
  refine R_aload_n (k := 0) rfl rfl rfl ?_
  refine R_getf_r (j := 0) rfl ft_3_9 sh_87 rfl ?_
  refine R_iload_n (k := 2) rfl rfl rfl ?_
  refine R_iald rfl sh_88 ⟨by omega, by omega⟩ ?_
  refine N_bd (lo := 0) (hi := 5) (hI.1 88 _) (fun x3 q4 => ?_)
  refine K_iast (a := a0.toInt) (lo := 0) (hi' := 5) rfl sh_88 rfl ⟨by omega, by omega⟩ hI (by decide) rfl (by omega) fr (by decide) (fun h5 g6 hI fr => ?_)
  refine R_aload_n (k := 0) rfl rfl rfl ?_
  refine R_getf_r (j := 0) rfl ft_3_9 sh_87 rfl ?_
  refine R_iload_n (k := 2) rfl rfl rfl ?_
  refine R_iload_n (k := 3) rfl rfl rfl ?_
  refine K_iast (a := a1.toInt) (lo := 0) (hi' := 5) rfl sh_88 rfl ⟨by omega, by omega⟩ hI (by decide) rfl (by omega) fr (by decide) (fun h7 g8 hI fr => ?_)
  exact R_vret rfl rfl ⟨hI, fr, trivial, rfl⟩
abbrev q_X3_goToNextRow (h : PH) (a0 : Int32) : Option PV → PH → Prop := fun r h' => INV h' ∧ FR [88] h h' ∧ (True) ∧ ∃ z : Int32, r = some (.inl z) ∧ ((z.toInt = 0) ∨ (z.toInt = 1 ∧ 2 ≤ a0.toInt ∧ a0.toInt ≤ 6) ∨ (z.toInt = 1 ∧ 3 ≤ a0.toInt ∧ a0.toInt ≤ 6))
set_option maxHeartbeats 4000000 in
set_option maxRecDepth 100000 in
theorem k_X3_goToNextRow (h : PH) (hI : INV h) (a0 : Int32) (h0a : 0 ≤ a0.toInt ∧ a0.toInt ≤ 6) : CALL d_X3_goToNextRow [.inr (.inr (.inl 87)), .inl a0] h (q_X3_goToNextRow h a0) := by
  show RUN d_X3_goToNextRow 0 [(0, .inr (.inr (.inl 87))), (1, .inl a0)] [] h _
  have fr : FR [88] h h := FR.rf _ _
  refine R_iload_n (k := 1) rfl rfl rfl ?_
  refine R_iconst 2 rfl rfl ?_
  refine N_isub (a := a0.toInt) (b := 2) rfl rfl (by decide) (by omega) (fun x1 q2 => ?_)
  refine R_istore_n (k := 2) rfl [(2, .inl x1), (0, .inr (.inr (.inl 87))), (1, .inl a0)] rfl rfl (by decide) ?_
  have lp4 : ∀ (n3 : Nat) (h5 : PH) (x7 : Int32), INV h5 → FR [88] h h5 → FR [88] h h5 → (-2) ≤ x7.toInt ∧ x7.toInt ≤ 4 → x7.toInt ≤ a0.toInt + (-2) → (x7.toInt - (-2)).toNat < n3 → RUN d_X3_goToNextRow 4 [(2, .inl x7), (0, .inr (.inr (.inl 87))), (1, .inl a0)] [] h5 (q_X3_goToNextRow h a0) := by
    intro n3
    induction n3 with
    | zero => intro h5 x7 m9 m10 m11 m12 m13 hz; exact absurd hz (Nat.not_lt_zero _)
    | succ n3 ih8 =>
      intro h5 x7 hI fr fl6 m12 m13 hz
      refine R_iload_n (k := 2) rfl rfl rfl ?_
      refine N_if_lt (a := x7.toInt) 31 rfl rfl rfl (fun c14 => ?_) (fun c14 => ?_)
      · refine R_iload_n (k := 2) rfl rfl rfl ?_
        refine N_if_ge (a := x7.toInt) 37 rfl rfl rfl (fun c15 => ?_) (fun c15 => ?_)
        · exfalso; omega
        · refine R_iconst 0 rfl rfl ?_
          exact R_iret rfl rfl rfl ⟨hI, fr, trivial, _, rfl, by rw [show (0 : Int32).toInt = 0 from rfl] <;> omega⟩
      · refine R_aload_n (k := 0) rfl rfl rfl ?_
        refine R_getf_r (j := 0) rfl ft_3_9 sh_87 rfl ?_
        refine R_iload_n (k := 2) rfl rfl rfl ?_
        refine R_iald rfl sh_88 ⟨by omega, by omega⟩ ?_
        refine N_bd (lo := 0) (hi := 5) (hI.1 88 _) (fun x16 q17 => ?_)
        refine R_aload_n (k := 0) rfl rfl rfl ?_
        refine R_getf_r (j := 0) rfl ft_3_9 sh_87 rfl ?_
        refine R_iload_n (k := 2) rfl rfl rfl ?_
        refine R_iconst 1 rfl rfl ?_
        refine N_iadd (a := x7.toInt) (b := 1) rfl rfl (by decide) (by omega) (fun x18 q19 => ?_)
        refine R_iald rfl sh_88 ⟨by omega, by omega⟩ ?_
        refine N_bd (lo := 0) (hi := 5) (hI.1 88 _) (fun x20 q21 => ?_)
        refine N_icmp_le (a := x16.toInt) (b := x20.toInt) 31 rfl rfl rfl rfl (fun c22 => ?_) (fun c22 => ?_)
        · refine R_iload_n (k := 2) rfl rfl rfl ?_
          refine N_if_ge (a := x7.toInt) 37 rfl rfl rfl (fun c23 => ?_) (fun c23 => ?_)
          · refine R_iload_n (k := 1) rfl rfl rfl ?_
            refine R_iconst 1 rfl rfl ?_
            refine N_isub (a := a0.toInt) (b := 1) rfl rfl (by decide) (by omega) (fun x24 q25 => ?_)
            refine R_istore_n (k := 3) rfl [(3, .inl x24), (2, .inl x7), (0, .inr (.inr (.inl 87))), (1, .inl a0)] rfl rfl (by decide) ?_
            have lp27 : ∀ (n26 : Nat) (h28 : PH) (x30 : Int32), INV h28 → FR [88] h h28 → FR [88] h5 h28 → 1 ≤ x30.toInt ∧ x30.toInt ≤ 5 → x7.toInt ≤ x30.toInt + (-1) → x30.toInt ≤ a0.toInt + (-1) → (x30.toInt - 1).toNat < n26 → RUN d_X3_goToNextRow 41 [(3, .inl x30), (2, .inl x7), (0, .inr (.inr (.inl 87))), (1, .inl a0)] [] h28 (q_X3_goToNextRow h a0) := by
              intro n26
              induction n26 with
              | zero => intro h28 x30 m32 m33 m34 m35 m36 m37 hz; exact absurd hz (Nat.not_lt_zero _)
              | succ n26 ih31 =>
                intro h28 x30 hI fr fl29 m35 m36 m37 hz
                have fl6 : FR [88] h h28 := fl6.trans fl29 (by decide)
                refine R_iload_n (k := 3) rfl rfl rfl ?_
                refine R_iload_n (k := 2) rfl rfl rfl ?_
                refine R_iconst 1 rfl rfl ?_
                refine N_iadd (a := x7.toInt) (b := 1) rfl rfl (by decide) (by omega) (fun x38 q39 => ?_)
                refine N_icmp_le (a := x30.toInt) (b := x38.toInt) 69 rfl rfl rfl rfl (fun c40 => ?_) (fun c40 => ?_)
                · refine R_aload_n (k := 0) rfl rfl rfl ?_
                  refine R_iload_n (k := 2) rfl rfl rfl ?_
                  refine R_iload_n (k := 3) rfl rfl rfl ?_
                  refine R_callV (v := .inr (.inr (.inl 87))) (As := [.inl x7, .inl x30]) (rest := []) rfl mt_3_i132 pp_X3_exchange (by decide) rfl rfl rfl (Nat.le_of_ble_eq_true rfl) (Nat.le_of_ble_eq_true rfl) ((k_X3_exchange h28 hI x7 x30 (by omega) (by omega)).mono (fun r41 h42 p43 => ?_))
                  obtain ⟨hJ, fj, -, rfl⟩ := p43
                  have f44 := fj
                  have fr := fr.trans fj (by decide)
                  have hI := hJ
                  have fl29 : FR [88] h5 h42 := fl29.trans fj (by decide)
                  have fl6 : FR [88] h h42 := fl6.trans fj (by decide)
                  show RUN d_X3_goToNextRow 75 [(3, .inl x30), (2, .inl x7), (0, .inr (.inr (.inl 87))), (1, .inl a0)] [] h42 _
                  refine R_iload_n (k := 1) rfl rfl rfl ?_
                  refine R_iconst 1 rfl rfl ?_
                  refine N_isub (a := a0.toInt) (b := 1) rfl rfl (by decide) (by omega) (fun x45 q46 => ?_)
                  refine R_istore (k := 4) [(4, .inl x45), (3, .inl x30), (2, .inl x7), (0, .inr (.inr (.inl 87))), (1, .inl a0)] rfl rfl (by decide) ?_
                  refine R_iload_n (k := 2) rfl rfl rfl ?_
                  refine R_iconst 1 rfl rfl ?_
                  refine N_iadd (a := x7.toInt) (b := 1) rfl rfl (by decide) (by omega) (fun x47 q48 => ?_)
                  refine R_istore (k := 5) [(5, .inl x47), (4, .inl x45), (3, .inl x30), (2, .inl x7), (0, .inr (.inr (.inl 87))), (1, .inl a0)] rfl rfl (by decide) ?_
                  have lp50 : ∀ (n49 : Nat) (h51 : PH) (x53 : Int32) (x54 : Int32), INV h51 → FR [88] h h51 → FR [88] h42 h51 → 1 ≤ x53.toInt ∧ x53.toInt ≤ 5 → 1 ≤ x54.toInt ∧ x54.toInt ≤ 5 → x30.toInt ≤ x53.toInt + 0 → x7.toInt ≤ x53.toInt + (-1) → x53.toInt ≤ a0.toInt + (-1) → x30.toInt ≤ x54.toInt + 0 → x7.toInt ≤ x54.toInt + (-1) → x54.toInt ≤ a0.toInt + (-1) → (x53.toInt - 1).toNat < n49 → RUN d_X3_goToNextRow 85 [(5, .inl x54), (4, .inl x53), (3, .inl x30), (2, .inl x7), (0, .inr (.inr (.inl 87))), (1, .inl a0)] [] h51 (q_X3_goToNextRow h a0) := by
                    intro n49
                    induction n49 with
                    | zero => intro h51 x53 x54 m56 m57 m58 m59 m60 m61 m62 m63 m64 m65 m66 hz; exact absurd hz (Nat.not_lt_zero _)
                    | succ n49 ih55 =>
                      intro h51 x53 x54 hI fr fl52 m59 m60 m61 m62 m63 m64 m65 m66 hz
                      have fl29 : FR [88] h5 h51 := fl29.trans fl52 (by decide)
                      have fl6 : FR [88] h h51 := fl6.trans fl52 (by decide)
                      refine R_iload (k := 5) rfl rfl ?_
                      refine R_iload (k := 4) rfl rfl ?_
                      refine N_icmp_ge (a := x54.toInt) (b := x53.toInt) 109 rfl rfl rfl rfl (fun c67 => ?_) (fun c67 => ?_)
                      · refine R_iconst 1 rfl rfl ?_
                        exact R_iret rfl rfl rfl ⟨hI, fr, trivial, _, rfl, by rw [show (1 : Int32).toInt = 1 from rfl] <;> omega⟩
                      · refine R_aload_n (k := 0) rfl rfl rfl ?_
                        refine R_iload (k := 5) rfl rfl ?_
                        refine R_iload (k := 4) rfl rfl ?_
                        refine R_callV (v := .inr (.inr (.inl 87))) (As := [.inl x54, .inl x53]) (rest := []) rfl mt_3_i132 pp_X3_exchange (by decide) rfl rfl rfl (Nat.le_of_ble_eq_true rfl) (Nat.le_of_ble_eq_true rfl) ((k_X3_exchange h51 hI x54 x53 (by omega) (by omega)).mono (fun r68 h69 p70 => ?_))
                        obtain ⟨hJ, fj, -, rfl⟩ := p70
                        have f71 := fj
                        have fr := fr.trans fj (by decide)
                        have hI := hJ
                        have fl52 : FR [88] h42 h69 := fl52.trans fj (by decide)
                        have fl29 : FR [88] h5 h69 := fl29.trans fj (by decide)
                        have fl6 : FR [88] h h69 := fl6.trans fj (by decide)
                        show RUN d_X3_goToNextRow 100 [(5, .inl x54), (4, .inl x53), (3, .inl x30), (2, .inl x7), (0, .inr (.inr (.inl 87))), (1, .inl a0)] [] h69 _
                        refine N_iinc (a := x53.toInt) (c := (-1)) (fun w => [(4, .inl w), (5, .inl x54), (3, .inl x30), (2, .inl x7), (0, .inr (.inr (.inl 87))), (1, .inl a0)]) rfl rfl (fun _ => rfl) (by decide) rfl (by decide) (by omega) (fun x72 q73 => ?_)
                        refine N_iinc (a := x54.toInt) (c := 1) (fun w => [(5, .inl w), (4, .inl x72), (3, .inl x30), (2, .inl x7), (0, .inr (.inr (.inl 87))), (1, .inl a0)]) rfl rfl (fun _ => rfl) (by decide) rfl (by decide) (by omega) (fun x74 q75 => ?_)
                        refine R_goto 85 rfl rfl ?_
                        exact RUN_weak (psub_cons rfl (psub_cons rfl (psub_cons rfl (psub_cons rfl (psub_cons rfl (psub_cons rfl (psub_nil _))))))) (ih55 h69 x72 x74 hI fr fl52 (by omega) (by omega) (by omega) (by omega) (by omega) (by omega) (by omega) (by omega) (by omega))
                  exact lp50 _ h42 x45 x47 hI fr (FR.rf _ _) (by omega) (by omega) (by omega) (by omega) (by omega) (by omega) (by omega) (by omega) (Nat.lt_succ_self _)
                · refine R_aload_n (k := 0) rfl rfl rfl ?_
                  refine R_getf_r (j := 0) rfl ft_3_9 sh_87 rfl ?_
                  refine R_iload_n (k := 3) rfl rfl rfl ?_
                  refine R_iald rfl sh_88 ⟨by omega, by omega⟩ ?_
                  refine N_bd (lo := 0) (hi := 5) (hI.1 88 _) (fun x76 q77 => ?_)
                  refine R_aload_n (k := 0) rfl rfl rfl ?_
                  refine R_getf_r (j := 0) rfl ft_3_9 sh_87 rfl ?_
                  refine R_iload_n (k := 2) rfl rfl rfl ?_
                  refine R_iald rfl sh_88 ⟨by omega, by omega⟩ ?_
                  refine N_bd (lo := 0) (hi := 5) (hI.1 88 _) (fun x78 q79 => ?_)
                  refine N_icmp_ge (a := x76.toInt) (b := x78.toInt) 69 rfl rfl rfl rfl (fun c80 => ?_) (fun c80 => ?_)
                  · refine R_aload_n (k := 0) rfl rfl rfl ?_
                    refine R_iload_n (k := 2) rfl rfl rfl ?_
                    refine R_iload_n (k := 3) rfl rfl rfl ?_
                    refine R_callV (v := .inr (.inr (.inl 87))) (As := [.inl x7, .inl x30]) (rest := []) rfl mt_3_i132 pp_X3_exchange (by decide) rfl rfl rfl (Nat.le_of_ble_eq_true rfl) (Nat.le_of_ble_eq_true rfl) ((k_X3_exchange h28 hI x7 x30 (by omega) (by omega)).mono (fun r81 h82 p83 => ?_))
                    obtain ⟨hJ, fj, -, rfl⟩ := p83
                    have f84 := fj
                    have fr := fr.trans fj (by decide)
                    have hI := hJ
                    have fl29 : FR [88] h5 h82 := fl29.trans fj (by decide)
                    have fl6 : FR [88] h h82 := fl6.trans fj (by decide)
                    show RUN d_X3_goToNextRow 75 [(3, .inl x30), (2, .inl x7), (0, .inr (.inr (.inl 87))), (1, .inl a0)] [] h82 _
                    refine R_iload_n (k := 1) rfl rfl rfl ?_
                    refine R_iconst 1 rfl rfl ?_
                    refine N_isub (a := a0.toInt) (b := 1) rfl rfl (by decide) (by omega) (fun x85 q86 => ?_)
                    refine R_istore (k := 4) [(4, .inl x85), (3, .inl x30), (2, .inl x7), (0, .inr (.inr (.inl 87))), (1, .inl a0)] rfl rfl (by decide) ?_
                    refine R_iload_n (k := 2) rfl rfl rfl ?_
                    refine R_iconst 1 rfl rfl ?_
                    refine N_iadd (a := x7.toInt) (b := 1) rfl rfl (by decide) (by omega) (fun x87 q88 => ?_)
                    refine R_istore (k := 5) [(5, .inl x87), (4, .inl x85), (3, .inl x30), (2, .inl x7), (0, .inr (.inr (.inl 87))), (1, .inl a0)] rfl rfl (by decide) ?_
                    have lp90 : ∀ (n89 : Nat) (h91 : PH) (x93 : Int32) (x94 : Int32), INV h91 → FR [88] h h91 → FR [88] h82 h91 → 1 ≤ x93.toInt ∧ x93.toInt ≤ 5 → 1 ≤ x94.toInt ∧ x94.toInt ≤ 5 → x93.toInt ≤ a0.toInt + (-1) → x7.toInt ≤ x94.toInt + (-1) → (x93.toInt - 1).toNat < n89 → RUN d_X3_goToNextRow 85 [(5, .inl x94), (4, .inl x93), (3, .inl x30), (2, .inl x7), (0, .inr (.inr (.inl 87))), (1, .inl a0)] [] h91 (q_X3_goToNextRow h a0) := by
                      intro n89
                      induction n89 with
                      | zero => intro h91 x93 x94 m96 m97 m98 m99 m100 m101 m102 hz; exact absurd hz (Nat.not_lt_zero _)
                      | succ n89 ih95 =>
                        intro h91 x93 x94 hI fr fl92 m99 m100 m101 m102 hz
                        have fl29 : FR [88] h5 h91 := fl29.trans fl92 (by decide)
                        have fl6 : FR [88] h h91 := fl6.trans fl92 (by decide)
                        refine R_iload (k := 5) rfl rfl ?_
                        refine R_iload (k := 4) rfl rfl ?_
                        refine N_icmp_ge (a := x94.toInt) (b := x93.toInt) 109 rfl rfl rfl rfl (fun c103 => ?_) (fun c103 => ?_)
                        · refine R_iconst 1 rfl rfl ?_
                          exact R_iret rfl rfl rfl ⟨hI, fr, trivial, _, rfl, by rw [show (1 : Int32).toInt = 1 from rfl] <;> omega⟩
                        · refine R_aload_n (k := 0) rfl rfl rfl ?_
                          refine R_iload (k := 5) rfl rfl ?_
                          refine R_iload (k := 4) rfl rfl ?_
                          refine R_callV (v := .inr (.inr (.inl 87))) (As := [.inl x94, .inl x93]) (rest := []) rfl mt_3_i132 pp_X3_exchange (by decide) rfl rfl rfl (Nat.le_of_ble_eq_true rfl) (Nat.le_of_ble_eq_true rfl) ((k_X3_exchange h91 hI x94 x93 (by omega) (by omega)).mono (fun r104 h105 p106 => ?_))
                          obtain ⟨hJ, fj, -, rfl⟩ := p106
                          have f107 := fj
                          have fr := fr.trans fj (by decide)
                          have hI := hJ
                          have fl92 : FR [88] h82 h105 := fl92.trans fj (by decide)
                          have fl29 : FR [88] h5 h105 := fl29.trans fj (by decide)
                          have fl6 : FR [88] h h105 := fl6.trans fj (by decide)
                          show RUN d_X3_goToNextRow 100 [(5, .inl x94), (4, .inl x93), (3, .inl x30), (2, .inl x7), (0, .inr (.inr (.inl 87))), (1, .inl a0)] [] h105 _
                          refine N_iinc (a := x93.toInt) (c := (-1)) (fun w => [(4, .inl w), (5, .inl x94), (3, .inl x30), (2, .inl x7), (0, .inr (.inr (.inl 87))), (1, .inl a0)]) rfl rfl (fun _ => rfl) (by decide) rfl (by decide) (by omega) (fun x108 q109 => ?_)
                          refine N_iinc (a := x94.toInt) (c := 1) (fun w => [(5, .inl w), (4, .inl x108), (3, .inl x30), (2, .inl x7), (0, .inr (.inr (.inl 87))), (1, .inl a0)]) rfl rfl (fun _ => rfl) (by decide) rfl (by decide) (by omega) (fun x110 q111 => ?_)
                          refine R_goto 85 rfl rfl ?_
                          exact RUN_weak (psub_cons rfl (psub_cons rfl (psub_cons rfl (psub_cons rfl (psub_cons rfl (psub_cons rfl (psub_nil _))))))) (ih95 h105 x108 x110 hI fr fl92 (by omega) (by omega) (by omega) (by omega) (by omega))
                    exact lp90 _ h82 x85 x87 hI fr (FR.rf _ _) (by omega) (by omega) (by omega) (by omega) (Nat.lt_succ_self _)
                  · refine N_iinc (a := x30.toInt) (c := (-1)) (fun w => [(3, .inl w), (2, .inl x7), (0, .inr (.inr (.inl 87))), (1, .inl a0)]) rfl rfl (fun _ => rfl) (by decide) rfl (by decide) (by omega) (fun x112 q113 => ?_)
                    refine R_goto 41 rfl rfl ?_
                    exact RUN_weak (psub_cons rfl (psub_cons rfl (psub_cons rfl (psub_cons rfl (psub_nil _))))) (ih31 h28 x112 hI fr fl29 (by omega) (by omega) (by omega) (by omega))
            exact lp27 _ h5 x24 hI fr (FR.rf _ _) (by omega) (by omega) (by omega) (Nat.lt_succ_self _)
          · exfalso; omega
        · refine N_iinc (a := x7.toInt) (c := (-1)) (fun w => [(2, .inl w), (0, .inr (.inr (.inl 87))), (1, .inl a0)]) rfl rfl (fun _ => rfl) (by decide) rfl (by decide) (by omega) (fun x114 q115 => ?_)
          refine R_goto 4 rfl rfl ?_
          exact RUN_weak (psub_cons rfl (psub_cons rfl (psub_cons rfl (psub_nil _)))) (ih8 h5 x114 hI fr fl6 (by omega) (by omega) (by omega))
  exact lp4 _ h x1 hI fr (FR.rf _ _) (by omega) (by omega) (Nat.lt_succ_self _)
abbrev q_X3_list (h : PH)  : Option PV → PH → Prop := fun r h' => INV h' ∧ FR [87, 88, 89, 90] h h' ∧ (True) ∧ r = none
set_option maxHeartbeats 4000000 in
set_option maxRecDepth 100000 in
theorem k_X3_list (h : PH) (hI : INV h)  : CALL d_X3_list [.inr (.inr (.inl 87)), .inr (.inr (.inl 16))] h (q_X3_list h) := by
  show RUN d_X3_list 0 [(0, .inr (.inr (.inl 87))), (1, .inr (.inr (.inl 16)))] [] h _
  have fr : FR [87, 88, 89, 90] h h := FR.rf _ _
  refine R_aload_n (k := 1) rfl rfl rfl ?_
  refine R_getf_r (j := 0) rfl ft_3_41 sh_16 rfl ?_
  refine R_iconst 5 rfl rfl ?_
  refine R_iald rfl sh_17 (by decide) ?_
  have b1 : (0 : Int) ≤ (h.1 17 5).toInt ∧ (h.1 17 5).toInt ≤ 6 := hI.1 17 5
  show RUN d_X3_list 6 [(0, .inr (.inr (.inl 87))), (1, .inr (.inr (.inl 16)))] [.inl (h.1 17 5)] h _
  refine R_istore_n (k := 2) rfl [(2, .inl (h.1 17 5)), (0, .inr (.inr (.inl 87))), (1, .inr (.inr (.inl 16)))] rfl rfl (by decide) ?_
  refine R_iconst 0 rfl rfl ?_
  refine R_istore_n (k := 3) rfl [(3, .inl 0), (2, .inl (h.1 17 5)), (0, .inr (.inr (.inl 87))), (1, .inr (.inr (.inl 16)))] rfl rfl (by decide) ?_
  have lp3 : ∀ (n2 : Nat) (h4 : PH) (x6 : Int32), INV h4 → FR [87, 88, 89, 90] h h4 → FR [87, 88, 89, 90] h h4 → 0 ≤ x6.toInt ∧ x6.toInt ≤ 6 → (6 - x6.toInt).toNat < n2 → RUN d_X3_list 9 [(3, .inl x6), (2, .inl (h.1 17 5)), (0, .inr (.inr (.inl 87))), (1, .inr (.inr (.inl 16)))] [] h4 (q_X3_list h) := by
    intro n2
    induction n2 with
    | zero => intro h4 x6 m8 m9 m10 m11 hz; exact absurd hz (Nat.not_lt_zero _)
    | succ n2 ih7 =>
      intro h4 x6 hI fr fl5 m11 hz
      have s12 : (h4.1 17 5).toInt = (h.1 17 5).toInt := by rw [(fl5 17 (by decide)).1]
      refine R_iload_n (k := 3) rfl rfl rfl ?_
      refine R_bipush 6 rfl rfl ?_
      refine N_icmp_ge (a := x6.toInt) (b := 6) 28 rfl rfl rfl (by decide) (fun c13 => ?_) (fun c13 => ?_)
      · refine R_aload_n (k := 0) rfl rfl rfl ?_
        refine R_iconst 0 rfl rfl ?_
        refine K_putf (j := 6) (lo := 0) (hi' := 720) rfl ft_3_31 sh_87 rfl hI (by decide) rfl (by decide) fr (by decide) (fun h14 g15 hI fr => ?_)
        have fl5 : FR [87, 88, 89, 90] h h14 := by rw [g15]; exact FR_wI _ _ fl5 (by decide)
        have s16 : (h14.1 17 5).toInt = (h4.1 17 5).toInt := by rw [g15, wI_ne _ _ _ (by decide)]
        have s17 : (h14.1 87 6).toInt = 0 := by rw [g15, wI_is]; rfl
        refine R_aload_n (k := 0) rfl rfl rfl ?_
        refine R_iconst 1 rfl rfl ?_
        refine R_aload_n (k := 1) rfl rfl rfl ?_
        refine R_getf_r (j := 0) rfl ft_3_41 sh_16 rfl ?_
        refine R_bipush 6 rfl rfl ?_
        refine R_iald rfl sh_17 (by decide) ?_
        have b18 : (0 : Int) ≤ (h14.1 17 6).toInt ∧ (h14.1 17 6).toInt ≤ 5 := hI.1 17 6
        show RUN d_X3_list 42 [(3, .inl x6), (2, .inl (h.1 17 5)), (0, .inr (.inr (.inl 87))), (1, .inr (.inr (.inl 16)))] [.inl (h14.1 17 6), .inl 1, .inr (.inr (.inl 87))] h14 _
        refine N_ishl1 (b := (h14.1 17 6).toInt) rfl rfl (by omega) (fun x19 q20 => ?_)
        refine R_iconst 1 rfl rfl ?_
        refine N_isub (a := x19.toInt) (b := 1) rfl rfl (by decide) (by omega) (fun x21 q22 => ?_)
        refine K_putf (j := 7) (lo := (-2147483648)) (hi' := 2147483647) rfl ft_3_35 sh_87 rfl hI (by decide) rfl (i_rng _) fr (by decide) (fun h23 g24 hI fr => ?_)
        have fl5 : FR [87, 88, 89, 90] h h23 := by rw [g24]; exact FR_wI _ _ fl5 (by decide)
        have s25 : (h23.1 17 5).toInt = (h14.1 17 5).toInt := by rw [g24, wI_ne _ _ _ (by decide)]
        have s26 : (h23.1 87 6).toInt = (h14.1 87 6).toInt := by rw [g24, wI_at (by decide)]
        have s27 : (h23.1 17 6).toInt = (h14.1 17 6).toInt := by rw [g24, wI_ne _ _ _ (by decide)]
        have s28 : (h23.1 87 7).toInt = x21.toInt := by rw [g24, wI_is]
        refine R_iconst 1 rfl rfl ?_
        refine R_istore_n (k := 3) rfl [(3, .inl 1), (2, .inl (h.1 17 5)), (0, .inr (.inr (.inl 87))), (1, .inr (.inr (.inl 16)))] rfl rfl (by decide) ?_
        refine R_iconst 0 rfl rfl ?_
        refine R_istore (k := 4) [(4, .inl 0), (3, .inl 1), (2, .inl (h.1 17 5)), (0, .inr (.inr (.inl 87))), (1, .inr (.inr (.inl 16)))] rfl rfl (by decide) ?_
        have lp30 : ∀ (n29 : Nat) (h31 : PH) (x33 : Int32) (x34 : Int32), INV h31 → FR [87, 88, 89, 90] h h31 → FR [87, 88, 89, 90] h23 h31 → 0 ≤ x33.toInt ∧ x33.toInt ≤ 1 → 0 ≤ x34.toInt ∧ x34.toInt ≤ 720 → True → (720 - x34.toInt).toNat < n29 → RUN d_X3_list 53 [(4, .inl x34), (3, .inl x33), (2, .inl (h.1 17 5)), (0, .inr (.inr (.inl 87))), (1, .inr (.inr (.inl 16)))] [] h31 (q_X3_list h) := by
          intro n29
          induction n29 with
          | zero => intro h31 x33 x34 m36 m37 m38 m39 m40 m41 hz; exact absurd hz (Nat.not_lt_zero _)
          | succ n29 ih35 =>
            intro h31 x33 x34 hI fr fl32 m39 m40 m41 hz
            have s42 : (h31.1 17 5).toInt = (h23.1 17 5).toInt := by rw [(fl32 17 (by decide)).1]
            have s43 : (h31.1 17 6).toInt = (h23.1 17 6).toInt := by rw [(fl32 17 (by decide)).1]
            have fl5 : FR [87, 88, 89, 90] h h31 := fl5.trans fl32 (by decide)
            refine R_iload (k := 4) rfl rfl ?_
            refine R_sipush 720 rfl rfl ?_
            refine N_icmp_ge (a := x34.toInt) (b := 720) 108 rfl rfl rfl (by decide) (fun c44 => ?_) (fun c44 => ?_)
            · exact R_vret rfl rfl ⟨hI, fr, trivial, rfl⟩
            · refine R_iload_n (k := 3) rfl rfl rfl ?_
              refine N_if_eq (a := x33.toInt) 108 rfl rfl rfl (fun c45 => ?_) (fun c45 => ?_)
              · exact R_vret rfl rfl ⟨hI, fr, trivial, rfl⟩
              · refine R_aload_n (k := 0) rfl rfl rfl ?_
                refine R_aload_n (k := 1) rfl rfl rfl ?_
                refine R_iload_n (k := 2) rfl rfl rfl ?_
                refine R_callV (v := .inr (.inr (.inl 87))) (As := [.inr (.inr (.inl 16)), .inl (h.1 17 5)]) (rest := []) rfl mt_3_i45 pp_X3_brokenPairs (by decide) rfl rfl rfl (Nat.le_of_ble_eq_true rfl) (Nat.le_of_ble_eq_true rfl) ((k_X3_brokenPairs h31 hI (h.1 17 5) (by omega)).mono (fun r46 h47 p48 => ?_))
                obtain ⟨hJ, fj, -, x49, rfl, q50⟩ := p48
                have f51 := fj
                have fr := fr.trans fj (by decide)
                have hI := hJ
                have fl32 : FR [87, 88, 89, 90] h23 h47 := fl32.trans fj (by decide)
                have fl5 : FR [87, 88, 89, 90] h h47 := fl5.trans fj (by decide)
                have s52 : (h47.1 17 5).toInt = (h31.1 17 5).toInt := by rw [(f51 17 (by decide)).1]
                have s53 : (h47.1 17 6).toInt = (h31.1 17 6).toInt := by rw [(f51 17 (by decide)).1]
                have s54 : (h47.1 87 7).toInt = (h31.1 87 7).toInt := by rw [(f51 87 (by decide)).1]
                show RUN d_X3_list 71 [(4, .inl x34), (3, .inl x33), (2, .inl (h.1 17 5)), (0, .inr (.inr (.inl 87))), (1, .inr (.inr (.inl 16)))] [.inl x49] h47 _
                refine R_istore (k := 5) [(5, .inl x49), (4, .inl x34), (3, .inl x33), (2, .inl (h.1 17 5)), (0, .inr (.inr (.inl 87))), (1, .inr (.inr (.inl 16)))] rfl rfl (by decide) ?_
                refine R_aload_n (k := 0) rfl rfl rfl ?_
                refine R_aload_n (k := 0) rfl rfl rfl ?_
                refine R_getf_i (j := 7) rfl ft_3_35 sh_87 rfl ?_
                refine R_iload (k := 5) rfl rfl ?_
                refine R_callS (As := [.inl (h47.1 87 7), .inl x49]) (rest := [.inr (.inr (.inl 87))]) rfl mt_3_i49 (by decide) pp_X3_fewer (by decide) rfl rfl (Nat.le_of_ble_eq_true rfl) (Nat.le_of_ble_eq_true rfl) ((k_X3_fewer h47 hI (h47.1 87 7) x49).mono (fun r55 h56 p57 => ?_))
                obtain ⟨rfl, x58, rfl, q59⟩ := p57
                show RUN d_X3_list 83 [(5, .inl x49), (4, .inl x34), (3, .inl x33), (2, .inl (h.1 17 5)), (0, .inr (.inr (.inl 87))), (1, .inr (.inr (.inl 16)))] [.inl x58, .inr (.inr (.inl 87))] h47 _
                refine K_putf (j := 7) (lo := (-2147483648)) (hi' := 2147483647) rfl ft_3_35 sh_87 rfl hI (by decide) rfl (i_rng _) fr (by decide) (fun h60 g61 hI fr => ?_)
                have fl32 : FR [87, 88, 89, 90] h23 h60 := by rw [g61]; exact FR_wI _ _ fl32 (by decide)
                have fl5 : FR [87, 88, 89, 90] h h60 := by rw [g61]; exact FR_wI _ _ fl5 (by decide)
                have s62 : (h60.1 17 5).toInt = (h47.1 17 5).toInt := by rw [g61, wI_ne _ _ _ (by decide)]
                have s63 : (h60.1 17 6).toInt = (h47.1 17 6).toInt := by rw [g61, wI_ne _ _ _ (by decide)]
                have s64 : (h60.1 87 7).toInt = x58.toInt := by rw [g61, wI_is]
                refine R_iload (k := 5) rfl rfl ?_
                refine N_if_ne (a := x49.toInt) 96 rfl rfl rfl (fun c65 => ?_) (fun c65 => ?_)
                · refine R_aload_n (k := 0) rfl rfl rfl ?_
                  refine R_iload_n (k := 2) rfl rfl rfl ?_
                  refine R_callV (v := .inr (.inr (.inl 87))) (As := [.inl (h.1 17 5)]) (rest := []) rfl mt_3_i57 pp_X3_goToNextRow (by decide) rfl rfl rfl (Nat.le_of_ble_eq_true rfl) (Nat.le_of_ble_eq_true rfl) ((k_X3_goToNextRow h60 hI (h.1 17 5) (by omega)).mono (fun r66 h67 p68 => ?_))
                  obtain ⟨hJ, fj, -, x69, rfl, q70 | q70 | q70⟩ := p68
                  · have f71 := fj
                    have fr := fr.trans fj (by decide)
                    have hI := hJ
                    have fl32 : FR [87, 88, 89, 90] h23 h67 := fl32.trans fj (by decide)
                    have fl5 : FR [87, 88, 89, 90] h h67 := fl5.trans fj (by decide)
                    have s72 : (h67.1 17 5).toInt = (h60.1 17 5).toInt := by rw [(f71 17 (by decide)).1]
                    have s73 : (h67.1 17 6).toInt = (h60.1 17 6).toInt := by rw [(f71 17 (by decide)).1]
                    have s74 : (h67.1 87 7).toInt = (h60.1 87 7).toInt := by rw [(f71 87 (by decide)).1]
                    show RUN d_X3_list 101 [(5, .inl x49), (4, .inl x34), (3, .inl x33), (2, .inl (h.1 17 5)), (0, .inr (.inr (.inl 87))), (1, .inr (.inr (.inl 16)))] [.inl x69] h67 _
                    refine R_istore_n (k := 3) rfl [(3, .inl x69), (5, .inl x49), (4, .inl x34), (2, .inl (h.1 17 5)), (0, .inr (.inr (.inl 87))), (1, .inr (.inr (.inl 16)))] rfl rfl (by decide) ?_
                    refine N_iinc (a := x34.toInt) (c := 1) (fun w => [(4, .inl w), (3, .inl x69), (5, .inl x49), (2, .inl (h.1 17 5)), (0, .inr (.inr (.inl 87))), (1, .inr (.inr (.inl 16)))]) rfl rfl (fun _ => rfl) (by decide) rfl (by decide) (by omega) (fun x75 q76 => ?_)
                    refine R_goto 53 rfl rfl ?_
                    exact RUN_weak (psub_cons rfl (psub_cons rfl (psub_cons rfl (psub_cons rfl (psub_cons rfl (psub_nil _)))))) (ih35 h67 x69 x75 hI fr fl32 (by omega) (by omega) trivial (by omega))
                  · have f77 := fj
                    have fr := fr.trans fj (by decide)
                    have hI := hJ
                    have fl32 : FR [87, 88, 89, 90] h23 h67 := fl32.trans fj (by decide)
                    have fl5 : FR [87, 88, 89, 90] h h67 := fl5.trans fj (by decide)
                    have s78 : (h67.1 17 5).toInt = (h60.1 17 5).toInt := by rw [(f77 17 (by decide)).1]
                    have s79 : (h67.1 17 6).toInt = (h60.1 17 6).toInt := by rw [(f77 17 (by decide)).1]
                    have s80 : (h67.1 87 7).toInt = (h60.1 87 7).toInt := by rw [(f77 87 (by decide)).1]
                    show RUN d_X3_list 101 [(5, .inl x49), (4, .inl x34), (3, .inl x33), (2, .inl (h.1 17 5)), (0, .inr (.inr (.inl 87))), (1, .inr (.inr (.inl 16)))] [.inl x69] h67 _
                    refine R_istore_n (k := 3) rfl [(3, .inl x69), (5, .inl x49), (4, .inl x34), (2, .inl (h.1 17 5)), (0, .inr (.inr (.inl 87))), (1, .inr (.inr (.inl 16)))] rfl rfl (by decide) ?_
                    refine N_iinc (a := x34.toInt) (c := 1) (fun w => [(4, .inl w), (3, .inl x69), (5, .inl x49), (2, .inl (h.1 17 5)), (0, .inr (.inr (.inl 87))), (1, .inr (.inr (.inl 16)))]) rfl rfl (fun _ => rfl) (by decide) rfl (by decide) (by omega) (fun x81 q82 => ?_)
                    refine R_goto 53 rfl rfl ?_
                    exact RUN_weak (psub_cons rfl (psub_cons rfl (psub_cons rfl (psub_cons rfl (psub_cons rfl (psub_nil _)))))) (ih35 h67 x69 x81 hI fr fl32 (by omega) (by omega) trivial (by omega))
                  · have f83 := fj
                    have fr := fr.trans fj (by decide)
                    have hI := hJ
                    have fl32 : FR [87, 88, 89, 90] h23 h67 := fl32.trans fj (by decide)
                    have fl5 : FR [87, 88, 89, 90] h h67 := fl5.trans fj (by decide)
                    have s84 : (h67.1 17 5).toInt = (h60.1 17 5).toInt := by rw [(f83 17 (by decide)).1]
                    have s85 : (h67.1 17 6).toInt = (h60.1 17 6).toInt := by rw [(f83 17 (by decide)).1]
                    have s86 : (h67.1 87 7).toInt = (h60.1 87 7).toInt := by rw [(f83 87 (by decide)).1]
                    show RUN d_X3_list 101 [(5, .inl x49), (4, .inl x34), (3, .inl x33), (2, .inl (h.1 17 5)), (0, .inr (.inr (.inl 87))), (1, .inr (.inr (.inl 16)))] [.inl x69] h67 _
                    refine R_istore_n (k := 3) rfl [(3, .inl x69), (5, .inl x49), (4, .inl x34), (2, .inl (h.1 17 5)), (0, .inr (.inr (.inl 87))), (1, .inr (.inr (.inl 16)))] rfl rfl (by decide) ?_
                    refine N_iinc (a := x34.toInt) (c := 1) (fun w => [(4, .inl w), (3, .inl x69), (5, .inl x49), (2, .inl (h.1 17 5)), (0, .inr (.inr (.inl 87))), (1, .inr (.inr (.inl 16)))]) rfl rfl (fun _ => rfl) (by decide) rfl (by decide) (by omega) (fun x87 q88 => ?_)
                    refine R_goto 53 rfl rfl ?_
                    exact RUN_weak (psub_cons rfl (psub_cons rfl (psub_cons rfl (psub_cons rfl (psub_cons rfl (psub_nil _)))))) (ih35 h67 x69 x87 hI fr fl32 (by omega) (by omega) trivial (by omega))
                · refine R_aload_n (k := 0) rfl rfl rfl ?_
                  refine R_iload_n (k := 2) rfl rfl rfl ?_
                  refine R_callV (v := .inr (.inr (.inl 87))) (As := [.inl (h.1 17 5)]) (rest := []) rfl mt_3_i53 pp_X3_addOrder (by decide) rfl rfl rfl (Nat.le_of_ble_eq_true rfl) (Nat.le_of_ble_eq_true rfl) ((k_X3_addOrder h60 hI (h.1 17 5) (by omega)).mono (fun r89 h90 p91 => ?_))
                  obtain ⟨hJ, fj, ⟨kp92, -⟩, rfl⟩ := p91
                  have f93 := fj
                  have fr := fr.trans fj (by decide)
                  have hI := hJ
                  have fl32 : FR [87, 88, 89, 90] h23 h90 := fl32.trans fj (by decide)
                  have fl5 : FR [87, 88, 89, 90] h h90 := fl5.trans fj (by decide)
                  have s94 : (h90.1 17 5).toInt = (h60.1 17 5).toInt := by rw [(f93 17 (by decide)).1]
                  have s95 : (h90.1 17 6).toInt = (h60.1 17 6).toInt := by rw [(f93 17 (by decide)).1]
                  show RUN d_X3_list 96 [(5, .inl x49), (4, .inl x34), (3, .inl x33), (2, .inl (h.1 17 5)), (0, .inr (.inr (.inl 87))), (1, .inr (.inr (.inl 16)))] [] h90 _
                  refine R_aload_n (k := 0) rfl rfl rfl ?_
                  refine R_iload_n (k := 2) rfl rfl rfl ?_
                  refine R_callV (v := .inr (.inr (.inl 87))) (As := [.inl (h.1 17 5)]) (rest := []) rfl mt_3_i57 pp_X3_goToNextRow (by decide) rfl rfl rfl (Nat.le_of_ble_eq_true rfl) (Nat.le_of_ble_eq_true rfl) ((k_X3_goToNextRow h90 hI (h.1 17 5) (by omega)).mono (fun r96 h97 p98 => ?_))
                  obtain ⟨hJ, fj, -, x99, rfl, q100 | q100 | q100⟩ := p98
                  · have f101 := fj
                    have fr := fr.trans fj (by decide)
                    have hI := hJ
                    have fl32 : FR [87, 88, 89, 90] h23 h97 := fl32.trans fj (by decide)
                    have fl5 : FR [87, 88, 89, 90] h h97 := fl5.trans fj (by decide)
                    have s102 : (h97.1 17 5).toInt = (h90.1 17 5).toInt := by rw [(f101 17 (by decide)).1]
                    have s103 : (h97.1 17 6).toInt = (h90.1 17 6).toInt := by rw [(f101 17 (by decide)).1]
                    have s104 : (h97.1 87 7).toInt = (h90.1 87 7).toInt := by rw [(f101 87 (by decide)).1]
                    show RUN d_X3_list 101 [(5, .inl x49), (4, .inl x34), (3, .inl x33), (2, .inl (h.1 17 5)), (0, .inr (.inr (.inl 87))), (1, .inr (.inr (.inl 16)))] [.inl x99] h97 _
                    refine R_istore_n (k := 3) rfl [(3, .inl x99), (5, .inl x49), (4, .inl x34), (2, .inl (h.1 17 5)), (0, .inr (.inr (.inl 87))), (1, .inr (.inr (.inl 16)))] rfl rfl (by decide) ?_
                    refine N_iinc (a := x34.toInt) (c := 1) (fun w => [(4, .inl w), (3, .inl x99), (5, .inl x49), (2, .inl (h.1 17 5)), (0, .inr (.inr (.inl 87))), (1, .inr (.inr (.inl 16)))]) rfl rfl (fun _ => rfl) (by decide) rfl (by decide) (by omega) (fun x105 q106 => ?_)
                    refine R_goto 53 rfl rfl ?_
                    exact RUN_weak (psub_cons rfl (psub_cons rfl (psub_cons rfl (psub_cons rfl (psub_cons rfl (psub_nil _)))))) (ih35 h97 x99 x105 hI fr fl32 (by omega) (by omega) trivial (by omega))
                  · have f107 := fj
                    have fr := fr.trans fj (by decide)
                    have hI := hJ
                    have fl32 : FR [87, 88, 89, 90] h23 h97 := fl32.trans fj (by decide)
                    have fl5 : FR [87, 88, 89, 90] h h97 := fl5.trans fj (by decide)
                    have s108 : (h97.1 17 5).toInt = (h90.1 17 5).toInt := by rw [(f107 17 (by decide)).1]
                    have s109 : (h97.1 17 6).toInt = (h90.1 17 6).toInt := by rw [(f107 17 (by decide)).1]
                    have s110 : (h97.1 87 7).toInt = (h90.1 87 7).toInt := by rw [(f107 87 (by decide)).1]
                    show RUN d_X3_list 101 [(5, .inl x49), (4, .inl x34), (3, .inl x33), (2, .inl (h.1 17 5)), (0, .inr (.inr (.inl 87))), (1, .inr (.inr (.inl 16)))] [.inl x99] h97 _
                    refine R_istore_n (k := 3) rfl [(3, .inl x99), (5, .inl x49), (4, .inl x34), (2, .inl (h.1 17 5)), (0, .inr (.inr (.inl 87))), (1, .inr (.inr (.inl 16)))] rfl rfl (by decide) ?_
                    refine N_iinc (a := x34.toInt) (c := 1) (fun w => [(4, .inl w), (3, .inl x99), (5, .inl x49), (2, .inl (h.1 17 5)), (0, .inr (.inr (.inl 87))), (1, .inr (.inr (.inl 16)))]) rfl rfl (fun _ => rfl) (by decide) rfl (by decide) (by omega) (fun x111 q112 => ?_)
                    refine R_goto 53 rfl rfl ?_
                    exact RUN_weak (psub_cons rfl (psub_cons rfl (psub_cons rfl (psub_cons rfl (psub_cons rfl (psub_nil _)))))) (ih35 h97 x99 x111 hI fr fl32 (by omega) (by omega) trivial (by omega))
                  · have f113 := fj
                    have fr := fr.trans fj (by decide)
                    have hI := hJ
                    have fl32 : FR [87, 88, 89, 90] h23 h97 := fl32.trans fj (by decide)
                    have fl5 : FR [87, 88, 89, 90] h h97 := fl5.trans fj (by decide)
                    have s114 : (h97.1 17 5).toInt = (h90.1 17 5).toInt := by rw [(f113 17 (by decide)).1]
                    have s115 : (h97.1 17 6).toInt = (h90.1 17 6).toInt := by rw [(f113 17 (by decide)).1]
                    have s116 : (h97.1 87 7).toInt = (h90.1 87 7).toInt := by rw [(f113 87 (by decide)).1]
                    show RUN d_X3_list 101 [(5, .inl x49), (4, .inl x34), (3, .inl x33), (2, .inl (h.1 17 5)), (0, .inr (.inr (.inl 87))), (1, .inr (.inr (.inl 16)))] [.inl x99] h97 _
                    refine R_istore_n (k := 3) rfl [(3, .inl x99), (5, .inl x49), (4, .inl x34), (2, .inl (h.1 17 5)), (0, .inr (.inr (.inl 87))), (1, .inr (.inr (.inl 16)))] rfl rfl (by decide) ?_
                    refine N_iinc (a := x34.toInt) (c := 1) (fun w => [(4, .inl w), (3, .inl x99), (5, .inl x49), (2, .inl (h.1 17 5)), (0, .inr (.inr (.inl 87))), (1, .inr (.inr (.inl 16)))]) rfl rfl (fun _ => rfl) (by decide) rfl (by decide) (by omega) (fun x117 q118 => ?_)
                    refine R_goto 53 rfl rfl ?_
                    exact RUN_weak (psub_cons rfl (psub_cons rfl (psub_cons rfl (psub_cons rfl (psub_cons rfl (psub_nil _)))))) (ih35 h97 x99 x117 hI fr fl32 (by omega) (by omega) trivial (by omega))
        exact lp30 _ h23 (1 : Int32) (0 : Int32) hI fr (FR.rf _ _) (by decide) (by decide) trivial (Nat.lt_succ_self _)
      · refine R_aload_n (k := 0) rfl rfl rfl ?_
        refine R_getf_r (j := 0) rfl ft_3_9 sh_87 rfl ?_
        refine R_iload_n (k := 3) rfl rfl rfl ?_
        refine R_iload_n (k := 3) rfl rfl rfl ?_
        refine K_iast (a := x6.toInt) (lo := 0) (hi' := 5) rfl sh_88 rfl ⟨by omega, by omega⟩ hI (by decide) rfl (by omega) fr (by decide) (fun h119 g120 hI fr => ?_)
        have fl5 : FR [87, 88, 89, 90] h h119 := by rw [g120]; exact FR_wI _ _ fl5 (by decide)
        have s121 : (h119.1 17 5).toInt = (h4.1 17 5).toInt := by rw [g120, wI_ne _ _ _ (by decide)]
        refine N_iinc (a := x6.toInt) (c := 1) (fun w => [(3, .inl w), (2, .inl (h.1 17 5)), (0, .inr (.inr (.inl 87))), (1, .inr (.inr (.inl 16)))]) rfl rfl (fun _ => rfl) (by decide) rfl (by decide) (by omega) (fun x122 q123 => ?_)
        refine R_goto 9 rfl rfl ?_
        exact RUN_weak (psub_cons rfl (psub_cons rfl (psub_cons rfl (psub_cons rfl (psub_nil _))))) (ih7 h119 x122 hI fr fl5 (by omega) (by omega))
  exact lp3 _ h (0 : Int32) hI fr (FR.rf _ _) (by decide) (Nat.lt_succ_self _)
