abbrev q_X4_isWord (h : PH)  : Option PV → PH → Prop := fun r h' => h = h' ∧ ∃ z : Int32, r = some (.inl z) ∧ ((z.toInt = 0) ∨ (z.toInt = 1 ∧ (h.1 1 3).toInt = 0) ∨ (z.toInt = 0 ∧ (h.1 1 3).toInt = 0))
set_option maxHeartbeats 4000000 in
set_option maxRecDepth 100000 in
theorem k_X4_isWord (h : PH) (hI : INV h)  : CALL d_X4_isWord [.inr (.inr (.inl 1)), .inr (.inr (.inr 7))] h (q_X4_isWord h) := by
  show RUN d_X4_isWord 0 [(0, .inr (.inr (.inl 1))), (1, .inr (.inr (.inr 7)))] [] h _
  refine R_aload_n (k := 0) rfl rfl rfl ?_
  refine R_getf_i (j := 3) rfl ft_4_25 sh_1 rfl ?_
  refine N_if_ne (a := (h.1 1 3).toInt) 23 rfl rfl rfl (fun c1 => ?_) (fun c1 => ?_)
  · refine R_iconst 0 rfl rfl ?_
    exact R_iret rfl rfl rfl ⟨rfl, _, rfl, by rw [show (0 : Int32).toInt = 0 from rfl] <;> omega⟩
  · refine R_aload_n (k := 0) rfl rfl rfl ?_
    refine R_getf_i (j := 5) rfl ft_4_31 sh_1 rfl ?_
    refine R_aload_n (k := 0) rfl rfl rfl ?_
    refine R_getf_i (j := 4) rfl ft_4_28 sh_1 rfl ?_
    have b2 := i_rng (h.1 1 5)
    have b3 := i_rng (h.1 1 4)
    refine R_isub rfl ?_
    refine N_any (fun x4 => ?_)
    refine R_aload_c (k := 1) rfl rfl rfl (by decide) ?_
    refine R_callV (v := .inr (.inr (.inr 7))) (As := []) (rest := [.inl x4]) rfl mt_4_i121 pp_J0_length_8abf5 (by decide) rfl rfl rfl (Nat.le_of_ble_eq_true rfl) (Nat.le_of_ble_eq_true rfl) ((k_J0_length_8abf5 h hI).mono (fun r5 h6 p7 => ?_))
    obtain ⟨rfl, x8, rfl, q9⟩ := p7
    show RUN d_X4_isWord 20 [(0, .inr (.inr (.inl 1))), (1, .inr (.inr (.inr 7)))] [.inl x8, .inl x4] h _
    refine N_icmp_eq (a := x4.toInt) (b := x8.toInt) 25 rfl rfl rfl rfl (fun c10 => ?_) (fun c10 => ?_)
    · refine R_iconst 0 rfl rfl ?_
      refine R_istore_n (k := 2) rfl [(2, .inl 0), (0, .inr (.inr (.inl 1))), (1, .inr (.inr (.inr 7)))] rfl rfl (by decide) ?_
      have lp12 : ∀ (n11 : Nat) (x13 : Int32), 0 ≤ x13.toInt ∧ x13.toInt ≤ 4 → (4 - x13.toInt).toNat < n11 → RUN d_X4_isWord 27 [(2, .inl x13), (0, .inr (.inr (.inl 1))), (1, .inr (.inr (.inr 7)))] [] h (q_X4_isWord h) := by
        intro n11
        induction n11 with
        | zero => intro x13 m15 hz; exact absurd hz (Nat.not_lt_zero _)
        | succ n11 ih14 =>
          intro x13 m15 hz
          refine R_iload_n (k := 2) rfl rfl rfl ?_
          refine R_aload_c (k := 1) rfl rfl rfl (by decide) ?_
          refine R_callV (v := .inr (.inr (.inr 7))) (As := []) (rest := [.inl x13]) rfl mt_4_i121 pp_J0_length_8abf5 (by decide) rfl rfl rfl (Nat.le_of_ble_eq_true rfl) (Nat.le_of_ble_eq_true rfl) ((k_J0_length_8abf5 h hI).mono (fun r16 h17 p18 => ?_))
          obtain ⟨rfl, x19, rfl, q20⟩ := p18
          show RUN d_X4_isWord 32 [(2, .inl x13), (0, .inr (.inr (.inl 1))), (1, .inr (.inr (.inr 7)))] [.inl x19, .inl x13] h _
          refine N_icmp_ge (a := x13.toInt) (b := x19.toInt) 64 rfl rfl rfl rfl (fun c21 => ?_) (fun c21 => ?_)
          · refine R_iconst 1 rfl rfl ?_
            exact R_iret rfl rfl rfl ⟨rfl, _, rfl, by rw [show (1 : Int32).toInt = 1 from rfl] <;> omega⟩
          · refine R_aload_n (k := 0) rfl rfl rfl ?_
            refine R_getf_r (j := 0) rfl ft_4_12 sh_1 rfl ?_
            refine R_aload_n (k := 0) rfl rfl rfl ?_
            refine R_getf_i (j := 4) rfl ft_4_28 sh_1 rfl ?_
            refine R_iload_n (k := 2) rfl rfl rfl ?_
            have b22 := i_rng (h.1 1 4)
            refine R_iadd rfl ?_
            refine N_any (fun x23 => ?_)
            refine R_callV (v := .inr (.inr (.inl 2))) (As := [.inl x23]) (rest := []) rfl mt_4_i127 pp_X7_byteAt (by decide) rfl rfl rfl (Nat.le_of_ble_eq_true rfl) (Nat.le_of_ble_eq_true rfl) ((k_X7_byteAt h hI x23).mono (fun r24 h25 p26 => ?_))
            obtain ⟨rfl, x27, rfl, q28⟩ := p26
            show RUN d_X4_isWord 48 [(2, .inl x13), (0, .inr (.inr (.inl 1))), (1, .inr (.inr (.inr 7)))] [.inl x27] h _
            refine R_aload_c (k := 1) rfl rfl rfl (by decide) ?_
            refine R_iload_n (k := 2) rfl rfl rfl ?_
            refine R_callV (v := .inr (.inr (.inr 7))) (As := [.inl x13]) (rest := [.inl x27]) rfl mt_4_i131 pp_J0_charAt_5068e (by decide) rfl rfl rfl (Nat.le_of_ble_eq_true rfl) (Nat.le_of_ble_eq_true rfl) ((k_J0_charAt_5068e h hI x13 (by omega)).mono (fun r29 h30 p31 => ?_))
            obtain ⟨rfl, x32, rfl, q33⟩ := p31
            show RUN d_X4_isWord 53 [(2, .inl x13), (0, .inr (.inr (.inl 1))), (1, .inr (.inr (.inr 7)))] [.inl x32, .inl x27] h _
            refine N_icmp_eq (a := x27.toInt) (b := x32.toInt) 58 rfl rfl rfl rfl (fun c34 => ?_) (fun c34 => ?_)
            · refine N_iinc (a := x13.toInt) (c := 1) (fun w => [(2, .inl w), (0, .inr (.inr (.inl 1))), (1, .inr (.inr (.inr 7)))]) rfl rfl (fun _ => rfl) (by decide) rfl (by decide) (by omega) (fun x35 q36 => ?_)
              refine R_goto 27 rfl rfl ?_
              exact RUN_weak (psub_cons rfl (psub_cons rfl (psub_cons rfl (psub_nil _)))) (ih14 x35 (by omega) (by omega))
            · refine R_iconst 0 rfl rfl ?_
              exact R_iret rfl rfl rfl ⟨rfl, _, rfl, by rw [show (0 : Int32).toInt = 0 from rfl] <;> omega⟩
      exact lp12 _ (0 : Int32) (by decide) (Nat.lt_succ_self _)
    · refine R_iconst 0 rfl rfl ?_
      exact R_iret rfl rfl rfl ⟨rfl, _, rfl, by rw [show (0 : Int32).toInt = 0 from rfl] <;> omega⟩
abbrev q_X4_isWord_6 (h : PH)  : Option PV → PH → Prop := fun r h' => h = h' ∧ ∃ z : Int32, r = some (.inl z) ∧ ((z.toInt = 0) ∨ (z.toInt = 1 ∧ (h.1 1 3).toInt = 0) ∨ (z.toInt = 0 ∧ (h.1 1 3).toInt = 0))
set_option maxHeartbeats 4000000 in
set_option maxRecDepth 100000 in
theorem k_X4_isWord_6 (h : PH) (hI : INV h)  : CALL d_X4_isWord [.inr (.inr (.inl 1)), .inr (.inr (.inr 8))] h (q_X4_isWord_6 h) := by
  show RUN d_X4_isWord 0 [(0, .inr (.inr (.inl 1))), (1, .inr (.inr (.inr 8)))] [] h _
  refine R_aload_n (k := 0) rfl rfl rfl ?_
  refine R_getf_i (j := 3) rfl ft_4_25 sh_1 rfl ?_
  refine N_if_ne (a := (h.1 1 3).toInt) 23 rfl rfl rfl (fun c1 => ?_) (fun c1 => ?_)
  · refine R_iconst 0 rfl rfl ?_
    exact R_iret rfl rfl rfl ⟨rfl, _, rfl, by rw [show (0 : Int32).toInt = 0 from rfl] <;> omega⟩
  · refine R_aload_n (k := 0) rfl rfl rfl ?_
    refine R_getf_i (j := 5) rfl ft_4_31 sh_1 rfl ?_
    refine R_aload_n (k := 0) rfl rfl rfl ?_
    refine R_getf_i (j := 4) rfl ft_4_28 sh_1 rfl ?_
    have b2 := i_rng (h.1 1 5)
    have b3 := i_rng (h.1 1 4)
    refine R_isub rfl ?_
    refine N_any (fun x4 => ?_)
    refine R_aload_c (k := 1) rfl rfl rfl (by decide) ?_
    refine R_callV (v := .inr (.inr (.inr 8))) (As := []) (rest := [.inl x4]) rfl mt_4_i121 pp_J0_length_8abf5 (by decide) rfl rfl rfl (Nat.le_of_ble_eq_true rfl) (Nat.le_of_ble_eq_true rfl) ((k_J0_length_8abf5_6 h hI).mono (fun r5 h6 p7 => ?_))
    obtain ⟨rfl, x8, rfl, q9⟩ := p7
    show RUN d_X4_isWord 20 [(0, .inr (.inr (.inl 1))), (1, .inr (.inr (.inr 8)))] [.inl x8, .inl x4] h _
    refine N_icmp_eq (a := x4.toInt) (b := x8.toInt) 25 rfl rfl rfl rfl (fun c10 => ?_) (fun c10 => ?_)
    · refine R_iconst 0 rfl rfl ?_
      refine R_istore_n (k := 2) rfl [(2, .inl 0), (0, .inr (.inr (.inl 1))), (1, .inr (.inr (.inr 8)))] rfl rfl (by decide) ?_
      have lp12 : ∀ (n11 : Nat) (x13 : Int32), 0 ≤ x13.toInt ∧ x13.toInt ≤ 4 → (4 - x13.toInt).toNat < n11 → RUN d_X4_isWord 27 [(2, .inl x13), (0, .inr (.inr (.inl 1))), (1, .inr (.inr (.inr 8)))] [] h (q_X4_isWord_6 h) := by
        intro n11
        induction n11 with
        | zero => intro x13 m15 hz; exact absurd hz (Nat.not_lt_zero _)
        | succ n11 ih14 =>
          intro x13 m15 hz
          refine R_iload_n (k := 2) rfl rfl rfl ?_
          refine R_aload_c (k := 1) rfl rfl rfl (by decide) ?_
          refine R_callV (v := .inr (.inr (.inr 8))) (As := []) (rest := [.inl x13]) rfl mt_4_i121 pp_J0_length_8abf5 (by decide) rfl rfl rfl (Nat.le_of_ble_eq_true rfl) (Nat.le_of_ble_eq_true rfl) ((k_J0_length_8abf5_6 h hI).mono (fun r16 h17 p18 => ?_))
          obtain ⟨rfl, x19, rfl, q20⟩ := p18
          show RUN d_X4_isWord 32 [(2, .inl x13), (0, .inr (.inr (.inl 1))), (1, .inr (.inr (.inr 8)))] [.inl x19, .inl x13] h _
          refine N_icmp_ge (a := x13.toInt) (b := x19.toInt) 64 rfl rfl rfl rfl (fun c21 => ?_) (fun c21 => ?_)
          · refine R_iconst 1 rfl rfl ?_
            exact R_iret rfl rfl rfl ⟨rfl, _, rfl, by rw [show (1 : Int32).toInt = 1 from rfl] <;> omega⟩
          · refine R_aload_n (k := 0) rfl rfl rfl ?_
            refine R_getf_r (j := 0) rfl ft_4_12 sh_1 rfl ?_
            refine R_aload_n (k := 0) rfl rfl rfl ?_
            refine R_getf_i (j := 4) rfl ft_4_28 sh_1 rfl ?_
            refine R_iload_n (k := 2) rfl rfl rfl ?_
            have b22 := i_rng (h.1 1 4)
            refine R_iadd rfl ?_
            refine N_any (fun x23 => ?_)
            refine R_callV (v := .inr (.inr (.inl 2))) (As := [.inl x23]) (rest := []) rfl mt_4_i127 pp_X7_byteAt (by decide) rfl rfl rfl (Nat.le_of_ble_eq_true rfl) (Nat.le_of_ble_eq_true rfl) ((k_X7_byteAt h hI x23).mono (fun r24 h25 p26 => ?_))
            obtain ⟨rfl, x27, rfl, q28⟩ := p26
            show RUN d_X4_isWord 48 [(2, .inl x13), (0, .inr (.inr (.inl 1))), (1, .inr (.inr (.inr 8)))] [.inl x27] h _
            refine R_aload_c (k := 1) rfl rfl rfl (by decide) ?_
            refine R_iload_n (k := 2) rfl rfl rfl ?_
            refine R_callV (v := .inr (.inr (.inr 8))) (As := [.inl x13]) (rest := [.inl x27]) rfl mt_4_i131 pp_J0_charAt_5068e (by decide) rfl rfl rfl (Nat.le_of_ble_eq_true rfl) (Nat.le_of_ble_eq_true rfl) ((k_J0_charAt_5068e_6 h hI x13 (by omega)).mono (fun r29 h30 p31 => ?_))
            obtain ⟨rfl, x32, rfl, q33⟩ := p31
            show RUN d_X4_isWord 53 [(2, .inl x13), (0, .inr (.inr (.inl 1))), (1, .inr (.inr (.inr 8)))] [.inl x32, .inl x27] h _
            refine N_icmp_eq (a := x27.toInt) (b := x32.toInt) 58 rfl rfl rfl rfl (fun c34 => ?_) (fun c34 => ?_)
            · refine N_iinc (a := x13.toInt) (c := 1) (fun w => [(2, .inl w), (0, .inr (.inr (.inl 1))), (1, .inr (.inr (.inr 8)))]) rfl rfl (fun _ => rfl) (by decide) rfl (by decide) (by omega) (fun x35 q36 => ?_)
              refine R_goto 27 rfl rfl ?_
              exact RUN_weak (psub_cons rfl (psub_cons rfl (psub_cons rfl (psub_nil _)))) (ih14 x35 (by omega) (by omega))
            · refine R_iconst 0 rfl rfl ?_
              exact R_iret rfl rfl rfl ⟨rfl, _, rfl, by rw [show (0 : Int32).toInt = 0 from rfl] <;> omega⟩
      exact lp12 _ (0 : Int32) (by decide) (Nat.lt_succ_self _)
    · refine R_iconst 0 rfl rfl ?_
      exact R_iret rfl rfl rfl ⟨rfl, _, rfl, by rw [show (0 : Int32).toInt = 0 from rfl] <;> omega⟩
abbrev q_X4_isWord_7 (h : PH)  : Option PV → PH → Prop := fun r h' => h = h' ∧ ∃ z : Int32, r = some (.inl z) ∧ ((z.toInt = 0) ∨ (z.toInt = 1 ∧ (h.1 1 3).toInt = 0) ∨ (z.toInt = 0 ∧ (h.1 1 3).toInt = 0))
set_option maxHeartbeats 4000000 in
set_option maxRecDepth 100000 in
theorem k_X4_isWord_7 (h : PH) (hI : INV h)  : CALL d_X4_isWord [.inr (.inr (.inl 1)), .inr (.inr (.inr 9))] h (q_X4_isWord_7 h) := by
  show RUN d_X4_isWord 0 [(0, .inr (.inr (.inl 1))), (1, .inr (.inr (.inr 9)))] [] h _
  refine R_aload_n (k := 0) rfl rfl rfl ?_
  refine R_getf_i (j := 3) rfl ft_4_25 sh_1 rfl ?_
  refine N_if_ne (a := (h.1 1 3).toInt) 23 rfl rfl rfl (fun c1 => ?_) (fun c1 => ?_)
  · refine R_iconst 0 rfl rfl ?_
    exact R_iret rfl rfl rfl ⟨rfl, _, rfl, by rw [show (0 : Int32).toInt = 0 from rfl] <;> omega⟩
  · refine R_aload_n (k := 0) rfl rfl rfl ?_
    refine R_getf_i (j := 5) rfl ft_4_31 sh_1 rfl ?_
    refine R_aload_n (k := 0) rfl rfl rfl ?_
    refine R_getf_i (j := 4) rfl ft_4_28 sh_1 rfl ?_
    have b2 := i_rng (h.1 1 5)
    have b3 := i_rng (h.1 1 4)
    refine R_isub rfl ?_
    refine N_any (fun x4 => ?_)
    refine R_aload_c (k := 1) rfl rfl rfl (by decide) ?_
    refine R_callV (v := .inr (.inr (.inr 9))) (As := []) (rest := [.inl x4]) rfl mt_4_i121 pp_J0_length_8abf5 (by decide) rfl rfl rfl (Nat.le_of_ble_eq_true rfl) (Nat.le_of_ble_eq_true rfl) ((k_J0_length_8abf5_7 h hI).mono (fun r5 h6 p7 => ?_))
    obtain ⟨rfl, x8, rfl, q9⟩ := p7
    show RUN d_X4_isWord 20 [(0, .inr (.inr (.inl 1))), (1, .inr (.inr (.inr 9)))] [.inl x8, .inl x4] h _
    refine N_icmp_eq (a := x4.toInt) (b := x8.toInt) 25 rfl rfl rfl rfl (fun c10 => ?_) (fun c10 => ?_)
    · refine R_iconst 0 rfl rfl ?_
      refine R_istore_n (k := 2) rfl [(2, .inl 0), (0, .inr (.inr (.inl 1))), (1, .inr (.inr (.inr 9)))] rfl rfl (by decide) ?_
      have lp12 : ∀ (n11 : Nat) (x13 : Int32), 0 ≤ x13.toInt ∧ x13.toInt ≤ 6 → (6 - x13.toInt).toNat < n11 → RUN d_X4_isWord 27 [(2, .inl x13), (0, .inr (.inr (.inl 1))), (1, .inr (.inr (.inr 9)))] [] h (q_X4_isWord_7 h) := by
        intro n11
        induction n11 with
        | zero => intro x13 m15 hz; exact absurd hz (Nat.not_lt_zero _)
        | succ n11 ih14 =>
          intro x13 m15 hz
          refine R_iload_n (k := 2) rfl rfl rfl ?_
          refine R_aload_c (k := 1) rfl rfl rfl (by decide) ?_
          refine R_callV (v := .inr (.inr (.inr 9))) (As := []) (rest := [.inl x13]) rfl mt_4_i121 pp_J0_length_8abf5 (by decide) rfl rfl rfl (Nat.le_of_ble_eq_true rfl) (Nat.le_of_ble_eq_true rfl) ((k_J0_length_8abf5_7 h hI).mono (fun r16 h17 p18 => ?_))
          obtain ⟨rfl, x19, rfl, q20⟩ := p18
          show RUN d_X4_isWord 32 [(2, .inl x13), (0, .inr (.inr (.inl 1))), (1, .inr (.inr (.inr 9)))] [.inl x19, .inl x13] h _
          refine N_icmp_ge (a := x13.toInt) (b := x19.toInt) 64 rfl rfl rfl rfl (fun c21 => ?_) (fun c21 => ?_)
          · refine R_iconst 1 rfl rfl ?_
            exact R_iret rfl rfl rfl ⟨rfl, _, rfl, by rw [show (1 : Int32).toInt = 1 from rfl] <;> omega⟩
          · refine R_aload_n (k := 0) rfl rfl rfl ?_
            refine R_getf_r (j := 0) rfl ft_4_12 sh_1 rfl ?_
            refine R_aload_n (k := 0) rfl rfl rfl ?_
            refine R_getf_i (j := 4) rfl ft_4_28 sh_1 rfl ?_
            refine R_iload_n (k := 2) rfl rfl rfl ?_
            have b22 := i_rng (h.1 1 4)
            refine R_iadd rfl ?_
            refine N_any (fun x23 => ?_)
            refine R_callV (v := .inr (.inr (.inl 2))) (As := [.inl x23]) (rest := []) rfl mt_4_i127 pp_X7_byteAt (by decide) rfl rfl rfl (Nat.le_of_ble_eq_true rfl) (Nat.le_of_ble_eq_true rfl) ((k_X7_byteAt h hI x23).mono (fun r24 h25 p26 => ?_))
            obtain ⟨rfl, x27, rfl, q28⟩ := p26
            show RUN d_X4_isWord 48 [(2, .inl x13), (0, .inr (.inr (.inl 1))), (1, .inr (.inr (.inr 9)))] [.inl x27] h _
            refine R_aload_c (k := 1) rfl rfl rfl (by decide) ?_
            refine R_iload_n (k := 2) rfl rfl rfl ?_
            refine R_callV (v := .inr (.inr (.inr 9))) (As := [.inl x13]) (rest := [.inl x27]) rfl mt_4_i131 pp_J0_charAt_5068e (by decide) rfl rfl rfl (Nat.le_of_ble_eq_true rfl) (Nat.le_of_ble_eq_true rfl) ((k_J0_charAt_5068e_7 h hI x13 (by omega)).mono (fun r29 h30 p31 => ?_))
            obtain ⟨rfl, x32, rfl, q33⟩ := p31
            show RUN d_X4_isWord 53 [(2, .inl x13), (0, .inr (.inr (.inl 1))), (1, .inr (.inr (.inr 9)))] [.inl x32, .inl x27] h _
            refine N_icmp_eq (a := x27.toInt) (b := x32.toInt) 58 rfl rfl rfl rfl (fun c34 => ?_) (fun c34 => ?_)
            · refine N_iinc (a := x13.toInt) (c := 1) (fun w => [(2, .inl w), (0, .inr (.inr (.inl 1))), (1, .inr (.inr (.inr 9)))]) rfl rfl (fun _ => rfl) (by decide) rfl (by decide) (by omega) (fun x35 q36 => ?_)
              refine R_goto 27 rfl rfl ?_
              exact RUN_weak (psub_cons rfl (psub_cons rfl (psub_cons rfl (psub_nil _)))) (ih14 x35 (by omega) (by omega))
            · refine R_iconst 0 rfl rfl ?_
              exact R_iret rfl rfl rfl ⟨rfl, _, rfl, by rw [show (0 : Int32).toInt = 0 from rfl] <;> omega⟩
      exact lp12 _ (0 : Int32) (by decide) (Nat.lt_succ_self _)
    · refine R_iconst 0 rfl rfl ?_
      exact R_iret rfl rfl rfl ⟨rfl, _, rfl, by rw [show (0 : Int32).toInt = 0 from rfl] <;> omega⟩
abbrev q_X4_refuse (h : PH) (a0 : Int32) : Option PV → PH → Prop := fun r h' => INV h' ∧ FR [1] h h' ∧ ((h'.1 1 3).toInt = (h.1 1 3).toInt ∧ (h'.1 1 6).toInt = (h.1 1 6).toInt ∧ (1 ≤ (h'.1 1 1).toInt) ∧ ((h.1 1 1).toInt ≤ (h'.1 1 1).toInt) ∧ True) ∧ r = none
set_option maxHeartbeats 4000000 in
set_option maxRecDepth 100000 in
theorem k_X4_refuse (h : PH) (hI : INV h) (a0 : Int32) (h0a : 1 ≤ a0.toInt ∧ a0.toInt ≤ 3) : CALL d_X4_refuse [.inr (.inr (.inl 1)), .inl a0] h (q_X4_refuse h a0) := by
  show RUN d_X4_refuse 0 [(0, .inr (.inr (.inl 1))), (1, .inl a0)] [] h _
  have fr : FR [1] h h := FR.rf _ _
  have b1 : (0 : Int) ≤ (h.1 1 1).toInt ∧ (h.1 1 1).toInt ≤ 3 := hI.1 1 1
  refine R_aload_n (k := 0) rfl rfl rfl ?_
  refine R_getf_i (j := 1) rfl ft_4_18 sh_1 rfl ?_
  refine N_if_ne (a := (h.1 1 1).toInt) 20 rfl rfl rfl (fun c2 => ?_) (fun c2 => ?_)
  · exact R_vret rfl rfl ⟨hI, fr, ⟨by omega, by omega, by omega, by omega, trivial⟩, rfl⟩
  · refine R_aload_n (k := 0) rfl rfl rfl ?_
    refine R_iload_n (k := 1) rfl rfl rfl ?_
    refine K_putf (j := 1) (lo := 0) (hi' := 3) rfl ft_4_18 sh_1 rfl hI (by decide) rfl (by omega) fr (by decide) (fun h3 g4 hI fr => ?_)
    have s5 : (h3.1 1 3).toInt = (h.1 1 3).toInt := by rw [g4, wI_at (by decide)]
    have s6 : (h3.1 1 6).toInt = (h.1 1 6).toInt := by rw [g4, wI_at (by decide)]
    have s7 : (h3.1 1 2).toInt = (h.1 1 2).toInt := by rw [g4, wI_at (by decide)]
    have s8 : (h3.1 1 1).toInt = a0.toInt := by rw [g4, wI_is]
    refine R_aload_n (k := 0) rfl rfl rfl ?_
    refine R_aload_n (k := 0) rfl rfl rfl ?_
    refine R_getf_i (j := 4) rfl ft_4_28 sh_1 rfl ?_
    refine K_putf (j := 2) (lo := (-2147483648)) (hi' := 2147483647) rfl ft_4_22 sh_1 rfl hI (by decide) rfl (i_rng _) fr (by decide) (fun h9 g10 hI fr => ?_)
    have s11 : (h9.1 1 3).toInt = (h3.1 1 3).toInt := by rw [g10, wI_at (by decide)]
    have s12 : (h9.1 1 6).toInt = (h3.1 1 6).toInt := by rw [g10, wI_at (by decide)]
    have s13 : (h9.1 1 1).toInt = (h3.1 1 1).toInt := by rw [g10, wI_at (by decide)]
    have s14 : (h9.1 1 4).toInt = (h3.1 1 4).toInt := by rw [g10, wI_at (by decide)]
    have s15 : (h9.1 1 2).toInt = (h3.1 1 4).toInt := by rw [g10, wI_is]
    exact R_vret rfl rfl ⟨hI, fr, ⟨by omega, by omega, by omega, by omega, trivial⟩, rfl⟩
abbrev q_X4_takeWord_8 (h : PH)  : Option PV → PH → Prop := fun r h' => INV h' ∧ FR [1] h h' ∧ (((h.1 1 1).toInt ≤ (h'.1 1 1).toInt) ∧ True) ∧ r = none
set_option maxHeartbeats 4000000 in
set_option maxRecDepth 100000 in
theorem k_X4_takeWord_8 (h : PH) (hI : INV h)  : CALL d_X4_takeWord [.inr (.inr (.inl 1)), .inr (.inr (.inr 1))] h (q_X4_takeWord_8 h) := by
  show RUN d_X4_takeWord 0 [(0, .inr (.inr (.inl 1))), (1, .inr (.inr (.inr 1)))] [] h _
  have fr : FR [1] h h := FR.rf _ _
  have b1 : (0 : Int) ≤ (h.1 1 1).toInt ∧ (h.1 1 1).toInt ≤ 3 := hI.1 1 1
  refine R_aload_n (k := 0) rfl rfl rfl ?_
  refine R_aload_c (k := 1) rfl rfl rfl (by decide) ?_
  refine R_callV (v := .inr (.inr (.inl 1))) (As := [.inr (.inr (.inr 1))]) (rest := []) rfl mt_4_i58 pp_X4_isWord (by decide) rfl rfl rfl (Nat.le_of_ble_eq_true rfl) (Nat.le_of_ble_eq_true rfl) ((k_X4_isWord_8 h hI).mono (fun r2 h3 p4 => ?_))
  obtain ⟨rfl, x5, rfl, q6 | q6 | q6⟩ := p4
  · show RUN d_X4_takeWord 5 [(0, .inr (.inr (.inl 1))), (1, .inr (.inr (.inr 1)))] [.inl x5] h _
    refine N_if_eq (a := x5.toInt) 15 rfl rfl rfl (fun c7 => ?_) (fun c7 => ?_)
    · refine R_aload_n (k := 0) rfl rfl rfl ?_
      refine R_iconst 1 rfl rfl ?_
      have k8 : (1 : Int32).toInt = 1 := by decide
      refine R_callV (v := .inr (.inr (.inl 1))) (As := [.inl 1]) (rest := []) rfl mt_4_i99 pp_X4_refuse (by decide) rfl rfl rfl (Nat.le_of_ble_eq_true rfl) (Nat.le_of_ble_eq_true rfl) ((k_X4_refuse h hI (1 : Int32) (by decide)).mono (fun r9 h10 p11 => ?_))
      obtain ⟨hJ, fj, ⟨kp12, kp13, xq14, xq15, -⟩, rfl⟩ := p11
      have f16 := fj
      have fr := fr.trans fj (by decide)
      have hI := hJ
      have b17 : (0 : Int) ≤ (h10.1 1 1).toInt ∧ (h10.1 1 1).toInt ≤ 3 := hI.1 1 1
      show RUN d_X4_takeWord 20 [(0, .inr (.inr (.inl 1))), (1, .inr (.inr (.inr 1)))] [] h10 _
      exact R_vret rfl rfl ⟨hI, fr, ⟨by omega, trivial⟩, rfl⟩
    · exfalso; omega
  · show RUN d_X4_takeWord 5 [(0, .inr (.inr (.inl 1))), (1, .inr (.inr (.inr 1)))] [.inl x5] h _
    refine N_if_eq (a := x5.toInt) 15 rfl rfl rfl (fun c18 => ?_) (fun c18 => ?_)
    · exfalso; omega
    · refine R_aload_n (k := 0) rfl rfl rfl ?_
      refine R_callV (v := .inr (.inr (.inl 1))) (As := []) (rest := []) rfl mt_4_i42 pp_X4_nextToken (by decide) rfl rfl rfl (Nat.le_of_ble_eq_true rfl) (Nat.le_of_ble_eq_true rfl) ((k_X4_nextToken h hI).mono (fun r19 h20 p21 => ?_))
      obtain ⟨hJ, fj, ⟨kp22, kp23, -⟩, rfl⟩ := p21
      have f24 := fj
      have fr := fr.trans fj (by decide)
      have hI := hJ
      show RUN d_X4_takeWord 12 [(0, .inr (.inr (.inl 1))), (1, .inr (.inr (.inr 1)))] [] h20 _
      refine R_goto 20 rfl rfl ?_
      exact R_vret rfl rfl ⟨hI, fr, ⟨by omega, trivial⟩, rfl⟩
  · show RUN d_X4_takeWord 5 [(0, .inr (.inr (.inl 1))), (1, .inr (.inr (.inr 1)))] [.inl x5] h _
    refine N_if_eq (a := x5.toInt) 15 rfl rfl rfl (fun c25 => ?_) (fun c25 => ?_)
    · refine R_aload_n (k := 0) rfl rfl rfl ?_
      refine R_iconst 1 rfl rfl ?_
      have k26 : (1 : Int32).toInt = 1 := by decide
      refine R_callV (v := .inr (.inr (.inl 1))) (As := [.inl 1]) (rest := []) rfl mt_4_i99 pp_X4_refuse (by decide) rfl rfl rfl (Nat.le_of_ble_eq_true rfl) (Nat.le_of_ble_eq_true rfl) ((k_X4_refuse h hI (1 : Int32) (by decide)).mono (fun r27 h28 p29 => ?_))
      obtain ⟨hJ, fj, ⟨kp30, kp31, xq32, xq33, -⟩, rfl⟩ := p29
      have f34 := fj
      have fr := fr.trans fj (by decide)
      have hI := hJ
      have b35 : (0 : Int) ≤ (h28.1 1 1).toInt ∧ (h28.1 1 1).toInt ≤ 3 := hI.1 1 1
      show RUN d_X4_takeWord 20 [(0, .inr (.inr (.inl 1))), (1, .inr (.inr (.inr 1)))] [] h28 _
      exact R_vret rfl rfl ⟨hI, fr, ⟨by omega, trivial⟩, rfl⟩
    · exfalso; omega
abbrev q_X4_takeWord_4 (h : PH)  : Option PV → PH → Prop := fun r h' => INV h' ∧ FR [1] h h' ∧ (((h.1 1 1).toInt ≤ (h'.1 1 1).toInt) ∧ True) ∧ r = none
set_option maxHeartbeats 4000000 in
set_option maxRecDepth 100000 in
theorem k_X4_takeWord_4 (h : PH) (hI : INV h)  : CALL d_X4_takeWord [.inr (.inr (.inl 1)), .inr (.inr (.inr 10))] h (q_X4_takeWord_4 h) := by
  show RUN d_X4_takeWord 0 [(0, .inr (.inr (.inl 1))), (1, .inr (.inr (.inr 10)))] [] h _
  have fr : FR [1] h h := FR.rf _ _
  have b1 : (0 : Int) ≤ (h.1 1 1).toInt ∧ (h.1 1 1).toInt ≤ 3 := hI.1 1 1
  refine R_aload_n (k := 0) rfl rfl rfl ?_
  refine R_aload_c (k := 1) rfl rfl rfl (by decide) ?_
  refine R_callV (v := .inr (.inr (.inl 1))) (As := [.inr (.inr (.inr 10))]) (rest := []) rfl mt_4_i58 pp_X4_isWord (by decide) rfl rfl rfl (Nat.le_of_ble_eq_true rfl) (Nat.le_of_ble_eq_true rfl) ((k_X4_isWord_1 h hI).mono (fun r2 h3 p4 => ?_))
  obtain ⟨rfl, x5, rfl, q6 | q6 | q6⟩ := p4
  · show RUN d_X4_takeWord 5 [(0, .inr (.inr (.inl 1))), (1, .inr (.inr (.inr 10)))] [.inl x5] h _
    refine N_if_eq (a := x5.toInt) 15 rfl rfl rfl (fun c7 => ?_) (fun c7 => ?_)
    · refine R_aload_n (k := 0) rfl rfl rfl ?_
      refine R_iconst 1 rfl rfl ?_
      have k8 : (1 : Int32).toInt = 1 := by decide
      refine R_callV (v := .inr (.inr (.inl 1))) (As := [.inl 1]) (rest := []) rfl mt_4_i99 pp_X4_refuse (by decide) rfl rfl rfl (Nat.le_of_ble_eq_true rfl) (Nat.le_of_ble_eq_true rfl) ((k_X4_refuse h hI (1 : Int32) (by decide)).mono (fun r9 h10 p11 => ?_))
      obtain ⟨hJ, fj, ⟨kp12, kp13, xq14, xq15, -⟩, rfl⟩ := p11
      have f16 := fj
      have fr := fr.trans fj (by decide)
      have hI := hJ
      have b17 : (0 : Int) ≤ (h10.1 1 1).toInt ∧ (h10.1 1 1).toInt ≤ 3 := hI.1 1 1
      show RUN d_X4_takeWord 20 [(0, .inr (.inr (.inl 1))), (1, .inr (.inr (.inr 10)))] [] h10 _
      exact R_vret rfl rfl ⟨hI, fr, ⟨by omega, trivial⟩, rfl⟩
    · exfalso; omega
  · show RUN d_X4_takeWord 5 [(0, .inr (.inr (.inl 1))), (1, .inr (.inr (.inr 10)))] [.inl x5] h _
    refine N_if_eq (a := x5.toInt) 15 rfl rfl rfl (fun c18 => ?_) (fun c18 => ?_)
    · exfalso; omega
    · refine R_aload_n (k := 0) rfl rfl rfl ?_
      refine R_callV (v := .inr (.inr (.inl 1))) (As := []) (rest := []) rfl mt_4_i42 pp_X4_nextToken (by decide) rfl rfl rfl (Nat.le_of_ble_eq_true rfl) (Nat.le_of_ble_eq_true rfl) ((k_X4_nextToken h hI).mono (fun r19 h20 p21 => ?_))
      obtain ⟨hJ, fj, ⟨kp22, kp23, -⟩, rfl⟩ := p21
      have f24 := fj
      have fr := fr.trans fj (by decide)
      have hI := hJ
      show RUN d_X4_takeWord 12 [(0, .inr (.inr (.inl 1))), (1, .inr (.inr (.inr 10)))] [] h20 _
      refine R_goto 20 rfl rfl ?_
      exact R_vret rfl rfl ⟨hI, fr, ⟨by omega, trivial⟩, rfl⟩
  · show RUN d_X4_takeWord 5 [(0, .inr (.inr (.inl 1))), (1, .inr (.inr (.inr 10)))] [.inl x5] h _
    refine N_if_eq (a := x5.toInt) 15 rfl rfl rfl (fun c25 => ?_) (fun c25 => ?_)
    · refine R_aload_n (k := 0) rfl rfl rfl ?_
      refine R_iconst 1 rfl rfl ?_
      have k26 : (1 : Int32).toInt = 1 := by decide
      refine R_callV (v := .inr (.inr (.inl 1))) (As := [.inl 1]) (rest := []) rfl mt_4_i99 pp_X4_refuse (by decide) rfl rfl rfl (Nat.le_of_ble_eq_true rfl) (Nat.le_of_ble_eq_true rfl) ((k_X4_refuse h hI (1 : Int32) (by decide)).mono (fun r27 h28 p29 => ?_))
      obtain ⟨hJ, fj, ⟨kp30, kp31, xq32, xq33, -⟩, rfl⟩ := p29
      have f34 := fj
      have fr := fr.trans fj (by decide)
      have hI := hJ
      have b35 : (0 : Int) ≤ (h28.1 1 1).toInt ∧ (h28.1 1 1).toInt ≤ 3 := hI.1 1 1
      show RUN d_X4_takeWord 20 [(0, .inr (.inr (.inl 1))), (1, .inr (.inr (.inr 10)))] [] h28 _
      exact R_vret rfl rfl ⟨hI, fr, ⟨by omega, trivial⟩, rfl⟩
    · exfalso; omega
abbrev q_X4_takeWord_3 (h : PH)  : Option PV → PH → Prop := fun r h' => INV h' ∧ FR [1] h h' ∧ (((h.1 1 1).toInt ≤ (h'.1 1 1).toInt) ∧ True) ∧ r = none
set_option maxHeartbeats 4000000 in
set_option maxRecDepth 100000 in
theorem k_X4_takeWord_3 (h : PH) (hI : INV h)  : CALL d_X4_takeWord [.inr (.inr (.inl 1)), .inr (.inr (.inr 11))] h (q_X4_takeWord_3 h) := by
  show RUN d_X4_takeWord 0 [(0, .inr (.inr (.inl 1))), (1, .inr (.inr (.inr 11)))] [] h _
  have fr : FR [1] h h := FR.rf _ _
  have b1 : (0 : Int) ≤ (h.1 1 1).toInt ∧ (h.1 1 1).toInt ≤ 3 := hI.1 1 1
  refine R_aload_n (k := 0) rfl rfl rfl ?_
  refine R_aload_c (k := 1) rfl rfl rfl (by decide) ?_
  refine R_callV (v := .inr (.inr (.inl 1))) (As := [.inr (.inr (.inr 11))]) (rest := []) rfl mt_4_i58 pp_X4_isWord (by decide) rfl rfl rfl (Nat.le_of_ble_eq_true rfl) (Nat.le_of_ble_eq_true rfl) ((k_X4_isWord_2 h hI).mono (fun r2 h3 p4 => ?_))
  obtain ⟨rfl, x5, rfl, q6 | q6 | q6⟩ := p4
  · show RUN d_X4_takeWord 5 [(0, .inr (.inr (.inl 1))), (1, .inr (.inr (.inr 11)))] [.inl x5] h _
    refine N_if_eq (a := x5.toInt) 15 rfl rfl rfl (fun c7 => ?_) (fun c7 => ?_)
    · refine R_aload_n (k := 0) rfl rfl rfl ?_
      refine R_iconst 1 rfl rfl ?_
      have k8 : (1 : Int32).toInt = 1 := by decide
      refine R_callV (v := .inr (.inr (.inl 1))) (As := [.inl 1]) (rest := []) rfl mt_4_i99 pp_X4_refuse (by decide) rfl rfl rfl (Nat.le_of_ble_eq_true rfl) (Nat.le_of_ble_eq_true rfl) ((k_X4_refuse h hI (1 : Int32) (by decide)).mono (fun r9 h10 p11 => ?_))
      obtain ⟨hJ, fj, ⟨kp12, kp13, xq14, xq15, -⟩, rfl⟩ := p11
      have f16 := fj
      have fr := fr.trans fj (by decide)
      have hI := hJ
      have b17 : (0 : Int) ≤ (h10.1 1 1).toInt ∧ (h10.1 1 1).toInt ≤ 3 := hI.1 1 1
      show RUN d_X4_takeWord 20 [(0, .inr (.inr (.inl 1))), (1, .inr (.inr (.inr 11)))] [] h10 _
      exact R_vret rfl rfl ⟨hI, fr, ⟨by omega, trivial⟩, rfl⟩
    · exfalso; omega
  · show RUN d_X4_takeWord 5 [(0, .inr (.inr (.inl 1))), (1, .inr (.inr (.inr 11)))] [.inl x5] h _
    refine N_if_eq (a := x5.toInt) 15 rfl rfl rfl (fun c18 => ?_) (fun c18 => ?_)
    · exfalso; omega
    · refine R_aload_n (k := 0) rfl rfl rfl ?_
      refine R_callV (v := .inr (.inr (.inl 1))) (As := []) (rest := []) rfl mt_4_i42 pp_X4_nextToken (by decide) rfl rfl rfl (Nat.le_of_ble_eq_true rfl) (Nat.le_of_ble_eq_true rfl) ((k_X4_nextToken h hI).mono (fun r19 h20 p21 => ?_))
      obtain ⟨hJ, fj, ⟨kp22, kp23, -⟩, rfl⟩ := p21
      have f24 := fj
      have fr := fr.trans fj (by decide)
      have hI := hJ
      show RUN d_X4_takeWord 12 [(0, .inr (.inr (.inl 1))), (1, .inr (.inr (.inr 11)))] [] h20 _
      refine R_goto 20 rfl rfl ?_
      exact R_vret rfl rfl ⟨hI, fr, ⟨by omega, trivial⟩, rfl⟩
  · show RUN d_X4_takeWord 5 [(0, .inr (.inr (.inl 1))), (1, .inr (.inr (.inr 11)))] [.inl x5] h _
    refine N_if_eq (a := x5.toInt) 15 rfl rfl rfl (fun c25 => ?_) (fun c25 => ?_)
    · refine R_aload_n (k := 0) rfl rfl rfl ?_
      refine R_iconst 1 rfl rfl ?_
      have k26 : (1 : Int32).toInt = 1 := by decide
      refine R_callV (v := .inr (.inr (.inl 1))) (As := [.inl 1]) (rest := []) rfl mt_4_i99 pp_X4_refuse (by decide) rfl rfl rfl (Nat.le_of_ble_eq_true rfl) (Nat.le_of_ble_eq_true rfl) ((k_X4_refuse h hI (1 : Int32) (by decide)).mono (fun r27 h28 p29 => ?_))
      obtain ⟨hJ, fj, ⟨kp30, kp31, xq32, xq33, -⟩, rfl⟩ := p29
      have f34 := fj
      have fr := fr.trans fj (by decide)
      have hI := hJ
      have b35 : (0 : Int) ≤ (h28.1 1 1).toInt ∧ (h28.1 1 1).toInt ≤ 3 := hI.1 1 1
      show RUN d_X4_takeWord 20 [(0, .inr (.inr (.inl 1))), (1, .inr (.inr (.inr 11)))] [] h28 _
      exact R_vret rfl rfl ⟨hI, fr, ⟨by omega, trivial⟩, rfl⟩
    · exfalso; omega
abbrev q_X4_takeWord (h : PH)  : Option PV → PH → Prop := fun r h' => INV h' ∧ FR [1] h h' ∧ (((h.1 1 1).toInt ≤ (h'.1 1 1).toInt) ∧ True) ∧ r = none
set_option maxHeartbeats 4000000 in
set_option maxRecDepth 100000 in
theorem k_X4_takeWord (h : PH) (hI : INV h)  : CALL d_X4_takeWord [.inr (.inr (.inl 1)), .inr (.inr (.inr 12))] h (q_X4_takeWord h) := by
  show RUN d_X4_takeWord 0 [(0, .inr (.inr (.inl 1))), (1, .inr (.inr (.inr 12)))] [] h _
  have fr : FR [1] h h := FR.rf _ _
  have b1 : (0 : Int) ≤ (h.1 1 1).toInt ∧ (h.1 1 1).toInt ≤ 3 := hI.1 1 1
  refine R_aload_n (k := 0) rfl rfl rfl ?_
  refine R_aload_c (k := 1) rfl rfl rfl (by decide) ?_
  refine R_callV (v := .inr (.inr (.inl 1))) (As := [.inr (.inr (.inr 12))]) (rest := []) rfl mt_4_i58 pp_X4_isWord (by decide) rfl rfl rfl (Nat.le_of_ble_eq_true rfl) (Nat.le_of_ble_eq_true rfl) ((k_X4_isWord_3 h hI).mono (fun r2 h3 p4 => ?_))
  obtain ⟨rfl, x5, rfl, q6 | q6 | q6⟩ := p4
  · show RUN d_X4_takeWord 5 [(0, .inr (.inr (.inl 1))), (1, .inr (.inr (.inr 12)))] [.inl x5] h _
    refine N_if_eq (a := x5.toInt) 15 rfl rfl rfl (fun c7 => ?_) (fun c7 => ?_)
    · refine R_aload_n (k := 0) rfl rfl rfl ?_
      refine R_iconst 1 rfl rfl ?_
      have k8 : (1 : Int32).toInt = 1 := by decide
      refine R_callV (v := .inr (.inr (.inl 1))) (As := [.inl 1]) (rest := []) rfl mt_4_i99 pp_X4_refuse (by decide) rfl rfl rfl (Nat.le_of_ble_eq_true rfl) (Nat.le_of_ble_eq_true rfl) ((k_X4_refuse h hI (1 : Int32) (by decide)).mono (fun r9 h10 p11 => ?_))
      obtain ⟨hJ, fj, ⟨kp12, kp13, xq14, xq15, -⟩, rfl⟩ := p11
      have f16 := fj
      have fr := fr.trans fj (by decide)
      have hI := hJ
      have b17 : (0 : Int) ≤ (h10.1 1 1).toInt ∧ (h10.1 1 1).toInt ≤ 3 := hI.1 1 1
      show RUN d_X4_takeWord 20 [(0, .inr (.inr (.inl 1))), (1, .inr (.inr (.inr 12)))] [] h10 _
      exact R_vret rfl rfl ⟨hI, fr, ⟨by omega, trivial⟩, rfl⟩
    · exfalso; omega
  · show RUN d_X4_takeWord 5 [(0, .inr (.inr (.inl 1))), (1, .inr (.inr (.inr 12)))] [.inl x5] h _
    refine N_if_eq (a := x5.toInt) 15 rfl rfl rfl (fun c18 => ?_) (fun c18 => ?_)
    · exfalso; omega
    · refine R_aload_n (k := 0) rfl rfl rfl ?_
      refine R_callV (v := .inr (.inr (.inl 1))) (As := []) (rest := []) rfl mt_4_i42 pp_X4_nextToken (by decide) rfl rfl rfl (Nat.le_of_ble_eq_true rfl) (Nat.le_of_ble_eq_true rfl) ((k_X4_nextToken h hI).mono (fun r19 h20 p21 => ?_))
      obtain ⟨hJ, fj, ⟨kp22, kp23, -⟩, rfl⟩ := p21
      have f24 := fj
      have fr := fr.trans fj (by decide)
      have hI := hJ
      show RUN d_X4_takeWord 12 [(0, .inr (.inr (.inl 1))), (1, .inr (.inr (.inr 12)))] [] h20 _
      refine R_goto 20 rfl rfl ?_
      exact R_vret rfl rfl ⟨hI, fr, ⟨by omega, trivial⟩, rfl⟩
  · show RUN d_X4_takeWord 5 [(0, .inr (.inr (.inl 1))), (1, .inr (.inr (.inr 12)))] [.inl x5] h _
    refine N_if_eq (a := x5.toInt) 15 rfl rfl rfl (fun c25 => ?_) (fun c25 => ?_)
    · refine R_aload_n (k := 0) rfl rfl rfl ?_
      refine R_iconst 1 rfl rfl ?_
      have k26 : (1 : Int32).toInt = 1 := by decide
      refine R_callV (v := .inr (.inr (.inl 1))) (As := [.inl 1]) (rest := []) rfl mt_4_i99 pp_X4_refuse (by decide) rfl rfl rfl (Nat.le_of_ble_eq_true rfl) (Nat.le_of_ble_eq_true rfl) ((k_X4_refuse h hI (1 : Int32) (by decide)).mono (fun r27 h28 p29 => ?_))
      obtain ⟨hJ, fj, ⟨kp30, kp31, xq32, xq33, -⟩, rfl⟩ := p29
      have f34 := fj
      have fr := fr.trans fj (by decide)
      have hI := hJ
      have b35 : (0 : Int) ≤ (h28.1 1 1).toInt ∧ (h28.1 1 1).toInt ≤ 3 := hI.1 1 1
      show RUN d_X4_takeWord 20 [(0, .inr (.inr (.inl 1))), (1, .inr (.inr (.inr 12)))] [] h28 _
      exact R_vret rfl rfl ⟨hI, fr, ⟨by omega, trivial⟩, rfl⟩
    · exfalso; omega
abbrev q_X4_takeWord_1 (h : PH)  : Option PV → PH → Prop := fun r h' => INV h' ∧ FR [1] h h' ∧ (((h.1 1 1).toInt ≤ (h'.1 1 1).toInt) ∧ True) ∧ r = none
set_option maxHeartbeats 4000000 in
set_option maxRecDepth 100000 in
theorem k_X4_takeWord_1 (h : PH) (hI : INV h)  : CALL d_X4_takeWord [.inr (.inr (.inl 1)), .inr (.inr (.inr 13))] h (q_X4_takeWord_1 h) := by
  show RUN d_X4_takeWord 0 [(0, .inr (.inr (.inl 1))), (1, .inr (.inr (.inr 13)))] [] h _
  have fr : FR [1] h h := FR.rf _ _
  have b1 : (0 : Int) ≤ (h.1 1 1).toInt ∧ (h.1 1 1).toInt ≤ 3 := hI.1 1 1
  refine R_aload_n (k := 0) rfl rfl rfl ?_
  refine R_aload_c (k := 1) rfl rfl rfl (by decide) ?_
  refine R_callV (v := .inr (.inr (.inl 1))) (As := [.inr (.inr (.inr 13))]) (rest := []) rfl mt_4_i58 pp_X4_isWord (by decide) rfl rfl rfl (Nat.le_of_ble_eq_true rfl) (Nat.le_of_ble_eq_true rfl) ((k_X4_isWord_4 h hI).mono (fun r2 h3 p4 => ?_))
  obtain ⟨rfl, x5, rfl, q6 | q6 | q6⟩ := p4
  · show RUN d_X4_takeWord 5 [(0, .inr (.inr (.inl 1))), (1, .inr (.inr (.inr 13)))] [.inl x5] h _
    refine N_if_eq (a := x5.toInt) 15 rfl rfl rfl (fun c7 => ?_) (fun c7 => ?_)
    · refine R_aload_n (k := 0) rfl rfl rfl ?_
      refine R_iconst 1 rfl rfl ?_
      have k8 : (1 : Int32).toInt = 1 := by decide
      refine R_callV (v := .inr (.inr (.inl 1))) (As := [.inl 1]) (rest := []) rfl mt_4_i99 pp_X4_refuse (by decide) rfl rfl rfl (Nat.le_of_ble_eq_true rfl) (Nat.le_of_ble_eq_true rfl) ((k_X4_refuse h hI (1 : Int32) (by decide)).mono (fun r9 h10 p11 => ?_))
      obtain ⟨hJ, fj, ⟨kp12, kp13, xq14, xq15, -⟩, rfl⟩ := p11
      have f16 := fj
      have fr := fr.trans fj (by decide)
      have hI := hJ
      have b17 : (0 : Int) ≤ (h10.1 1 1).toInt ∧ (h10.1 1 1).toInt ≤ 3 := hI.1 1 1
      show RUN d_X4_takeWord 20 [(0, .inr (.inr (.inl 1))), (1, .inr (.inr (.inr 13)))] [] h10 _
      exact R_vret rfl rfl ⟨hI, fr, ⟨by omega, trivial⟩, rfl⟩
    · exfalso; omega
  · show RUN d_X4_takeWord 5 [(0, .inr (.inr (.inl 1))), (1, .inr (.inr (.inr 13)))] [.inl x5] h _
    refine N_if_eq (a := x5.toInt) 15 rfl rfl rfl (fun c18 => ?_) (fun c18 => ?_)
    · exfalso; omega
    · refine R_aload_n (k := 0) rfl rfl rfl ?_
      refine R_callV (v := .inr (.inr (.inl 1))) (As := []) (rest := []) rfl mt_4_i42 pp_X4_nextToken (by decide) rfl rfl rfl (Nat.le_of_ble_eq_true rfl) (Nat.le_of_ble_eq_true rfl) ((k_X4_nextToken h hI).mono (fun r19 h20 p21 => ?_))
      obtain ⟨hJ, fj, ⟨kp22, kp23, -⟩, rfl⟩ := p21
      have f24 := fj
      have fr := fr.trans fj (by decide)
      have hI := hJ
      show RUN d_X4_takeWord 12 [(0, .inr (.inr (.inl 1))), (1, .inr (.inr (.inr 13)))] [] h20 _
      refine R_goto 20 rfl rfl ?_
      exact R_vret rfl rfl ⟨hI, fr, ⟨by omega, trivial⟩, rfl⟩
  · show RUN d_X4_takeWord 5 [(0, .inr (.inr (.inl 1))), (1, .inr (.inr (.inr 13)))] [.inl x5] h _
    refine N_if_eq (a := x5.toInt) 15 rfl rfl rfl (fun c25 => ?_) (fun c25 => ?_)
    · refine R_aload_n (k := 0) rfl rfl rfl ?_
      refine R_iconst 1 rfl rfl ?_
      have k26 : (1 : Int32).toInt = 1 := by decide
      refine R_callV (v := .inr (.inr (.inl 1))) (As := [.inl 1]) (rest := []) rfl mt_4_i99 pp_X4_refuse (by decide) rfl rfl rfl (Nat.le_of_ble_eq_true rfl) (Nat.le_of_ble_eq_true rfl) ((k_X4_refuse h hI (1 : Int32) (by decide)).mono (fun r27 h28 p29 => ?_))
      obtain ⟨hJ, fj, ⟨kp30, kp31, xq32, xq33, -⟩, rfl⟩ := p29
      have f34 := fj
      have fr := fr.trans fj (by decide)
      have hI := hJ
      have b35 : (0 : Int) ≤ (h28.1 1 1).toInt ∧ (h28.1 1 1).toInt ≤ 3 := hI.1 1 1
      show RUN d_X4_takeWord 20 [(0, .inr (.inr (.inl 1))), (1, .inr (.inr (.inr 13)))] [] h28 _
      exact R_vret rfl rfl ⟨hI, fr, ⟨by omega, trivial⟩, rfl⟩
    · exfalso; omega
abbrev q_X4_takeWord_2 (h : PH)  : Option PV → PH → Prop := fun r h' => INV h' ∧ FR [1] h h' ∧ (((h.1 1 1).toInt ≤ (h'.1 1 1).toInt) ∧ True) ∧ r = none
set_option maxHeartbeats 4000000 in
set_option maxRecDepth 100000 in
theorem k_X4_takeWord_2 (h : PH) (hI : INV h)  : CALL d_X4_takeWord [.inr (.inr (.inl 1)), .inr (.inr (.inr 14))] h (q_X4_takeWord_2 h) := by
  show RUN d_X4_takeWord 0 [(0, .inr (.inr (.inl 1))), (1, .inr (.inr (.inr 14)))] [] h _
  have fr : FR [1] h h := FR.rf _ _
  have b1 : (0 : Int) ≤ (h.1 1 1).toInt ∧ (h.1 1 1).toInt ≤ 3 := hI.1 1 1
  refine R_aload_n (k := 0) rfl rfl rfl ?_
  refine R_aload_c (k := 1) rfl rfl rfl (by decide) ?_
  refine R_callV (v := .inr (.inr (.inl 1))) (As := [.inr (.inr (.inr 14))]) (rest := []) rfl mt_4_i58 pp_X4_isWord (by decide) rfl rfl rfl (Nat.le_of_ble_eq_true rfl) (Nat.le_of_ble_eq_true rfl) ((k_X4_isWord_5 h hI).mono (fun r2 h3 p4 => ?_))
  obtain ⟨rfl, x5, rfl, q6 | q6 | q6⟩ := p4
  · show RUN d_X4_takeWord 5 [(0, .inr (.inr (.inl 1))), (1, .inr (.inr (.inr 14)))] [.inl x5] h _
    refine N_if_eq (a := x5.toInt) 15 rfl rfl rfl (fun c7 => ?_) (fun c7 => ?_)
    · refine R_aload_n (k := 0) rfl rfl rfl ?_
      refine R_iconst 1 rfl rfl ?_
      have k8 : (1 : Int32).toInt = 1 := by decide
      refine R_callV (v := .inr (.inr (.inl 1))) (As := [.inl 1]) (rest := []) rfl mt_4_i99 pp_X4_refuse (by decide) rfl rfl rfl (Nat.le_of_ble_eq_true rfl) (Nat.le_of_ble_eq_true rfl) ((k_X4_refuse h hI (1 : Int32) (by decide)).mono (fun r9 h10 p11 => ?_))
      obtain ⟨hJ, fj, ⟨kp12, kp13, xq14, xq15, -⟩, rfl⟩ := p11
      have f16 := fj
      have fr := fr.trans fj (by decide)
      have hI := hJ
      have b17 : (0 : Int) ≤ (h10.1 1 1).toInt ∧ (h10.1 1 1).toInt ≤ 3 := hI.1 1 1
      show RUN d_X4_takeWord 20 [(0, .inr (.inr (.inl 1))), (1, .inr (.inr (.inr 14)))] [] h10 _
      exact R_vret rfl rfl ⟨hI, fr, ⟨by omega, trivial⟩, rfl⟩
    · exfalso; omega
  · show RUN d_X4_takeWord 5 [(0, .inr (.inr (.inl 1))), (1, .inr (.inr (.inr 14)))] [.inl x5] h _
    refine N_if_eq (a := x5.toInt) 15 rfl rfl rfl (fun c18 => ?_) (fun c18 => ?_)
    · exfalso; omega
    · refine R_aload_n (k := 0) rfl rfl rfl ?_
      refine R_callV (v := .inr (.inr (.inl 1))) (As := []) (rest := []) rfl mt_4_i42 pp_X4_nextToken (by decide) rfl rfl rfl (Nat.le_of_ble_eq_true rfl) (Nat.le_of_ble_eq_true rfl) ((k_X4_nextToken h hI).mono (fun r19 h20 p21 => ?_))
      obtain ⟨hJ, fj, ⟨kp22, kp23, -⟩, rfl⟩ := p21
      have f24 := fj
      have fr := fr.trans fj (by decide)
      have hI := hJ
      show RUN d_X4_takeWord 12 [(0, .inr (.inr (.inl 1))), (1, .inr (.inr (.inr 14)))] [] h20 _
      refine R_goto 20 rfl rfl ?_
      exact R_vret rfl rfl ⟨hI, fr, ⟨by omega, trivial⟩, rfl⟩
  · show RUN d_X4_takeWord 5 [(0, .inr (.inr (.inl 1))), (1, .inr (.inr (.inr 14)))] [.inl x5] h _
    refine N_if_eq (a := x5.toInt) 15 rfl rfl rfl (fun c25 => ?_) (fun c25 => ?_)
    · refine R_aload_n (k := 0) rfl rfl rfl ?_
      refine R_iconst 1 rfl rfl ?_
      have k26 : (1 : Int32).toInt = 1 := by decide
      refine R_callV (v := .inr (.inr (.inl 1))) (As := [.inl 1]) (rest := []) rfl mt_4_i99 pp_X4_refuse (by decide) rfl rfl rfl (Nat.le_of_ble_eq_true rfl) (Nat.le_of_ble_eq_true rfl) ((k_X4_refuse h hI (1 : Int32) (by decide)).mono (fun r27 h28 p29 => ?_))
      obtain ⟨hJ, fj, ⟨kp30, kp31, xq32, xq33, -⟩, rfl⟩ := p29
      have f34 := fj
      have fr := fr.trans fj (by decide)
      have hI := hJ
      have b35 : (0 : Int) ≤ (h28.1 1 1).toInt ∧ (h28.1 1 1).toInt ≤ 3 := hI.1 1 1
      show RUN d_X4_takeWord 20 [(0, .inr (.inr (.inl 1))), (1, .inr (.inr (.inr 14)))] [] h28 _
      exact R_vret rfl rfl ⟨hI, fr, ⟨by omega, trivial⟩, rfl⟩
    · exfalso; omega
abbrev q_X4_takeWord_9 (h : PH)  : Option PV → PH → Prop := fun r h' => INV h' ∧ FR [1] h h' ∧ (((h.1 1 1).toInt ≤ (h'.1 1 1).toInt) ∧ True) ∧ r = none
set_option maxHeartbeats 4000000 in
set_option maxRecDepth 100000 in
theorem k_X4_takeWord_9 (h : PH) (hI : INV h)  : CALL d_X4_takeWord [.inr (.inr (.inl 1)), .inr (.inr (.inr 2))] h (q_X4_takeWord_9 h) := by
  show RUN d_X4_takeWord 0 [(0, .inr (.inr (.inl 1))), (1, .inr (.inr (.inr 2)))] [] h _
  have fr : FR [1] h h := FR.rf _ _
  have b1 : (0 : Int) ≤ (h.1 1 1).toInt ∧ (h.1 1 1).toInt ≤ 3 := hI.1 1 1
  refine R_aload_n (k := 0) rfl rfl rfl ?_
  refine R_aload_c (k := 1) rfl rfl rfl (by decide) ?_
  refine R_callV (v := .inr (.inr (.inl 1))) (As := [.inr (.inr (.inr 2))]) (rest := []) rfl mt_4_i58 pp_X4_isWord (by decide) rfl rfl rfl (Nat.le_of_ble_eq_true rfl) (Nat.le_of_ble_eq_true rfl) ((k_X4_isWord_9 h hI).mono (fun r2 h3 p4 => ?_))
  obtain ⟨rfl, x5, rfl, q6 | q6 | q6⟩ := p4
  · show RUN d_X4_takeWord 5 [(0, .inr (.inr (.inl 1))), (1, .inr (.inr (.inr 2)))] [.inl x5] h _
    refine N_if_eq (a := x5.toInt) 15 rfl rfl rfl (fun c7 => ?_) (fun c7 => ?_)
    · refine R_aload_n (k := 0) rfl rfl rfl ?_
      refine R_iconst 1 rfl rfl ?_
      have k8 : (1 : Int32).toInt = 1 := by decide
      refine R_callV (v := .inr (.inr (.inl 1))) (As := [.inl 1]) (rest := []) rfl mt_4_i99 pp_X4_refuse (by decide) rfl rfl rfl (Nat.le_of_ble_eq_true rfl) (Nat.le_of_ble_eq_true rfl) ((k_X4_refuse h hI (1 : Int32) (by decide)).mono (fun r9 h10 p11 => ?_))
      obtain ⟨hJ, fj, ⟨kp12, kp13, xq14, xq15, -⟩, rfl⟩ := p11
      have f16 := fj
      have fr := fr.trans fj (by decide)
      have hI := hJ
      have b17 : (0 : Int) ≤ (h10.1 1 1).toInt ∧ (h10.1 1 1).toInt ≤ 3 := hI.1 1 1
      show RUN d_X4_takeWord 20 [(0, .inr (.inr (.inl 1))), (1, .inr (.inr (.inr 2)))] [] h10 _
      exact R_vret rfl rfl ⟨hI, fr, ⟨by omega, trivial⟩, rfl⟩
    · exfalso; omega
  · show RUN d_X4_takeWord 5 [(0, .inr (.inr (.inl 1))), (1, .inr (.inr (.inr 2)))] [.inl x5] h _
    refine N_if_eq (a := x5.toInt) 15 rfl rfl rfl (fun c18 => ?_) (fun c18 => ?_)
    · exfalso; omega
    · refine R_aload_n (k := 0) rfl rfl rfl ?_
      refine R_callV (v := .inr (.inr (.inl 1))) (As := []) (rest := []) rfl mt_4_i42 pp_X4_nextToken (by decide) rfl rfl rfl (Nat.le_of_ble_eq_true rfl) (Nat.le_of_ble_eq_true rfl) ((k_X4_nextToken h hI).mono (fun r19 h20 p21 => ?_))
      obtain ⟨hJ, fj, ⟨kp22, kp23, -⟩, rfl⟩ := p21
      have f24 := fj
      have fr := fr.trans fj (by decide)
      have hI := hJ
      show RUN d_X4_takeWord 12 [(0, .inr (.inr (.inl 1))), (1, .inr (.inr (.inr 2)))] [] h20 _
      refine R_goto 20 rfl rfl ?_
      exact R_vret rfl rfl ⟨hI, fr, ⟨by omega, trivial⟩, rfl⟩
  · show RUN d_X4_takeWord 5 [(0, .inr (.inr (.inl 1))), (1, .inr (.inr (.inr 2)))] [.inl x5] h _
    refine N_if_eq (a := x5.toInt) 15 rfl rfl rfl (fun c25 => ?_) (fun c25 => ?_)
    · refine R_aload_n (k := 0) rfl rfl rfl ?_
      refine R_iconst 1 rfl rfl ?_
      have k26 : (1 : Int32).toInt = 1 := by decide
      refine R_callV (v := .inr (.inr (.inl 1))) (As := [.inl 1]) (rest := []) rfl mt_4_i99 pp_X4_refuse (by decide) rfl rfl rfl (Nat.le_of_ble_eq_true rfl) (Nat.le_of_ble_eq_true rfl) ((k_X4_refuse h hI (1 : Int32) (by decide)).mono (fun r27 h28 p29 => ?_))
      obtain ⟨hJ, fj, ⟨kp30, kp31, xq32, xq33, -⟩, rfl⟩ := p29
      have f34 := fj
      have fr := fr.trans fj (by decide)
      have hI := hJ
      have b35 : (0 : Int) ≤ (h28.1 1 1).toInt ∧ (h28.1 1 1).toInt ≤ 3 := hI.1 1 1
      show RUN d_X4_takeWord 20 [(0, .inr (.inr (.inl 1))), (1, .inr (.inr (.inr 2)))] [] h28 _
      exact R_vret rfl rfl ⟨hI, fr, ⟨by omega, trivial⟩, rfl⟩
    · exfalso; omega
abbrev q_X4_takeWord_10 (h : PH)  : Option PV → PH → Prop := fun r h' => INV h' ∧ FR [1] h h' ∧ (((h.1 1 1).toInt ≤ (h'.1 1 1).toInt) ∧ True) ∧ r = none
set_option maxHeartbeats 4000000 in
set_option maxRecDepth 100000 in
theorem k_X4_takeWord_10 (h : PH) (hI : INV h)  : CALL d_X4_takeWord [.inr (.inr (.inl 1)), .inr (.inr (.inr 3))] h (q_X4_takeWord_10 h) := by
  show RUN d_X4_takeWord 0 [(0, .inr (.inr (.inl 1))), (1, .inr (.inr (.inr 3)))] [] h _
  have fr : FR [1] h h := FR.rf _ _
  have b1 : (0 : Int) ≤ (h.1 1 1).toInt ∧ (h.1 1 1).toInt ≤ 3 := hI.1 1 1
  refine R_aload_n (k := 0) rfl rfl rfl ?_
  refine R_aload_c (k := 1) rfl rfl rfl (by decide) ?_
  refine R_callV (v := .inr (.inr (.inl 1))) (As := [.inr (.inr (.inr 3))]) (rest := []) rfl mt_4_i58 pp_X4_isWord (by decide) rfl rfl rfl (Nat.le_of_ble_eq_true rfl) (Nat.le_of_ble_eq_true rfl) ((k_X4_isWord_10 h hI).mono (fun r2 h3 p4 => ?_))
  obtain ⟨rfl, x5, rfl, q6 | q6 | q6⟩ := p4
  · show RUN d_X4_takeWord 5 [(0, .inr (.inr (.inl 1))), (1, .inr (.inr (.inr 3)))] [.inl x5] h _
    refine N_if_eq (a := x5.toInt) 15 rfl rfl rfl (fun c7 => ?_) (fun c7 => ?_)
    · refine R_aload_n (k := 0) rfl rfl rfl ?_
      refine R_iconst 1 rfl rfl ?_
      have k8 : (1 : Int32).toInt = 1 := by decide
      refine R_callV (v := .inr (.inr (.inl 1))) (As := [.inl 1]) (rest := []) rfl mt_4_i99 pp_X4_refuse (by decide) rfl rfl rfl (Nat.le_of_ble_eq_true rfl) (Nat.le_of_ble_eq_true rfl) ((k_X4_refuse h hI (1 : Int32) (by decide)).mono (fun r9 h10 p11 => ?_))
      obtain ⟨hJ, fj, ⟨kp12, kp13, xq14, xq15, -⟩, rfl⟩ := p11
      have f16 := fj
      have fr := fr.trans fj (by decide)
      have hI := hJ
      have b17 : (0 : Int) ≤ (h10.1 1 1).toInt ∧ (h10.1 1 1).toInt ≤ 3 := hI.1 1 1
      show RUN d_X4_takeWord 20 [(0, .inr (.inr (.inl 1))), (1, .inr (.inr (.inr 3)))] [] h10 _
      exact R_vret rfl rfl ⟨hI, fr, ⟨by omega, trivial⟩, rfl⟩
    · exfalso; omega
  · show RUN d_X4_takeWord 5 [(0, .inr (.inr (.inl 1))), (1, .inr (.inr (.inr 3)))] [.inl x5] h _
    refine N_if_eq (a := x5.toInt) 15 rfl rfl rfl (fun c18 => ?_) (fun c18 => ?_)
    · exfalso; omega
    · refine R_aload_n (k := 0) rfl rfl rfl ?_
      refine R_callV (v := .inr (.inr (.inl 1))) (As := []) (rest := []) rfl mt_4_i42 pp_X4_nextToken (by decide) rfl rfl rfl (Nat.le_of_ble_eq_true rfl) (Nat.le_of_ble_eq_true rfl) ((k_X4_nextToken h hI).mono (fun r19 h20 p21 => ?_))
      obtain ⟨hJ, fj, ⟨kp22, kp23, -⟩, rfl⟩ := p21
      have f24 := fj
      have fr := fr.trans fj (by decide)
      have hI := hJ
      show RUN d_X4_takeWord 12 [(0, .inr (.inr (.inl 1))), (1, .inr (.inr (.inr 3)))] [] h20 _
      refine R_goto 20 rfl rfl ?_
      exact R_vret rfl rfl ⟨hI, fr, ⟨by omega, trivial⟩, rfl⟩
  · show RUN d_X4_takeWord 5 [(0, .inr (.inr (.inl 1))), (1, .inr (.inr (.inr 3)))] [.inl x5] h _
    refine N_if_eq (a := x5.toInt) 15 rfl rfl rfl (fun c25 => ?_) (fun c25 => ?_)
    · refine R_aload_n (k := 0) rfl rfl rfl ?_
      refine R_iconst 1 rfl rfl ?_
      have k26 : (1 : Int32).toInt = 1 := by decide
      refine R_callV (v := .inr (.inr (.inl 1))) (As := [.inl 1]) (rest := []) rfl mt_4_i99 pp_X4_refuse (by decide) rfl rfl rfl (Nat.le_of_ble_eq_true rfl) (Nat.le_of_ble_eq_true rfl) ((k_X4_refuse h hI (1 : Int32) (by decide)).mono (fun r27 h28 p29 => ?_))
      obtain ⟨hJ, fj, ⟨kp30, kp31, xq32, xq33, -⟩, rfl⟩ := p29
      have f34 := fj
      have fr := fr.trans fj (by decide)
      have hI := hJ
      have b35 : (0 : Int) ≤ (h28.1 1 1).toInt ∧ (h28.1 1 1).toInt ≤ 3 := hI.1 1 1
      show RUN d_X4_takeWord 20 [(0, .inr (.inr (.inl 1))), (1, .inr (.inr (.inr 3)))] [] h28 _
      exact R_vret rfl rfl ⟨hI, fr, ⟨by omega, trivial⟩, rfl⟩
    · exfalso; omega
abbrev q_X4_takeWord_11 (h : PH)  : Option PV → PH → Prop := fun r h' => INV h' ∧ FR [1] h h' ∧ (((h.1 1 1).toInt ≤ (h'.1 1 1).toInt) ∧ True) ∧ r = none
set_option maxHeartbeats 4000000 in
set_option maxRecDepth 100000 in
theorem k_X4_takeWord_11 (h : PH) (hI : INV h)  : CALL d_X4_takeWord [.inr (.inr (.inl 1)), .inr (.inr (.inr 4))] h (q_X4_takeWord_11 h) := by
  show RUN d_X4_takeWord 0 [(0, .inr (.inr (.inl 1))), (1, .inr (.inr (.inr 4)))] [] h _
  have fr : FR [1] h h := FR.rf _ _
  have b1 : (0 : Int) ≤ (h.1 1 1).toInt ∧ (h.1 1 1).toInt ≤ 3 := hI.1 1 1
  refine R_aload_n (k := 0) rfl rfl rfl ?_
  refine R_aload_c (k := 1) rfl rfl rfl (by decide) ?_
  refine R_callV (v := .inr (.inr (.inl 1))) (As := [.inr (.inr (.inr 4))]) (rest := []) rfl mt_4_i58 pp_X4_isWord (by decide) rfl rfl rfl (Nat.le_of_ble_eq_true rfl) (Nat.le_of_ble_eq_true rfl) ((k_X4_isWord_11 h hI).mono (fun r2 h3 p4 => ?_))
  obtain ⟨rfl, x5, rfl, q6 | q6 | q6⟩ := p4
  · show RUN d_X4_takeWord 5 [(0, .inr (.inr (.inl 1))), (1, .inr (.inr (.inr 4)))] [.inl x5] h _
    refine N_if_eq (a := x5.toInt) 15 rfl rfl rfl (fun c7 => ?_) (fun c7 => ?_)
    · refine R_aload_n (k := 0) rfl rfl rfl ?_
      refine R_iconst 1 rfl rfl ?_
      have k8 : (1 : Int32).toInt = 1 := by decide
      refine R_callV (v := .inr (.inr (.inl 1))) (As := [.inl 1]) (rest := []) rfl mt_4_i99 pp_X4_refuse (by decide) rfl rfl rfl (Nat.le_of_ble_eq_true rfl) (Nat.le_of_ble_eq_true rfl) ((k_X4_refuse h hI (1 : Int32) (by decide)).mono (fun r9 h10 p11 => ?_))
      obtain ⟨hJ, fj, ⟨kp12, kp13, xq14, xq15, -⟩, rfl⟩ := p11
      have f16 := fj
      have fr := fr.trans fj (by decide)
      have hI := hJ
      have b17 : (0 : Int) ≤ (h10.1 1 1).toInt ∧ (h10.1 1 1).toInt ≤ 3 := hI.1 1 1
      show RUN d_X4_takeWord 20 [(0, .inr (.inr (.inl 1))), (1, .inr (.inr (.inr 4)))] [] h10 _
      exact R_vret rfl rfl ⟨hI, fr, ⟨by omega, trivial⟩, rfl⟩
    · exfalso; omega
  · show RUN d_X4_takeWord 5 [(0, .inr (.inr (.inl 1))), (1, .inr (.inr (.inr 4)))] [.inl x5] h _
    refine N_if_eq (a := x5.toInt) 15 rfl rfl rfl (fun c18 => ?_) (fun c18 => ?_)
    · exfalso; omega
    · refine R_aload_n (k := 0) rfl rfl rfl ?_
      refine R_callV (v := .inr (.inr (.inl 1))) (As := []) (rest := []) rfl mt_4_i42 pp_X4_nextToken (by decide) rfl rfl rfl (Nat.le_of_ble_eq_true rfl) (Nat.le_of_ble_eq_true rfl) ((k_X4_nextToken h hI).mono (fun r19 h20 p21 => ?_))
      obtain ⟨hJ, fj, ⟨kp22, kp23, -⟩, rfl⟩ := p21
      have f24 := fj
      have fr := fr.trans fj (by decide)
      have hI := hJ
      show RUN d_X4_takeWord 12 [(0, .inr (.inr (.inl 1))), (1, .inr (.inr (.inr 4)))] [] h20 _
      refine R_goto 20 rfl rfl ?_
      exact R_vret rfl rfl ⟨hI, fr, ⟨by omega, trivial⟩, rfl⟩
  · show RUN d_X4_takeWord 5 [(0, .inr (.inr (.inl 1))), (1, .inr (.inr (.inr 4)))] [.inl x5] h _
    refine N_if_eq (a := x5.toInt) 15 rfl rfl rfl (fun c25 => ?_) (fun c25 => ?_)
    · refine R_aload_n (k := 0) rfl rfl rfl ?_
      refine R_iconst 1 rfl rfl ?_
      have k26 : (1 : Int32).toInt = 1 := by decide
      refine R_callV (v := .inr (.inr (.inl 1))) (As := [.inl 1]) (rest := []) rfl mt_4_i99 pp_X4_refuse (by decide) rfl rfl rfl (Nat.le_of_ble_eq_true rfl) (Nat.le_of_ble_eq_true rfl) ((k_X4_refuse h hI (1 : Int32) (by decide)).mono (fun r27 h28 p29 => ?_))
      obtain ⟨hJ, fj, ⟨kp30, kp31, xq32, xq33, -⟩, rfl⟩ := p29
      have f34 := fj
      have fr := fr.trans fj (by decide)
      have hI := hJ
      have b35 : (0 : Int) ≤ (h28.1 1 1).toInt ∧ (h28.1 1 1).toInt ≤ 3 := hI.1 1 1
      show RUN d_X4_takeWord 20 [(0, .inr (.inr (.inl 1))), (1, .inr (.inr (.inr 4)))] [] h28 _
      exact R_vret rfl rfl ⟨hI, fr, ⟨by omega, trivial⟩, rfl⟩
    · exfalso; omega
abbrev q_X4_takeWord_12 (h : PH)  : Option PV → PH → Prop := fun r h' => INV h' ∧ FR [1] h h' ∧ (((h.1 1 1).toInt ≤ (h'.1 1 1).toInt) ∧ True) ∧ r = none
set_option maxHeartbeats 4000000 in
set_option maxRecDepth 100000 in
theorem k_X4_takeWord_12 (h : PH) (hI : INV h)  : CALL d_X4_takeWord [.inr (.inr (.inl 1)), .inr (.inr (.inr 5))] h (q_X4_takeWord_12 h) := by
  show RUN d_X4_takeWord 0 [(0, .inr (.inr (.inl 1))), (1, .inr (.inr (.inr 5)))] [] h _
  have fr : FR [1] h h := FR.rf _ _
  have b1 : (0 : Int) ≤ (h.1 1 1).toInt ∧ (h.1 1 1).toInt ≤ 3 := hI.1 1 1
  refine R_aload_n (k := 0) rfl rfl rfl ?_
  refine R_aload_c (k := 1) rfl rfl rfl (by decide) ?_
  refine R_callV (v := .inr (.inr (.inl 1))) (As := [.inr (.inr (.inr 5))]) (rest := []) rfl mt_4_i58 pp_X4_isWord (by decide) rfl rfl rfl (Nat.le_of_ble_eq_true rfl) (Nat.le_of_ble_eq_true rfl) ((k_X4_isWord_12 h hI).mono (fun r2 h3 p4 => ?_))
  obtain ⟨rfl, x5, rfl, q6 | q6 | q6⟩ := p4
  · show RUN d_X4_takeWord 5 [(0, .inr (.inr (.inl 1))), (1, .inr (.inr (.inr 5)))] [.inl x5] h _
    refine N_if_eq (a := x5.toInt) 15 rfl rfl rfl (fun c7 => ?_) (fun c7 => ?_)
    · refine R_aload_n (k := 0) rfl rfl rfl ?_
      refine R_iconst 1 rfl rfl ?_
      have k8 : (1 : Int32).toInt = 1 := by decide
      refine R_callV (v := .inr (.inr (.inl 1))) (As := [.inl 1]) (rest := []) rfl mt_4_i99 pp_X4_refuse (by decide) rfl rfl rfl (Nat.le_of_ble_eq_true rfl) (Nat.le_of_ble_eq_true rfl) ((k_X4_refuse h hI (1 : Int32) (by decide)).mono (fun r9 h10 p11 => ?_))
      obtain ⟨hJ, fj, ⟨kp12, kp13, xq14, xq15, -⟩, rfl⟩ := p11
      have f16 := fj
      have fr := fr.trans fj (by decide)
      have hI := hJ
      have b17 : (0 : Int) ≤ (h10.1 1 1).toInt ∧ (h10.1 1 1).toInt ≤ 3 := hI.1 1 1
      show RUN d_X4_takeWord 20 [(0, .inr (.inr (.inl 1))), (1, .inr (.inr (.inr 5)))] [] h10 _
      exact R_vret rfl rfl ⟨hI, fr, ⟨by omega, trivial⟩, rfl⟩
    · exfalso; omega
  · show RUN d_X4_takeWord 5 [(0, .inr (.inr (.inl 1))), (1, .inr (.inr (.inr 5)))] [.inl x5] h _
    refine N_if_eq (a := x5.toInt) 15 rfl rfl rfl (fun c18 => ?_) (fun c18 => ?_)
    · exfalso; omega
    · refine R_aload_n (k := 0) rfl rfl rfl ?_
      refine R_callV (v := .inr (.inr (.inl 1))) (As := []) (rest := []) rfl mt_4_i42 pp_X4_nextToken (by decide) rfl rfl rfl (Nat.le_of_ble_eq_true rfl) (Nat.le_of_ble_eq_true rfl) ((k_X4_nextToken h hI).mono (fun r19 h20 p21 => ?_))
      obtain ⟨hJ, fj, ⟨kp22, kp23, -⟩, rfl⟩ := p21
      have f24 := fj
      have fr := fr.trans fj (by decide)
      have hI := hJ
      show RUN d_X4_takeWord 12 [(0, .inr (.inr (.inl 1))), (1, .inr (.inr (.inr 5)))] [] h20 _
      refine R_goto 20 rfl rfl ?_
      exact R_vret rfl rfl ⟨hI, fr, ⟨by omega, trivial⟩, rfl⟩
  · show RUN d_X4_takeWord 5 [(0, .inr (.inr (.inl 1))), (1, .inr (.inr (.inr 5)))] [.inl x5] h _
    refine N_if_eq (a := x5.toInt) 15 rfl rfl rfl (fun c25 => ?_) (fun c25 => ?_)
    · refine R_aload_n (k := 0) rfl rfl rfl ?_
      refine R_iconst 1 rfl rfl ?_
      have k26 : (1 : Int32).toInt = 1 := by decide
      refine R_callV (v := .inr (.inr (.inl 1))) (As := [.inl 1]) (rest := []) rfl mt_4_i99 pp_X4_refuse (by decide) rfl rfl rfl (Nat.le_of_ble_eq_true rfl) (Nat.le_of_ble_eq_true rfl) ((k_X4_refuse h hI (1 : Int32) (by decide)).mono (fun r27 h28 p29 => ?_))
      obtain ⟨hJ, fj, ⟨kp30, kp31, xq32, xq33, -⟩, rfl⟩ := p29
      have f34 := fj
      have fr := fr.trans fj (by decide)
      have hI := hJ
      have b35 : (0 : Int) ≤ (h28.1 1 1).toInt ∧ (h28.1 1 1).toInt ≤ 3 := hI.1 1 1
      show RUN d_X4_takeWord 20 [(0, .inr (.inr (.inl 1))), (1, .inr (.inr (.inr 5)))] [] h28 _
      exact R_vret rfl rfl ⟨hI, fr, ⟨by omega, trivial⟩, rfl⟩
    · exfalso; omega
abbrev q_X4_takeWord_13 (h : PH)  : Option PV → PH → Prop := fun r h' => INV h' ∧ FR [1] h h' ∧ (((h.1 1 1).toInt ≤ (h'.1 1 1).toInt) ∧ True) ∧ r = none
set_option maxHeartbeats 4000000 in
set_option maxRecDepth 100000 in
theorem k_X4_takeWord_13 (h : PH) (hI : INV h)  : CALL d_X4_takeWord [.inr (.inr (.inl 1)), .inr (.inr (.inr 6))] h (q_X4_takeWord_13 h) := by
  show RUN d_X4_takeWord 0 [(0, .inr (.inr (.inl 1))), (1, .inr (.inr (.inr 6)))] [] h _
  have fr : FR [1] h h := FR.rf _ _
  have b1 : (0 : Int) ≤ (h.1 1 1).toInt ∧ (h.1 1 1).toInt ≤ 3 := hI.1 1 1
  refine R_aload_n (k := 0) rfl rfl rfl ?_
  refine R_aload_c (k := 1) rfl rfl rfl (by decide) ?_
  refine R_callV (v := .inr (.inr (.inl 1))) (As := [.inr (.inr (.inr 6))]) (rest := []) rfl mt_4_i58 pp_X4_isWord (by decide) rfl rfl rfl (Nat.le_of_ble_eq_true rfl) (Nat.le_of_ble_eq_true rfl) ((k_X4_isWord_13 h hI).mono (fun r2 h3 p4 => ?_))
  obtain ⟨rfl, x5, rfl, q6 | q6 | q6⟩ := p4
  · show RUN d_X4_takeWord 5 [(0, .inr (.inr (.inl 1))), (1, .inr (.inr (.inr 6)))] [.inl x5] h _
    refine N_if_eq (a := x5.toInt) 15 rfl rfl rfl (fun c7 => ?_) (fun c7 => ?_)
    · refine R_aload_n (k := 0) rfl rfl rfl ?_
      refine R_iconst 1 rfl rfl ?_
      have k8 : (1 : Int32).toInt = 1 := by decide
      refine R_callV (v := .inr (.inr (.inl 1))) (As := [.inl 1]) (rest := []) rfl mt_4_i99 pp_X4_refuse (by decide) rfl rfl rfl (Nat.le_of_ble_eq_true rfl) (Nat.le_of_ble_eq_true rfl) ((k_X4_refuse h hI (1 : Int32) (by decide)).mono (fun r9 h10 p11 => ?_))
      obtain ⟨hJ, fj, ⟨kp12, kp13, xq14, xq15, -⟩, rfl⟩ := p11
      have f16 := fj
      have fr := fr.trans fj (by decide)
      have hI := hJ
      have b17 : (0 : Int) ≤ (h10.1 1 1).toInt ∧ (h10.1 1 1).toInt ≤ 3 := hI.1 1 1
      show RUN d_X4_takeWord 20 [(0, .inr (.inr (.inl 1))), (1, .inr (.inr (.inr 6)))] [] h10 _
      exact R_vret rfl rfl ⟨hI, fr, ⟨by omega, trivial⟩, rfl⟩
    · exfalso; omega
  · show RUN d_X4_takeWord 5 [(0, .inr (.inr (.inl 1))), (1, .inr (.inr (.inr 6)))] [.inl x5] h _
    refine N_if_eq (a := x5.toInt) 15 rfl rfl rfl (fun c18 => ?_) (fun c18 => ?_)
    · exfalso; omega
    · refine R_aload_n (k := 0) rfl rfl rfl ?_
      refine R_callV (v := .inr (.inr (.inl 1))) (As := []) (rest := []) rfl mt_4_i42 pp_X4_nextToken (by decide) rfl rfl rfl (Nat.le_of_ble_eq_true rfl) (Nat.le_of_ble_eq_true rfl) ((k_X4_nextToken h hI).mono (fun r19 h20 p21 => ?_))
      obtain ⟨hJ, fj, ⟨kp22, kp23, -⟩, rfl⟩ := p21
      have f24 := fj
      have fr := fr.trans fj (by decide)
      have hI := hJ
      show RUN d_X4_takeWord 12 [(0, .inr (.inr (.inl 1))), (1, .inr (.inr (.inr 6)))] [] h20 _
      refine R_goto 20 rfl rfl ?_
      exact R_vret rfl rfl ⟨hI, fr, ⟨by omega, trivial⟩, rfl⟩
  · show RUN d_X4_takeWord 5 [(0, .inr (.inr (.inl 1))), (1, .inr (.inr (.inr 6)))] [.inl x5] h _
    refine N_if_eq (a := x5.toInt) 15 rfl rfl rfl (fun c25 => ?_) (fun c25 => ?_)
    · refine R_aload_n (k := 0) rfl rfl rfl ?_
      refine R_iconst 1 rfl rfl ?_
      have k26 : (1 : Int32).toInt = 1 := by decide
      refine R_callV (v := .inr (.inr (.inl 1))) (As := [.inl 1]) (rest := []) rfl mt_4_i99 pp_X4_refuse (by decide) rfl rfl rfl (Nat.le_of_ble_eq_true rfl) (Nat.le_of_ble_eq_true rfl) ((k_X4_refuse h hI (1 : Int32) (by decide)).mono (fun r27 h28 p29 => ?_))
      obtain ⟨hJ, fj, ⟨kp30, kp31, xq32, xq33, -⟩, rfl⟩ := p29
      have f34 := fj
      have fr := fr.trans fj (by decide)
      have hI := hJ
      have b35 : (0 : Int) ≤ (h28.1 1 1).toInt ∧ (h28.1 1 1).toInt ≤ 3 := hI.1 1 1
      show RUN d_X4_takeWord 20 [(0, .inr (.inr (.inl 1))), (1, .inr (.inr (.inr 6)))] [] h28 _
      exact R_vret rfl rfl ⟨hI, fr, ⟨by omega, trivial⟩, rfl⟩
    · exfalso; omega
abbrev q_X4_takeWord_5 (h : PH)  : Option PV → PH → Prop := fun r h' => INV h' ∧ FR [1] h h' ∧ (((h.1 1 1).toInt ≤ (h'.1 1 1).toInt) ∧ True) ∧ r = none
set_option maxHeartbeats 4000000 in
set_option maxRecDepth 100000 in
theorem k_X4_takeWord_5 (h : PH) (hI : INV h)  : CALL d_X4_takeWord [.inr (.inr (.inl 1)), .inr (.inr (.inr 7))] h (q_X4_takeWord_5 h) := by
  show RUN d_X4_takeWord 0 [(0, .inr (.inr (.inl 1))), (1, .inr (.inr (.inr 7)))] [] h _
  have fr : FR [1] h h := FR.rf _ _
  have b1 : (0 : Int) ≤ (h.1 1 1).toInt ∧ (h.1 1 1).toInt ≤ 3 := hI.1 1 1
  refine R_aload_n (k := 0) rfl rfl rfl ?_
  refine R_aload_c (k := 1) rfl rfl rfl (by decide) ?_
  refine R_callV (v := .inr (.inr (.inl 1))) (As := [.inr (.inr (.inr 7))]) (rest := []) rfl mt_4_i58 pp_X4_isWord (by decide) rfl rfl rfl (Nat.le_of_ble_eq_true rfl) (Nat.le_of_ble_eq_true rfl) ((k_X4_isWord h hI).mono (fun r2 h3 p4 => ?_))
  obtain ⟨rfl, x5, rfl, q6 | q6 | q6⟩ := p4
  · show RUN d_X4_takeWord 5 [(0, .inr (.inr (.inl 1))), (1, .inr (.inr (.inr 7)))] [.inl x5] h _
    refine N_if_eq (a := x5.toInt) 15 rfl rfl rfl (fun c7 => ?_) (fun c7 => ?_)
    · refine R_aload_n (k := 0) rfl rfl rfl ?_
      refine R_iconst 1 rfl rfl ?_
      have k8 : (1 : Int32).toInt = 1 := by decide
      refine R_callV (v := .inr (.inr (.inl 1))) (As := [.inl 1]) (rest := []) rfl mt_4_i99 pp_X4_refuse (by decide) rfl rfl rfl (Nat.le_of_ble_eq_true rfl) (Nat.le_of_ble_eq_true rfl) ((k_X4_refuse h hI (1 : Int32) (by decide)).mono (fun r9 h10 p11 => ?_))
      obtain ⟨hJ, fj, ⟨kp12, kp13, xq14, xq15, -⟩, rfl⟩ := p11
      have f16 := fj
      have fr := fr.trans fj (by decide)
      have hI := hJ
      have b17 : (0 : Int) ≤ (h10.1 1 1).toInt ∧ (h10.1 1 1).toInt ≤ 3 := hI.1 1 1
      show RUN d_X4_takeWord 20 [(0, .inr (.inr (.inl 1))), (1, .inr (.inr (.inr 7)))] [] h10 _
      exact R_vret rfl rfl ⟨hI, fr, ⟨by omega, trivial⟩, rfl⟩
    · exfalso; omega
  · show RUN d_X4_takeWord 5 [(0, .inr (.inr (.inl 1))), (1, .inr (.inr (.inr 7)))] [.inl x5] h _
    refine N_if_eq (a := x5.toInt) 15 rfl rfl rfl (fun c18 => ?_) (fun c18 => ?_)
    · exfalso; omega
    · refine R_aload_n (k := 0) rfl rfl rfl ?_
      refine R_callV (v := .inr (.inr (.inl 1))) (As := []) (rest := []) rfl mt_4_i42 pp_X4_nextToken (by decide) rfl rfl rfl (Nat.le_of_ble_eq_true rfl) (Nat.le_of_ble_eq_true rfl) ((k_X4_nextToken h hI).mono (fun r19 h20 p21 => ?_))
      obtain ⟨hJ, fj, ⟨kp22, kp23, -⟩, rfl⟩ := p21
      have f24 := fj
      have fr := fr.trans fj (by decide)
      have hI := hJ
      show RUN d_X4_takeWord 12 [(0, .inr (.inr (.inl 1))), (1, .inr (.inr (.inr 7)))] [] h20 _
      refine R_goto 20 rfl rfl ?_
      exact R_vret rfl rfl ⟨hI, fr, ⟨by omega, trivial⟩, rfl⟩
  · show RUN d_X4_takeWord 5 [(0, .inr (.inr (.inl 1))), (1, .inr (.inr (.inr 7)))] [.inl x5] h _
    refine N_if_eq (a := x5.toInt) 15 rfl rfl rfl (fun c25 => ?_) (fun c25 => ?_)
    · refine R_aload_n (k := 0) rfl rfl rfl ?_
      refine R_iconst 1 rfl rfl ?_
      have k26 : (1 : Int32).toInt = 1 := by decide
      refine R_callV (v := .inr (.inr (.inl 1))) (As := [.inl 1]) (rest := []) rfl mt_4_i99 pp_X4_refuse (by decide) rfl rfl rfl (Nat.le_of_ble_eq_true rfl) (Nat.le_of_ble_eq_true rfl) ((k_X4_refuse h hI (1 : Int32) (by decide)).mono (fun r27 h28 p29 => ?_))
      obtain ⟨hJ, fj, ⟨kp30, kp31, xq32, xq33, -⟩, rfl⟩ := p29
      have f34 := fj
      have fr := fr.trans fj (by decide)
      have hI := hJ
      have b35 : (0 : Int) ≤ (h28.1 1 1).toInt ∧ (h28.1 1 1).toInt ≤ 3 := hI.1 1 1
      show RUN d_X4_takeWord 20 [(0, .inr (.inr (.inl 1))), (1, .inr (.inr (.inr 7)))] [] h28 _
      exact R_vret rfl rfl ⟨hI, fr, ⟨by omega, trivial⟩, rfl⟩
    · exfalso; omega
abbrev q_X4_takeWord_6 (h : PH)  : Option PV → PH → Prop := fun r h' => INV h' ∧ FR [1] h h' ∧ (((h.1 1 1).toInt ≤ (h'.1 1 1).toInt) ∧ True) ∧ r = none
set_option maxHeartbeats 4000000 in
set_option maxRecDepth 100000 in
theorem k_X4_takeWord_6 (h : PH) (hI : INV h)  : CALL d_X4_takeWord [.inr (.inr (.inl 1)), .inr (.inr (.inr 8))] h (q_X4_takeWord_6 h) := by
  show RUN d_X4_takeWord 0 [(0, .inr (.inr (.inl 1))), (1, .inr (.inr (.inr 8)))] [] h _
  have fr : FR [1] h h := FR.rf _ _
  have b1 : (0 : Int) ≤ (h.1 1 1).toInt ∧ (h.1 1 1).toInt ≤ 3 := hI.1 1 1
  refine R_aload_n (k := 0) rfl rfl rfl ?_
  refine R_aload_c (k := 1) rfl rfl rfl (by decide) ?_
  refine R_callV (v := .inr (.inr (.inl 1))) (As := [.inr (.inr (.inr 8))]) (rest := []) rfl mt_4_i58 pp_X4_isWord (by decide) rfl rfl rfl (Nat.le_of_ble_eq_true rfl) (Nat.le_of_ble_eq_true rfl) ((k_X4_isWord_6 h hI).mono (fun r2 h3 p4 => ?_))
  obtain ⟨rfl, x5, rfl, q6 | q6 | q6⟩ := p4
  · show RUN d_X4_takeWord 5 [(0, .inr (.inr (.inl 1))), (1, .inr (.inr (.inr 8)))] [.inl x5] h _
    refine N_if_eq (a := x5.toInt) 15 rfl rfl rfl (fun c7 => ?_) (fun c7 => ?_)
    · refine R_aload_n (k := 0) rfl rfl rfl ?_
      refine R_iconst 1 rfl rfl ?_
      have k8 : (1 : Int32).toInt = 1 := by decide
      refine R_callV (v := .inr (.inr (.inl 1))) (As := [.inl 1]) (rest := []) rfl mt_4_i99 pp_X4_refuse (by decide) rfl rfl rfl (Nat.le_of_ble_eq_true rfl) (Nat.le_of_ble_eq_true rfl) ((k_X4_refuse h hI (1 : Int32) (by decide)).mono (fun r9 h10 p11 => ?_))
      obtain ⟨hJ, fj, ⟨kp12, kp13, xq14, xq15, -⟩, rfl⟩ := p11
      have f16 := fj
      have fr := fr.trans fj (by decide)
      have hI := hJ
      have b17 : (0 : Int) ≤ (h10.1 1 1).toInt ∧ (h10.1 1 1).toInt ≤ 3 := hI.1 1 1
      show RUN d_X4_takeWord 20 [(0, .inr (.inr (.inl 1))), (1, .inr (.inr (.inr 8)))] [] h10 _
      exact R_vret rfl rfl ⟨hI, fr, ⟨by omega, trivial⟩, rfl⟩
    · exfalso; omega
  · show RUN d_X4_takeWord 5 [(0, .inr (.inr (.inl 1))), (1, .inr (.inr (.inr 8)))] [.inl x5] h _
    refine N_if_eq (a := x5.toInt) 15 rfl rfl rfl (fun c18 => ?_) (fun c18 => ?_)
    · exfalso; omega
    · refine R_aload_n (k := 0) rfl rfl rfl ?_
      refine R_callV (v := .inr (.inr (.inl 1))) (As := []) (rest := []) rfl mt_4_i42 pp_X4_nextToken (by decide) rfl rfl rfl (Nat.le_of_ble_eq_true rfl) (Nat.le_of_ble_eq_true rfl) ((k_X4_nextToken h hI).mono (fun r19 h20 p21 => ?_))
      obtain ⟨hJ, fj, ⟨kp22, kp23, -⟩, rfl⟩ := p21
      have f24 := fj
      have fr := fr.trans fj (by decide)
      have hI := hJ
      show RUN d_X4_takeWord 12 [(0, .inr (.inr (.inl 1))), (1, .inr (.inr (.inr 8)))] [] h20 _
      refine R_goto 20 rfl rfl ?_
      exact R_vret rfl rfl ⟨hI, fr, ⟨by omega, trivial⟩, rfl⟩
  · show RUN d_X4_takeWord 5 [(0, .inr (.inr (.inl 1))), (1, .inr (.inr (.inr 8)))] [.inl x5] h _
    refine N_if_eq (a := x5.toInt) 15 rfl rfl rfl (fun c25 => ?_) (fun c25 => ?_)
    · refine R_aload_n (k := 0) rfl rfl rfl ?_
      refine R_iconst 1 rfl rfl ?_
      have k26 : (1 : Int32).toInt = 1 := by decide
      refine R_callV (v := .inr (.inr (.inl 1))) (As := [.inl 1]) (rest := []) rfl mt_4_i99 pp_X4_refuse (by decide) rfl rfl rfl (Nat.le_of_ble_eq_true rfl) (Nat.le_of_ble_eq_true rfl) ((k_X4_refuse h hI (1 : Int32) (by decide)).mono (fun r27 h28 p29 => ?_))
      obtain ⟨hJ, fj, ⟨kp30, kp31, xq32, xq33, -⟩, rfl⟩ := p29
      have f34 := fj
      have fr := fr.trans fj (by decide)
      have hI := hJ
      have b35 : (0 : Int) ≤ (h28.1 1 1).toInt ∧ (h28.1 1 1).toInt ≤ 3 := hI.1 1 1
      show RUN d_X4_takeWord 20 [(0, .inr (.inr (.inl 1))), (1, .inr (.inr (.inr 8)))] [] h28 _
      exact R_vret rfl rfl ⟨hI, fr, ⟨by omega, trivial⟩, rfl⟩
    · exfalso; omega
abbrev q_X4_takeWord_7 (h : PH)  : Option PV → PH → Prop := fun r h' => INV h' ∧ FR [1] h h' ∧ (((h.1 1 1).toInt ≤ (h'.1 1 1).toInt) ∧ True) ∧ r = none
set_option maxHeartbeats 4000000 in
set_option maxRecDepth 100000 in
theorem k_X4_takeWord_7 (h : PH) (hI : INV h)  : CALL d_X4_takeWord [.inr (.inr (.inl 1)), .inr (.inr (.inr 9))] h (q_X4_takeWord_7 h) := by
  show RUN d_X4_takeWord 0 [(0, .inr (.inr (.inl 1))), (1, .inr (.inr (.inr 9)))] [] h _
  have fr : FR [1] h h := FR.rf _ _
  have b1 : (0 : Int) ≤ (h.1 1 1).toInt ∧ (h.1 1 1).toInt ≤ 3 := hI.1 1 1
  refine R_aload_n (k := 0) rfl rfl rfl ?_
  refine R_aload_c (k := 1) rfl rfl rfl (by decide) ?_
  refine R_callV (v := .inr (.inr (.inl 1))) (As := [.inr (.inr (.inr 9))]) (rest := []) rfl mt_4_i58 pp_X4_isWord (by decide) rfl rfl rfl (Nat.le_of_ble_eq_true rfl) (Nat.le_of_ble_eq_true rfl) ((k_X4_isWord_7 h hI).mono (fun r2 h3 p4 => ?_))
  obtain ⟨rfl, x5, rfl, q6 | q6 | q6⟩ := p4
  · show RUN d_X4_takeWord 5 [(0, .inr (.inr (.inl 1))), (1, .inr (.inr (.inr 9)))] [.inl x5] h _
    refine N_if_eq (a := x5.toInt) 15 rfl rfl rfl (fun c7 => ?_) (fun c7 => ?_)
    · refine R_aload_n (k := 0) rfl rfl rfl ?_
      refine R_iconst 1 rfl rfl ?_
      have k8 : (1 : Int32).toInt = 1 := by decide
      refine R_callV (v := .inr (.inr (.inl 1))) (As := [.inl 1]) (rest := []) rfl mt_4_i99 pp_X4_refuse (by decide) rfl rfl rfl (Nat.le_of_ble_eq_true rfl) (Nat.le_of_ble_eq_true rfl) ((k_X4_refuse h hI (1 : Int32) (by decide)).mono (fun r9 h10 p11 => ?_))
      obtain ⟨hJ, fj, ⟨kp12, kp13, xq14, xq15, -⟩, rfl⟩ := p11
      have f16 := fj
      have fr := fr.trans fj (by decide)
      have hI := hJ
      have b17 : (0 : Int) ≤ (h10.1 1 1).toInt ∧ (h10.1 1 1).toInt ≤ 3 := hI.1 1 1
      show RUN d_X4_takeWord 20 [(0, .inr (.inr (.inl 1))), (1, .inr (.inr (.inr 9)))] [] h10 _
      exact R_vret rfl rfl ⟨hI, fr, ⟨by omega, trivial⟩, rfl⟩
    · exfalso; omega
  · show RUN d_X4_takeWord 5 [(0, .inr (.inr (.inl 1))), (1, .inr (.inr (.inr 9)))] [.inl x5] h _
    refine N_if_eq (a := x5.toInt) 15 rfl rfl rfl (fun c18 => ?_) (fun c18 => ?_)
    · exfalso; omega
    · refine R_aload_n (k := 0) rfl rfl rfl ?_
      refine R_callV (v := .inr (.inr (.inl 1))) (As := []) (rest := []) rfl mt_4_i42 pp_X4_nextToken (by decide) rfl rfl rfl (Nat.le_of_ble_eq_true rfl) (Nat.le_of_ble_eq_true rfl) ((k_X4_nextToken h hI).mono (fun r19 h20 p21 => ?_))
      obtain ⟨hJ, fj, ⟨kp22, kp23, -⟩, rfl⟩ := p21
      have f24 := fj
      have fr := fr.trans fj (by decide)
      have hI := hJ
      show RUN d_X4_takeWord 12 [(0, .inr (.inr (.inl 1))), (1, .inr (.inr (.inr 9)))] [] h20 _
      refine R_goto 20 rfl rfl ?_
      exact R_vret rfl rfl ⟨hI, fr, ⟨by omega, trivial⟩, rfl⟩
  · show RUN d_X4_takeWord 5 [(0, .inr (.inr (.inl 1))), (1, .inr (.inr (.inr 9)))] [.inl x5] h _
    refine N_if_eq (a := x5.toInt) 15 rfl rfl rfl (fun c25 => ?_) (fun c25 => ?_)
    · refine R_aload_n (k := 0) rfl rfl rfl ?_
      refine R_iconst 1 rfl rfl ?_
      have k26 : (1 : Int32).toInt = 1 := by decide
      refine R_callV (v := .inr (.inr (.inl 1))) (As := [.inl 1]) (rest := []) rfl mt_4_i99 pp_X4_refuse (by decide) rfl rfl rfl (Nat.le_of_ble_eq_true rfl) (Nat.le_of_ble_eq_true rfl) ((k_X4_refuse h hI (1 : Int32) (by decide)).mono (fun r27 h28 p29 => ?_))
      obtain ⟨hJ, fj, ⟨kp30, kp31, xq32, xq33, -⟩, rfl⟩ := p29
      have f34 := fj
      have fr := fr.trans fj (by decide)
      have hI := hJ
      have b35 : (0 : Int) ≤ (h28.1 1 1).toInt ∧ (h28.1 1 1).toInt ≤ 3 := hI.1 1 1
      show RUN d_X4_takeWord 20 [(0, .inr (.inr (.inl 1))), (1, .inr (.inr (.inr 9)))] [] h28 _
      exact R_vret rfl rfl ⟨hI, fr, ⟨by omega, trivial⟩, rfl⟩
    · exfalso; omega
abbrev q_X4_takeNumber (h : PH) (a0 : Int32) (a1 : Int32) (a2 : Int32) : Option PV → PH → Prop := fun r h' => INV h' ∧ FR [1] h h' ∧ (((h.1 1 1).toInt ≤ (h'.1 1 1).toInt) ∧ True) ∧ ∃ z : Int32, r = some (.inl z) ∧ (((True)) ∧ ((h'.1 1 1).toInt = 0 → a0.toInt ≤ z.toInt ∧ z.toInt ≤ a1.toInt) ∧ True)
set_option maxHeartbeats 4000000 in
set_option maxRecDepth 100000 in
theorem k_X4_takeNumber (h : PH) (hI : INV h) (a0 : Int32) (a1 : Int32) (a2 : Int32) (h0a : 0 ≤ a0.toInt ∧ a0.toInt ≤ 1) (h1a : (-1) ≤ a1.toInt ∧ a1.toInt ≤ 999) : CALL d_X4_takeNumber [.inr (.inr (.inl 1)), .inl a0, .inl a1, .inl a2] h (q_X4_takeNumber h a0 a1 a2) := by
  show RUN d_X4_takeNumber 0 [(0, .inr (.inr (.inl 1))), (1, .inl a0), (2, .inl a1), (3, .inl a2)] [] h _
  have b1 := i_rng a2
  have fr : FR [1] h h := FR.rf _ _
  have b2 : (0 : Int) ≤ (h.1 1 1).toInt ∧ (h.1 1 1).toInt ≤ 3 := hI.1 1 1
  refine R_aload_n (k := 0) rfl rfl rfl ?_
  refine R_getf_i (j := 3) rfl ft_4_25 sh_1 rfl ?_
  refine R_iconst 1 rfl rfl ?_
  refine N_icmp_eq (a := (h.1 1 3).toInt) (b := 1) 16 rfl rfl rfl (by decide) (fun c3 => ?_) (fun c3 => ?_)
  · refine R_aload_n (k := 0) rfl rfl rfl ?_
    refine R_getf_i (j := 6) rfl ft_4_34 sh_1 rfl ?_
    refine R_iload_n (k := 1) rfl rfl rfl ?_
    refine N_icmp_lt (a := (h.1 1 6).toInt) (b := a0.toInt) 40 rfl rfl rfl rfl (fun c4 => ?_) (fun c4 => ?_)
    · refine R_aload_n (k := 0) rfl rfl rfl ?_
      refine R_iconst 2 rfl rfl ?_
      have k5 : (2 : Int32).toInt = 2 := by decide
      refine R_callV (v := .inr (.inr (.inl 1))) (As := [.inl 2]) (rest := []) rfl mt_4_i99 pp_X4_refuse (by decide) rfl rfl rfl (Nat.le_of_ble_eq_true rfl) (Nat.le_of_ble_eq_true rfl) ((k_X4_refuse h hI (2 : Int32) (by decide)).mono (fun r6 h7 p8 => ?_))
      obtain ⟨hJ, fj, ⟨kp9, kp10, xq11, xq12, -⟩, rfl⟩ := p8
      have f13 := fj
      have fr := fr.trans fj (by decide)
      have hI := hJ
      have b14 : (0 : Int) ≤ (h7.1 1 1).toInt ∧ (h7.1 1 1).toInt ≤ 3 := hI.1 1 1
      show RUN d_X4_takeNumber 45 [(0, .inr (.inr (.inl 1))), (1, .inl a0), (2, .inl a1), (3, .inl a2)] [] h7 _
      refine R_aload_n (k := 0) rfl rfl rfl ?_
      refine R_getf_i (j := 6) rfl ft_4_34 sh_1 rfl ?_
      refine R_istore (k := 4) [(4, .inl (h7.1 1 6)), (0, .inr (.inr (.inl 1))), (1, .inl a0), (2, .inl a1), (3, .inl a2)] rfl rfl (by decide) ?_
      refine R_aload_n (k := 0) rfl rfl rfl ?_
      refine R_callV (v := .inr (.inr (.inl 1))) (As := []) (rest := []) rfl mt_4_i42 pp_X4_nextToken (by decide) rfl rfl rfl (Nat.le_of_ble_eq_true rfl) (Nat.le_of_ble_eq_true rfl) ((k_X4_nextToken h7 hI).mono (fun r15 h16 p17 => ?_))
      obtain ⟨hJ, fj, ⟨kp18, kp19, -⟩, rfl⟩ := p17
      have f20 := fj
      have fr := fr.trans fj (by decide)
      have hI := hJ
      show RUN d_X4_takeNumber 55 [(4, .inl (h7.1 1 6)), (0, .inr (.inr (.inl 1))), (1, .inl a0), (2, .inl a1), (3, .inl a2)] [] h16 _
      refine R_iload (k := 4) rfl rfl ?_
      exact R_iret rfl rfl rfl ⟨hI, fr, ⟨by omega, trivial⟩, _, rfl, ⟨trivial, by omega, trivial⟩⟩
    · refine R_aload_n (k := 0) rfl rfl rfl ?_
      refine R_getf_i (j := 6) rfl ft_4_34 sh_1 rfl ?_
      refine R_iload_n (k := 2) rfl rfl rfl ?_
      refine N_icmp_gt (a := (h.1 1 6).toInt) (b := a1.toInt) 40 rfl rfl rfl rfl (fun c21 => ?_) (fun c21 => ?_)
      · refine R_aload_n (k := 0) rfl rfl rfl ?_
        refine R_iconst 2 rfl rfl ?_
        have k22 : (2 : Int32).toInt = 2 := by decide
        refine R_callV (v := .inr (.inr (.inl 1))) (As := [.inl 2]) (rest := []) rfl mt_4_i99 pp_X4_refuse (by decide) rfl rfl rfl (Nat.le_of_ble_eq_true rfl) (Nat.le_of_ble_eq_true rfl) ((k_X4_refuse h hI (2 : Int32) (by decide)).mono (fun r23 h24 p25 => ?_))
        obtain ⟨hJ, fj, ⟨kp26, kp27, xq28, xq29, -⟩, rfl⟩ := p25
        have f30 := fj
        have fr := fr.trans fj (by decide)
        have hI := hJ
        have b31 : (0 : Int) ≤ (h24.1 1 1).toInt ∧ (h24.1 1 1).toInt ≤ 3 := hI.1 1 1
        show RUN d_X4_takeNumber 45 [(0, .inr (.inr (.inl 1))), (1, .inl a0), (2, .inl a1), (3, .inl a2)] [] h24 _
        refine R_aload_n (k := 0) rfl rfl rfl ?_
        refine R_getf_i (j := 6) rfl ft_4_34 sh_1 rfl ?_
        refine R_istore (k := 4) [(4, .inl (h24.1 1 6)), (0, .inr (.inr (.inl 1))), (1, .inl a0), (2, .inl a1), (3, .inl a2)] rfl rfl (by decide) ?_
        refine R_aload_n (k := 0) rfl rfl rfl ?_
        refine R_callV (v := .inr (.inr (.inl 1))) (As := []) (rest := []) rfl mt_4_i42 pp_X4_nextToken (by decide) rfl rfl rfl (Nat.le_of_ble_eq_true rfl) (Nat.le_of_ble_eq_true rfl) ((k_X4_nextToken h24 hI).mono (fun r32 h33 p34 => ?_))
        obtain ⟨hJ, fj, ⟨kp35, kp36, -⟩, rfl⟩ := p34
        have f37 := fj
        have fr := fr.trans fj (by decide)
        have hI := hJ
        show RUN d_X4_takeNumber 55 [(4, .inl (h24.1 1 6)), (0, .inr (.inr (.inl 1))), (1, .inl a0), (2, .inl a1), (3, .inl a2)] [] h33 _
        refine R_iload (k := 4) rfl rfl ?_
        exact R_iret rfl rfl rfl ⟨hI, fr, ⟨by omega, trivial⟩, _, rfl, ⟨trivial, by omega, trivial⟩⟩
      · refine R_aload_n (k := 0) rfl rfl rfl ?_
        refine R_getf_i (j := 6) rfl ft_4_34 sh_1 rfl ?_
        refine R_iload_n (k := 3) rfl rfl rfl ?_
        refine N_icmp_ne (a := (h.1 1 6).toInt) (b := a2.toInt) 45 rfl rfl rfl rfl (fun c38 => ?_) (fun c38 => ?_)
        · refine R_aload_n (k := 0) rfl rfl rfl ?_
          refine R_getf_i (j := 6) rfl ft_4_34 sh_1 rfl ?_
          refine R_istore (k := 4) [(4, .inl (h.1 1 6)), (0, .inr (.inr (.inl 1))), (1, .inl a0), (2, .inl a1), (3, .inl a2)] rfl rfl (by decide) ?_
          refine R_aload_n (k := 0) rfl rfl rfl ?_
          refine R_callV (v := .inr (.inr (.inl 1))) (As := []) (rest := []) rfl mt_4_i42 pp_X4_nextToken (by decide) rfl rfl rfl (Nat.le_of_ble_eq_true rfl) (Nat.le_of_ble_eq_true rfl) ((k_X4_nextToken h hI).mono (fun r39 h40 p41 => ?_))
          obtain ⟨hJ, fj, ⟨kp42, kp43, -⟩, rfl⟩ := p41
          have f44 := fj
          have fr := fr.trans fj (by decide)
          have hI := hJ
          show RUN d_X4_takeNumber 55 [(4, .inl (h.1 1 6)), (0, .inr (.inr (.inl 1))), (1, .inl a0), (2, .inl a1), (3, .inl a2)] [] h40 _
          refine R_iload (k := 4) rfl rfl ?_
          exact R_iret rfl rfl rfl ⟨hI, fr, ⟨by omega, trivial⟩, _, rfl, ⟨trivial, by omega, trivial⟩⟩
        · refine R_aload_n (k := 0) rfl rfl rfl ?_
          refine R_iconst 2 rfl rfl ?_
          have k45 : (2 : Int32).toInt = 2 := by decide
          refine R_callV (v := .inr (.inr (.inl 1))) (As := [.inl 2]) (rest := []) rfl mt_4_i99 pp_X4_refuse (by decide) rfl rfl rfl (Nat.le_of_ble_eq_true rfl) (Nat.le_of_ble_eq_true rfl) ((k_X4_refuse h hI (2 : Int32) (by decide)).mono (fun r46 h47 p48 => ?_))
          obtain ⟨hJ, fj, ⟨kp49, kp50, xq51, xq52, -⟩, rfl⟩ := p48
          have f53 := fj
          have fr := fr.trans fj (by decide)
          have hI := hJ
          have b54 : (0 : Int) ≤ (h47.1 1 1).toInt ∧ (h47.1 1 1).toInt ≤ 3 := hI.1 1 1
          show RUN d_X4_takeNumber 45 [(0, .inr (.inr (.inl 1))), (1, .inl a0), (2, .inl a1), (3, .inl a2)] [] h47 _
          refine R_aload_n (k := 0) rfl rfl rfl ?_
          refine R_getf_i (j := 6) rfl ft_4_34 sh_1 rfl ?_
          refine R_istore (k := 4) [(4, .inl (h47.1 1 6)), (0, .inr (.inr (.inl 1))), (1, .inl a0), (2, .inl a1), (3, .inl a2)] rfl rfl (by decide) ?_
          refine R_aload_n (k := 0) rfl rfl rfl ?_
          refine R_callV (v := .inr (.inr (.inl 1))) (As := []) (rest := []) rfl mt_4_i42 pp_X4_nextToken (by decide) rfl rfl rfl (Nat.le_of_ble_eq_true rfl) (Nat.le_of_ble_eq_true rfl) ((k_X4_nextToken h47 hI).mono (fun r55 h56 p57 => ?_))
          obtain ⟨hJ, fj, ⟨kp58, kp59, -⟩, rfl⟩ := p57
          have f60 := fj
          have fr := fr.trans fj (by decide)
          have hI := hJ
          show RUN d_X4_takeNumber 55 [(4, .inl (h47.1 1 6)), (0, .inr (.inr (.inl 1))), (1, .inl a0), (2, .inl a1), (3, .inl a2)] [] h56 _
          refine R_iload (k := 4) rfl rfl ?_
          exact R_iret rfl rfl rfl ⟨hI, fr, ⟨by omega, trivial⟩, _, rfl, ⟨trivial, by omega, trivial⟩⟩
  · refine R_aload_n (k := 0) rfl rfl rfl ?_
    refine R_iconst 1 rfl rfl ?_
    have k61 : (1 : Int32).toInt = 1 := by decide
    refine R_callV (v := .inr (.inr (.inl 1))) (As := [.inl 1]) (rest := []) rfl mt_4_i99 pp_X4_refuse (by decide) rfl rfl rfl (Nat.le_of_ble_eq_true rfl) (Nat.le_of_ble_eq_true rfl) ((k_X4_refuse h hI (1 : Int32) (by decide)).mono (fun r62 h63 p64 => ?_))
    obtain ⟨hJ, fj, ⟨kp65, kp66, xq67, xq68, -⟩, rfl⟩ := p64
    have f69 := fj
    have fr := fr.trans fj (by decide)
    have hI := hJ
    have b70 : (0 : Int) ≤ (h63.1 1 1).toInt ∧ (h63.1 1 1).toInt ≤ 3 := hI.1 1 1
    show RUN d_X4_takeNumber 13 [(0, .inr (.inr (.inl 1))), (1, .inl a0), (2, .inl a1), (3, .inl a2)] [] h63 _
    refine R_goto 45 rfl rfl ?_
    refine R_aload_n (k := 0) rfl rfl rfl ?_
    refine R_getf_i (j := 6) rfl ft_4_34 sh_1 rfl ?_
    refine R_istore (k := 4) [(4, .inl (h63.1 1 6)), (0, .inr (.inr (.inl 1))), (1, .inl a0), (2, .inl a1), (3, .inl a2)] rfl rfl (by decide) ?_
    refine R_aload_n (k := 0) rfl rfl rfl ?_
    refine R_callV (v := .inr (.inr (.inl 1))) (As := []) (rest := []) rfl mt_4_i42 pp_X4_nextToken (by decide) rfl rfl rfl (Nat.le_of_ble_eq_true rfl) (Nat.le_of_ble_eq_true rfl) ((k_X4_nextToken h63 hI).mono (fun r71 h72 p73 => ?_))
    obtain ⟨hJ, fj, ⟨kp74, kp75, -⟩, rfl⟩ := p73
    have f76 := fj
    have fr := fr.trans fj (by decide)
    have hI := hJ
    show RUN d_X4_takeNumber 55 [(4, .inl (h63.1 1 6)), (0, .inr (.inr (.inl 1))), (1, .inl a0), (2, .inl a1), (3, .inl a2)] [] h72 _
    refine R_iload (k := 4) rfl rfl ?_
    exact R_iret rfl rfl rfl ⟨hI, fr, ⟨by omega, trivial⟩, _, rfl, ⟨trivial, by omega, trivial⟩⟩
abbrev q_X4_readFirst (h : PH)  : Option PV → PH → Prop := fun r h' => INV h' ∧ FR [1, 5] h h' ∧ ((h'.1 5 10).toInt = (h.1 5 10).toInt ∧ ((h.1 1 1).toInt ≤ (h'.1 1 1).toInt) ∧ ((h'.1 1 1).toInt = 0 → 1 ≤ (h'.1 5 0).toInt ∧ (h'.1 5 0).toInt ≤ 60) ∧ True) ∧ r = none
set_option maxHeartbeats 4000000 in
set_option maxRecDepth 100000 in
theorem k_X4_readFirst (h : PH) (hI : INV h)  : CALL d_X4_readFirst [.inr (.inr (.inl 1)), .inr (.inr (.inl 4))] h (q_X4_readFirst h) := by
  show RUN d_X4_readFirst 0 [(0, .inr (.inr (.inl 1))), (1, .inr (.inr (.inl 4)))] [] h _
  have fr : FR [1, 5] h h := FR.rf _ _
  have b1 : (0 : Int) ≤ (h.1 1 1).toInt ∧ (h.1 1 1).toInt ≤ 3 := hI.1 1 1
  refine R_aload_n (k := 0) rfl rfl rfl ?_
  refine R_ldc_s (i := 0) rfl kt_4_79 ?_
  refine R_callV (v := .inr (.inr (.inl 1))) (As := [.inr (.inr (.inr 1))]) (rest := []) rfl mt_4_i81 pp_X4_takeWord (by decide) rfl rfl rfl (Nat.le_of_ble_eq_true rfl) (Nat.le_of_ble_eq_true rfl) ((k_X4_takeWord_8 h hI).mono (fun r2 h3 p4 => ?_))
  obtain ⟨hJ, fj, ⟨xq5, -⟩, rfl⟩ := p4
  have f6 := fj
  have fr := fr.trans fj (by decide)
  have hI := hJ
  have s7 : (h3.1 5 0).toInt = (h.1 5 0).toInt := by rw [(f6 5 (by decide)).1]
  have s8 : (h3.1 5 10).toInt = (h.1 5 10).toInt := by rw [(f6 5 (by decide)).1]
  have b9 : (0 : Int) ≤ (h3.1 1 1).toInt ∧ (h3.1 1 1).toInt ≤ 3 := hI.1 1 1
  show RUN d_X4_readFirst 6 [(0, .inr (.inr (.inl 1))), (1, .inr (.inr (.inl 4)))] [] h3 _
  refine R_aload_n (k := 0) rfl rfl rfl ?_
  refine R_ldc_s (i := 1) rfl kt_4_85 ?_
  refine R_callV (v := .inr (.inr (.inl 1))) (As := [.inr (.inr (.inr 2))]) (rest := []) rfl mt_4_i81 pp_X4_takeWord (by decide) rfl rfl rfl (Nat.le_of_ble_eq_true rfl) (Nat.le_of_ble_eq_true rfl) ((k_X4_takeWord_9 h3 hI).mono (fun r10 h11 p12 => ?_))
  obtain ⟨hJ, fj, ⟨xq13, -⟩, rfl⟩ := p12
  have f14 := fj
  have fr := fr.trans fj (by decide)
  have hI := hJ
  have s15 : (h11.1 5 0).toInt = (h3.1 5 0).toInt := by rw [(f14 5 (by decide)).1]
  have s16 : (h11.1 5 10).toInt = (h3.1 5 10).toInt := by rw [(f14 5 (by decide)).1]
  have b17 : (0 : Int) ≤ (h11.1 1 1).toInt ∧ (h11.1 1 1).toInt ≤ 3 := hI.1 1 1
  show RUN d_X4_readFirst 12 [(0, .inr (.inr (.inl 1))), (1, .inr (.inr (.inl 4)))] [] h11 _
  refine R_aload_n (k := 1) rfl rfl rfl ?_
  refine R_getf_r (j := 0) rfl ft_4_49 sh_4 rfl ?_
  refine R_iconst 0 rfl rfl ?_
  refine R_aload_n (k := 0) rfl rfl rfl ?_
  refine R_iconst 1 rfl rfl ?_
  refine R_bipush 60 rfl rfl ?_
  refine R_iconst (-1) rfl rfl ?_
  have k18 : (1 : Int32).toInt = 1 := by decide
  have k19 : (60 : Int32).toInt = 60 := by decide
  have k20 : ((-1) : Int32).toInt = (-1) := by decide
  refine R_callV (v := .inr (.inr (.inl 1))) (As := [.inl 1, .inl 60, .inl (-1)]) (rest := [.inl 0, .inr (.inr (.inl 5))]) rfl mt_4_i87 pp_X4_takeNumber (by decide) rfl rfl rfl (Nat.le_of_ble_eq_true rfl) (Nat.le_of_ble_eq_true rfl) ((k_X4_takeNumber h11 hI (1 : Int32) (60 : Int32) ((-1) : Int32) (by decide) (by decide)).mono (fun r21 h22 p23 => ?_))
  obtain ⟨hJ, fj, ⟨xq24, -⟩, x26, rfl, q27, zq25, -⟩ := p23
  have f28 := fj
  have fr := fr.trans fj (by decide)
  have hI := hJ
  have s29 : (h22.1 5 0).toInt = (h11.1 5 0).toInt := by rw [(f28 5 (by decide)).1]
  have s30 : (h22.1 5 10).toInt = (h11.1 5 10).toInt := by rw [(f28 5 (by decide)).1]
  have b31 : (0 : Int) ≤ (h22.1 1 1).toInt ∧ (h22.1 1 1).toInt ≤ 3 := hI.1 1 1
  show RUN d_X4_readFirst 25 [(0, .inr (.inr (.inl 1))), (1, .inr (.inr (.inl 4)))] [.inl x26, .inl 0, .inr (.inr (.inl 5))] h22 _
  refine K_iast (a := 0) (lo := (-2147483648)) (hi' := 2147483647) rfl sh_5 (by decide) (by decide) hI (by decide) rfl (i_rng _) fr (by decide) (fun h32 g33 hI fr => ?_)
  have s34 : (h32.1 5 10).toInt = (h22.1 5 10).toInt := by rw [g33, show (0 : Int32).toNatClampNeg = 0 from rfl, wI_at (by decide)]
  have s35 : (h32.1 1 1).toInt = (h22.1 1 1).toInt := by rw [g33, wI_ne _ _ _ (by decide)]
  have s36 : (h32.1 5 0).toInt = x26.toInt := by rw [g33, show (0 : Int32).toNatClampNeg = 0 from rfl, wI_is]
  refine R_aload_n (k := 0) rfl rfl rfl ?_
  refine R_ldc_s (i := 2) rfl kt_4_91 ?_
  refine R_callV (v := .inr (.inr (.inl 1))) (As := [.inr (.inr (.inr 3))]) (rest := []) rfl mt_4_i81 pp_X4_takeWord (by decide) rfl rfl rfl (Nat.le_of_ble_eq_true rfl) (Nat.le_of_ble_eq_true rfl) ((k_X4_takeWord_10 h32 hI).mono (fun r37 h38 p39 => ?_))
  obtain ⟨hJ, fj, ⟨xq40, -⟩, rfl⟩ := p39
  have f41 := fj
  have fr := fr.trans fj (by decide)
  have hI := hJ
  have s42 : (h38.1 5 10).toInt = (h32.1 5 10).toInt := by rw [(f41 5 (by decide)).1]
  have s43 : (h38.1 5 0).toInt = (h32.1 5 0).toInt := by rw [(f41 5 (by decide)).1]
  have b44 : (0 : Int) ≤ (h38.1 1 1).toInt ∧ (h38.1 1 1).toInt ≤ 3 := hI.1 1 1
  show RUN d_X4_readFirst 32 [(0, .inr (.inr (.inl 1))), (1, .inr (.inr (.inl 4)))] [] h38 _
  refine R_aload_n (k := 1) rfl rfl rfl ?_
  refine R_getf_r (j := 0) rfl ft_4_49 sh_4 rfl ?_
  refine R_iconst 1 rfl rfl ?_
  refine R_aload_n (k := 0) rfl rfl rfl ?_
  refine R_iconst 1 rfl rfl ?_
  refine R_bipush 8 rfl rfl ?_
  refine R_iconst (-1) rfl rfl ?_
  have k45 : (1 : Int32).toInt = 1 := by decide
  have k46 : (8 : Int32).toInt = 8 := by decide
  have k47 : ((-1) : Int32).toInt = (-1) := by decide
  refine R_callV (v := .inr (.inr (.inl 1))) (As := [.inl 1, .inl 8, .inl (-1)]) (rest := [.inl 1, .inr (.inr (.inl 5))]) rfl mt_4_i87 pp_X4_takeNumber (by decide) rfl rfl rfl (Nat.le_of_ble_eq_true rfl) (Nat.le_of_ble_eq_true rfl) ((k_X4_takeNumber h38 hI (1 : Int32) (8 : Int32) ((-1) : Int32) (by decide) (by decide)).mono (fun r48 h49 p50 => ?_))
  obtain ⟨hJ, fj, ⟨xq51, -⟩, x53, rfl, q54, zq52, -⟩ := p50
  have f55 := fj
  have fr := fr.trans fj (by decide)
  have hI := hJ
  have s56 : (h49.1 5 10).toInt = (h38.1 5 10).toInt := by rw [(f55 5 (by decide)).1]
  have s57 : (h49.1 5 0).toInt = (h38.1 5 0).toInt := by rw [(f55 5 (by decide)).1]
  have b58 : (0 : Int) ≤ (h49.1 1 1).toInt ∧ (h49.1 1 1).toInt ≤ 3 := hI.1 1 1
  show RUN d_X4_readFirst 45 [(0, .inr (.inr (.inl 1))), (1, .inr (.inr (.inl 4)))] [.inl x53, .inl 1, .inr (.inr (.inl 5))] h49 _
  refine K_iast (a := 1) (lo := (-2147483648)) (hi' := 2147483647) rfl sh_5 (by decide) (by decide) hI (by decide) rfl (i_rng _) fr (by decide) (fun h59 g60 hI fr => ?_)
  have s61 : (h59.1 5 10).toInt = (h49.1 5 10).toInt := by rw [g60, show (1 : Int32).toNatClampNeg = 1 from rfl, wI_at (by decide)]
  have s62 : (h59.1 5 0).toInt = (h49.1 5 0).toInt := by rw [g60, show (1 : Int32).toNatClampNeg = 1 from rfl, wI_at (by decide)]
  have s63 : (h59.1 1 1).toInt = (h49.1 1 1).toInt := by rw [g60, wI_ne _ _ _ (by decide)]
  have s64 : (h59.1 5 1).toInt = x53.toInt := by rw [g60, show (1 : Int32).toNatClampNeg = 1 from rfl, wI_is]
  refine R_aload_n (k := 0) rfl rfl rfl ?_
  refine R_ldc_s (i := 3) rfl kt_4_93 ?_
  refine R_callV (v := .inr (.inr (.inl 1))) (As := [.inr (.inr (.inr 4))]) (rest := []) rfl mt_4_i81 pp_X4_takeWord (by decide) rfl rfl rfl (Nat.le_of_ble_eq_true rfl) (Nat.le_of_ble_eq_true rfl) ((k_X4_takeWord_11 h59 hI).mono (fun r65 h66 p67 => ?_))
  obtain ⟨hJ, fj, ⟨xq68, -⟩, rfl⟩ := p67
  have f69 := fj
  have fr := fr.trans fj (by decide)
  have hI := hJ
  have s70 : (h66.1 5 10).toInt = (h59.1 5 10).toInt := by rw [(f69 5 (by decide)).1]
  have s71 : (h66.1 5 0).toInt = (h59.1 5 0).toInt := by rw [(f69 5 (by decide)).1]
  have s72 : (h66.1 5 1).toInt = (h59.1 5 1).toInt := by rw [(f69 5 (by decide)).1]
  have b73 : (0 : Int) ≤ (h66.1 1 1).toInt ∧ (h66.1 1 1).toInt ≤ 3 := hI.1 1 1
  show RUN d_X4_readFirst 52 [(0, .inr (.inr (.inl 1))), (1, .inr (.inr (.inl 4)))] [] h66 _
  refine R_aload_n (k := 1) rfl rfl rfl ?_
  refine R_getf_r (j := 0) rfl ft_4_49 sh_4 rfl ?_
  refine R_iconst 2 rfl rfl ?_
  refine R_aload_n (k := 0) rfl rfl rfl ?_
  refine R_iconst 1 rfl rfl ?_
  refine R_bipush 30 rfl rfl ?_
  refine R_iconst (-1) rfl rfl ?_
  have k74 : (1 : Int32).toInt = 1 := by decide
  have k75 : (30 : Int32).toInt = 30 := by decide
  have k76 : ((-1) : Int32).toInt = (-1) := by decide
  refine R_callV (v := .inr (.inr (.inl 1))) (As := [.inl 1, .inl 30, .inl (-1)]) (rest := [.inl 2, .inr (.inr (.inl 5))]) rfl mt_4_i87 pp_X4_takeNumber (by decide) rfl rfl rfl (Nat.le_of_ble_eq_true rfl) (Nat.le_of_ble_eq_true rfl) ((k_X4_takeNumber h66 hI (1 : Int32) (30 : Int32) ((-1) : Int32) (by decide) (by decide)).mono (fun r77 h78 p79 => ?_))
  obtain ⟨hJ, fj, ⟨xq80, -⟩, x82, rfl, q83, zq81, -⟩ := p79
  have f84 := fj
  have fr := fr.trans fj (by decide)
  have hI := hJ
  have s85 : (h78.1 5 10).toInt = (h66.1 5 10).toInt := by rw [(f84 5 (by decide)).1]
  have s86 : (h78.1 5 0).toInt = (h66.1 5 0).toInt := by rw [(f84 5 (by decide)).1]
  have s87 : (h78.1 5 1).toInt = (h66.1 5 1).toInt := by rw [(f84 5 (by decide)).1]
  have b88 : (0 : Int) ≤ (h78.1 1 1).toInt ∧ (h78.1 1 1).toInt ≤ 3 := hI.1 1 1
  show RUN d_X4_readFirst 65 [(0, .inr (.inr (.inl 1))), (1, .inr (.inr (.inl 4)))] [.inl x82, .inl 2, .inr (.inr (.inl 5))] h78 _
  refine K_iast (a := 2) (lo := (-2147483648)) (hi' := 2147483647) rfl sh_5 (by decide) (by decide) hI (by decide) rfl (i_rng _) fr (by decide) (fun h89 g90 hI fr => ?_)
  have s91 : (h89.1 5 10).toInt = (h78.1 5 10).toInt := by rw [g90, show (2 : Int32).toNatClampNeg = 2 from rfl, wI_at (by decide)]
  have s92 : (h89.1 5 0).toInt = (h78.1 5 0).toInt := by rw [g90, show (2 : Int32).toNatClampNeg = 2 from rfl, wI_at (by decide)]
  have s93 : (h89.1 5 1).toInt = (h78.1 5 1).toInt := by rw [g90, show (2 : Int32).toNatClampNeg = 2 from rfl, wI_at (by decide)]
  have s94 : (h89.1 1 1).toInt = (h78.1 1 1).toInt := by rw [g90, wI_ne _ _ _ (by decide)]
  have s95 : (h89.1 5 2).toInt = x82.toInt := by rw [g90, show (2 : Int32).toNatClampNeg = 2 from rfl, wI_is]
  refine R_aload_n (k := 0) rfl rfl rfl ?_
  refine R_ldc_s (i := 4) rfl kt_4_95 ?_
  refine R_callV (v := .inr (.inr (.inl 1))) (As := [.inr (.inr (.inr 5))]) (rest := []) rfl mt_4_i81 pp_X4_takeWord (by decide) rfl rfl rfl (Nat.le_of_ble_eq_true rfl) (Nat.le_of_ble_eq_true rfl) ((k_X4_takeWord_12 h89 hI).mono (fun r96 h97 p98 => ?_))
  obtain ⟨hJ, fj, ⟨xq99, -⟩, rfl⟩ := p98
  have f100 := fj
  have fr := fr.trans fj (by decide)
  have hI := hJ
  have s101 : (h97.1 5 10).toInt = (h89.1 5 10).toInt := by rw [(f100 5 (by decide)).1]
  have s102 : (h97.1 5 0).toInt = (h89.1 5 0).toInt := by rw [(f100 5 (by decide)).1]
  have s103 : (h97.1 5 1).toInt = (h89.1 5 1).toInt := by rw [(f100 5 (by decide)).1]
  have s104 : (h97.1 5 2).toInt = (h89.1 5 2).toInt := by rw [(f100 5 (by decide)).1]
  have b105 : (0 : Int) ≤ (h97.1 1 1).toInt ∧ (h97.1 1 1).toInt ≤ 3 := hI.1 1 1
  show RUN d_X4_readFirst 72 [(0, .inr (.inr (.inl 1))), (1, .inr (.inr (.inl 4)))] [] h97 _
  refine R_aload_n (k := 1) rfl rfl rfl ?_
  refine R_getf_r (j := 0) rfl ft_4_49 sh_4 rfl ?_
  refine R_iconst 3 rfl rfl ?_
  refine R_aload_n (k := 0) rfl rfl rfl ?_
  refine R_iconst 0 rfl rfl ?_
  refine R_bipush 20 rfl rfl ?_
  refine R_iconst (-1) rfl rfl ?_
  have k106 : (0 : Int32).toInt = 0 := by decide
  have k107 : (20 : Int32).toInt = 20 := by decide
  have k108 : ((-1) : Int32).toInt = (-1) := by decide
  refine R_callV (v := .inr (.inr (.inl 1))) (As := [.inl 0, .inl 20, .inl (-1)]) (rest := [.inl 3, .inr (.inr (.inl 5))]) rfl mt_4_i87 pp_X4_takeNumber (by decide) rfl rfl rfl (Nat.le_of_ble_eq_true rfl) (Nat.le_of_ble_eq_true rfl) ((k_X4_takeNumber h97 hI (0 : Int32) (20 : Int32) ((-1) : Int32) (by decide) (by decide)).mono (fun r109 h110 p111 => ?_))
  obtain ⟨hJ, fj, ⟨xq112, -⟩, x114, rfl, q115, zq113, -⟩ := p111
  have f116 := fj
  have fr := fr.trans fj (by decide)
  have hI := hJ
  have s117 : (h110.1 5 10).toInt = (h97.1 5 10).toInt := by rw [(f116 5 (by decide)).1]
  have s118 : (h110.1 5 0).toInt = (h97.1 5 0).toInt := by rw [(f116 5 (by decide)).1]
  have s119 : (h110.1 5 1).toInt = (h97.1 5 1).toInt := by rw [(f116 5 (by decide)).1]
  have s120 : (h110.1 5 2).toInt = (h97.1 5 2).toInt := by rw [(f116 5 (by decide)).1]
  have b121 : (0 : Int) ≤ (h110.1 1 1).toInt ∧ (h110.1 1 1).toInt ≤ 3 := hI.1 1 1
  show RUN d_X4_readFirst 85 [(0, .inr (.inr (.inl 1))), (1, .inr (.inr (.inl 4)))] [.inl x114, .inl 3, .inr (.inr (.inl 5))] h110 _
  refine K_iast (a := 3) (lo := (-2147483648)) (hi' := 2147483647) rfl sh_5 (by decide) (by decide) hI (by decide) rfl (i_rng _) fr (by decide) (fun h122 g123 hI fr => ?_)
  have s124 : (h122.1 5 10).toInt = (h110.1 5 10).toInt := by rw [g123, show (3 : Int32).toNatClampNeg = 3 from rfl, wI_at (by decide)]
  have s125 : (h122.1 5 0).toInt = (h110.1 5 0).toInt := by rw [g123, show (3 : Int32).toNatClampNeg = 3 from rfl, wI_at (by decide)]
  have s126 : (h122.1 5 1).toInt = (h110.1 5 1).toInt := by rw [g123, show (3 : Int32).toNatClampNeg = 3 from rfl, wI_at (by decide)]
  have s127 : (h122.1 5 2).toInt = (h110.1 5 2).toInt := by rw [g123, show (3 : Int32).toNatClampNeg = 3 from rfl, wI_at (by decide)]
  have s128 : (h122.1 1 1).toInt = (h110.1 1 1).toInt := by rw [g123, wI_ne _ _ _ (by decide)]
  have s129 : (h122.1 5 3).toInt = x114.toInt := by rw [g123, show (3 : Int32).toNatClampNeg = 3 from rfl, wI_is]
  refine R_aload_n (k := 0) rfl rfl rfl ?_
  refine R_ldc_s (i := 5) rfl kt_4_97 ?_
  refine R_callV (v := .inr (.inr (.inl 1))) (As := [.inr (.inr (.inr 6))]) (rest := []) rfl mt_4_i81 pp_X4_takeWord (by decide) rfl rfl rfl (Nat.le_of_ble_eq_true rfl) (Nat.le_of_ble_eq_true rfl) ((k_X4_takeWord_13 h122 hI).mono (fun r130 h131 p132 => ?_))
  obtain ⟨hJ, fj, ⟨xq133, -⟩, rfl⟩ := p132
  have f134 := fj
  have fr := fr.trans fj (by decide)
  have hI := hJ
  have s135 : (h131.1 5 10).toInt = (h122.1 5 10).toInt := by rw [(f134 5 (by decide)).1]
  have s136 : (h131.1 5 0).toInt = (h122.1 5 0).toInt := by rw [(f134 5 (by decide)).1]
  have s137 : (h131.1 5 1).toInt = (h122.1 5 1).toInt := by rw [(f134 5 (by decide)).1]
  have s138 : (h131.1 5 2).toInt = (h122.1 5 2).toInt := by rw [(f134 5 (by decide)).1]
  have s139 : (h131.1 5 3).toInt = (h122.1 5 3).toInt := by rw [(f134 5 (by decide)).1]
  have b140 : (0 : Int) ≤ (h131.1 1 1).toInt ∧ (h131.1 1 1).toInt ≤ 3 := hI.1 1 1
  show RUN d_X4_readFirst 92 [(0, .inr (.inr (.inl 1))), (1, .inr (.inr (.inl 4)))] [] h131 _
  refine R_aload_n (k := 1) rfl rfl rfl ?_
  refine R_getf_r (j := 0) rfl ft_4_49 sh_4 rfl ?_
  refine R_iconst 4 rfl rfl ?_
  refine R_aload_n (k := 0) rfl rfl rfl ?_
  refine R_iconst 0 rfl rfl ?_
  refine R_bipush 10 rfl rfl ?_
  refine R_iconst (-1) rfl rfl ?_
  have k141 : (0 : Int32).toInt = 0 := by decide
  have k142 : (10 : Int32).toInt = 10 := by decide
  have k143 : ((-1) : Int32).toInt = (-1) := by decide
  refine R_callV (v := .inr (.inr (.inl 1))) (As := [.inl 0, .inl 10, .inl (-1)]) (rest := [.inl 4, .inr (.inr (.inl 5))]) rfl mt_4_i87 pp_X4_takeNumber (by decide) rfl rfl rfl (Nat.le_of_ble_eq_true rfl) (Nat.le_of_ble_eq_true rfl) ((k_X4_takeNumber h131 hI (0 : Int32) (10 : Int32) ((-1) : Int32) (by decide) (by decide)).mono (fun r144 h145 p146 => ?_))
  obtain ⟨hJ, fj, ⟨xq147, -⟩, x149, rfl, q150, zq148, -⟩ := p146
  have f151 := fj
  have fr := fr.trans fj (by decide)
  have hI := hJ
  have s152 : (h145.1 5 10).toInt = (h131.1 5 10).toInt := by rw [(f151 5 (by decide)).1]
  have s153 : (h145.1 5 0).toInt = (h131.1 5 0).toInt := by rw [(f151 5 (by decide)).1]
  have s154 : (h145.1 5 1).toInt = (h131.1 5 1).toInt := by rw [(f151 5 (by decide)).1]
  have s155 : (h145.1 5 2).toInt = (h131.1 5 2).toInt := by rw [(f151 5 (by decide)).1]
  have s156 : (h145.1 5 3).toInt = (h131.1 5 3).toInt := by rw [(f151 5 (by decide)).1]
  have b157 : (0 : Int) ≤ (h145.1 1 1).toInt ∧ (h145.1 1 1).toInt ≤ 3 := hI.1 1 1
  show RUN d_X4_readFirst 105 [(0, .inr (.inr (.inl 1))), (1, .inr (.inr (.inl 4)))] [.inl x149, .inl 4, .inr (.inr (.inl 5))] h145 _
  refine K_iast (a := 4) (lo := (-2147483648)) (hi' := 2147483647) rfl sh_5 (by decide) (by decide) hI (by decide) rfl (i_rng _) fr (by decide) (fun h158 g159 hI fr => ?_)
  have s160 : (h158.1 5 10).toInt = (h145.1 5 10).toInt := by rw [g159, show (4 : Int32).toNatClampNeg = 4 from rfl, wI_at (by decide)]
  have s161 : (h158.1 5 0).toInt = (h145.1 5 0).toInt := by rw [g159, show (4 : Int32).toNatClampNeg = 4 from rfl, wI_at (by decide)]
  have s162 : (h158.1 5 1).toInt = (h145.1 5 1).toInt := by rw [g159, show (4 : Int32).toNatClampNeg = 4 from rfl, wI_at (by decide)]
  have s163 : (h158.1 5 2).toInt = (h145.1 5 2).toInt := by rw [g159, show (4 : Int32).toNatClampNeg = 4 from rfl, wI_at (by decide)]
  have s164 : (h158.1 5 3).toInt = (h145.1 5 3).toInt := by rw [g159, show (4 : Int32).toNatClampNeg = 4 from rfl, wI_at (by decide)]
  have s165 : (h158.1 1 1).toInt = (h145.1 1 1).toInt := by rw [g159, wI_ne _ _ _ (by decide)]
  have s166 : (h158.1 5 4).toInt = x149.toInt := by rw [g159, show (4 : Int32).toNatClampNeg = 4 from rfl, wI_is]
  exact R_vret rfl rfl ⟨hI, fr, ⟨by omega, by omega, by omega, trivial⟩, rfl⟩
abbrev q_X1_addHand (h : PH) (a0 : Int32) (a1 : Int32) : Option PV → PH → Prop := fun r h' => INV h' ∧ FR [5, 6, 7, 8, 9] h h' ∧ ((h'.1 5 0).toInt = (h.1 5 0).toInt ∧ (h'.1 5 10).toInt = (h.1 5 10).toInt ∧ True) ∧ r = none
set_option maxHeartbeats 4000000 in
set_option maxRecDepth 100000 in
theorem k_X1_addHand (h : PH) (hI : INV h) (a0 : Int32) (a1 : Int32) : CALL d_X1_addHand [.inr (.inr (.inl 4)), .inl a0, .inl a1] h (q_X1_addHand h a0 a1) := by
  show RUN d_X1_addHand 0 [(0, .inr (.inr (.inl 4))), (1, .inl a0), (2, .inl a1)] [] h _
  have b1 := i_rng a0
  have b2 := i_rng a1
  have fr : FR [5, 6, 7, 8, 9] h h := FR.rf _ _
  have b3 : (0 : Int) ≤ (h.1 5 5).toInt ∧ (h.1 5 5).toInt ≤ 6 := hI.1 5 5
  refine R_aload_n (k := 0) rfl rfl rfl ?_
  refine R_getf_r (j := 0) rfl ft_1_9 sh_4 rfl ?_
  refine R_iconst 5 rfl rfl ?_
  refine R_iald rfl sh_5 (by decide) ?_
  show RUN d_X1_addHand 6 [(0, .inr (.inr (.inl 4))), (1, .inl a0), (2, .inl a1)] [.inl (h.1 5 5)] h _
  refine R_istore_n (k := 3) rfl [(3, .inl (h.1 5 5)), (0, .inr (.inr (.inl 4))), (1, .inl a0), (2, .inl a1)] rfl rfl (by decide) ?_
  refine R_iload_n (k := 3) rfl rfl rfl ?_
  refine R_bipush 6 rfl rfl ?_
  refine N_icmp_ge (a := (h.1 5 5).toInt) (b := 6) 50 rfl rfl rfl (by decide) (fun c4 => ?_) (fun c4 => ?_)
  · exact R_vret rfl rfl ⟨hI, fr, ⟨by omega, by omega, trivial⟩, rfl⟩
  · refine R_aload_n (k := 0) rfl rfl rfl ?_
    refine R_getf_r (j := 1) rfl ft_1_15 sh_4 rfl ?_
    refine R_iload_n (k := 3) rfl rfl rfl ?_
    refine R_iload_n (k := 1) rfl rfl rfl ?_
    refine K_iast (a := (h.1 5 5).toInt) (lo := (-2147483648)) (hi' := 2147483647) rfl sh_6 rfl ⟨by omega, by omega⟩ hI (by decide) rfl (i_rng _) fr (by decide) (fun h5 g6 hI fr => ?_)
    have s7 : (h5.1 5 5).toInt = (h.1 5 5).toInt := by rw [g6, wI_ne _ _ _ (by decide)]
    have s8 : (h5.1 5 0).toInt = (h.1 5 0).toInt := by rw [g6, wI_ne _ _ _ (by decide)]
    have s9 : (h5.1 5 10).toInt = (h.1 5 10).toInt := by rw [g6, wI_ne _ _ _ (by decide)]
    refine R_aload_n (k := 0) rfl rfl rfl ?_
    refine R_getf_r (j := 2) rfl ft_1_18 sh_4 rfl ?_
    refine R_iload_n (k := 3) rfl rfl rfl ?_
    refine R_iload_n (k := 1) rfl rfl rfl ?_
    refine K_iast (a := (h.1 5 5).toInt) (lo := (-2147483648)) (hi' := 2147483647) rfl sh_7 rfl ⟨by omega, by omega⟩ hI (by decide) rfl (i_rng _) fr (by decide) (fun h10 g11 hI fr => ?_)
    have s12 : (h10.1 5 5).toInt = (h5.1 5 5).toInt := by rw [g11, wI_ne _ _ _ (by decide)]
    have s13 : (h10.1 5 0).toInt = (h5.1 5 0).toInt := by rw [g11, wI_ne _ _ _ (by decide)]
    have s14 : (h10.1 5 10).toInt = (h5.1 5 10).toInt := by rw [g11, wI_ne _ _ _ (by decide)]
    refine R_aload_n (k := 0) rfl rfl rfl ?_
    refine R_getf_r (j := 3) rfl ft_1_21 sh_4 rfl ?_
    refine R_iload_n (k := 3) rfl rfl rfl ?_
    refine R_iload_n (k := 2) rfl rfl rfl ?_
    refine K_iast (a := (h.1 5 5).toInt) (lo := (-2147483648)) (hi' := 2147483647) rfl sh_8 rfl ⟨by omega, by omega⟩ hI (by decide) rfl (i_rng _) fr (by decide) (fun h15 g16 hI fr => ?_)
    have s17 : (h15.1 5 5).toInt = (h10.1 5 5).toInt := by rw [g16, wI_ne _ _ _ (by decide)]
    have s18 : (h15.1 5 0).toInt = (h10.1 5 0).toInt := by rw [g16, wI_ne _ _ _ (by decide)]
    have s19 : (h15.1 5 10).toInt = (h10.1 5 10).toInt := by rw [g16, wI_ne _ _ _ (by decide)]
    refine R_aload_n (k := 0) rfl rfl rfl ?_
    refine R_getf_r (j := 4) rfl ft_1_24 sh_4 rfl ?_
    refine R_iload_n (k := 3) rfl rfl rfl ?_
    refine R_lconst 0 rfl rfl ?_
    refine K_last (a := (h.1 5 5).toInt) rfl sh_9 rfl ⟨by omega, by omega⟩ hI fr (by decide) (fun h20 g21 hI fr => ?_)
    have s22 : (h20.1 5 5).toInt = (h15.1 5 5).toInt := by rw [g21, wL_fst]
    have s23 : (h20.1 5 0).toInt = (h15.1 5 0).toInt := by rw [g21, wL_fst]
    have s24 : (h20.1 5 10).toInt = (h15.1 5 10).toInt := by rw [g21, wL_fst]
    refine R_aload_n (k := 0) rfl rfl rfl ?_
    refine R_getf_r (j := 0) rfl ft_1_9 sh_4 rfl ?_
    refine R_iconst 5 rfl rfl ?_
    refine R_iload_n (k := 3) rfl rfl rfl ?_
    refine R_iconst 1 rfl rfl ?_
    refine N_iadd (a := (h.1 5 5).toInt) (b := 1) rfl rfl (by decide) (by omega) (fun x25 q26 => ?_)
    refine K_iast (a := 5) (lo := 0) (hi' := 6) rfl sh_5 (by decide) (by decide) hI (by decide) rfl (by omega) fr (by decide) (fun h27 g28 hI fr => ?_)
    have s29 : (h27.1 5 0).toInt = (h20.1 5 0).toInt := by rw [g28, show (5 : Int32).toNatClampNeg = 5 from rfl, wI_at (by decide)]
    have s30 : (h27.1 5 10).toInt = (h20.1 5 10).toInt := by rw [g28, show (5 : Int32).toNatClampNeg = 5 from rfl, wI_at (by decide)]
    have s31 : (h27.1 5 5).toInt = x25.toInt := by rw [g28, show (5 : Int32).toNatClampNeg = 5 from rfl, wI_is]
    exact R_vret rfl rfl ⟨hI, fr, ⟨by omega, by omega, trivial⟩, rfl⟩
abbrev q_X4_readHand (h : PH)  : Option PV → PH → Prop := fun r h' => INV h' ∧ FR [1, 5, 6, 7, 8, 9] h h' ∧ ((h'.1 5 0).toInt = (h.1 5 0).toInt ∧ (h'.1 5 10).toInt = (h.1 5 10).toInt ∧ ((h.1 1 1).toInt ≤ (h'.1 1 1).toInt) ∧ True) ∧ r = none
set_option maxHeartbeats 4000000 in
set_option maxRecDepth 100000 in
theorem k_X4_readHand (h : PH) (hI : INV h)  : CALL d_X4_readHand [.inr (.inr (.inl 1)), .inr (.inr (.inl 4))] h (q_X4_readHand h) := by
  show RUN d_X4_readHand 0 [(0, .inr (.inr (.inl 1))), (1, .inr (.inr (.inl 4)))] [] h _
  have fr : FR [1, 5, 6, 7, 8, 9] h h := FR.rf _ _
  have b1 : (0 : Int) ≤ (h.1 1 1).toInt ∧ (h.1 1 1).toInt ≤ 3 := hI.1 1 1
  refine R_aload_n (k := 1) rfl rfl rfl ?_
  refine R_getf_r (j := 0) rfl ft_4_49 sh_4 rfl ?_
  refine R_iconst 5 rfl rfl ?_
  refine R_iald rfl sh_5 (by decide) ?_
  have b2 : (0 : Int) ≤ (h.1 5 5).toInt ∧ (h.1 5 5).toInt ≤ 6 := hI.1 5 5
  show RUN d_X4_readHand 6 [(0, .inr (.inr (.inl 1))), (1, .inr (.inr (.inl 4)))] [.inl (h.1 5 5)] h _
  refine R_bipush 6 rfl rfl ?_
  refine N_icmp_lt (a := (h.1 5 5).toInt) (b := 6) 16 rfl rfl rfl (by decide) (fun c3 => ?_) (fun c3 => ?_)
  · refine R_aload_n (k := 0) rfl rfl rfl ?_
    refine R_ldc_s (i := 6) rfl kt_4_56 ?_
    refine R_callV (v := .inr (.inr (.inl 1))) (As := [.inr (.inr (.inr 7))]) (rest := []) rfl mt_4_i81 pp_X4_takeWord (by decide) rfl rfl rfl (Nat.le_of_ble_eq_true rfl) (Nat.le_of_ble_eq_true rfl) ((k_X4_takeWord_5 h hI).mono (fun r4 h5 p6 => ?_))
    obtain ⟨hJ, fj, ⟨xq7, -⟩, rfl⟩ := p6
    have f8 := fj
    have fr := fr.trans fj (by decide)
    have hI := hJ
    have s9 : (h5.1 5 0).toInt = (h.1 5 0).toInt := by rw [(f8 5 (by decide)).1]
    have s10 : (h5.1 5 10).toInt = (h.1 5 10).toInt := by rw [(f8 5 (by decide)).1]
    have s11 : (h5.1 5 5).toInt = (h.1 5 5).toInt := by rw [(f8 5 (by decide)).1]
    have b12 : (0 : Int) ≤ (h5.1 1 1).toInt ∧ (h5.1 1 1).toInt ≤ 3 := hI.1 1 1
    show RUN d_X4_readHand 22 [(0, .inr (.inr (.inl 1))), (1, .inr (.inr (.inl 4)))] [] h5 _
    refine R_aload_n (k := 0) rfl rfl rfl ?_
    refine R_ldc_s (i := 7) rfl kt_4_103 ?_
    refine R_callV (v := .inr (.inr (.inl 1))) (As := [.inr (.inr (.inr 8))]) (rest := []) rfl mt_4_i81 pp_X4_takeWord (by decide) rfl rfl rfl (Nat.le_of_ble_eq_true rfl) (Nat.le_of_ble_eq_true rfl) ((k_X4_takeWord_6 h5 hI).mono (fun r13 h14 p15 => ?_))
    obtain ⟨hJ, fj, ⟨xq16, -⟩, rfl⟩ := p15
    have f17 := fj
    have fr := fr.trans fj (by decide)
    have hI := hJ
    have s18 : (h14.1 5 0).toInt = (h5.1 5 0).toInt := by rw [(f17 5 (by decide)).1]
    have s19 : (h14.1 5 10).toInt = (h5.1 5 10).toInt := by rw [(f17 5 (by decide)).1]
    have s20 : (h14.1 5 5).toInt = (h5.1 5 5).toInt := by rw [(f17 5 (by decide)).1]
    have b21 : (0 : Int) ≤ (h14.1 1 1).toInt ∧ (h14.1 1 1).toInt ≤ 3 := hI.1 1 1
    show RUN d_X4_readHand 28 [(0, .inr (.inr (.inl 1))), (1, .inr (.inr (.inl 4)))] [] h14 _
    refine R_aload_n (k := 0) rfl rfl rfl ?_
    refine R_iconst 1 rfl rfl ?_
    refine R_bipush 6 rfl rfl ?_
    refine R_iconst (-1) rfl rfl ?_
    have k22 : (1 : Int32).toInt = 1 := by decide
    have k23 : (6 : Int32).toInt = 6 := by decide
    have k24 : ((-1) : Int32).toInt = (-1) := by decide
    refine R_callV (v := .inr (.inr (.inl 1))) (As := [.inl 1, .inl 6, .inl (-1)]) (rest := []) rfl mt_4_i87 pp_X4_takeNumber (by decide) rfl rfl rfl (Nat.le_of_ble_eq_true rfl) (Nat.le_of_ble_eq_true rfl) ((k_X4_takeNumber h14 hI (1 : Int32) (6 : Int32) ((-1) : Int32) (by decide) (by decide)).mono (fun r25 h26 p27 => ?_))
    obtain ⟨hJ, fj, ⟨xq28, -⟩, x30, rfl, q31, zq29, -⟩ := p27
    have f32 := fj
    have fr := fr.trans fj (by decide)
    have hI := hJ
    have s33 : (h26.1 5 0).toInt = (h14.1 5 0).toInt := by rw [(f32 5 (by decide)).1]
    have s34 : (h26.1 5 10).toInt = (h14.1 5 10).toInt := by rw [(f32 5 (by decide)).1]
    have s35 : (h26.1 5 5).toInt = (h14.1 5 5).toInt := by rw [(f32 5 (by decide)).1]
    have b36 : (0 : Int) ≤ (h26.1 1 1).toInt ∧ (h26.1 1 1).toInt ≤ 3 := hI.1 1 1
    show RUN d_X4_readHand 36 [(0, .inr (.inr (.inl 1))), (1, .inr (.inr (.inl 4)))] [.inl x30] h26 _
    refine R_istore_n (k := 2) rfl [(2, .inl x30), (0, .inr (.inr (.inl 1))), (1, .inr (.inr (.inl 4)))] rfl rfl (by decide) ?_
    refine R_aload_n (k := 0) rfl rfl rfl ?_
    refine R_ldc_s (i := 8) rfl kt_4_105 ?_
    refine R_callV (v := .inr (.inr (.inl 1))) (As := [.inr (.inr (.inr 9))]) (rest := []) rfl mt_4_i81 pp_X4_takeWord (by decide) rfl rfl rfl (Nat.le_of_ble_eq_true rfl) (Nat.le_of_ble_eq_true rfl) ((k_X4_takeWord_7 h26 hI).mono (fun r37 h38 p39 => ?_))
    obtain ⟨hJ, fj, ⟨xq40, -⟩, rfl⟩ := p39
    have f41 := fj
    have fr := fr.trans fj (by decide)
    have hI := hJ
    have s42 : (h38.1 5 0).toInt = (h26.1 5 0).toInt := by rw [(f41 5 (by decide)).1]
    have s43 : (h38.1 5 10).toInt = (h26.1 5 10).toInt := by rw [(f41 5 (by decide)).1]
    have s44 : (h38.1 5 5).toInt = (h26.1 5 5).toInt := by rw [(f41 5 (by decide)).1]
    have b45 : (0 : Int) ≤ (h38.1 1 1).toInt ∧ (h38.1 1 1).toInt ≤ 3 := hI.1 1 1
    show RUN d_X4_readHand 43 [(2, .inl x30), (0, .inr (.inr (.inl 1))), (1, .inr (.inr (.inl 4)))] [] h38 _
    refine R_aload_n (k := 0) rfl rfl rfl ?_
    refine R_iconst 0 rfl rfl ?_
    refine R_bipush 9 rfl rfl ?_
    refine R_iconst (-1) rfl rfl ?_
    have k46 : (0 : Int32).toInt = 0 := by decide
    have k47 : (9 : Int32).toInt = 9 := by decide
    have k48 : ((-1) : Int32).toInt = (-1) := by decide
    refine R_callV (v := .inr (.inr (.inl 1))) (As := [.inl 0, .inl 9, .inl (-1)]) (rest := []) rfl mt_4_i87 pp_X4_takeNumber (by decide) rfl rfl rfl (Nat.le_of_ble_eq_true rfl) (Nat.le_of_ble_eq_true rfl) ((k_X4_takeNumber h38 hI (0 : Int32) (9 : Int32) ((-1) : Int32) (by decide) (by decide)).mono (fun r49 h50 p51 => ?_))
    obtain ⟨hJ, fj, ⟨xq52, -⟩, x54, rfl, q55, zq53, -⟩ := p51
    have f56 := fj
    have fr := fr.trans fj (by decide)
    have hI := hJ
    have s57 : (h50.1 5 0).toInt = (h38.1 5 0).toInt := by rw [(f56 5 (by decide)).1]
    have s58 : (h50.1 5 10).toInt = (h38.1 5 10).toInt := by rw [(f56 5 (by decide)).1]
    have s59 : (h50.1 5 5).toInt = (h38.1 5 5).toInt := by rw [(f56 5 (by decide)).1]
    have b60 : (0 : Int) ≤ (h50.1 1 1).toInt ∧ (h50.1 1 1).toInt ≤ 3 := hI.1 1 1
    show RUN d_X4_readHand 51 [(2, .inl x30), (0, .inr (.inr (.inl 1))), (1, .inr (.inr (.inl 4)))] [.inl x54] h50 _
    refine R_istore_n (k := 3) rfl [(3, .inl x54), (2, .inl x30), (0, .inr (.inr (.inl 1))), (1, .inr (.inr (.inl 4)))] rfl rfl (by decide) ?_
    refine R_aload_n (k := 0) rfl rfl rfl ?_
    refine R_getf_i (j := 1) rfl ft_4_18 sh_1 rfl ?_
    refine N_if_ne (a := (h50.1 1 1).toInt) 65 rfl rfl rfl (fun c61 => ?_) (fun c61 => ?_)
    · exact R_vret rfl rfl ⟨hI, fr, ⟨by omega, by omega, by omega, trivial⟩, rfl⟩
    · refine R_aload_n (k := 1) rfl rfl rfl ?_
      refine R_iload_n (k := 2) rfl rfl rfl ?_
      refine R_iload_n (k := 3) rfl rfl rfl ?_
      refine R_callV (v := .inr (.inr (.inl 4))) (As := [.inl x30, .inl x54]) (rest := []) rfl mt_4_i107 pp_X1_addHand (by decide) rfl rfl rfl (Nat.le_of_ble_eq_true rfl) (Nat.le_of_ble_eq_true rfl) ((k_X1_addHand h50 hI x30 x54).mono (fun r62 h63 p64 => ?_))
      obtain ⟨hJ, fj, ⟨kp65, kp66, -⟩, rfl⟩ := p64
      have f67 := fj
      have fr := fr.trans fj (by decide)
      have hI := hJ
      have s68 : (h63.1 1 1).toInt = (h50.1 1 1).toInt := by rw [(f67 1 (by decide)).1]
      show RUN d_X4_readHand 65 [(3, .inl x54), (2, .inl x30), (0, .inr (.inr (.inl 1))), (1, .inr (.inr (.inl 4)))] [] h63 _
      exact R_vret rfl rfl ⟨hI, fr, ⟨by omega, by omega, by omega, trivial⟩, rfl⟩
  · refine R_aload_n (k := 0) rfl rfl rfl ?_
    refine R_iconst 3 rfl rfl ?_
    have k69 : (3 : Int32).toInt = 3 := by decide
    refine R_callV (v := .inr (.inr (.inl 1))) (As := [.inl 3]) (rest := []) rfl mt_4_i99 pp_X4_refuse (by decide) rfl rfl rfl (Nat.le_of_ble_eq_true rfl) (Nat.le_of_ble_eq_true rfl) ((k_X4_refuse h hI (3 : Int32) (by decide)).mono (fun r70 h71 p72 => ?_))
    obtain ⟨hJ, fj, ⟨kp73, kp74, xq75, xq76, -⟩, rfl⟩ := p72
    have f77 := fj
    have fr := fr.trans fj (by decide)
    have hI := hJ
    have s78 : (h71.1 5 0).toInt = (h.1 5 0).toInt := by rw [(f77 5 (by decide)).1]
    have s79 : (h71.1 5 10).toInt = (h.1 5 10).toInt := by rw [(f77 5 (by decide)).1]
    have s80 : (h71.1 5 5).toInt = (h.1 5 5).toInt := by rw [(f77 5 (by decide)).1]
    have b81 : (0 : Int) ≤ (h71.1 1 1).toInt ∧ (h71.1 1 1).toInt ≤ 3 := hI.1 1 1
    show RUN d_X4_readHand 16 [(0, .inr (.inr (.inl 1))), (1, .inr (.inr (.inl 4)))] [] h71 _
    refine R_aload_n (k := 0) rfl rfl rfl ?_
    refine R_ldc_s (i := 6) rfl kt_4_56 ?_
    refine R_callV (v := .inr (.inr (.inl 1))) (As := [.inr (.inr (.inr 7))]) (rest := []) rfl mt_4_i81 pp_X4_takeWord (by decide) rfl rfl rfl (Nat.le_of_ble_eq_true rfl) (Nat.le_of_ble_eq_true rfl) ((k_X4_takeWord_5 h71 hI).mono (fun r82 h83 p84 => ?_))
    obtain ⟨hJ, fj, ⟨xq85, -⟩, rfl⟩ := p84
    have f86 := fj
    have fr := fr.trans fj (by decide)
    have hI := hJ
    have s87 : (h83.1 5 0).toInt = (h71.1 5 0).toInt := by rw [(f86 5 (by decide)).1]
    have s88 : (h83.1 5 10).toInt = (h71.1 5 10).toInt := by rw [(f86 5 (by decide)).1]
    have s89 : (h83.1 5 5).toInt = (h71.1 5 5).toInt := by rw [(f86 5 (by decide)).1]
    have b90 : (0 : Int) ≤ (h83.1 1 1).toInt ∧ (h83.1 1 1).toInt ≤ 3 := hI.1 1 1
    show RUN d_X4_readHand 22 [(0, .inr (.inr (.inl 1))), (1, .inr (.inr (.inl 4)))] [] h83 _
    refine R_aload_n (k := 0) rfl rfl rfl ?_
    refine R_ldc_s (i := 7) rfl kt_4_103 ?_
    refine R_callV (v := .inr (.inr (.inl 1))) (As := [.inr (.inr (.inr 8))]) (rest := []) rfl mt_4_i81 pp_X4_takeWord (by decide) rfl rfl rfl (Nat.le_of_ble_eq_true rfl) (Nat.le_of_ble_eq_true rfl) ((k_X4_takeWord_6 h83 hI).mono (fun r91 h92 p93 => ?_))
    obtain ⟨hJ, fj, ⟨xq94, -⟩, rfl⟩ := p93
    have f95 := fj
    have fr := fr.trans fj (by decide)
    have hI := hJ
    have s96 : (h92.1 5 0).toInt = (h83.1 5 0).toInt := by rw [(f95 5 (by decide)).1]
    have s97 : (h92.1 5 10).toInt = (h83.1 5 10).toInt := by rw [(f95 5 (by decide)).1]
    have s98 : (h92.1 5 5).toInt = (h83.1 5 5).toInt := by rw [(f95 5 (by decide)).1]
    have b99 : (0 : Int) ≤ (h92.1 1 1).toInt ∧ (h92.1 1 1).toInt ≤ 3 := hI.1 1 1
    show RUN d_X4_readHand 28 [(0, .inr (.inr (.inl 1))), (1, .inr (.inr (.inl 4)))] [] h92 _
    refine R_aload_n (k := 0) rfl rfl rfl ?_
    refine R_iconst 1 rfl rfl ?_
    refine R_bipush 6 rfl rfl ?_
    refine R_iconst (-1) rfl rfl ?_
    have k100 : (1 : Int32).toInt = 1 := by decide
    have k101 : (6 : Int32).toInt = 6 := by decide
    have k102 : ((-1) : Int32).toInt = (-1) := by decide
    refine R_callV (v := .inr (.inr (.inl 1))) (As := [.inl 1, .inl 6, .inl (-1)]) (rest := []) rfl mt_4_i87 pp_X4_takeNumber (by decide) rfl rfl rfl (Nat.le_of_ble_eq_true rfl) (Nat.le_of_ble_eq_true rfl) ((k_X4_takeNumber h92 hI (1 : Int32) (6 : Int32) ((-1) : Int32) (by decide) (by decide)).mono (fun r103 h104 p105 => ?_))
    obtain ⟨hJ, fj, ⟨xq106, -⟩, x108, rfl, q109, zq107, -⟩ := p105
    have f110 := fj
    have fr := fr.trans fj (by decide)
    have hI := hJ
    have s111 : (h104.1 5 0).toInt = (h92.1 5 0).toInt := by rw [(f110 5 (by decide)).1]
    have s112 : (h104.1 5 10).toInt = (h92.1 5 10).toInt := by rw [(f110 5 (by decide)).1]
    have s113 : (h104.1 5 5).toInt = (h92.1 5 5).toInt := by rw [(f110 5 (by decide)).1]
    have b114 : (0 : Int) ≤ (h104.1 1 1).toInt ∧ (h104.1 1 1).toInt ≤ 3 := hI.1 1 1
    show RUN d_X4_readHand 36 [(0, .inr (.inr (.inl 1))), (1, .inr (.inr (.inl 4)))] [.inl x108] h104 _
    refine R_istore_n (k := 2) rfl [(2, .inl x108), (0, .inr (.inr (.inl 1))), (1, .inr (.inr (.inl 4)))] rfl rfl (by decide) ?_
    refine R_aload_n (k := 0) rfl rfl rfl ?_
    refine R_ldc_s (i := 8) rfl kt_4_105 ?_
    refine R_callV (v := .inr (.inr (.inl 1))) (As := [.inr (.inr (.inr 9))]) (rest := []) rfl mt_4_i81 pp_X4_takeWord (by decide) rfl rfl rfl (Nat.le_of_ble_eq_true rfl) (Nat.le_of_ble_eq_true rfl) ((k_X4_takeWord_7 h104 hI).mono (fun r115 h116 p117 => ?_))
    obtain ⟨hJ, fj, ⟨xq118, -⟩, rfl⟩ := p117
    have f119 := fj
    have fr := fr.trans fj (by decide)
    have hI := hJ
    have s120 : (h116.1 5 0).toInt = (h104.1 5 0).toInt := by rw [(f119 5 (by decide)).1]
    have s121 : (h116.1 5 10).toInt = (h104.1 5 10).toInt := by rw [(f119 5 (by decide)).1]
    have s122 : (h116.1 5 5).toInt = (h104.1 5 5).toInt := by rw [(f119 5 (by decide)).1]
    have b123 : (0 : Int) ≤ (h116.1 1 1).toInt ∧ (h116.1 1 1).toInt ≤ 3 := hI.1 1 1
    show RUN d_X4_readHand 43 [(2, .inl x108), (0, .inr (.inr (.inl 1))), (1, .inr (.inr (.inl 4)))] [] h116 _
    refine R_aload_n (k := 0) rfl rfl rfl ?_
    refine R_iconst 0 rfl rfl ?_
    refine R_bipush 9 rfl rfl ?_
    refine R_iconst (-1) rfl rfl ?_
    have k124 : (0 : Int32).toInt = 0 := by decide
    have k125 : (9 : Int32).toInt = 9 := by decide
    have k126 : ((-1) : Int32).toInt = (-1) := by decide
    refine R_callV (v := .inr (.inr (.inl 1))) (As := [.inl 0, .inl 9, .inl (-1)]) (rest := []) rfl mt_4_i87 pp_X4_takeNumber (by decide) rfl rfl rfl (Nat.le_of_ble_eq_true rfl) (Nat.le_of_ble_eq_true rfl) ((k_X4_takeNumber h116 hI (0 : Int32) (9 : Int32) ((-1) : Int32) (by decide) (by decide)).mono (fun r127 h128 p129 => ?_))
    obtain ⟨hJ, fj, ⟨xq130, -⟩, x132, rfl, q133, zq131, -⟩ := p129
    have f134 := fj
    have fr := fr.trans fj (by decide)
    have hI := hJ
    have s135 : (h128.1 5 0).toInt = (h116.1 5 0).toInt := by rw [(f134 5 (by decide)).1]
    have s136 : (h128.1 5 10).toInt = (h116.1 5 10).toInt := by rw [(f134 5 (by decide)).1]
    have s137 : (h128.1 5 5).toInt = (h116.1 5 5).toInt := by rw [(f134 5 (by decide)).1]
    have b138 : (0 : Int) ≤ (h128.1 1 1).toInt ∧ (h128.1 1 1).toInt ≤ 3 := hI.1 1 1
    show RUN d_X4_readHand 51 [(2, .inl x108), (0, .inr (.inr (.inl 1))), (1, .inr (.inr (.inl 4)))] [.inl x132] h128 _
    refine R_istore_n (k := 3) rfl [(3, .inl x132), (2, .inl x108), (0, .inr (.inr (.inl 1))), (1, .inr (.inr (.inl 4)))] rfl rfl (by decide) ?_
    refine R_aload_n (k := 0) rfl rfl rfl ?_
    refine R_getf_i (j := 1) rfl ft_4_18 sh_1 rfl ?_
    refine N_if_ne (a := (h128.1 1 1).toInt) 65 rfl rfl rfl (fun c139 => ?_) (fun c139 => ?_)
    · exact R_vret rfl rfl ⟨hI, fr, ⟨by omega, by omega, by omega, trivial⟩, rfl⟩
    · refine R_aload_n (k := 1) rfl rfl rfl ?_
      refine R_iload_n (k := 2) rfl rfl rfl ?_
      refine R_iload_n (k := 3) rfl rfl rfl ?_
      refine R_callV (v := .inr (.inr (.inl 4))) (As := [.inl x108, .inl x132]) (rest := []) rfl mt_4_i107 pp_X1_addHand (by decide) rfl rfl rfl (Nat.le_of_ble_eq_true rfl) (Nat.le_of_ble_eq_true rfl) ((k_X1_addHand h128 hI x108 x132).mono (fun r140 h141 p142 => ?_))
      obtain ⟨hJ, fj, ⟨kp143, kp144, -⟩, rfl⟩ := p142
      have f145 := fj
      have fr := fr.trans fj (by decide)
      have hI := hJ
      have s146 : (h141.1 1 1).toInt = (h128.1 1 1).toInt := by rw [(f145 1 (by decide)).1]
      show RUN d_X4_readHand 65 [(3, .inl x132), (2, .inl x108), (0, .inr (.inr (.inl 1))), (1, .inr (.inr (.inl 4)))] [] h141 _
      exact R_vret rfl rfl ⟨hI, fr, ⟨by omega, by omega, by omega, trivial⟩, rfl⟩
