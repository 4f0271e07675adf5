abbrev qg_X9_is (h : PH)  : Option PV → PH → Prop := fun r h' => h = h' ∧ ∃ z : Int32, r = some (.inl z) ∧ ((0 ≤ z.toInt ∧ z.toInt ≤ 1))
set_option maxHeartbeats 4000000 in
set_option maxRecDepth 100000 in
theorem g_X9_is (h : PH) (hI : INV h)  : CALL d_X9_is [.inr (.inr (.inl 96)), .inr (.inr (.inr 10))] h (qg_X9_is h) := by
  show RUN d_X9_is 0 [(0, .inr (.inr (.inl 96))), (1, .inr (.inr (.inr 10)))] [] h _
  refine R_aload_n (k := 0) rfl rfl rfl ?_
  have b1 : (0 : Int) ≤ (h.1 96 12).toInt ∧ (h.1 96 12).toInt ≤ 3 := hI.1 96 12
  refine R_callV (v := .inr (.inr (.inl 96))) (As := []) (rest := []) rfl mt_9_i176 pp_X9_good (by decide) rfl rfl rfl (Nat.le_of_ble_eq_true rfl) (Nat.le_of_ble_eq_true rfl) ((k_X9_good h hI).mono (fun r2 h3 p4 => ?_))
  obtain ⟨rfl, x5, rfl, q6 | q6⟩ := p4
  · show RUN d_X9_is 4 [(0, .inr (.inr (.inl 96))), (1, .inr (.inr (.inr 10)))] [.inl x5] h _
    refine N_if_eq (a := x5.toInt) 35 rfl rfl rfl (fun c7 => ?_) (fun c7 => ?_)
    · refine R_iconst 0 rfl rfl ?_
      refine R_istore_n (k := 2) rfl [(2, .inl 0), (0, .inr (.inr (.inl 96))), (1, .inr (.inr (.inr 10)))] rfl rfl (by decide) ?_
      refine R_iconst 0 rfl rfl ?_
      refine R_istore_n (k := 3) rfl [(3, .inl 0), (2, .inl 0), (0, .inr (.inr (.inl 96))), (1, .inr (.inr (.inr 10)))] rfl rfl (by decide) ?_
      have lp9 : ∀ (n8 : Nat) (x10 : Int32) (x11 : Int32), 0 ≤ x10.toInt ∧ x10.toInt ≤ 0 → 0 ≤ x11.toInt ∧ x11.toInt ≤ 0 → 0 < n8 → RUN d_X9_is 39 [(3, .inl x11), (2, .inl x10), (0, .inr (.inr (.inl 96))), (1, .inr (.inr (.inr 10)))] [] h (qg_X9_is h) := by
        intro n8
        induction n8 with
        | zero => intro x10 x11 m13 m14 hz; exact absurd hz (Nat.not_lt_zero _)
        | succ n8 ih12 =>
          intro x10 x11 m13 m14 hz
          refine R_iload_n (k := 3) rfl rfl rfl ?_
          refine R_aload_c (k := 1) rfl rfl rfl (by decide) ?_
          refine R_callV (v := .inr (.inr (.inr 10))) (As := []) (rest := [.inl x11]) rfl mt_9_i180 pp_J0_length_8abf5 (by decide) rfl rfl rfl (Nat.le_of_ble_eq_true rfl) (Nat.le_of_ble_eq_true rfl) ((k_J0_length_8abf5_1 h hI).mono (fun r15 h16 p17 => ?_))
          obtain ⟨rfl, x18, rfl, q19⟩ := p17
          show RUN d_X9_is 44 [(3, .inl x11), (2, .inl x10), (0, .inr (.inr (.inl 96))), (1, .inr (.inr (.inr 10)))] [.inl x18, .inl x11] h _
          refine N_icmp_ge (a := x11.toInt) (b := x18.toInt) 82 rfl rfl rfl rfl (fun c20 => ?_) (fun c20 => ?_)
          · exfalso; omega
          · refine R_iload_n (k := 2) rfl rfl rfl ?_
            refine N_if_eq (a := x10.toInt) 82 rfl rfl rfl (fun c21 => ?_) (fun c21 => ?_)
            · refine R_iload_n (k := 2) rfl rfl rfl ?_
              exact R_iret rfl rfl (nar_z (by omega)) ⟨rfl, _, rfl, by omega⟩
            · exfalso; omega
      exact lp9 _ (0 : Int32) (0 : Int32) (by decide) (by decide) (Nat.lt_succ_self _)
    · exfalso; omega
  · show RUN d_X9_is 4 [(0, .inr (.inr (.inl 96))), (1, .inr (.inr (.inr 10)))] [.inl x5] h _
    refine N_if_eq (a := x5.toInt) 35 rfl rfl rfl (fun c22 => ?_) (fun c22 => ?_)
    · exfalso; omega
    · refine R_aload_n (k := 0) rfl rfl rfl ?_
      refine R_getf_i (j := 10) rfl ft_9_152 sh_96 rfl ?_
      refine R_iconst 1 rfl rfl ?_
      refine N_icmp_ne (a := (h.1 96 10).toInt) (b := 1) 35 rfl rfl rfl (by decide) (fun c23 => ?_) (fun c23 => ?_)
      · refine R_iconst 0 rfl rfl ?_
        refine R_istore_n (k := 2) rfl [(2, .inl 0), (0, .inr (.inr (.inl 96))), (1, .inr (.inr (.inr 10)))] rfl rfl (by decide) ?_
        refine R_iconst 0 rfl rfl ?_
        refine R_istore_n (k := 3) rfl [(3, .inl 0), (2, .inl 0), (0, .inr (.inr (.inl 96))), (1, .inr (.inr (.inr 10)))] rfl rfl (by decide) ?_
        have lp25 : ∀ (n24 : Nat) (x26 : Int32) (x27 : Int32), 0 ≤ x26.toInt ∧ x26.toInt ≤ 0 → 0 ≤ x27.toInt ∧ x27.toInt ≤ 0 → 0 < n24 → RUN d_X9_is 39 [(3, .inl x27), (2, .inl x26), (0, .inr (.inr (.inl 96))), (1, .inr (.inr (.inr 10)))] [] h (qg_X9_is h) := by
          intro n24
          induction n24 with
          | zero => intro x26 x27 m29 m30 hz; exact absurd hz (Nat.not_lt_zero _)
          | succ n24 ih28 =>
            intro x26 x27 m29 m30 hz
            refine R_iload_n (k := 3) rfl rfl rfl ?_
            refine R_aload_c (k := 1) rfl rfl rfl (by decide) ?_
            refine R_callV (v := .inr (.inr (.inr 10))) (As := []) (rest := [.inl x27]) rfl mt_9_i180 pp_J0_length_8abf5 (by decide) rfl rfl rfl (Nat.le_of_ble_eq_true rfl) (Nat.le_of_ble_eq_true rfl) ((k_J0_length_8abf5_1 h hI).mono (fun r31 h32 p33 => ?_))
            obtain ⟨rfl, x34, rfl, q35⟩ := p33
            show RUN d_X9_is 44 [(3, .inl x27), (2, .inl x26), (0, .inr (.inr (.inl 96))), (1, .inr (.inr (.inr 10)))] [.inl x34, .inl x27] h _
            refine N_icmp_ge (a := x27.toInt) (b := x34.toInt) 82 rfl rfl rfl rfl (fun c36 => ?_) (fun c36 => ?_)
            · exfalso; omega
            · refine R_iload_n (k := 2) rfl rfl rfl ?_
              refine N_if_eq (a := x26.toInt) 82 rfl rfl rfl (fun c37 => ?_) (fun c37 => ?_)
              · refine R_iload_n (k := 2) rfl rfl rfl ?_
                exact R_iret rfl rfl (nar_z (by omega)) ⟨rfl, _, rfl, by omega⟩
              · exfalso; omega
        exact lp25 _ (0 : Int32) (0 : Int32) (by decide) (by decide) (Nat.lt_succ_self _)
      · refine R_aload_n (k := 0) rfl rfl rfl ?_
        refine R_getf_i (j := 8) rfl ft_9_142 sh_96 rfl ?_
        have b38 : (0 : Int) ≤ (h.1 96 8).toInt ∧ (h.1 96 8).toInt ≤ 500 := hI.1 96 8
        refine R_aload_n (k := 0) rfl rfl rfl ?_
        refine R_getf_i (j := 9) rfl ft_9_149 sh_96 rfl ?_
        have b39 : (0 : Int) ≤ (h.1 96 9).toInt ∧ (h.1 96 9).toInt ≤ 500 := hI.1 96 9
        refine N_isub (a := (h.1 96 8).toInt) (b := (h.1 96 9).toInt) rfl rfl rfl (by omega) (fun x40 q41 => ?_)
        refine R_aload_c (k := 1) rfl rfl rfl (by decide) ?_
        refine R_callV (v := .inr (.inr (.inr 10))) (As := []) (rest := [.inl x40]) rfl mt_9_i180 pp_J0_length_8abf5 (by decide) rfl rfl rfl (Nat.le_of_ble_eq_true rfl) (Nat.le_of_ble_eq_true rfl) ((k_J0_length_8abf5_1 h hI).mono (fun r42 h43 p44 => ?_))
        obtain ⟨rfl, x45, rfl, q46⟩ := p44
        show RUN d_X9_is 28 [(0, .inr (.inr (.inl 96))), (1, .inr (.inr (.inr 10)))] [.inl x45, .inl x40] h _
        refine N_icmp_ne (a := x40.toInt) (b := x45.toInt) 35 rfl rfl rfl rfl (fun c47 => ?_) (fun c47 => ?_)
        · refine R_iconst 0 rfl rfl ?_
          refine R_istore_n (k := 2) rfl [(2, .inl 0), (0, .inr (.inr (.inl 96))), (1, .inr (.inr (.inr 10)))] rfl rfl (by decide) ?_
          refine R_iconst 0 rfl rfl ?_
          refine R_istore_n (k := 3) rfl [(3, .inl 0), (2, .inl 0), (0, .inr (.inr (.inl 96))), (1, .inr (.inr (.inr 10)))] rfl rfl (by decide) ?_
          have lp49 : ∀ (n48 : Nat) (x50 : Int32) (x51 : Int32), 0 ≤ x50.toInt ∧ x50.toInt ≤ 0 → 0 ≤ x51.toInt ∧ x51.toInt ≤ 0 → 0 < n48 → RUN d_X9_is 39 [(3, .inl x51), (2, .inl x50), (0, .inr (.inr (.inl 96))), (1, .inr (.inr (.inr 10)))] [] h (qg_X9_is h) := by
            intro n48
            induction n48 with
            | zero => intro x50 x51 m53 m54 hz; exact absurd hz (Nat.not_lt_zero _)
            | succ n48 ih52 =>
              intro x50 x51 m53 m54 hz
              refine R_iload_n (k := 3) rfl rfl rfl ?_
              refine R_aload_c (k := 1) rfl rfl rfl (by decide) ?_
              refine R_callV (v := .inr (.inr (.inr 10))) (As := []) (rest := [.inl x51]) rfl mt_9_i180 pp_J0_length_8abf5 (by decide) rfl rfl rfl (Nat.le_of_ble_eq_true rfl) (Nat.le_of_ble_eq_true rfl) ((k_J0_length_8abf5_1 h hI).mono (fun r55 h56 p57 => ?_))
              obtain ⟨rfl, x58, rfl, q59⟩ := p57
              show RUN d_X9_is 44 [(3, .inl x51), (2, .inl x50), (0, .inr (.inr (.inl 96))), (1, .inr (.inr (.inr 10)))] [.inl x58, .inl x51] h _
              refine N_icmp_ge (a := x51.toInt) (b := x58.toInt) 82 rfl rfl rfl rfl (fun c60 => ?_) (fun c60 => ?_)
              · exfalso; omega
              · refine R_iload_n (k := 2) rfl rfl rfl ?_
                refine N_if_eq (a := x50.toInt) 82 rfl rfl rfl (fun c61 => ?_) (fun c61 => ?_)
                · refine R_iload_n (k := 2) rfl rfl rfl ?_
                  exact R_iret rfl rfl (nar_z (by omega)) ⟨rfl, _, rfl, by omega⟩
                · exfalso; omega
          exact lp49 _ (0 : Int32) (0 : Int32) (by decide) (by decide) (Nat.lt_succ_self _)
        · refine R_iconst 1 rfl rfl ?_
          refine R_goto 36 rfl rfl ?_
          refine R_istore_n (k := 2) rfl [(2, .inl 1), (0, .inr (.inr (.inl 96))), (1, .inr (.inr (.inr 10)))] rfl rfl (by decide) ?_
          refine R_iconst 0 rfl rfl ?_
          refine R_istore_n (k := 3) rfl [(3, .inl 0), (2, .inl 1), (0, .inr (.inr (.inl 96))), (1, .inr (.inr (.inr 10)))] rfl rfl (by decide) ?_
          have lp63 : ∀ (n62 : Nat) (x64 : Int32) (x65 : Int32), 0 ≤ x64.toInt ∧ x64.toInt ≤ 1 → 0 ≤ x65.toInt ∧ x65.toInt ≤ 8 → (8 - x65.toInt).toNat < n62 → RUN d_X9_is 39 [(3, .inl x65), (2, .inl x64), (0, .inr (.inr (.inl 96))), (1, .inr (.inr (.inr 10)))] [] h (qg_X9_is h) := by
            intro n62
            induction n62 with
            | zero => intro x64 x65 m67 m68 hz; exact absurd hz (Nat.not_lt_zero _)
            | succ n62 ih66 =>
              intro x64 x65 m67 m68 hz
              refine R_iload_n (k := 3) rfl rfl rfl ?_
              refine R_aload_c (k := 1) rfl rfl rfl (by decide) ?_
              refine R_callV (v := .inr (.inr (.inr 10))) (As := []) (rest := [.inl x65]) rfl mt_9_i180 pp_J0_length_8abf5 (by decide) rfl rfl rfl (Nat.le_of_ble_eq_true rfl) (Nat.le_of_ble_eq_true rfl) ((k_J0_length_8abf5_1 h hI).mono (fun r69 h70 p71 => ?_))
              obtain ⟨rfl, x72, rfl, q73⟩ := p71
              show RUN d_X9_is 44 [(3, .inl x65), (2, .inl x64), (0, .inr (.inr (.inl 96))), (1, .inr (.inr (.inr 10)))] [.inl x72, .inl x65] h _
              refine N_icmp_ge (a := x65.toInt) (b := x72.toInt) 82 rfl rfl rfl rfl (fun c74 => ?_) (fun c74 => ?_)
              · refine R_iload_n (k := 2) rfl rfl rfl ?_
                exact R_iret rfl rfl (nar_z (by omega)) ⟨rfl, _, rfl, by omega⟩
              · refine R_iload_n (k := 2) rfl rfl rfl ?_
                refine N_if_eq (a := x64.toInt) 82 rfl rfl rfl (fun c75 => ?_) (fun c75 => ?_)
                · refine R_iload_n (k := 2) rfl rfl rfl ?_
                  exact R_iret rfl rfl (nar_z (by omega)) ⟨rfl, _, rfl, by omega⟩
                · refine R_aload_n (k := 0) rfl rfl rfl ?_
                  refine R_getf_r (j := 4) rfl ft_9_20 sh_96 rfl ?_
                  refine R_aload_n (k := 0) rfl rfl rfl ?_
                  refine R_getf_i (j := 9) rfl ft_9_149 sh_96 rfl ?_
                  refine R_iload_n (k := 3) rfl rfl rfl ?_
                  refine N_iadd (a := (h.1 96 9).toInt) (b := x65.toInt) rfl rfl rfl (by omega) (fun x76 q77 => ?_)
                  refine R_bald rfl sh_100 ⟨by omega, by omega⟩ ?_
                  refine N_any (fun x78 => ?_)
                  refine R_aload_c (k := 1) rfl rfl rfl (by decide) ?_
                  refine R_iload_n (k := 3) rfl rfl rfl ?_
                  refine R_callV (v := .inr (.inr (.inr 10))) (As := [.inl x65]) (rest := [.inl x78]) rfl mt_9_i184 pp_J0_charAt_5068e (by decide) rfl rfl rfl (Nat.le_of_ble_eq_true rfl) (Nat.le_of_ble_eq_true rfl) ((k_J0_charAt_5068e_1 h hI x65 (by omega)).mono (fun r79 h80 p81 => ?_))
                  obtain ⟨rfl, x82, rfl, q83⟩ := p81
                  show RUN d_X9_is 67 [(3, .inl x65), (2, .inl x64), (0, .inr (.inr (.inl 96))), (1, .inr (.inr (.inr 10)))] [.inl x82, .inl x78] h _
                  refine N_icmp_ne (a := x78.toInt) (b := x82.toInt) 74 rfl rfl rfl rfl (fun c84 => ?_) (fun c84 => ?_)
                  · refine R_iconst 0 rfl rfl ?_
                    refine R_istore_n (k := 2) rfl [(2, .inl 0), (3, .inl x65), (0, .inr (.inr (.inl 96))), (1, .inr (.inr (.inr 10)))] rfl rfl (by decide) ?_
                    refine N_iinc (a := x65.toInt) (c := 1) (fun w => [(3, .inl w), (2, .inl 0), (0, .inr (.inr (.inl 96))), (1, .inr (.inr (.inr 10)))]) rfl rfl (fun _ => rfl) (by decide) rfl (by decide) (by omega) (fun x85 q86 => ?_)
                    refine R_goto 39 rfl rfl ?_
                    exact RUN_weak (psub_cons rfl (psub_cons rfl (psub_cons rfl (psub_cons rfl (psub_nil _))))) (ih66 (0 : Int32) x85 (by decide) (by omega) (by omega))
                  · refine R_iconst 1 rfl rfl ?_
                    refine R_goto 75 rfl rfl ?_
                    refine R_istore_n (k := 2) rfl [(2, .inl 1), (3, .inl x65), (0, .inr (.inr (.inl 96))), (1, .inr (.inr (.inr 10)))] rfl rfl (by decide) ?_
                    refine N_iinc (a := x65.toInt) (c := 1) (fun w => [(3, .inl w), (2, .inl 1), (0, .inr (.inr (.inl 96))), (1, .inr (.inr (.inr 10)))]) rfl rfl (fun _ => rfl) (by decide) rfl (by decide) (by omega) (fun x87 q88 => ?_)
                    refine R_goto 39 rfl rfl ?_
                    exact RUN_weak (psub_cons rfl (psub_cons rfl (psub_cons rfl (psub_cons rfl (psub_nil _))))) (ih66 (1 : Int32) x87 (by decide) (by omega) (by omega))
          exact lp63 _ (1 : Int32) (0 : Int32) (by decide) (by decide) (Nat.lt_succ_self _)
abbrev qg_X9_is_1 (h : PH)  : Option PV → PH → Prop := fun r h' => h = h' ∧ ∃ z : Int32, r = some (.inl z) ∧ ((0 ≤ z.toInt ∧ z.toInt ≤ 1))
set_option maxHeartbeats 4000000 in
set_option maxRecDepth 100000 in
theorem g_X9_is_1 (h : PH) (hI : INV h)  : CALL d_X9_is [.inr (.inr (.inl 96)), .inr (.inr (.inr 7))] h (qg_X9_is_1 h) := by
  show RUN d_X9_is 0 [(0, .inr (.inr (.inl 96))), (1, .inr (.inr (.inr 7)))] [] h _
  refine R_aload_n (k := 0) rfl rfl rfl ?_
  have b1 : (0 : Int) ≤ (h.1 96 12).toInt ∧ (h.1 96 12).toInt ≤ 3 := hI.1 96 12
  refine R_callV (v := .inr (.inr (.inl 96))) (As := []) (rest := []) rfl mt_9_i176 pp_X9_good (by decide) rfl rfl rfl (Nat.le_of_ble_eq_true rfl) (Nat.le_of_ble_eq_true rfl) ((k_X9_good h hI).mono (fun r2 h3 p4 => ?_))
  obtain ⟨rfl, x5, rfl, q6 | q6⟩ := p4
  · show RUN d_X9_is 4 [(0, .inr (.inr (.inl 96))), (1, .inr (.inr (.inr 7)))] [.inl x5] h _
    refine N_if_eq (a := x5.toInt) 35 rfl rfl rfl (fun c7 => ?_) (fun c7 => ?_)
    · refine R_iconst 0 rfl rfl ?_
      refine R_istore_n (k := 2) rfl [(2, .inl 0), (0, .inr (.inr (.inl 96))), (1, .inr (.inr (.inr 7)))] rfl rfl (by decide) ?_
      refine R_iconst 0 rfl rfl ?_
      refine R_istore_n (k := 3) rfl [(3, .inl 0), (2, .inl 0), (0, .inr (.inr (.inl 96))), (1, .inr (.inr (.inr 7)))] rfl rfl (by decide) ?_
      have lp9 : ∀ (n8 : Nat) (x10 : Int32) (x11 : Int32), 0 ≤ x10.toInt ∧ x10.toInt ≤ 0 → 0 ≤ x11.toInt ∧ x11.toInt ≤ 0 → 0 < n8 → RUN d_X9_is 39 [(3, .inl x11), (2, .inl x10), (0, .inr (.inr (.inl 96))), (1, .inr (.inr (.inr 7)))] [] h (qg_X9_is_1 h) := by
        intro n8
        induction n8 with
        | zero => intro x10 x11 m13 m14 hz; exact absurd hz (Nat.not_lt_zero _)
        | succ n8 ih12 =>
          intro x10 x11 m13 m14 hz
          refine R_iload_n (k := 3) rfl rfl rfl ?_
          refine R_aload_c (k := 1) rfl rfl rfl (by decide) ?_
          refine R_callV (v := .inr (.inr (.inr 7))) (As := []) (rest := [.inl x11]) rfl mt_9_i180 pp_J0_length_8abf5 (by decide) rfl rfl rfl (Nat.le_of_ble_eq_true rfl) (Nat.le_of_ble_eq_true rfl) ((k_J0_length_8abf5 h hI).mono (fun r15 h16 p17 => ?_))
          obtain ⟨rfl, x18, rfl, q19⟩ := p17
          show RUN d_X9_is 44 [(3, .inl x11), (2, .inl x10), (0, .inr (.inr (.inl 96))), (1, .inr (.inr (.inr 7)))] [.inl x18, .inl x11] h _
          refine N_icmp_ge (a := x11.toInt) (b := x18.toInt) 82 rfl rfl rfl rfl (fun c20 => ?_) (fun c20 => ?_)
          · exfalso; omega
          · refine R_iload_n (k := 2) rfl rfl rfl ?_
            refine N_if_eq (a := x10.toInt) 82 rfl rfl rfl (fun c21 => ?_) (fun c21 => ?_)
            · refine R_iload_n (k := 2) rfl rfl rfl ?_
              exact R_iret rfl rfl (nar_z (by omega)) ⟨rfl, _, rfl, by omega⟩
            · exfalso; omega
      exact lp9 _ (0 : Int32) (0 : Int32) (by decide) (by decide) (Nat.lt_succ_self _)
    · exfalso; omega
  · show RUN d_X9_is 4 [(0, .inr (.inr (.inl 96))), (1, .inr (.inr (.inr 7)))] [.inl x5] h _
    refine N_if_eq (a := x5.toInt) 35 rfl rfl rfl (fun c22 => ?_) (fun c22 => ?_)
    · exfalso; omega
    · refine R_aload_n (k := 0) rfl rfl rfl ?_
      refine R_getf_i (j := 10) rfl ft_9_152 sh_96 rfl ?_
      refine R_iconst 1 rfl rfl ?_
      refine N_icmp_ne (a := (h.1 96 10).toInt) (b := 1) 35 rfl rfl rfl (by decide) (fun c23 => ?_) (fun c23 => ?_)
      · refine R_iconst 0 rfl rfl ?_
        refine R_istore_n (k := 2) rfl [(2, .inl 0), (0, .inr (.inr (.inl 96))), (1, .inr (.inr (.inr 7)))] rfl rfl (by decide) ?_
        refine R_iconst 0 rfl rfl ?_
        refine R_istore_n (k := 3) rfl [(3, .inl 0), (2, .inl 0), (0, .inr (.inr (.inl 96))), (1, .inr (.inr (.inr 7)))] rfl rfl (by decide) ?_
        have lp25 : ∀ (n24 : Nat) (x26 : Int32) (x27 : Int32), 0 ≤ x26.toInt ∧ x26.toInt ≤ 0 → 0 ≤ x27.toInt ∧ x27.toInt ≤ 0 → 0 < n24 → RUN d_X9_is 39 [(3, .inl x27), (2, .inl x26), (0, .inr (.inr (.inl 96))), (1, .inr (.inr (.inr 7)))] [] h (qg_X9_is_1 h) := by
          intro n24
          induction n24 with
          | zero => intro x26 x27 m29 m30 hz; exact absurd hz (Nat.not_lt_zero _)
          | succ n24 ih28 =>
            intro x26 x27 m29 m30 hz
            refine R_iload_n (k := 3) rfl rfl rfl ?_
            refine R_aload_c (k := 1) rfl rfl rfl (by decide) ?_
            refine R_callV (v := .inr (.inr (.inr 7))) (As := []) (rest := [.inl x27]) rfl mt_9_i180 pp_J0_length_8abf5 (by decide) rfl rfl rfl (Nat.le_of_ble_eq_true rfl) (Nat.le_of_ble_eq_true rfl) ((k_J0_length_8abf5 h hI).mono (fun r31 h32 p33 => ?_))
            obtain ⟨rfl, x34, rfl, q35⟩ := p33
            show RUN d_X9_is 44 [(3, .inl x27), (2, .inl x26), (0, .inr (.inr (.inl 96))), (1, .inr (.inr (.inr 7)))] [.inl x34, .inl x27] h _
            refine N_icmp_ge (a := x27.toInt) (b := x34.toInt) 82 rfl rfl rfl rfl (fun c36 => ?_) (fun c36 => ?_)
            · exfalso; omega
            · refine R_iload_n (k := 2) rfl rfl rfl ?_
              refine N_if_eq (a := x26.toInt) 82 rfl rfl rfl (fun c37 => ?_) (fun c37 => ?_)
              · refine R_iload_n (k := 2) rfl rfl rfl ?_
                exact R_iret rfl rfl (nar_z (by omega)) ⟨rfl, _, rfl, by omega⟩
              · exfalso; omega
        exact lp25 _ (0 : Int32) (0 : Int32) (by decide) (by decide) (Nat.lt_succ_self _)
      · refine R_aload_n (k := 0) rfl rfl rfl ?_
        refine R_getf_i (j := 8) rfl ft_9_142 sh_96 rfl ?_
        have b38 : (0 : Int) ≤ (h.1 96 8).toInt ∧ (h.1 96 8).toInt ≤ 500 := hI.1 96 8
        refine R_aload_n (k := 0) rfl rfl rfl ?_
        refine R_getf_i (j := 9) rfl ft_9_149 sh_96 rfl ?_
        have b39 : (0 : Int) ≤ (h.1 96 9).toInt ∧ (h.1 96 9).toInt ≤ 500 := hI.1 96 9
        refine N_isub (a := (h.1 96 8).toInt) (b := (h.1 96 9).toInt) rfl rfl rfl (by omega) (fun x40 q41 => ?_)
        refine R_aload_c (k := 1) rfl rfl rfl (by decide) ?_
        refine R_callV (v := .inr (.inr (.inr 7))) (As := []) (rest := [.inl x40]) rfl mt_9_i180 pp_J0_length_8abf5 (by decide) rfl rfl rfl (Nat.le_of_ble_eq_true rfl) (Nat.le_of_ble_eq_true rfl) ((k_J0_length_8abf5 h hI).mono (fun r42 h43 p44 => ?_))
        obtain ⟨rfl, x45, rfl, q46⟩ := p44
        show RUN d_X9_is 28 [(0, .inr (.inr (.inl 96))), (1, .inr (.inr (.inr 7)))] [.inl x45, .inl x40] h _
        refine N_icmp_ne (a := x40.toInt) (b := x45.toInt) 35 rfl rfl rfl rfl (fun c47 => ?_) (fun c47 => ?_)
        · refine R_iconst 0 rfl rfl ?_
          refine R_istore_n (k := 2) rfl [(2, .inl 0), (0, .inr (.inr (.inl 96))), (1, .inr (.inr (.inr 7)))] rfl rfl (by decide) ?_
          refine R_iconst 0 rfl rfl ?_
          refine R_istore_n (k := 3) rfl [(3, .inl 0), (2, .inl 0), (0, .inr (.inr (.inl 96))), (1, .inr (.inr (.inr 7)))] rfl rfl (by decide) ?_
          have lp49 : ∀ (n48 : Nat) (x50 : Int32) (x51 : Int32), 0 ≤ x50.toInt ∧ x50.toInt ≤ 0 → 0 ≤ x51.toInt ∧ x51.toInt ≤ 0 → 0 < n48 → RUN d_X9_is 39 [(3, .inl x51), (2, .inl x50), (0, .inr (.inr (.inl 96))), (1, .inr (.inr (.inr 7)))] [] h (qg_X9_is_1 h) := by
            intro n48
            induction n48 with
            | zero => intro x50 x51 m53 m54 hz; exact absurd hz (Nat.not_lt_zero _)
            | succ n48 ih52 =>
              intro x50 x51 m53 m54 hz
              refine R_iload_n (k := 3) rfl rfl rfl ?_
              refine R_aload_c (k := 1) rfl rfl rfl (by decide) ?_
              refine R_callV (v := .inr (.inr (.inr 7))) (As := []) (rest := [.inl x51]) rfl mt_9_i180 pp_J0_length_8abf5 (by decide) rfl rfl rfl (Nat.le_of_ble_eq_true rfl) (Nat.le_of_ble_eq_true rfl) ((k_J0_length_8abf5 h hI).mono (fun r55 h56 p57 => ?_))
              obtain ⟨rfl, x58, rfl, q59⟩ := p57
              show RUN d_X9_is 44 [(3, .inl x51), (2, .inl x50), (0, .inr (.inr (.inl 96))), (1, .inr (.inr (.inr 7)))] [.inl x58, .inl x51] h _
              refine N_icmp_ge (a := x51.toInt) (b := x58.toInt) 82 rfl rfl rfl rfl (fun c60 => ?_) (fun c60 => ?_)
              · exfalso; omega
              · refine R_iload_n (k := 2) rfl rfl rfl ?_
                refine N_if_eq (a := x50.toInt) 82 rfl rfl rfl (fun c61 => ?_) (fun c61 => ?_)
                · refine R_iload_n (k := 2) rfl rfl rfl ?_
                  exact R_iret rfl rfl (nar_z (by omega)) ⟨rfl, _, rfl, by omega⟩
                · exfalso; omega
          exact lp49 _ (0 : Int32) (0 : Int32) (by decide) (by decide) (Nat.lt_succ_self _)
        · refine R_iconst 1 rfl rfl ?_
          refine R_goto 36 rfl rfl ?_
          refine R_istore_n (k := 2) rfl [(2, .inl 1), (0, .inr (.inr (.inl 96))), (1, .inr (.inr (.inr 7)))] rfl rfl (by decide) ?_
          refine R_iconst 0 rfl rfl ?_
          refine R_istore_n (k := 3) rfl [(3, .inl 0), (2, .inl 1), (0, .inr (.inr (.inl 96))), (1, .inr (.inr (.inr 7)))] rfl rfl (by decide) ?_
          have lp63 : ∀ (n62 : Nat) (x64 : Int32) (x65 : Int32), 0 ≤ x64.toInt ∧ x64.toInt ≤ 1 → 0 ≤ x65.toInt ∧ x65.toInt ≤ 4 → (4 - x65.toInt).toNat < n62 → RUN d_X9_is 39 [(3, .inl x65), (2, .inl x64), (0, .inr (.inr (.inl 96))), (1, .inr (.inr (.inr 7)))] [] h (qg_X9_is_1 h) := by
            intro n62
            induction n62 with
            | zero => intro x64 x65 m67 m68 hz; exact absurd hz (Nat.not_lt_zero _)
            | succ n62 ih66 =>
              intro x64 x65 m67 m68 hz
              refine R_iload_n (k := 3) rfl rfl rfl ?_
              refine R_aload_c (k := 1) rfl rfl rfl (by decide) ?_
              refine R_callV (v := .inr (.inr (.inr 7))) (As := []) (rest := [.inl x65]) rfl mt_9_i180 pp_J0_length_8abf5 (by decide) rfl rfl rfl (Nat.le_of_ble_eq_true rfl) (Nat.le_of_ble_eq_true rfl) ((k_J0_length_8abf5 h hI).mono (fun r69 h70 p71 => ?_))
              obtain ⟨rfl, x72, rfl, q73⟩ := p71
              show RUN d_X9_is 44 [(3, .inl x65), (2, .inl x64), (0, .inr (.inr (.inl 96))), (1, .inr (.inr (.inr 7)))] [.inl x72, .inl x65] h _
              refine N_icmp_ge (a := x65.toInt) (b := x72.toInt) 82 rfl rfl rfl rfl (fun c74 => ?_) (fun c74 => ?_)
              · refine R_iload_n (k := 2) rfl rfl rfl ?_
                exact R_iret rfl rfl (nar_z (by omega)) ⟨rfl, _, rfl, by omega⟩
              · refine R_iload_n (k := 2) rfl rfl rfl ?_
                refine N_if_eq (a := x64.toInt) 82 rfl rfl rfl (fun c75 => ?_) (fun c75 => ?_)
                · refine R_iload_n (k := 2) rfl rfl rfl ?_
                  exact R_iret rfl rfl (nar_z (by omega)) ⟨rfl, _, rfl, by omega⟩
                · refine R_aload_n (k := 0) rfl rfl rfl ?_
                  refine R_getf_r (j := 4) rfl ft_9_20 sh_96 rfl ?_
                  refine R_aload_n (k := 0) rfl rfl rfl ?_
                  refine R_getf_i (j := 9) rfl ft_9_149 sh_96 rfl ?_
                  refine R_iload_n (k := 3) rfl rfl rfl ?_
                  refine N_iadd (a := (h.1 96 9).toInt) (b := x65.toInt) rfl rfl rfl (by omega) (fun x76 q77 => ?_)
                  refine R_bald rfl sh_100 ⟨by omega, by omega⟩ ?_
                  refine N_any (fun x78 => ?_)
                  refine R_aload_c (k := 1) rfl rfl rfl (by decide) ?_
                  refine R_iload_n (k := 3) rfl rfl rfl ?_
                  refine R_callV (v := .inr (.inr (.inr 7))) (As := [.inl x65]) (rest := [.inl x78]) rfl mt_9_i184 pp_J0_charAt_5068e (by decide) rfl rfl rfl (Nat.le_of_ble_eq_true rfl) (Nat.le_of_ble_eq_true rfl) ((k_J0_charAt_5068e h hI x65 (by omega)).mono (fun r79 h80 p81 => ?_))
                  obtain ⟨rfl, x82, rfl, q83⟩ := p81
                  show RUN d_X9_is 67 [(3, .inl x65), (2, .inl x64), (0, .inr (.inr (.inl 96))), (1, .inr (.inr (.inr 7)))] [.inl x82, .inl x78] h _
                  refine N_icmp_ne (a := x78.toInt) (b := x82.toInt) 74 rfl rfl rfl rfl (fun c84 => ?_) (fun c84 => ?_)
                  · refine R_iconst 0 rfl rfl ?_
                    refine R_istore_n (k := 2) rfl [(2, .inl 0), (3, .inl x65), (0, .inr (.inr (.inl 96))), (1, .inr (.inr (.inr 7)))] rfl rfl (by decide) ?_
                    refine N_iinc (a := x65.toInt) (c := 1) (fun w => [(3, .inl w), (2, .inl 0), (0, .inr (.inr (.inl 96))), (1, .inr (.inr (.inr 7)))]) rfl rfl (fun _ => rfl) (by decide) rfl (by decide) (by omega) (fun x85 q86 => ?_)
                    refine R_goto 39 rfl rfl ?_
                    exact RUN_weak (psub_cons rfl (psub_cons rfl (psub_cons rfl (psub_cons rfl (psub_nil _))))) (ih66 (0 : Int32) x85 (by decide) (by omega) (by omega))
                  · refine R_iconst 1 rfl rfl ?_
                    refine R_goto 75 rfl rfl ?_
                    refine R_istore_n (k := 2) rfl [(2, .inl 1), (3, .inl x65), (0, .inr (.inr (.inl 96))), (1, .inr (.inr (.inr 7)))] rfl rfl (by decide) ?_
                    refine N_iinc (a := x65.toInt) (c := 1) (fun w => [(3, .inl w), (2, .inl 1), (0, .inr (.inr (.inl 96))), (1, .inr (.inr (.inr 7)))]) rfl rfl (fun _ => rfl) (by decide) rfl (by decide) (by omega) (fun x87 q88 => ?_)
                    refine R_goto 39 rfl rfl ?_
                    exact RUN_weak (psub_cons rfl (psub_cons rfl (psub_cons rfl (psub_cons rfl (psub_nil _))))) (ih66 (1 : Int32) x87 (by decide) (by omega) (by omega))
          exact lp63 _ (1 : Int32) (0 : Int32) (by decide) (by decide) (Nat.lt_succ_self _)
abbrev qg_X9_takes (h : PH)  : Option PV → PH → Prop := fun r h' => INV h' ∧ FR [96] h h' ∧ ((h'.1 96 12).toInt = (h.1 96 12).toInt ∧ (h'.1 96 7).toInt = (h.1 96 7).toInt ∧ (h'.1 96 5).toInt = (h.1 96 5).toInt ∧ (h'.1 96 13).toInt = (h.1 96 13).toInt ∧ ((h.1 96 12).toInt ≤ (h'.1 96 12).toInt) ∧ ((h.1 96 8).toInt ≤ (h'.1 96 8).toInt) ∧ True) ∧ ∃ z : Int32, r = some (.inl z) ∧ (((0 ≤ z.toInt ∧ z.toInt ≤ 1)) ∧ (z = ansI d_X9_is [.inr (.inr (.inl 96)), .inr (.inr (.inr 7))] h) ∧ (z.toInt = 0 → h' = h) ∧ True)
set_option maxHeartbeats 4000000 in
set_option maxRecDepth 100000 in
theorem g_X9_takes (h : PH) (hI : INV h)  : CALL d_X9_takes [.inr (.inr (.inl 96)), .inr (.inr (.inr 7))] h (qg_X9_takes h) := by
  show RUN d_X9_takes 0 [(0, .inr (.inr (.inl 96))), (1, .inr (.inr (.inr 7)))] [] h _
  have fr : FR [96] h h := FR.rf _ _
  have b1 : (0 : Int) ≤ (h.1 96 12).toInt ∧ (h.1 96 12).toInt ≤ 3 := hI.1 96 12
  have b2 : (0 : Int) ≤ (h.1 96 8).toInt ∧ (h.1 96 8).toInt ≤ 500 := hI.1 96 8
  have b3 : (0 : Int) ≤ (h.1 96 7).toInt ∧ (h.1 96 7).toInt ≤ 500 := hI.1 96 7
  have b4 : (0 : Int) ≤ (h.1 96 5).toInt ∧ (h.1 96 5).toInt ≤ 500 := hI.1 96 5
  refine R_aload_n (k := 0) rfl rfl rfl ?_
  refine R_aload_c (k := 1) rfl rfl rfl (by decide) ?_
  refine R_callV (v := .inr (.inr (.inl 96))) (As := [.inr (.inr (.inr 7))]) (rest := []) rfl mt_9_i188 pp_X9_is (by decide) rfl rfl rfl (Nat.le_of_ble_eq_true rfl) (Nat.le_of_ble_eq_true rfl) ((CALL_ans (g_X9_is_1 h hI)).mono (fun r5 h6 p7 => ?_))
  obtain ⟨⟨rfl, x8, rfl, q9⟩, za10⟩ := p7
  have za10 := za10 _ rfl
  show RUN d_X9_takes 5 [(0, .inr (.inr (.inl 96))), (1, .inr (.inr (.inr 7)))] [.inl x8] h _
  refine R_istore_n (k := 2) rfl [(2, .inl x8), (0, .inr (.inr (.inl 96))), (1, .inr (.inr (.inr 7)))] rfl rfl (by decide) ?_
  refine R_iload_n (k := 2) rfl rfl rfl ?_
  refine N_if_eq (a := x8.toInt) 14 rfl rfl rfl (fun c11 => ?_) (fun c11 => ?_)
  · refine R_iload_n (k := 2) rfl rfl rfl ?_
    exact R_iret rfl rfl (nar_z (by omega)) ⟨hI, fr, ⟨by omega, by omega, by omega, by omega, by omega, by omega, trivial⟩, _, rfl, ⟨by omega, za10, (fun _ => rfl), trivial⟩⟩
  · refine R_aload_n (k := 0) rfl rfl rfl ?_
    refine R_callV (v := .inr (.inr (.inl 96))) (As := []) (rest := []) rfl mt_9_i192 pp_X9_advance (by decide) rfl rfl rfl (Nat.le_of_ble_eq_true rfl) (Nat.le_of_ble_eq_true rfl) ((g_X9_advance h hI).mono (fun r12 h13 p14 => ?_))
    obtain ⟨hJ, fj, ⟨kp15, kp16, kp17, kp18, xq19, xq20, -⟩, rfl⟩ := p14
    have f21 := fj
    have fr := fr.trans fj (by decide)
    have hI := hJ
    have b22 : (0 : Int) ≤ (h13.1 96 8).toInt ∧ (h13.1 96 8).toInt ≤ 500 := hI.1 96 8
    show RUN d_X9_takes 14 [(2, .inl x8), (0, .inr (.inr (.inl 96))), (1, .inr (.inr (.inr 7)))] [] h13 _
    refine R_iload_n (k := 2) rfl rfl rfl ?_
    exact R_iret rfl rfl (nar_z (by omega)) ⟨hI, fr, ⟨by omega, by omega, by omega, by omega, by omega, by omega, trivial⟩, _, rfl, ⟨by omega, za10, (fun hc => absurd hc (by omega)), trivial⟩⟩
abbrev qg_X9_takes_1 (h : PH)  : Option PV → PH → Prop := fun r h' => INV h' ∧ FR [96] h h' ∧ ((h'.1 96 12).toInt = (h.1 96 12).toInt ∧ (h'.1 96 7).toInt = (h.1 96 7).toInt ∧ (h'.1 96 5).toInt = (h.1 96 5).toInt ∧ (h'.1 96 13).toInt = (h.1 96 13).toInt ∧ ((h.1 96 12).toInt ≤ (h'.1 96 12).toInt) ∧ ((h.1 96 8).toInt ≤ (h'.1 96 8).toInt) ∧ True) ∧ ∃ z : Int32, r = some (.inl z) ∧ (((0 ≤ z.toInt ∧ z.toInt ≤ 1)) ∧ (z = ansI d_X9_is [.inr (.inr (.inl 96)), .inr (.inr (.inr 10))] h) ∧ (z.toInt = 0 → h' = h) ∧ True)
set_option maxHeartbeats 4000000 in
set_option maxRecDepth 100000 in
theorem g_X9_takes_1 (h : PH) (hI : INV h)  : CALL d_X9_takes [.inr (.inr (.inl 96)), .inr (.inr (.inr 10))] h (qg_X9_takes_1 h) := by
  show RUN d_X9_takes 0 [(0, .inr (.inr (.inl 96))), (1, .inr (.inr (.inr 10)))] [] h _
  have fr : FR [96] h h := FR.rf _ _
  have b1 : (0 : Int) ≤ (h.1 96 12).toInt ∧ (h.1 96 12).toInt ≤ 3 := hI.1 96 12
  have b2 : (0 : Int) ≤ (h.1 96 8).toInt ∧ (h.1 96 8).toInt ≤ 500 := hI.1 96 8
  have b3 : (0 : Int) ≤ (h.1 96 7).toInt ∧ (h.1 96 7).toInt ≤ 500 := hI.1 96 7
  have b4 : (0 : Int) ≤ (h.1 96 5).toInt ∧ (h.1 96 5).toInt ≤ 500 := hI.1 96 5
  refine R_aload_n (k := 0) rfl rfl rfl ?_
  refine R_aload_c (k := 1) rfl rfl rfl (by decide) ?_
  refine R_callV (v := .inr (.inr (.inl 96))) (As := [.inr (.inr (.inr 10))]) (rest := []) rfl mt_9_i188 pp_X9_is (by decide) rfl rfl rfl (Nat.le_of_ble_eq_true rfl) (Nat.le_of_ble_eq_true rfl) ((CALL_ans (g_X9_is h hI)).mono (fun r5 h6 p7 => ?_))
  obtain ⟨⟨rfl, x8, rfl, q9⟩, za10⟩ := p7
  have za10 := za10 _ rfl
  show RUN d_X9_takes 5 [(0, .inr (.inr (.inl 96))), (1, .inr (.inr (.inr 10)))] [.inl x8] h _
  refine R_istore_n (k := 2) rfl [(2, .inl x8), (0, .inr (.inr (.inl 96))), (1, .inr (.inr (.inr 10)))] rfl rfl (by decide) ?_
  refine R_iload_n (k := 2) rfl rfl rfl ?_
  refine N_if_eq (a := x8.toInt) 14 rfl rfl rfl (fun c11 => ?_) (fun c11 => ?_)
  · refine R_iload_n (k := 2) rfl rfl rfl ?_
    exact R_iret rfl rfl (nar_z (by omega)) ⟨hI, fr, ⟨by omega, by omega, by omega, by omega, by omega, by omega, trivial⟩, _, rfl, ⟨by omega, za10, (fun _ => rfl), trivial⟩⟩
  · refine R_aload_n (k := 0) rfl rfl rfl ?_
    refine R_callV (v := .inr (.inr (.inl 96))) (As := []) (rest := []) rfl mt_9_i192 pp_X9_advance (by decide) rfl rfl rfl (Nat.le_of_ble_eq_true rfl) (Nat.le_of_ble_eq_true rfl) ((g_X9_advance h hI).mono (fun r12 h13 p14 => ?_))
    obtain ⟨hJ, fj, ⟨kp15, kp16, kp17, kp18, xq19, xq20, -⟩, rfl⟩ := p14
    have f21 := fj
    have fr := fr.trans fj (by decide)
    have hI := hJ
    have b22 : (0 : Int) ≤ (h13.1 96 8).toInt ∧ (h13.1 96 8).toInt ≤ 500 := hI.1 96 8
    show RUN d_X9_takes 14 [(2, .inl x8), (0, .inr (.inr (.inl 96))), (1, .inr (.inr (.inr 10)))] [] h13 _
    refine R_iload_n (k := 2) rfl rfl rfl ?_
    exact R_iret rfl rfl (nar_z (by omega)) ⟨hI, fr, ⟨by omega, by omega, by omega, by omega, by omega, by omega, trivial⟩, _, rfl, ⟨by omega, za10, (fun hc => absurd hc (by omega)), trivial⟩⟩
abbrev qg_X9_errs (h : PH) (a0 : Int32) : Option PV → PH → Prop := fun r h' => INV h' ∧ FR [96] h h' ∧ ((h'.1 96 8).toInt = (h.1 96 8).toInt ∧ (h'.1 96 10).toInt = (h.1 96 10).toInt ∧ (h'.1 96 11).toInt = (h.1 96 11).toInt ∧ (h'.1 96 7).toInt = (h.1 96 7).toInt ∧ (h'.1 96 5).toInt = (h.1 96 5).toInt ∧ (1 ≤ (h'.1 96 12).toInt) ∧ ((h.1 96 12).toInt ≤ (h'.1 96 12).toInt) ∧ ((h.1 96 8).toInt ≤ (h'.1 96 8).toInt) ∧ True) ∧ r = none
set_option maxHeartbeats 4000000 in
set_option maxRecDepth 100000 in
theorem g_X9_errs (h : PH) (hI : INV h) (a0 : Int32) (h0a : 1 ≤ a0.toInt ∧ a0.toInt ≤ 3) : CALL d_X9_errs [.inr (.inr (.inl 96)), .inl a0] h (qg_X9_errs h a0) := by
  show RUN d_X9_errs 0 [(0, .inr (.inr (.inl 96))), (1, .inl a0)] [] h _
  have fr : FR [96] h h := FR.rf _ _
  have b1 : (0 : Int) ≤ (h.1 96 12).toInt ∧ (h.1 96 12).toInt ≤ 3 := hI.1 96 12
  have b2 : (0 : Int) ≤ (h.1 96 8).toInt ∧ (h.1 96 8).toInt ≤ 500 := hI.1 96 8
  have b3 : (0 : Int) ≤ (h.1 96 7).toInt ∧ (h.1 96 7).toInt ≤ 500 := hI.1 96 7
  have b4 : (0 : Int) ≤ (h.1 96 5).toInt ∧ (h.1 96 5).toInt ≤ 500 := hI.1 96 5
  refine R_aload_n (k := 0) rfl rfl rfl ?_
  refine R_callV (v := .inr (.inr (.inl 96))) (As := []) (rest := []) rfl mt_9_i176 pp_X9_good (by decide) rfl rfl rfl (Nat.le_of_ble_eq_true rfl) (Nat.le_of_ble_eq_true rfl) ((k_X9_good h hI).mono (fun r5 h6 p7 => ?_))
  obtain ⟨rfl, x8, rfl, q9 | q9⟩ := p7
  · show RUN d_X9_errs 4 [(0, .inr (.inr (.inl 96))), (1, .inl a0)] [.inl x8] h _
    refine N_if_ne (a := x8.toInt) 8 rfl rfl rfl (fun c10 => ?_) (fun c10 => ?_)
    · exfalso; omega
    · exact R_vret rfl rfl ⟨hI, fr, ⟨by omega, by omega, by omega, by omega, by omega, by omega, by omega, by omega, trivial⟩, rfl⟩
  · show RUN d_X9_errs 4 [(0, .inr (.inr (.inl 96))), (1, .inl a0)] [.inl x8] h _
    refine N_if_ne (a := x8.toInt) 8 rfl rfl rfl (fun c11 => ?_) (fun c11 => ?_)
    · refine R_aload_n (k := 0) rfl rfl rfl ?_
      refine R_iload_n (k := 1) rfl rfl rfl ?_
      refine K_putf (j := 12) (lo := 0) (hi' := 3) rfl ft_9_173 sh_96 rfl hI (by decide) rfl (by omega) fr (by decide) (fun h12 g13 hI fr => ?_)
      have s14 : (h12.1 96 8).toInt = (h.1 96 8).toInt := by rw [g13, wI_at (by decide)]
      have s15 : (h12.1 96 10).toInt = (h.1 96 10).toInt := by rw [g13, wI_at (by decide)]
      have s16 : (h12.1 96 11).toInt = (h.1 96 11).toInt := by rw [g13, wI_at (by decide)]
      have s17 : (h12.1 96 7).toInt = (h.1 96 7).toInt := by rw [g13, wI_at (by decide)]
      have s18 : (h12.1 96 5).toInt = (h.1 96 5).toInt := by rw [g13, wI_at (by decide)]
      have s19 : (h12.1 96 13).toInt = (h.1 96 13).toInt := by rw [g13, wI_at (by decide)]
      have s20 : (h12.1 96 12).toInt = a0.toInt := by rw [g13, wI_is]
      refine R_aload_n (k := 0) rfl rfl rfl ?_
      refine R_aload_n (k := 0) rfl rfl rfl ?_
      refine R_getf_i (j := 9) rfl ft_9_149 sh_96 rfl ?_
      have b21 : (0 : Int) ≤ (h12.1 96 9).toInt ∧ (h12.1 96 9).toInt ≤ 500 := hI.1 96 9
      refine K_putf (j := 13) (lo := (-2147483648)) (hi' := 2147483647) rfl ft_9_27 sh_96 rfl hI (by decide) rfl (i_rng _) fr (by decide) (fun h22 g23 hI fr => ?_)
      have s24 : (h22.1 96 8).toInt = (h12.1 96 8).toInt := by rw [g23, wI_at (by decide)]
      have s25 : (h22.1 96 10).toInt = (h12.1 96 10).toInt := by rw [g23, wI_at (by decide)]
      have s26 : (h22.1 96 11).toInt = (h12.1 96 11).toInt := by rw [g23, wI_at (by decide)]
      have s27 : (h22.1 96 7).toInt = (h12.1 96 7).toInt := by rw [g23, wI_at (by decide)]
      have s28 : (h22.1 96 5).toInt = (h12.1 96 5).toInt := by rw [g23, wI_at (by decide)]
      have s29 : (h22.1 96 12).toInt = (h12.1 96 12).toInt := by rw [g23, wI_at (by decide)]
      have s30 : (h22.1 96 9).toInt = (h12.1 96 9).toInt := by rw [g23, wI_at (by decide)]
      have s31 : (h22.1 96 13).toInt = (h12.1 96 9).toInt := by rw [g23, wI_is]
      exact R_vret rfl rfl ⟨hI, fr, ⟨by omega, by omega, by omega, by omega, by omega, by omega, by omega, by omega, trivial⟩, rfl⟩
    · exfalso; omega

abbrev qg_X9_number (h : PH) (a0 : Int32) (a1 : Int32) : Option PV → PH → Prop := fun r h' => INV h' ∧ FR [96] h h' ∧ ((h'.1 96 7).toInt = (h.1 96 7).toInt ∧ (h'.1 96 5).toInt = (h.1 96 5).toInt ∧ ((h.1 96 12).toInt ≤ (h'.1 96 12).toInt) ∧ ((h.1 96 8).toInt ≤ (h'.1 96 8).toInt) ∧ True) ∧ ∃ z : Int32, r = some (.inl z) ∧ (((0 ≤ z.toInt ∧ z.toInt ≤ 999)) ∧ ((h'.1 96 12).toInt = 0 → a0.toInt ≤ z.toInt ∧ z.toInt ≤ a1.toInt) ∧ (z.toInt = 0 ∨ (a0.toInt ≤ z.toInt ∧ z.toInt ≤ a1.toInt)) ∧ True)
set_option maxHeartbeats 4000000 in
set_option maxRecDepth 100000 in
theorem g_X9_number (h : PH) (hI : INV h) (a0 : Int32) (a1 : Int32) (h0a : 0 ≤ a0.toInt ∧ a0.toInt ≤ 1) (h1a : (-1) ≤ a1.toInt ∧ a1.toInt ≤ 999) : CALL d_X9_number [.inr (.inr (.inl 96)), .inl a0, .inl a1] h (qg_X9_number h a0 a1) := by
  show RUN d_X9_number 0 [(0, .inr (.inr (.inl 96))), (1, .inl a0), (2, .inl a1)] [] h _
  have fr : FR [96] h h := FR.rf _ _
  have b1 : (0 : Int) ≤ (h.1 96 12).toInt ∧ (h.1 96 12).toInt ≤ 3 := hI.1 96 12
  have b2 : (0 : Int) ≤ (h.1 96 8).toInt ∧ (h.1 96 8).toInt ≤ 500 := hI.1 96 8
  have b3 : (0 : Int) ≤ (h.1 96 7).toInt ∧ (h.1 96 7).toInt ≤ 500 := hI.1 96 7
  have b4 : (0 : Int) ≤ (h.1 96 5).toInt ∧ (h.1 96 5).toInt ≤ 500 := hI.1 96 5
  refine R_aload_n (k := 0) rfl rfl rfl ?_
  refine R_callV (v := .inr (.inr (.inl 96))) (As := []) (rest := []) rfl mt_9_i176 pp_X9_good (by decide) rfl rfl rfl (Nat.le_of_ble_eq_true rfl) (Nat.le_of_ble_eq_true rfl) ((k_X9_good h hI).mono (fun r5 h6 p7 => ?_))
  obtain ⟨rfl, x8, rfl, q9 | q9⟩ := p7
  · show RUN d_X9_number 4 [(0, .inr (.inr (.inl 96))), (1, .inl a0), (2, .inl a1)] [.inl x8] h _
    refine N_if_eq (a := x8.toInt) 20 rfl rfl rfl (fun c10 => ?_) (fun c10 => ?_)
    · refine R_aload_n (k := 0) rfl rfl rfl ?_
      refine R_callV (v := .inr (.inr (.inl 96))) (As := []) (rest := []) rfl mt_9_i176 pp_X9_good (by decide) rfl rfl rfl (Nat.le_of_ble_eq_true rfl) (Nat.le_of_ble_eq_true rfl) ((k_X9_good h hI).mono (fun r11 h12 p13 => ?_))
      obtain ⟨rfl, x14, rfl, q15 | q15⟩ := p13
      · show RUN d_X9_number 24 [(0, .inr (.inr (.inl 96))), (1, .inl a0), (2, .inl a1)] [.inl x14] h _
        refine N_if_eq (a := x14.toInt) 47 rfl rfl rfl (fun c16 => ?_) (fun c16 => ?_)
        · refine R_aload_n (k := 0) rfl rfl rfl ?_
          refine R_callV (v := .inr (.inr (.inl 96))) (As := []) (rest := []) rfl mt_9_i176 pp_X9_good (by decide) rfl rfl rfl (Nat.le_of_ble_eq_true rfl) (Nat.le_of_ble_eq_true rfl) ((k_X9_good h hI).mono (fun r17 h18 p19 => ?_))
          obtain ⟨rfl, x20, rfl, q21 | q21⟩ := p19
          · show RUN d_X9_number 51 [(0, .inr (.inr (.inl 96))), (1, .inl a0), (2, .inl a1)] [.inl x20] h _
            refine N_if_ne (a := x20.toInt) 56 rfl rfl rfl (fun c22 => ?_) (fun c22 => ?_)
            · exfalso; omega
            · refine R_iconst 0 rfl rfl ?_
              have k23 : (0 : Int32).toInt = 0 := by decide
              exact R_iret rfl rfl rfl ⟨hI, fr, ⟨by omega, by omega, by omega, by omega, trivial⟩, _, rfl, ⟨by rw [show (0 : Int32).toInt = 0 from rfl] <;> omega, by omega, by omega, trivial⟩⟩
          · exfalso; omega
        · exfalso; omega
      · exfalso; omega
    · exfalso; omega
  · show RUN d_X9_number 4 [(0, .inr (.inr (.inl 96))), (1, .inl a0), (2, .inl a1)] [.inl x8] h _
    refine N_if_eq (a := x8.toInt) 20 rfl rfl rfl (fun c24 => ?_) (fun c24 => ?_)
    · exfalso; omega
    · refine R_aload_n (k := 0) rfl rfl rfl ?_
      refine R_getf_i (j := 10) rfl ft_9_152 sh_96 rfl ?_
      refine R_iconst 2 rfl rfl ?_
      refine N_icmp_eq (a := (h.1 96 10).toInt) (b := 2) 20 rfl rfl rfl (by decide) (fun c25 => ?_) (fun c25 => ?_)
      · refine R_aload_n (k := 0) rfl rfl rfl ?_
        refine R_callV (v := .inr (.inr (.inl 96))) (As := []) (rest := []) rfl mt_9_i176 pp_X9_good (by decide) rfl rfl rfl (Nat.le_of_ble_eq_true rfl) (Nat.le_of_ble_eq_true rfl) ((k_X9_good h hI).mono (fun r26 h27 p28 => ?_))
        obtain ⟨rfl, x29, rfl, q30 | q30⟩ := p28
        · exfalso; omega
        · show RUN d_X9_number 24 [(0, .inr (.inr (.inl 96))), (1, .inl a0), (2, .inl a1)] [.inl x29] h _
          refine N_if_eq (a := x29.toInt) 47 rfl rfl rfl (fun c31 => ?_) (fun c31 => ?_)
          · exfalso; omega
          · refine R_aload_n (k := 0) rfl rfl rfl ?_
            refine R_getf_i (j := 11) rfl ft_9_163 sh_96 rfl ?_
            refine N_i2l rfl (fun w32 q33 => ?_)
            refine R_iload_n (k := 1) rfl rfl rfl ?_
            refine N_i2l rfl (fun w34 q35 => ?_)
            refine R_iload_n (k := 2) rfl rfl rfl ?_
            refine N_i2l rfl (fun w36 q37 => ?_)
            refine R_callS (As := [.inr (.inl w32), .inr (.inl w34), .inr (.inl w36)]) (rest := []) rfl mt_9_i125 (by decide) pp_X9_in (by decide) rfl rfl (Nat.le_of_ble_eq_true rfl) (Nat.le_of_ble_eq_true rfl) ((k_X9_in h hI w32 w34 w36).mono (fun r38 h39 p40 => ?_))
            obtain ⟨rfl, x41, rfl, q42 | q42 | q42⟩ := p40
            · show RUN d_X9_number 39 [(0, .inr (.inr (.inl 96))), (1, .inl a0), (2, .inl a1)] [.inl x41] h _
              refine N_if_ne (a := x41.toInt) 47 rfl rfl rfl (fun c43 => ?_) (fun c43 => ?_)
              · exfalso; omega
              · refine R_aload_n (k := 0) rfl rfl rfl ?_
                refine R_iconst 2 rfl rfl ?_
                have k44 : (2 : Int32).toInt = 2 := by decide
                refine R_callV (v := .inr (.inr (.inl 96))) (As := [.inl 2]) (rest := []) rfl mt_9_i198 pp_X9_errs (by decide) rfl rfl rfl (Nat.le_of_ble_eq_true rfl) (Nat.le_of_ble_eq_true rfl) ((g_X9_errs h hI (2 : Int32) (by decide)).mono (fun r45 h46 p47 => ?_))
                obtain ⟨hJ, fj, ⟨kp48, kp49, kp50, kp51, kp52, xq53, xq54, xq55, -⟩, rfl⟩ := p47
                have f56 := fj
                have fr := fr.trans fj (by decide)
                have hI := hJ
                have b57 : (0 : Int) ≤ (h46.1 96 12).toInt ∧ (h46.1 96 12).toInt ≤ 3 := hI.1 96 12
                show RUN d_X9_number 47 [(0, .inr (.inr (.inl 96))), (1, .inl a0), (2, .inl a1)] [] h46 _
                refine R_aload_n (k := 0) rfl rfl rfl ?_
                refine R_callV (v := .inr (.inr (.inl 96))) (As := []) (rest := []) rfl mt_9_i176 pp_X9_good (by decide) rfl rfl rfl (Nat.le_of_ble_eq_true rfl) (Nat.le_of_ble_eq_true rfl) ((k_X9_good h46 hI).mono (fun r58 h59 p60 => ?_))
                obtain ⟨rfl, x61, rfl, q62 | q62⟩ := p60
                · show RUN d_X9_number 51 [(0, .inr (.inr (.inl 96))), (1, .inl a0), (2, .inl a1)] [.inl x61] h46 _
                  refine N_if_ne (a := x61.toInt) 56 rfl rfl rfl (fun c63 => ?_) (fun c63 => ?_)
                  · exfalso; omega
                  · refine R_iconst 0 rfl rfl ?_
                    have k64 : (0 : Int32).toInt = 0 := by decide
                    exact R_iret rfl rfl rfl ⟨hI, fr, ⟨by omega, by omega, by omega, by omega, trivial⟩, _, rfl, ⟨by rw [show (0 : Int32).toInt = 0 from rfl] <;> omega, by omega, by omega, trivial⟩⟩
                · exfalso; omega
            · show RUN d_X9_number 39 [(0, .inr (.inr (.inl 96))), (1, .inl a0), (2, .inl a1)] [.inl x41] h _
              refine N_if_ne (a := x41.toInt) 47 rfl rfl rfl (fun c65 => ?_) (fun c65 => ?_)
              · exfalso; omega
              · refine R_aload_n (k := 0) rfl rfl rfl ?_
                refine R_iconst 2 rfl rfl ?_
                have k66 : (2 : Int32).toInt = 2 := by decide
                refine R_callV (v := .inr (.inr (.inl 96))) (As := [.inl 2]) (rest := []) rfl mt_9_i198 pp_X9_errs (by decide) rfl rfl rfl (Nat.le_of_ble_eq_true rfl) (Nat.le_of_ble_eq_true rfl) ((g_X9_errs h hI (2 : Int32) (by decide)).mono (fun r67 h68 p69 => ?_))
                obtain ⟨hJ, fj, ⟨kp70, kp71, kp72, kp73, kp74, xq75, xq76, xq77, -⟩, rfl⟩ := p69
                have f78 := fj
                have fr := fr.trans fj (by decide)
                have hI := hJ
                have b79 : (0 : Int) ≤ (h68.1 96 12).toInt ∧ (h68.1 96 12).toInt ≤ 3 := hI.1 96 12
                show RUN d_X9_number 47 [(0, .inr (.inr (.inl 96))), (1, .inl a0), (2, .inl a1)] [] h68 _
                refine R_aload_n (k := 0) rfl rfl rfl ?_
                refine R_callV (v := .inr (.inr (.inl 96))) (As := []) (rest := []) rfl mt_9_i176 pp_X9_good (by decide) rfl rfl rfl (Nat.le_of_ble_eq_true rfl) (Nat.le_of_ble_eq_true rfl) ((k_X9_good h68 hI).mono (fun r80 h81 p82 => ?_))
                obtain ⟨rfl, x83, rfl, q84 | q84⟩ := p82
                · show RUN d_X9_number 51 [(0, .inr (.inr (.inl 96))), (1, .inl a0), (2, .inl a1)] [.inl x83] h68 _
                  refine N_if_ne (a := x83.toInt) 56 rfl rfl rfl (fun c85 => ?_) (fun c85 => ?_)
                  · exfalso; omega
                  · refine R_iconst 0 rfl rfl ?_
                    have k86 : (0 : Int32).toInt = 0 := by decide
                    exact R_iret rfl rfl rfl ⟨hI, fr, ⟨by omega, by omega, by omega, by omega, trivial⟩, _, rfl, ⟨by rw [show (0 : Int32).toInt = 0 from rfl] <;> omega, by omega, by omega, trivial⟩⟩
                · exfalso; omega
            · show RUN d_X9_number 39 [(0, .inr (.inr (.inl 96))), (1, .inl a0), (2, .inl a1)] [.inl x41] h _
              refine N_if_ne (a := x41.toInt) 47 rfl rfl rfl (fun c87 => ?_) (fun c87 => ?_)
              · refine R_aload_n (k := 0) rfl rfl rfl ?_
                refine R_callV (v := .inr (.inr (.inl 96))) (As := []) (rest := []) rfl mt_9_i176 pp_X9_good (by decide) rfl rfl rfl (Nat.le_of_ble_eq_true rfl) (Nat.le_of_ble_eq_true rfl) ((k_X9_good h hI).mono (fun r88 h89 p90 => ?_))
                obtain ⟨rfl, x91, rfl, q92 | q92⟩ := p90
                · exfalso; omega
                · show RUN d_X9_number 51 [(0, .inr (.inr (.inl 96))), (1, .inl a0), (2, .inl a1)] [.inl x91] h _
                  refine N_if_ne (a := x91.toInt) 56 rfl rfl rfl (fun c93 => ?_) (fun c93 => ?_)
                  · refine R_aload_n (k := 0) rfl rfl rfl ?_
                    refine R_getf_i (j := 11) rfl ft_9_163 sh_96 rfl ?_
                    refine R_istore_n (k := 3) rfl [(3, .inl (h.1 96 11)), (0, .inr (.inr (.inl 96))), (1, .inl a0), (2, .inl a1)] rfl rfl (by decide) ?_
                    refine R_aload_n (k := 0) rfl rfl rfl ?_
                    refine R_callV (v := .inr (.inr (.inl 96))) (As := []) (rest := []) rfl mt_9_i192 pp_X9_advance (by decide) rfl rfl rfl (Nat.le_of_ble_eq_true rfl) (Nat.le_of_ble_eq_true rfl) ((g_X9_advance h hI).mono (fun r94 h95 p96 => ?_))
                    obtain ⟨hJ, fj, ⟨kp97, kp98, kp99, kp100, xq101, xq102, -⟩, rfl⟩ := p96
                    have f103 := fj
                    have fr := fr.trans fj (by decide)
                    have hI := hJ
                    have b104 : (0 : Int) ≤ (h95.1 96 8).toInt ∧ (h95.1 96 8).toInt ≤ 500 := hI.1 96 8
                    show RUN d_X9_number 65 [(3, .inl (h.1 96 11)), (0, .inr (.inr (.inl 96))), (1, .inl a0), (2, .inl a1)] [] h95 _
                    refine R_iload_n (k := 3) rfl rfl rfl ?_
                    exact R_iret rfl rfl rfl ⟨hI, fr, ⟨by omega, by omega, by omega, by omega, trivial⟩, _, rfl, ⟨by omega, by omega, by omega, trivial⟩⟩
                  · exfalso; omega
              · exfalso; omega
      · refine R_aload_n (k := 0) rfl rfl rfl ?_
        refine R_iconst 1 rfl rfl ?_
        have k105 : (1 : Int32).toInt = 1 := by decide
        refine R_callV (v := .inr (.inr (.inl 96))) (As := [.inl 1]) (rest := []) rfl mt_9_i198 pp_X9_errs (by decide) rfl rfl rfl (Nat.le_of_ble_eq_true rfl) (Nat.le_of_ble_eq_true rfl) ((g_X9_errs h hI (1 : Int32) (by decide)).mono (fun r106 h107 p108 => ?_))
        obtain ⟨hJ, fj, ⟨kp109, kp110, kp111, kp112, kp113, xq114, xq115, xq116, -⟩, rfl⟩ := p108
        have f117 := fj
        have fr := fr.trans fj (by decide)
        have hI := hJ
        have b118 : (0 : Int) ≤ (h107.1 96 12).toInt ∧ (h107.1 96 12).toInt ≤ 3 := hI.1 96 12
        show RUN d_X9_number 20 [(0, .inr (.inr (.inl 96))), (1, .inl a0), (2, .inl a1)] [] h107 _
        refine R_aload_n (k := 0) rfl rfl rfl ?_
        refine R_callV (v := .inr (.inr (.inl 96))) (As := []) (rest := []) rfl mt_9_i176 pp_X9_good (by decide) rfl rfl rfl (Nat.le_of_ble_eq_true rfl) (Nat.le_of_ble_eq_true rfl) ((k_X9_good h107 hI).mono (fun r119 h120 p121 => ?_))
        obtain ⟨rfl, x122, rfl, q123 | q123⟩ := p121
        · show RUN d_X9_number 24 [(0, .inr (.inr (.inl 96))), (1, .inl a0), (2, .inl a1)] [.inl x122] h107 _
          refine N_if_eq (a := x122.toInt) 47 rfl rfl rfl (fun c124 => ?_) (fun c124 => ?_)
          · refine R_aload_n (k := 0) rfl rfl rfl ?_
            refine R_callV (v := .inr (.inr (.inl 96))) (As := []) (rest := []) rfl mt_9_i176 pp_X9_good (by decide) rfl rfl rfl (Nat.le_of_ble_eq_true rfl) (Nat.le_of_ble_eq_true rfl) ((k_X9_good h107 hI).mono (fun r125 h126 p127 => ?_))
            obtain ⟨rfl, x128, rfl, q129 | q129⟩ := p127
            · show RUN d_X9_number 51 [(0, .inr (.inr (.inl 96))), (1, .inl a0), (2, .inl a1)] [.inl x128] h107 _
              refine N_if_ne (a := x128.toInt) 56 rfl rfl rfl (fun c130 => ?_) (fun c130 => ?_)
              · exfalso; omega
              · refine R_iconst 0 rfl rfl ?_
                have k131 : (0 : Int32).toInt = 0 := by decide
                exact R_iret rfl rfl rfl ⟨hI, fr, ⟨by omega, by omega, by omega, by omega, trivial⟩, _, rfl, ⟨by rw [show (0 : Int32).toInt = 0 from rfl] <;> omega, by omega, by omega, trivial⟩⟩
            · exfalso; omega
          · exfalso; omega
        · exfalso; omega
abbrev qg_X9_readPair (h : PH) (a0 : Int32) : Option PV → PH → Prop := fun r h' => INV h' ∧ FR [96, 102] h h' ∧ ((h'.1 102 0).toInt = (h.1 102 0).toInt ∧ (h'.1 102 5).toInt = (h.1 102 5).toInt ∧ (h'.1 102 9).toInt = (h.1 102 9).toInt ∧ (h'.1 102 10).toInt = (h.1 102 10).toInt ∧ (h'.1 96 7).toInt = (h.1 96 7).toInt ∧ (h'.1 96 5).toInt = (h.1 96 5).toInt ∧ ((h.1 96 12).toInt ≤ (h'.1 96 12).toInt) ∧ ((h.1 96 8).toInt ≤ (h'.1 96 8).toInt) ∧ True) ∧ r = none
set_option maxHeartbeats 4000000 in
set_option maxRecDepth 100000 in
theorem g_X9_readPair (h : PH) (hI : INV h) (a0 : Int32) (h0a : 0 ≤ a0.toInt ∧ a0.toInt ≤ 1) (p102_6 : 0 ≤ (h.1 102 6).toInt ∧ (h.1 102 6).toInt ≤ 4) : CALL d_X9_readPair [.inr (.inr (.inl 96)), .inl a0] h (qg_X9_readPair h a0) := by
  show RUN d_X9_readPair 0 [(0, .inr (.inr (.inl 96))), (1, .inl a0)] [] h _
  have fr : FR [96, 102] h h := FR.rf _ _
  have b1 : (0 : Int) ≤ (h.1 102 6).toInt ∧ (h.1 102 6).toInt ≤ 5 := hI.1 102 6
  have b2 : (0 : Int) ≤ (h.1 102 0).toInt ∧ (h.1 102 0).toInt ≤ 60 := hI.1 102 0
  have b3 : (0 : Int) ≤ (h.1 102 5).toInt ∧ (h.1 102 5).toInt ≤ 6 := hI.1 102 5
  have b4 : (0 : Int) ≤ (h.1 102 9).toInt ∧ (h.1 102 9).toInt ≤ 30 := hI.1 102 9
  have b5 : (0 : Int) ≤ (h.1 96 12).toInt ∧ (h.1 96 12).toInt ≤ 3 := hI.1 96 12
  have b6 : (0 : Int) ≤ (h.1 96 8).toInt ∧ (h.1 96 8).toInt ≤ 500 := hI.1 96 8
  have b7 : (0 : Int) ≤ (h.1 96 7).toInt ∧ (h.1 96 7).toInt ≤ 500 := hI.1 96 7
  have b8 : (0 : Int) ≤ (h.1 96 5).toInt ∧ (h.1 96 5).toInt ≤ 500 := hI.1 96 5
  refine R_bipush 23 rfl rfl ?_
  refine R_iconst 3 rfl rfl ?_
  refine R_aload_n (k := 0) rfl rfl rfl ?_
  refine R_getf_r (j := 14) rfl ft_9_31 sh_96 rfl ?_
  refine R_bipush 6 rfl rfl ?_
  refine R_iald rfl sh_102 (by decide) ?_
  show RUN d_X9_readPair 10 [(0, .inr (.inr (.inl 96))), (1, .inl a0)] [.inl (h.1 102 6), .inl 3, .inl 23] h _
  refine N_imul (a := 3) (b := (h.1 102 6).toInt) rfl (by decide) rfl (by omega) (fun x9 q10 => ?_)
  refine N_iadd (a := 23) (b := x9.toInt) rfl (by decide) rfl (by omega) (fun x11 q12 => ?_)
  refine R_istore_n (k := 2) rfl [(2, .inl x11), (0, .inr (.inr (.inl 96))), (1, .inl a0)] rfl rfl (by decide) ?_
  refine R_aload_n (k := 0) rfl rfl rfl ?_
  refine R_getf_r (j := 14) rfl ft_9_31 sh_96 rfl ?_
  refine R_iload_n (k := 2) rfl rfl rfl ?_
  refine R_aload_n (k := 0) rfl rfl rfl ?_
  refine R_iconst 0 rfl rfl ?_
  refine R_aload_n (k := 0) rfl rfl rfl ?_
  refine R_getf_r (j := 14) rfl ft_9_31 sh_96 rfl ?_
  refine R_iconst 5 rfl rfl ?_
  refine R_iald rfl sh_102 (by decide) ?_
  show RUN d_X9_readPair 26 [(2, .inl x11), (0, .inr (.inr (.inl 96))), (1, .inl a0)] [.inl (h.1 102 5), .inl 0, .inr (.inr (.inl 96)), .inl x11, .inr (.inr (.inl 102))] h _
  refine R_iconst 1 rfl rfl ?_
  refine N_isub (a := (h.1 102 5).toInt) (b := 1) rfl rfl (by decide) (by omega) (fun x13 q14 => ?_)
  have k15 : (0 : Int32).toInt = 0 := by decide
  refine R_callV (v := .inr (.inr (.inl 96))) (As := [.inl 0, .inl x13]) (rest := [.inl x11, .inr (.inr (.inl 102))]) rfl mt_9_i206 pp_X9_number (by decide) rfl rfl rfl (Nat.le_of_ble_eq_true rfl) (Nat.le_of_ble_eq_true rfl) ((g_X9_number h hI (0 : Int32) x13 (by decide) (by omega)).mono (fun r16 h17 p18 => ?_))
  obtain ⟨hJ, fj, ⟨kp19, kp20, xq21, xq22, -⟩, x25, rfl, q26, zq23, zq24, -⟩ := p18
  have f27 := fj
  have fr := fr.trans fj (by decide)
  have hI := hJ
  have s28 : (h17.1 102 6).toInt = (h.1 102 6).toInt := by rw [(f27 102 (by decide)).1]
  have s29 : (h17.1 102 0).toInt = (h.1 102 0).toInt := by rw [(f27 102 (by decide)).1]
  have s30 : (h17.1 102 5).toInt = (h.1 102 5).toInt := by rw [(f27 102 (by decide)).1]
  have s31 : (h17.1 102 9).toInt = (h.1 102 9).toInt := by rw [(f27 102 (by decide)).1]
  have s32 : (h17.1 102 10).toInt = (h.1 102 10).toInt := by rw [(f27 102 (by decide)).1]
  have b33 : (0 : Int) ≤ (h17.1 96 12).toInt ∧ (h17.1 96 12).toInt ≤ 3 := hI.1 96 12
  have b34 : (0 : Int) ≤ (h17.1 96 8).toInt ∧ (h17.1 96 8).toInt ≤ 500 := hI.1 96 8
  show RUN d_X9_readPair 31 [(2, .inl x11), (0, .inr (.inr (.inl 96))), (1, .inl a0)] [.inl x25, .inl x11, .inr (.inr (.inl 102))] h17 _
  refine K_iast (a := x11.toInt) (lo := (-2147483648)) (hi' := 2147483647) rfl sh_102 rfl ⟨by omega, by omega⟩ hI (by decide) (bnd_hq (by omega)) (i_rng _) fr (by decide) (fun h35 g36 hI fr => ?_)
  have s37 : (h35.1 102 6).toInt = (h17.1 102 6).toInt := by rw [g36, wI_at (i := 6) (nepl (x := x11) (c := 6) (by omega))]
  have s38 : (h35.1 102 0).toInt = (h17.1 102 0).toInt := by rw [g36, wI_at (i := 0) (nepl (x := x11) (c := 0) (by omega))]
  have s39 : (h35.1 102 5).toInt = (h17.1 102 5).toInt := by rw [g36, wI_at (i := 5) (nepl (x := x11) (c := 5) (by omega))]
  have s40 : (h35.1 102 9).toInt = (h17.1 102 9).toInt := by rw [g36, wI_at (i := 9) (nepl (x := x11) (c := 9) (by omega))]
  have s41 : (h35.1 102 10).toInt = (h17.1 102 10).toInt := by rw [g36, wI_at (i := 10) (nepl (x := x11) (c := 10) (by omega))]
  have s42 : (h35.1 96 7).toInt = (h17.1 96 7).toInt := by rw [g36, wI_ne _ _ _ (by decide)]
  have s43 : (h35.1 96 5).toInt = (h17.1 96 5).toInt := by rw [g36, wI_ne _ _ _ (by decide)]
  have s44 : (h35.1 96 12).toInt = (h17.1 96 12).toInt := by rw [g36, wI_ne _ _ _ (by decide)]
  have s45 : (h35.1 96 8).toInt = (h17.1 96 8).toInt := by rw [g36, wI_ne _ _ _ (by decide)]
  refine R_aload_n (k := 0) rfl rfl rfl ?_
  refine R_callV (v := .inr (.inr (.inl 96))) (As := []) (rest := []) rfl mt_9_i176 pp_X9_good (by decide) rfl rfl rfl (Nat.le_of_ble_eq_true rfl) (Nat.le_of_ble_eq_true rfl) ((k_X9_good h35 hI).mono (fun r46 h47 p48 => ?_))
  obtain ⟨rfl, x49, rfl, q50 | q50⟩ := p48
  · show RUN d_X9_readPair 36 [(2, .inl x11), (0, .inr (.inr (.inl 96))), (1, .inl a0)] [.inl x49] h35 _
    refine N_if_eq (a := x49.toInt) 65 rfl rfl rfl (fun c51 => ?_) (fun c51 => ?_)
    · refine R_aload_n (k := 0) rfl rfl rfl ?_
      refine R_getf_r (j := 14) rfl ft_9_31 sh_96 rfl ?_
      refine R_iload_n (k := 2) rfl rfl rfl ?_
      refine R_iconst 1 rfl rfl ?_
      refine N_iadd (a := x11.toInt) (b := 1) rfl rfl (by decide) (by omega) (fun x52 q53 => ?_)
      refine R_aload_n (k := 0) rfl rfl rfl ?_
      refine R_iconst 0 rfl rfl ?_
      refine R_aload_n (k := 0) rfl rfl rfl ?_
      refine R_getf_r (j := 14) rfl ft_9_31 sh_96 rfl ?_
      refine R_iconst 5 rfl rfl ?_
      refine R_iald rfl sh_102 (by decide) ?_
      show RUN d_X9_readPair 80 [(2, .inl x11), (0, .inr (.inr (.inl 96))), (1, .inl a0)] [.inl (h35.1 102 5), .inl 0, .inr (.inr (.inl 96)), .inl x52, .inr (.inr (.inl 102))] h35 _
      refine R_iconst 1 rfl rfl ?_
      refine N_isub (a := (h35.1 102 5).toInt) (b := 1) rfl rfl (by decide) (by omega) (fun x54 q55 => ?_)
      have k56 : (0 : Int32).toInt = 0 := by decide
      refine R_callV (v := .inr (.inr (.inl 96))) (As := [.inl 0, .inl x54]) (rest := [.inl x52, .inr (.inr (.inl 102))]) rfl mt_9_i206 pp_X9_number (by decide) rfl rfl rfl (Nat.le_of_ble_eq_true rfl) (Nat.le_of_ble_eq_true rfl) ((g_X9_number h35 hI (0 : Int32) x54 (by decide) (by omega)).mono (fun r57 h58 p59 => ?_))
      obtain ⟨hJ, fj, ⟨kp60, kp61, xq62, xq63, -⟩, x66, rfl, q67, zq64, zq65, -⟩ := p59
      have f68 := fj
      have fr := fr.trans fj (by decide)
      have hI := hJ
      have s69 : (h58.1 102 6).toInt = (h35.1 102 6).toInt := by rw [(f68 102 (by decide)).1]
      have s70 : (h58.1 102 0).toInt = (h35.1 102 0).toInt := by rw [(f68 102 (by decide)).1]
      have s71 : (h58.1 102 5).toInt = (h35.1 102 5).toInt := by rw [(f68 102 (by decide)).1]
      have s72 : (h58.1 102 9).toInt = (h35.1 102 9).toInt := by rw [(f68 102 (by decide)).1]
      have s73 : (h58.1 102 10).toInt = (h35.1 102 10).toInt := by rw [(f68 102 (by decide)).1]
      have b74 : (0 : Int) ≤ (h58.1 96 12).toInt ∧ (h58.1 96 12).toInt ≤ 3 := hI.1 96 12
      have b75 : (0 : Int) ≤ (h58.1 96 8).toInt ∧ (h58.1 96 8).toInt ≤ 500 := hI.1 96 8
      show RUN d_X9_readPair 85 [(2, .inl x11), (0, .inr (.inr (.inl 96))), (1, .inl a0)] [.inl x66, .inl x52, .inr (.inr (.inl 102))] h58 _
      refine K_iast (a := x52.toInt) (lo := (-2147483648)) (hi' := 2147483647) rfl sh_102 rfl ⟨by omega, by omega⟩ hI (by decide) (bnd_hq (by omega)) (i_rng _) fr (by decide) (fun h76 g77 hI fr => ?_)
      have s78 : (h76.1 102 6).toInt = (h58.1 102 6).toInt := by rw [g77, wI_at (i := 6) (nepl (x := x52) (c := 6) (by omega))]
      have s79 : (h76.1 102 0).toInt = (h58.1 102 0).toInt := by rw [g77, wI_at (i := 0) (nepl (x := x52) (c := 0) (by omega))]
      have s80 : (h76.1 102 5).toInt = (h58.1 102 5).toInt := by rw [g77, wI_at (i := 5) (nepl (x := x52) (c := 5) (by omega))]
      have s81 : (h76.1 102 9).toInt = (h58.1 102 9).toInt := by rw [g77, wI_at (i := 9) (nepl (x := x52) (c := 9) (by omega))]
      have s82 : (h76.1 102 10).toInt = (h58.1 102 10).toInt := by rw [g77, wI_at (i := 10) (nepl (x := x52) (c := 10) (by omega))]
      have s83 : (h76.1 96 7).toInt = (h58.1 96 7).toInt := by rw [g77, wI_ne _ _ _ (by decide)]
      have s84 : (h76.1 96 5).toInt = (h58.1 96 5).toInt := by rw [g77, wI_ne _ _ _ (by decide)]
      have s85 : (h76.1 96 12).toInt = (h58.1 96 12).toInt := by rw [g77, wI_ne _ _ _ (by decide)]
      have s86 : (h76.1 96 8).toInt = (h58.1 96 8).toInt := by rw [g77, wI_ne _ _ _ (by decide)]
      refine R_aload_n (k := 0) rfl rfl rfl ?_
      refine R_getf_r (j := 14) rfl ft_9_31 sh_96 rfl ?_
      refine R_iload_n (k := 2) rfl rfl rfl ?_
      refine R_iconst 2 rfl rfl ?_
      refine N_iadd (a := x11.toInt) (b := 2) rfl rfl (by decide) (by omega) (fun x87 q88 => ?_)
      refine R_iload_n (k := 1) rfl rfl rfl ?_
      refine K_iast (a := x87.toInt) (lo := (-2147483648)) (hi' := 2147483647) rfl sh_102 rfl ⟨by omega, by omega⟩ hI (by decide) (bnd_hq (by omega)) (i_rng _) fr (by decide) (fun h89 g90 hI fr => ?_)
      have s91 : (h89.1 102 6).toInt = (h76.1 102 6).toInt := by rw [g90, wI_at (i := 6) (nepl (x := x87) (c := 6) (by omega))]
      have s92 : (h89.1 102 0).toInt = (h76.1 102 0).toInt := by rw [g90, wI_at (i := 0) (nepl (x := x87) (c := 0) (by omega))]
      have s93 : (h89.1 102 5).toInt = (h76.1 102 5).toInt := by rw [g90, wI_at (i := 5) (nepl (x := x87) (c := 5) (by omega))]
      have s94 : (h89.1 102 9).toInt = (h76.1 102 9).toInt := by rw [g90, wI_at (i := 9) (nepl (x := x87) (c := 9) (by omega))]
      have s95 : (h89.1 102 10).toInt = (h76.1 102 10).toInt := by rw [g90, wI_at (i := 10) (nepl (x := x87) (c := 10) (by omega))]
      have s96 : (h89.1 96 7).toInt = (h76.1 96 7).toInt := by rw [g90, wI_ne _ _ _ (by decide)]
      have s97 : (h89.1 96 5).toInt = (h76.1 96 5).toInt := by rw [g90, wI_ne _ _ _ (by decide)]
      have s98 : (h89.1 96 12).toInt = (h76.1 96 12).toInt := by rw [g90, wI_ne _ _ _ (by decide)]
      have s99 : (h89.1 96 8).toInt = (h76.1 96 8).toInt := by rw [g90, wI_ne _ _ _ (by decide)]
      refine R_aload_n (k := 0) rfl rfl rfl ?_
      refine R_getf_r (j := 14) rfl ft_9_31 sh_96 rfl ?_
      refine R_bipush 6 rfl rfl ?_
      refine R_dup2 rfl ?_
      refine R_iald rfl sh_102 (by decide) ?_
      show RUN d_X9_readPair 103 [(2, .inl x11), (0, .inr (.inr (.inl 96))), (1, .inl a0)] [.inl (h89.1 102 6), .inl 6, .inr (.inr (.inl 102))] h89 _
      refine R_iconst 1 rfl rfl ?_
      refine N_iadd (a := (h89.1 102 6).toInt) (b := 1) rfl rfl (by decide) (by omega) (fun x100 q101 => ?_)
      refine K_iast (a := 6) (lo := 0) (hi' := 5) rfl sh_102 (by decide) (by decide) hI (by decide) rfl (by omega) fr (by decide) (fun h102 g103 hI fr => ?_)
      have s104 : (h102.1 102 0).toInt = (h89.1 102 0).toInt := by rw [g103, show (6 : Int32).toNatClampNeg = 6 from rfl, wI_at (by decide)]
      have s105 : (h102.1 102 5).toInt = (h89.1 102 5).toInt := by rw [g103, show (6 : Int32).toNatClampNeg = 6 from rfl, wI_at (by decide)]
      have s106 : (h102.1 102 9).toInt = (h89.1 102 9).toInt := by rw [g103, show (6 : Int32).toNatClampNeg = 6 from rfl, wI_at (by decide)]
      have s107 : (h102.1 102 10).toInt = (h89.1 102 10).toInt := by rw [g103, show (6 : Int32).toNatClampNeg = 6 from rfl, wI_at (by decide)]
      have s108 : (h102.1 96 7).toInt = (h89.1 96 7).toInt := by rw [g103, wI_ne _ _ _ (by decide)]
      have s109 : (h102.1 96 5).toInt = (h89.1 96 5).toInt := by rw [g103, wI_ne _ _ _ (by decide)]
      have s110 : (h102.1 96 12).toInt = (h89.1 96 12).toInt := by rw [g103, wI_ne _ _ _ (by decide)]
      have s111 : (h102.1 96 8).toInt = (h89.1 96 8).toInt := by rw [g103, wI_ne _ _ _ (by decide)]
      have s112 : (h102.1 102 6).toInt = x100.toInt := by rw [g103, show (6 : Int32).toNatClampNeg = 6 from rfl, wI_is]
      exact R_vret rfl rfl ⟨hI, fr, ⟨by omega, by omega, by omega, by omega, by omega, by omega, by omega, by omega, trivial⟩, rfl⟩
    · exfalso; omega
  · show RUN d_X9_readPair 36 [(2, .inl x11), (0, .inr (.inr (.inl 96))), (1, .inl a0)] [.inl x49] h35 _
    refine N_if_eq (a := x49.toInt) 65 rfl rfl rfl (fun c113 => ?_) (fun c113 => ?_)
    · exfalso; omega
    · refine R_aload_n (k := 0) rfl rfl rfl ?_
      refine R_getf_i (j := 10) rfl ft_9_152 sh_96 rfl ?_
      refine R_iconst 2 rfl rfl ?_
      refine N_icmp_ne (a := (h35.1 96 10).toInt) (b := 2) 65 rfl rfl rfl (by decide) (fun c114 => ?_) (fun c114 => ?_)
      · refine R_aload_n (k := 0) rfl rfl rfl ?_
        refine R_getf_r (j := 14) rfl ft_9_31 sh_96 rfl ?_
        refine R_iload_n (k := 2) rfl rfl rfl ?_
        refine R_iconst 1 rfl rfl ?_
        refine N_iadd (a := x11.toInt) (b := 1) rfl rfl (by decide) (by omega) (fun x115 q116 => ?_)
        refine R_aload_n (k := 0) rfl rfl rfl ?_
        refine R_iconst 0 rfl rfl ?_
        refine R_aload_n (k := 0) rfl rfl rfl ?_
        refine R_getf_r (j := 14) rfl ft_9_31 sh_96 rfl ?_
        refine R_iconst 5 rfl rfl ?_
        refine R_iald rfl sh_102 (by decide) ?_
        show RUN d_X9_readPair 80 [(2, .inl x11), (0, .inr (.inr (.inl 96))), (1, .inl a0)] [.inl (h35.1 102 5), .inl 0, .inr (.inr (.inl 96)), .inl x115, .inr (.inr (.inl 102))] h35 _
        refine R_iconst 1 rfl rfl ?_
        refine N_isub (a := (h35.1 102 5).toInt) (b := 1) rfl rfl (by decide) (by omega) (fun x117 q118 => ?_)
        have k119 : (0 : Int32).toInt = 0 := by decide
        refine R_callV (v := .inr (.inr (.inl 96))) (As := [.inl 0, .inl x117]) (rest := [.inl x115, .inr (.inr (.inl 102))]) rfl mt_9_i206 pp_X9_number (by decide) rfl rfl rfl (Nat.le_of_ble_eq_true rfl) (Nat.le_of_ble_eq_true rfl) ((g_X9_number h35 hI (0 : Int32) x117 (by decide) (by omega)).mono (fun r120 h121 p122 => ?_))
        obtain ⟨hJ, fj, ⟨kp123, kp124, xq125, xq126, -⟩, x129, rfl, q130, zq127, zq128, -⟩ := p122
        have f131 := fj
        have fr := fr.trans fj (by decide)
        have hI := hJ
        have s132 : (h121.1 102 6).toInt = (h35.1 102 6).toInt := by rw [(f131 102 (by decide)).1]
        have s133 : (h121.1 102 0).toInt = (h35.1 102 0).toInt := by rw [(f131 102 (by decide)).1]
        have s134 : (h121.1 102 5).toInt = (h35.1 102 5).toInt := by rw [(f131 102 (by decide)).1]
        have s135 : (h121.1 102 9).toInt = (h35.1 102 9).toInt := by rw [(f131 102 (by decide)).1]
        have s136 : (h121.1 102 10).toInt = (h35.1 102 10).toInt := by rw [(f131 102 (by decide)).1]
        have b137 : (0 : Int) ≤ (h121.1 96 12).toInt ∧ (h121.1 96 12).toInt ≤ 3 := hI.1 96 12
        have b138 : (0 : Int) ≤ (h121.1 96 8).toInt ∧ (h121.1 96 8).toInt ≤ 500 := hI.1 96 8
        show RUN d_X9_readPair 85 [(2, .inl x11), (0, .inr (.inr (.inl 96))), (1, .inl a0)] [.inl x129, .inl x115, .inr (.inr (.inl 102))] h121 _
        refine K_iast (a := x115.toInt) (lo := (-2147483648)) (hi' := 2147483647) rfl sh_102 rfl ⟨by omega, by omega⟩ hI (by decide) (bnd_hq (by omega)) (i_rng _) fr (by decide) (fun h139 g140 hI fr => ?_)
        have s141 : (h139.1 102 6).toInt = (h121.1 102 6).toInt := by rw [g140, wI_at (i := 6) (nepl (x := x115) (c := 6) (by omega))]
        have s142 : (h139.1 102 0).toInt = (h121.1 102 0).toInt := by rw [g140, wI_at (i := 0) (nepl (x := x115) (c := 0) (by omega))]
        have s143 : (h139.1 102 5).toInt = (h121.1 102 5).toInt := by rw [g140, wI_at (i := 5) (nepl (x := x115) (c := 5) (by omega))]
        have s144 : (h139.1 102 9).toInt = (h121.1 102 9).toInt := by rw [g140, wI_at (i := 9) (nepl (x := x115) (c := 9) (by omega))]
        have s145 : (h139.1 102 10).toInt = (h121.1 102 10).toInt := by rw [g140, wI_at (i := 10) (nepl (x := x115) (c := 10) (by omega))]
        have s146 : (h139.1 96 7).toInt = (h121.1 96 7).toInt := by rw [g140, wI_ne _ _ _ (by decide)]
        have s147 : (h139.1 96 5).toInt = (h121.1 96 5).toInt := by rw [g140, wI_ne _ _ _ (by decide)]
        have s148 : (h139.1 96 12).toInt = (h121.1 96 12).toInt := by rw [g140, wI_ne _ _ _ (by decide)]
        have s149 : (h139.1 96 8).toInt = (h121.1 96 8).toInt := by rw [g140, wI_ne _ _ _ (by decide)]
        refine R_aload_n (k := 0) rfl rfl rfl ?_
        refine R_getf_r (j := 14) rfl ft_9_31 sh_96 rfl ?_
        refine R_iload_n (k := 2) rfl rfl rfl ?_
        refine R_iconst 2 rfl rfl ?_
        refine N_iadd (a := x11.toInt) (b := 2) rfl rfl (by decide) (by omega) (fun x150 q151 => ?_)
        refine R_iload_n (k := 1) rfl rfl rfl ?_
        refine K_iast (a := x150.toInt) (lo := (-2147483648)) (hi' := 2147483647) rfl sh_102 rfl ⟨by omega, by omega⟩ hI (by decide) (bnd_hq (by omega)) (i_rng _) fr (by decide) (fun h152 g153 hI fr => ?_)
        have s154 : (h152.1 102 6).toInt = (h139.1 102 6).toInt := by rw [g153, wI_at (i := 6) (nepl (x := x150) (c := 6) (by omega))]
        have s155 : (h152.1 102 0).toInt = (h139.1 102 0).toInt := by rw [g153, wI_at (i := 0) (nepl (x := x150) (c := 0) (by omega))]
        have s156 : (h152.1 102 5).toInt = (h139.1 102 5).toInt := by rw [g153, wI_at (i := 5) (nepl (x := x150) (c := 5) (by omega))]
        have s157 : (h152.1 102 9).toInt = (h139.1 102 9).toInt := by rw [g153, wI_at (i := 9) (nepl (x := x150) (c := 9) (by omega))]
        have s158 : (h152.1 102 10).toInt = (h139.1 102 10).toInt := by rw [g153, wI_at (i := 10) (nepl (x := x150) (c := 10) (by omega))]
        have s159 : (h152.1 96 7).toInt = (h139.1 96 7).toInt := by rw [g153, wI_ne _ _ _ (by decide)]
        have s160 : (h152.1 96 5).toInt = (h139.1 96 5).toInt := by rw [g153, wI_ne _ _ _ (by decide)]
        have s161 : (h152.1 96 12).toInt = (h139.1 96 12).toInt := by rw [g153, wI_ne _ _ _ (by decide)]
        have s162 : (h152.1 96 8).toInt = (h139.1 96 8).toInt := by rw [g153, wI_ne _ _ _ (by decide)]
        refine R_aload_n (k := 0) rfl rfl rfl ?_
        refine R_getf_r (j := 14) rfl ft_9_31 sh_96 rfl ?_
        refine R_bipush 6 rfl rfl ?_
        refine R_dup2 rfl ?_
        refine R_iald rfl sh_102 (by decide) ?_
        show RUN d_X9_readPair 103 [(2, .inl x11), (0, .inr (.inr (.inl 96))), (1, .inl a0)] [.inl (h152.1 102 6), .inl 6, .inr (.inr (.inl 102))] h152 _
        refine R_iconst 1 rfl rfl ?_
        refine N_iadd (a := (h152.1 102 6).toInt) (b := 1) rfl rfl (by decide) (by omega) (fun x163 q164 => ?_)
        refine K_iast (a := 6) (lo := 0) (hi' := 5) rfl sh_102 (by decide) (by decide) hI (by decide) rfl (by omega) fr (by decide) (fun h165 g166 hI fr => ?_)
        have s167 : (h165.1 102 0).toInt = (h152.1 102 0).toInt := by rw [g166, show (6 : Int32).toNatClampNeg = 6 from rfl, wI_at (by decide)]
        have s168 : (h165.1 102 5).toInt = (h152.1 102 5).toInt := by rw [g166, show (6 : Int32).toNatClampNeg = 6 from rfl, wI_at (by decide)]
        have s169 : (h165.1 102 9).toInt = (h152.1 102 9).toInt := by rw [g166, show (6 : Int32).toNatClampNeg = 6 from rfl, wI_at (by decide)]
        have s170 : (h165.1 102 10).toInt = (h152.1 102 10).toInt := by rw [g166, show (6 : Int32).toNatClampNeg = 6 from rfl, wI_at (by decide)]
        have s171 : (h165.1 96 7).toInt = (h152.1 96 7).toInt := by rw [g166, wI_ne _ _ _ (by decide)]
        have s172 : (h165.1 96 5).toInt = (h152.1 96 5).toInt := by rw [g166, wI_ne _ _ _ (by decide)]
        have s173 : (h165.1 96 12).toInt = (h152.1 96 12).toInt := by rw [g166, wI_ne _ _ _ (by decide)]
        have s174 : (h165.1 96 8).toInt = (h152.1 96 8).toInt := by rw [g166, wI_ne _ _ _ (by decide)]
        have s175 : (h165.1 102 6).toInt = x163.toInt := by rw [g166, show (6 : Int32).toNatClampNeg = 6 from rfl, wI_is]
        exact R_vret rfl rfl ⟨hI, fr, ⟨by omega, by omega, by omega, by omega, by omega, by omega, by omega, by omega, trivial⟩, rfl⟩
      · refine R_aload_n (k := 0) rfl rfl rfl ?_
        refine R_getf_i (j := 11) rfl ft_9_163 sh_96 rfl ?_
        refine R_aload_n (k := 0) rfl rfl rfl ?_
        refine R_getf_r (j := 14) rfl ft_9_31 sh_96 rfl ?_
        refine R_iload_n (k := 2) rfl rfl rfl ?_
        refine R_iald rfl sh_102 ⟨by omega, by omega⟩ ?_
        refine N_any (fun x176 => ?_)
        refine N_icmp_ne (a := (h35.1 96 11).toInt) (b := x176.toInt) 65 rfl rfl rfl rfl (fun c177 => ?_) (fun c177 => ?_)
        · refine R_aload_n (k := 0) rfl rfl rfl ?_
          refine R_getf_r (j := 14) rfl ft_9_31 sh_96 rfl ?_
          refine R_iload_n (k := 2) rfl rfl rfl ?_
          refine R_iconst 1 rfl rfl ?_
          refine N_iadd (a := x11.toInt) (b := 1) rfl rfl (by decide) (by omega) (fun x178 q179 => ?_)
          refine R_aload_n (k := 0) rfl rfl rfl ?_
          refine R_iconst 0 rfl rfl ?_
          refine R_aload_n (k := 0) rfl rfl rfl ?_
          refine R_getf_r (j := 14) rfl ft_9_31 sh_96 rfl ?_
          refine R_iconst 5 rfl rfl ?_
          refine R_iald rfl sh_102 (by decide) ?_
          show RUN d_X9_readPair 80 [(2, .inl x11), (0, .inr (.inr (.inl 96))), (1, .inl a0)] [.inl (h35.1 102 5), .inl 0, .inr (.inr (.inl 96)), .inl x178, .inr (.inr (.inl 102))] h35 _
          refine R_iconst 1 rfl rfl ?_
          refine N_isub (a := (h35.1 102 5).toInt) (b := 1) rfl rfl (by decide) (by omega) (fun x180 q181 => ?_)
          have k182 : (0 : Int32).toInt = 0 := by decide
          refine R_callV (v := .inr (.inr (.inl 96))) (As := [.inl 0, .inl x180]) (rest := [.inl x178, .inr (.inr (.inl 102))]) rfl mt_9_i206 pp_X9_number (by decide) rfl rfl rfl (Nat.le_of_ble_eq_true rfl) (Nat.le_of_ble_eq_true rfl) ((g_X9_number h35 hI (0 : Int32) x180 (by decide) (by omega)).mono (fun r183 h184 p185 => ?_))
          obtain ⟨hJ, fj, ⟨kp186, kp187, xq188, xq189, -⟩, x192, rfl, q193, zq190, zq191, -⟩ := p185
          have f194 := fj
          have fr := fr.trans fj (by decide)
          have hI := hJ
          have s195 : (h184.1 102 6).toInt = (h35.1 102 6).toInt := by rw [(f194 102 (by decide)).1]
          have s196 : (h184.1 102 0).toInt = (h35.1 102 0).toInt := by rw [(f194 102 (by decide)).1]
          have s197 : (h184.1 102 5).toInt = (h35.1 102 5).toInt := by rw [(f194 102 (by decide)).1]
          have s198 : (h184.1 102 9).toInt = (h35.1 102 9).toInt := by rw [(f194 102 (by decide)).1]
          have s199 : (h184.1 102 10).toInt = (h35.1 102 10).toInt := by rw [(f194 102 (by decide)).1]
          have b200 : (0 : Int) ≤ (h184.1 96 12).toInt ∧ (h184.1 96 12).toInt ≤ 3 := hI.1 96 12
          have b201 : (0 : Int) ≤ (h184.1 96 8).toInt ∧ (h184.1 96 8).toInt ≤ 500 := hI.1 96 8
          show RUN d_X9_readPair 85 [(2, .inl x11), (0, .inr (.inr (.inl 96))), (1, .inl a0)] [.inl x192, .inl x178, .inr (.inr (.inl 102))] h184 _
          refine K_iast (a := x178.toInt) (lo := (-2147483648)) (hi' := 2147483647) rfl sh_102 rfl ⟨by omega, by omega⟩ hI (by decide) (bnd_hq (by omega)) (i_rng _) fr (by decide) (fun h202 g203 hI fr => ?_)
          have s204 : (h202.1 102 6).toInt = (h184.1 102 6).toInt := by rw [g203, wI_at (i := 6) (nepl (x := x178) (c := 6) (by omega))]
          have s205 : (h202.1 102 0).toInt = (h184.1 102 0).toInt := by rw [g203, wI_at (i := 0) (nepl (x := x178) (c := 0) (by omega))]
          have s206 : (h202.1 102 5).toInt = (h184.1 102 5).toInt := by rw [g203, wI_at (i := 5) (nepl (x := x178) (c := 5) (by omega))]
          have s207 : (h202.1 102 9).toInt = (h184.1 102 9).toInt := by rw [g203, wI_at (i := 9) (nepl (x := x178) (c := 9) (by omega))]
          have s208 : (h202.1 102 10).toInt = (h184.1 102 10).toInt := by rw [g203, wI_at (i := 10) (nepl (x := x178) (c := 10) (by omega))]
          have s209 : (h202.1 96 7).toInt = (h184.1 96 7).toInt := by rw [g203, wI_ne _ _ _ (by decide)]
          have s210 : (h202.1 96 5).toInt = (h184.1 96 5).toInt := by rw [g203, wI_ne _ _ _ (by decide)]
          have s211 : (h202.1 96 12).toInt = (h184.1 96 12).toInt := by rw [g203, wI_ne _ _ _ (by decide)]
          have s212 : (h202.1 96 8).toInt = (h184.1 96 8).toInt := by rw [g203, wI_ne _ _ _ (by decide)]
          refine R_aload_n (k := 0) rfl rfl rfl ?_
          refine R_getf_r (j := 14) rfl ft_9_31 sh_96 rfl ?_
          refine R_iload_n (k := 2) rfl rfl rfl ?_
          refine R_iconst 2 rfl rfl ?_
          refine N_iadd (a := x11.toInt) (b := 2) rfl rfl (by decide) (by omega) (fun x213 q214 => ?_)
          refine R_iload_n (k := 1) rfl rfl rfl ?_
          refine K_iast (a := x213.toInt) (lo := (-2147483648)) (hi' := 2147483647) rfl sh_102 rfl ⟨by omega, by omega⟩ hI (by decide) (bnd_hq (by omega)) (i_rng _) fr (by decide) (fun h215 g216 hI fr => ?_)
          have s217 : (h215.1 102 6).toInt = (h202.1 102 6).toInt := by rw [g216, wI_at (i := 6) (nepl (x := x213) (c := 6) (by omega))]
          have s218 : (h215.1 102 0).toInt = (h202.1 102 0).toInt := by rw [g216, wI_at (i := 0) (nepl (x := x213) (c := 0) (by omega))]
          have s219 : (h215.1 102 5).toInt = (h202.1 102 5).toInt := by rw [g216, wI_at (i := 5) (nepl (x := x213) (c := 5) (by omega))]
          have s220 : (h215.1 102 9).toInt = (h202.1 102 9).toInt := by rw [g216, wI_at (i := 9) (nepl (x := x213) (c := 9) (by omega))]
          have s221 : (h215.1 102 10).toInt = (h202.1 102 10).toInt := by rw [g216, wI_at (i := 10) (nepl (x := x213) (c := 10) (by omega))]
          have s222 : (h215.1 96 7).toInt = (h202.1 96 7).toInt := by rw [g216, wI_ne _ _ _ (by decide)]
          have s223 : (h215.1 96 5).toInt = (h202.1 96 5).toInt := by rw [g216, wI_ne _ _ _ (by decide)]
          have s224 : (h215.1 96 12).toInt = (h202.1 96 12).toInt := by rw [g216, wI_ne _ _ _ (by decide)]
          have s225 : (h215.1 96 8).toInt = (h202.1 96 8).toInt := by rw [g216, wI_ne _ _ _ (by decide)]
          refine R_aload_n (k := 0) rfl rfl rfl ?_
          refine R_getf_r (j := 14) rfl ft_9_31 sh_96 rfl ?_
          refine R_bipush 6 rfl rfl ?_
          refine R_dup2 rfl ?_
          refine R_iald rfl sh_102 (by decide) ?_
          show RUN d_X9_readPair 103 [(2, .inl x11), (0, .inr (.inr (.inl 96))), (1, .inl a0)] [.inl (h215.1 102 6), .inl 6, .inr (.inr (.inl 102))] h215 _
          refine R_iconst 1 rfl rfl ?_
          refine N_iadd (a := (h215.1 102 6).toInt) (b := 1) rfl rfl (by decide) (by omega) (fun x226 q227 => ?_)
          refine K_iast (a := 6) (lo := 0) (hi' := 5) rfl sh_102 (by decide) (by decide) hI (by decide) rfl (by omega) fr (by decide) (fun h228 g229 hI fr => ?_)
          have s230 : (h228.1 102 0).toInt = (h215.1 102 0).toInt := by rw [g229, show (6 : Int32).toNatClampNeg = 6 from rfl, wI_at (by decide)]
          have s231 : (h228.1 102 5).toInt = (h215.1 102 5).toInt := by rw [g229, show (6 : Int32).toNatClampNeg = 6 from rfl, wI_at (by decide)]
          have s232 : (h228.1 102 9).toInt = (h215.1 102 9).toInt := by rw [g229, show (6 : Int32).toNatClampNeg = 6 from rfl, wI_at (by decide)]
          have s233 : (h228.1 102 10).toInt = (h215.1 102 10).toInt := by rw [g229, show (6 : Int32).toNatClampNeg = 6 from rfl, wI_at (by decide)]
          have s234 : (h228.1 96 7).toInt = (h215.1 96 7).toInt := by rw [g229, wI_ne _ _ _ (by decide)]
          have s235 : (h228.1 96 5).toInt = (h215.1 96 5).toInt := by rw [g229, wI_ne _ _ _ (by decide)]
          have s236 : (h228.1 96 12).toInt = (h215.1 96 12).toInt := by rw [g229, wI_ne _ _ _ (by decide)]
          have s237 : (h228.1 96 8).toInt = (h215.1 96 8).toInt := by rw [g229, wI_ne _ _ _ (by decide)]
          have s238 : (h228.1 102 6).toInt = x226.toInt := by rw [g229, show (6 : Int32).toNatClampNeg = 6 from rfl, wI_is]
          exact R_vret rfl rfl ⟨hI, fr, ⟨by omega, by omega, by omega, by omega, by omega, by omega, by omega, by omega, trivial⟩, rfl⟩
        · refine R_aload_n (k := 0) rfl rfl rfl ?_
          refine R_iconst 2 rfl rfl ?_
          have k239 : (2 : Int32).toInt = 2 := by decide
          refine R_callV (v := .inr (.inr (.inl 96))) (As := [.inl 2]) (rest := []) rfl mt_9_i198 pp_X9_errs (by decide) rfl rfl rfl (Nat.le_of_ble_eq_true rfl) (Nat.le_of_ble_eq_true rfl) ((g_X9_errs h35 hI (2 : Int32) (by decide)).mono (fun r240 h241 p242 => ?_))
          obtain ⟨hJ, fj, ⟨kp243, kp244, kp245, kp246, kp247, xq248, xq249, xq250, -⟩, rfl⟩ := p242
          have f251 := fj
          have fr := fr.trans fj (by decide)
          have hI := hJ
          have s252 : (h241.1 102 6).toInt = (h35.1 102 6).toInt := by rw [(f251 102 (by decide)).1]
          have s253 : (h241.1 102 0).toInt = (h35.1 102 0).toInt := by rw [(f251 102 (by decide)).1]
          have s254 : (h241.1 102 5).toInt = (h35.1 102 5).toInt := by rw [(f251 102 (by decide)).1]
          have s255 : (h241.1 102 9).toInt = (h35.1 102 9).toInt := by rw [(f251 102 (by decide)).1]
          have s256 : (h241.1 102 10).toInt = (h35.1 102 10).toInt := by rw [(f251 102 (by decide)).1]
          have b257 : (0 : Int) ≤ (h241.1 96 12).toInt ∧ (h241.1 96 12).toInt ≤ 3 := hI.1 96 12
          show RUN d_X9_readPair 65 [(2, .inl x11), (0, .inr (.inr (.inl 96))), (1, .inl a0)] [] h241 _
          refine R_aload_n (k := 0) rfl rfl rfl ?_
          refine R_getf_r (j := 14) rfl ft_9_31 sh_96 rfl ?_
          refine R_iload_n (k := 2) rfl rfl rfl ?_
          refine R_iconst 1 rfl rfl ?_
          refine N_iadd (a := x11.toInt) (b := 1) rfl rfl (by decide) (by omega) (fun x258 q259 => ?_)
          refine R_aload_n (k := 0) rfl rfl rfl ?_
          refine R_iconst 0 rfl rfl ?_
          refine R_aload_n (k := 0) rfl rfl rfl ?_
          refine R_getf_r (j := 14) rfl ft_9_31 sh_96 rfl ?_
          refine R_iconst 5 rfl rfl ?_
          refine R_iald rfl sh_102 (by decide) ?_
          show RUN d_X9_readPair 80 [(2, .inl x11), (0, .inr (.inr (.inl 96))), (1, .inl a0)] [.inl (h241.1 102 5), .inl 0, .inr (.inr (.inl 96)), .inl x258, .inr (.inr (.inl 102))] h241 _
          refine R_iconst 1 rfl rfl ?_
          refine N_isub (a := (h241.1 102 5).toInt) (b := 1) rfl rfl (by decide) (by omega) (fun x260 q261 => ?_)
          have k262 : (0 : Int32).toInt = 0 := by decide
          refine R_callV (v := .inr (.inr (.inl 96))) (As := [.inl 0, .inl x260]) (rest := [.inl x258, .inr (.inr (.inl 102))]) rfl mt_9_i206 pp_X9_number (by decide) rfl rfl rfl (Nat.le_of_ble_eq_true rfl) (Nat.le_of_ble_eq_true rfl) ((g_X9_number h241 hI (0 : Int32) x260 (by decide) (by omega)).mono (fun r263 h264 p265 => ?_))
          obtain ⟨hJ, fj, ⟨kp266, kp267, xq268, xq269, -⟩, x272, rfl, q273, zq270, zq271, -⟩ := p265
          have f274 := fj
          have fr := fr.trans fj (by decide)
          have hI := hJ
          have s275 : (h264.1 102 6).toInt = (h241.1 102 6).toInt := by rw [(f274 102 (by decide)).1]
          have s276 : (h264.1 102 0).toInt = (h241.1 102 0).toInt := by rw [(f274 102 (by decide)).1]
          have s277 : (h264.1 102 5).toInt = (h241.1 102 5).toInt := by rw [(f274 102 (by decide)).1]
          have s278 : (h264.1 102 9).toInt = (h241.1 102 9).toInt := by rw [(f274 102 (by decide)).1]
          have s279 : (h264.1 102 10).toInt = (h241.1 102 10).toInt := by rw [(f274 102 (by decide)).1]
          have b280 : (0 : Int) ≤ (h264.1 96 12).toInt ∧ (h264.1 96 12).toInt ≤ 3 := hI.1 96 12
          have b281 : (0 : Int) ≤ (h264.1 96 8).toInt ∧ (h264.1 96 8).toInt ≤ 500 := hI.1 96 8
          show RUN d_X9_readPair 85 [(2, .inl x11), (0, .inr (.inr (.inl 96))), (1, .inl a0)] [.inl x272, .inl x258, .inr (.inr (.inl 102))] h264 _
          refine K_iast (a := x258.toInt) (lo := (-2147483648)) (hi' := 2147483647) rfl sh_102 rfl ⟨by omega, by omega⟩ hI (by decide) (bnd_hq (by omega)) (i_rng _) fr (by decide) (fun h282 g283 hI fr => ?_)
          have s284 : (h282.1 102 6).toInt = (h264.1 102 6).toInt := by rw [g283, wI_at (i := 6) (nepl (x := x258) (c := 6) (by omega))]
          have s285 : (h282.1 102 0).toInt = (h264.1 102 0).toInt := by rw [g283, wI_at (i := 0) (nepl (x := x258) (c := 0) (by omega))]
          have s286 : (h282.1 102 5).toInt = (h264.1 102 5).toInt := by rw [g283, wI_at (i := 5) (nepl (x := x258) (c := 5) (by omega))]
          have s287 : (h282.1 102 9).toInt = (h264.1 102 9).toInt := by rw [g283, wI_at (i := 9) (nepl (x := x258) (c := 9) (by omega))]
          have s288 : (h282.1 102 10).toInt = (h264.1 102 10).toInt := by rw [g283, wI_at (i := 10) (nepl (x := x258) (c := 10) (by omega))]
          have s289 : (h282.1 96 7).toInt = (h264.1 96 7).toInt := by rw [g283, wI_ne _ _ _ (by decide)]
          have s290 : (h282.1 96 5).toInt = (h264.1 96 5).toInt := by rw [g283, wI_ne _ _ _ (by decide)]
          have s291 : (h282.1 96 12).toInt = (h264.1 96 12).toInt := by rw [g283, wI_ne _ _ _ (by decide)]
          have s292 : (h282.1 96 8).toInt = (h264.1 96 8).toInt := by rw [g283, wI_ne _ _ _ (by decide)]
          refine R_aload_n (k := 0) rfl rfl rfl ?_
          refine R_getf_r (j := 14) rfl ft_9_31 sh_96 rfl ?_
          refine R_iload_n (k := 2) rfl rfl rfl ?_
          refine R_iconst 2 rfl rfl ?_
          refine N_iadd (a := x11.toInt) (b := 2) rfl rfl (by decide) (by omega) (fun x293 q294 => ?_)
          refine R_iload_n (k := 1) rfl rfl rfl ?_
          refine K_iast (a := x293.toInt) (lo := (-2147483648)) (hi' := 2147483647) rfl sh_102 rfl ⟨by omega, by omega⟩ hI (by decide) (bnd_hq (by omega)) (i_rng _) fr (by decide) (fun h295 g296 hI fr => ?_)
          have s297 : (h295.1 102 6).toInt = (h282.1 102 6).toInt := by rw [g296, wI_at (i := 6) (nepl (x := x293) (c := 6) (by omega))]
          have s298 : (h295.1 102 0).toInt = (h282.1 102 0).toInt := by rw [g296, wI_at (i := 0) (nepl (x := x293) (c := 0) (by omega))]
          have s299 : (h295.1 102 5).toInt = (h282.1 102 5).toInt := by rw [g296, wI_at (i := 5) (nepl (x := x293) (c := 5) (by omega))]
          have s300 : (h295.1 102 9).toInt = (h282.1 102 9).toInt := by rw [g296, wI_at (i := 9) (nepl (x := x293) (c := 9) (by omega))]
          have s301 : (h295.1 102 10).toInt = (h282.1 102 10).toInt := by rw [g296, wI_at (i := 10) (nepl (x := x293) (c := 10) (by omega))]
          have s302 : (h295.1 96 7).toInt = (h282.1 96 7).toInt := by rw [g296, wI_ne _ _ _ (by decide)]
          have s303 : (h295.1 96 5).toInt = (h282.1 96 5).toInt := by rw [g296, wI_ne _ _ _ (by decide)]
          have s304 : (h295.1 96 12).toInt = (h282.1 96 12).toInt := by rw [g296, wI_ne _ _ _ (by decide)]
          have s305 : (h295.1 96 8).toInt = (h282.1 96 8).toInt := by rw [g296, wI_ne _ _ _ (by decide)]
          refine R_aload_n (k := 0) rfl rfl rfl ?_
          refine R_getf_r (j := 14) rfl ft_9_31 sh_96 rfl ?_
          refine R_bipush 6 rfl rfl ?_
          refine R_dup2 rfl ?_
          refine R_iald rfl sh_102 (by decide) ?_
          show RUN d_X9_readPair 103 [(2, .inl x11), (0, .inr (.inr (.inl 96))), (1, .inl a0)] [.inl (h295.1 102 6), .inl 6, .inr (.inr (.inl 102))] h295 _
          refine R_iconst 1 rfl rfl ?_
          refine N_iadd (a := (h295.1 102 6).toInt) (b := 1) rfl rfl (by decide) (by omega) (fun x306 q307 => ?_)
          refine K_iast (a := 6) (lo := 0) (hi' := 5) rfl sh_102 (by decide) (by decide) hI (by decide) rfl (by omega) fr (by decide) (fun h308 g309 hI fr => ?_)
          have s310 : (h308.1 102 0).toInt = (h295.1 102 0).toInt := by rw [g309, show (6 : Int32).toNatClampNeg = 6 from rfl, wI_at (by decide)]
          have s311 : (h308.1 102 5).toInt = (h295.1 102 5).toInt := by rw [g309, show (6 : Int32).toNatClampNeg = 6 from rfl, wI_at (by decide)]
          have s312 : (h308.1 102 9).toInt = (h295.1 102 9).toInt := by rw [g309, show (6 : Int32).toNatClampNeg = 6 from rfl, wI_at (by decide)]
          have s313 : (h308.1 102 10).toInt = (h295.1 102 10).toInt := by rw [g309, show (6 : Int32).toNatClampNeg = 6 from rfl, wI_at (by decide)]
          have s314 : (h308.1 96 7).toInt = (h295.1 96 7).toInt := by rw [g309, wI_ne _ _ _ (by decide)]
          have s315 : (h308.1 96 5).toInt = (h295.1 96 5).toInt := by rw [g309, wI_ne _ _ _ (by decide)]
          have s316 : (h308.1 96 12).toInt = (h295.1 96 12).toInt := by rw [g309, wI_ne _ _ _ (by decide)]
          have s317 : (h308.1 96 8).toInt = (h295.1 96 8).toInt := by rw [g309, wI_ne _ _ _ (by decide)]
          have s318 : (h308.1 102 6).toInt = x306.toInt := by rw [g309, show (6 : Int32).toNatClampNeg = 6 from rfl, wI_is]
          exact R_vret rfl rfl ⟨hI, fr, ⟨by omega, by omega, by omega, by omega, by omega, by omega, by omega, by omega, trivial⟩, rfl⟩

abbrev qg_X9_is_2 (h : PH)  : Option PV → PH → Prop := fun r h' => h = h' ∧ ∃ z : Int32, r = some (.inl z) ∧ ((0 ≤ z.toInt ∧ z.toInt ≤ 1))
set_option maxHeartbeats 4000000 in
set_option maxRecDepth 100000 in
theorem g_X9_is_2 (h : PH) (hI : INV h)  : CALL d_X9_is [.inr (.inr (.inl 96)), .inr (.inr (.inr 8))] h (qg_X9_is_2 h) := by
  show RUN d_X9_is 0 [(0, .inr (.inr (.inl 96))), (1, .inr (.inr (.inr 8)))] [] h _
  refine R_aload_n (k := 0) rfl rfl rfl ?_
  have b1 : (0 : Int) ≤ (h.1 96 12).toInt ∧ (h.1 96 12).toInt ≤ 3 := hI.1 96 12
  refine R_callV (v := .inr (.inr (.inl 96))) (As := []) (rest := []) rfl mt_9_i176 pp_X9_good (by decide) rfl rfl rfl (Nat.le_of_ble_eq_true rfl) (Nat.le_of_ble_eq_true rfl) ((k_X9_good h hI).mono (fun r2 h3 p4 => ?_))
  obtain ⟨rfl, x5, rfl, q6 | q6⟩ := p4
  · show RUN d_X9_is 4 [(0, .inr (.inr (.inl 96))), (1, .inr (.inr (.inr 8)))] [.inl x5] h _
    refine N_if_eq (a := x5.toInt) 35 rfl rfl rfl (fun c7 => ?_) (fun c7 => ?_)
    · refine R_iconst 0 rfl rfl ?_
      refine R_istore_n (k := 2) rfl [(2, .inl 0), (0, .inr (.inr (.inl 96))), (1, .inr (.inr (.inr 8)))] rfl rfl (by decide) ?_
      refine R_iconst 0 rfl rfl ?_
      refine R_istore_n (k := 3) rfl [(3, .inl 0), (2, .inl 0), (0, .inr (.inr (.inl 96))), (1, .inr (.inr (.inr 8)))] rfl rfl (by decide) ?_
      have lp9 : ∀ (n8 : Nat) (x10 : Int32) (x11 : Int32), 0 ≤ x10.toInt ∧ x10.toInt ≤ 0 → 0 ≤ x11.toInt ∧ x11.toInt ≤ 0 → 0 < n8 → RUN d_X9_is 39 [(3, .inl x11), (2, .inl x10), (0, .inr (.inr (.inl 96))), (1, .inr (.inr (.inr 8)))] [] h (qg_X9_is_2 h) := by
        intro n8
        induction n8 with
        | zero => intro x10 x11 m13 m14 hz; exact absurd hz (Nat.not_lt_zero _)
        | succ n8 ih12 =>
          intro x10 x11 m13 m14 hz
          refine R_iload_n (k := 3) rfl rfl rfl ?_
          refine R_aload_c (k := 1) rfl rfl rfl (by decide) ?_
          refine R_callV (v := .inr (.inr (.inr 8))) (As := []) (rest := [.inl x11]) rfl mt_9_i180 pp_J0_length_8abf5 (by decide) rfl rfl rfl (Nat.le_of_ble_eq_true rfl) (Nat.le_of_ble_eq_true rfl) ((k_J0_length_8abf5_6 h hI).mono (fun r15 h16 p17 => ?_))
          obtain ⟨rfl, x18, rfl, q19⟩ := p17
          show RUN d_X9_is 44 [(3, .inl x11), (2, .inl x10), (0, .inr (.inr (.inl 96))), (1, .inr (.inr (.inr 8)))] [.inl x18, .inl x11] h _
          refine N_icmp_ge (a := x11.toInt) (b := x18.toInt) 82 rfl rfl rfl rfl (fun c20 => ?_) (fun c20 => ?_)
          · exfalso; omega
          · refine R_iload_n (k := 2) rfl rfl rfl ?_
            refine N_if_eq (a := x10.toInt) 82 rfl rfl rfl (fun c21 => ?_) (fun c21 => ?_)
            · refine R_iload_n (k := 2) rfl rfl rfl ?_
              exact R_iret rfl rfl (nar_z (by omega)) ⟨rfl, _, rfl, by omega⟩
            · exfalso; omega
      exact lp9 _ (0 : Int32) (0 : Int32) (by decide) (by decide) (Nat.lt_succ_self _)
    · exfalso; omega
  · show RUN d_X9_is 4 [(0, .inr (.inr (.inl 96))), (1, .inr (.inr (.inr 8)))] [.inl x5] h _
    refine N_if_eq (a := x5.toInt) 35 rfl rfl rfl (fun c22 => ?_) (fun c22 => ?_)
    · exfalso; omega
    · refine R_aload_n (k := 0) rfl rfl rfl ?_
      refine R_getf_i (j := 10) rfl ft_9_152 sh_96 rfl ?_
      refine R_iconst 1 rfl rfl ?_
      refine N_icmp_ne (a := (h.1 96 10).toInt) (b := 1) 35 rfl rfl rfl (by decide) (fun c23 => ?_) (fun c23 => ?_)
      · refine R_iconst 0 rfl rfl ?_
        refine R_istore_n (k := 2) rfl [(2, .inl 0), (0, .inr (.inr (.inl 96))), (1, .inr (.inr (.inr 8)))] rfl rfl (by decide) ?_
        refine R_iconst 0 rfl rfl ?_
        refine R_istore_n (k := 3) rfl [(3, .inl 0), (2, .inl 0), (0, .inr (.inr (.inl 96))), (1, .inr (.inr (.inr 8)))] rfl rfl (by decide) ?_
        have lp25 : ∀ (n24 : Nat) (x26 : Int32) (x27 : Int32), 0 ≤ x26.toInt ∧ x26.toInt ≤ 0 → 0 ≤ x27.toInt ∧ x27.toInt ≤ 0 → 0 < n24 → RUN d_X9_is 39 [(3, .inl x27), (2, .inl x26), (0, .inr (.inr (.inl 96))), (1, .inr (.inr (.inr 8)))] [] h (qg_X9_is_2 h) := by
          intro n24
          induction n24 with
          | zero => intro x26 x27 m29 m30 hz; exact absurd hz (Nat.not_lt_zero _)
          | succ n24 ih28 =>
            intro x26 x27 m29 m30 hz
            refine R_iload_n (k := 3) rfl rfl rfl ?_
            refine R_aload_c (k := 1) rfl rfl rfl (by decide) ?_
            refine R_callV (v := .inr (.inr (.inr 8))) (As := []) (rest := [.inl x27]) rfl mt_9_i180 pp_J0_length_8abf5 (by decide) rfl rfl rfl (Nat.le_of_ble_eq_true rfl) (Nat.le_of_ble_eq_true rfl) ((k_J0_length_8abf5_6 h hI).mono (fun r31 h32 p33 => ?_))
            obtain ⟨rfl, x34, rfl, q35⟩ := p33
            show RUN d_X9_is 44 [(3, .inl x27), (2, .inl x26), (0, .inr (.inr (.inl 96))), (1, .inr (.inr (.inr 8)))] [.inl x34, .inl x27] h _
            refine N_icmp_ge (a := x27.toInt) (b := x34.toInt) 82 rfl rfl rfl rfl (fun c36 => ?_) (fun c36 => ?_)
            · exfalso; omega
            · refine R_iload_n (k := 2) rfl rfl rfl ?_
              refine N_if_eq (a := x26.toInt) 82 rfl rfl rfl (fun c37 => ?_) (fun c37 => ?_)
              · refine R_iload_n (k := 2) rfl rfl rfl ?_
                exact R_iret rfl rfl (nar_z (by omega)) ⟨rfl, _, rfl, by omega⟩
              · exfalso; omega
        exact lp25 _ (0 : Int32) (0 : Int32) (by decide) (by decide) (Nat.lt_succ_self _)
      · refine R_aload_n (k := 0) rfl rfl rfl ?_
        refine R_getf_i (j := 8) rfl ft_9_142 sh_96 rfl ?_
        have b38 : (0 : Int) ≤ (h.1 96 8).toInt ∧ (h.1 96 8).toInt ≤ 500 := hI.1 96 8
        refine R_aload_n (k := 0) rfl rfl rfl ?_
        refine R_getf_i (j := 9) rfl ft_9_149 sh_96 rfl ?_
        have b39 : (0 : Int) ≤ (h.1 96 9).toInt ∧ (h.1 96 9).toInt ≤ 500 := hI.1 96 9
        refine N_isub (a := (h.1 96 8).toInt) (b := (h.1 96 9).toInt) rfl rfl rfl (by omega) (fun x40 q41 => ?_)
        refine R_aload_c (k := 1) rfl rfl rfl (by decide) ?_
        refine R_callV (v := .inr (.inr (.inr 8))) (As := []) (rest := [.inl x40]) rfl mt_9_i180 pp_J0_length_8abf5 (by decide) rfl rfl rfl (Nat.le_of_ble_eq_true rfl) (Nat.le_of_ble_eq_true rfl) ((k_J0_length_8abf5_6 h hI).mono (fun r42 h43 p44 => ?_))
        obtain ⟨rfl, x45, rfl, q46⟩ := p44
        show RUN d_X9_is 28 [(0, .inr (.inr (.inl 96))), (1, .inr (.inr (.inr 8)))] [.inl x45, .inl x40] h _
        refine N_icmp_ne (a := x40.toInt) (b := x45.toInt) 35 rfl rfl rfl rfl (fun c47 => ?_) (fun c47 => ?_)
        · refine R_iconst 0 rfl rfl ?_
          refine R_istore_n (k := 2) rfl [(2, .inl 0), (0, .inr (.inr (.inl 96))), (1, .inr (.inr (.inr 8)))] rfl rfl (by decide) ?_
          refine R_iconst 0 rfl rfl ?_
          refine R_istore_n (k := 3) rfl [(3, .inl 0), (2, .inl 0), (0, .inr (.inr (.inl 96))), (1, .inr (.inr (.inr 8)))] rfl rfl (by decide) ?_
          have lp49 : ∀ (n48 : Nat) (x50 : Int32) (x51 : Int32), 0 ≤ x50.toInt ∧ x50.toInt ≤ 0 → 0 ≤ x51.toInt ∧ x51.toInt ≤ 0 → 0 < n48 → RUN d_X9_is 39 [(3, .inl x51), (2, .inl x50), (0, .inr (.inr (.inl 96))), (1, .inr (.inr (.inr 8)))] [] h (qg_X9_is_2 h) := by
            intro n48
            induction n48 with
            | zero => intro x50 x51 m53 m54 hz; exact absurd hz (Nat.not_lt_zero _)
            | succ n48 ih52 =>
              intro x50 x51 m53 m54 hz
              refine R_iload_n (k := 3) rfl rfl rfl ?_
              refine R_aload_c (k := 1) rfl rfl rfl (by decide) ?_
              refine R_callV (v := .inr (.inr (.inr 8))) (As := []) (rest := [.inl x51]) rfl mt_9_i180 pp_J0_length_8abf5 (by decide) rfl rfl rfl (Nat.le_of_ble_eq_true rfl) (Nat.le_of_ble_eq_true rfl) ((k_J0_length_8abf5_6 h hI).mono (fun r55 h56 p57 => ?_))
              obtain ⟨rfl, x58, rfl, q59⟩ := p57
              show RUN d_X9_is 44 [(3, .inl x51), (2, .inl x50), (0, .inr (.inr (.inl 96))), (1, .inr (.inr (.inr 8)))] [.inl x58, .inl x51] h _
              refine N_icmp_ge (a := x51.toInt) (b := x58.toInt) 82 rfl rfl rfl rfl (fun c60 => ?_) (fun c60 => ?_)
              · exfalso; omega
              · refine R_iload_n (k := 2) rfl rfl rfl ?_
                refine N_if_eq (a := x50.toInt) 82 rfl rfl rfl (fun c61 => ?_) (fun c61 => ?_)
                · refine R_iload_n (k := 2) rfl rfl rfl ?_
                  exact R_iret rfl rfl (nar_z (by omega)) ⟨rfl, _, rfl, by omega⟩
                · exfalso; omega
          exact lp49 _ (0 : Int32) (0 : Int32) (by decide) (by decide) (Nat.lt_succ_self _)
        · refine R_iconst 1 rfl rfl ?_
          refine R_goto 36 rfl rfl ?_
          refine R_istore_n (k := 2) rfl [(2, .inl 1), (0, .inr (.inr (.inl 96))), (1, .inr (.inr (.inr 8)))] rfl rfl (by decide) ?_
          refine R_iconst 0 rfl rfl ?_
          refine R_istore_n (k := 3) rfl [(3, .inl 0), (2, .inl 1), (0, .inr (.inr (.inl 96))), (1, .inr (.inr (.inr 8)))] rfl rfl (by decide) ?_
          have lp63 : ∀ (n62 : Nat) (x64 : Int32) (x65 : Int32), 0 ≤ x64.toInt ∧ x64.toInt ≤ 1 → 0 ≤ x65.toInt ∧ x65.toInt ≤ 4 → (4 - x65.toInt).toNat < n62 → RUN d_X9_is 39 [(3, .inl x65), (2, .inl x64), (0, .inr (.inr (.inl 96))), (1, .inr (.inr (.inr 8)))] [] h (qg_X9_is_2 h) := by
            intro n62
            induction n62 with
            | zero => intro x64 x65 m67 m68 hz; exact absurd hz (Nat.not_lt_zero _)
            | succ n62 ih66 =>
              intro x64 x65 m67 m68 hz
              refine R_iload_n (k := 3) rfl rfl rfl ?_
              refine R_aload_c (k := 1) rfl rfl rfl (by decide) ?_
              refine R_callV (v := .inr (.inr (.inr 8))) (As := []) (rest := [.inl x65]) rfl mt_9_i180 pp_J0_length_8abf5 (by decide) rfl rfl rfl (Nat.le_of_ble_eq_true rfl) (Nat.le_of_ble_eq_true rfl) ((k_J0_length_8abf5_6 h hI).mono (fun r69 h70 p71 => ?_))
              obtain ⟨rfl, x72, rfl, q73⟩ := p71
              show RUN d_X9_is 44 [(3, .inl x65), (2, .inl x64), (0, .inr (.inr (.inl 96))), (1, .inr (.inr (.inr 8)))] [.inl x72, .inl x65] h _
              refine N_icmp_ge (a := x65.toInt) (b := x72.toInt) 82 rfl rfl rfl rfl (fun c74 => ?_) (fun c74 => ?_)
              · refine R_iload_n (k := 2) rfl rfl rfl ?_
                exact R_iret rfl rfl (nar_z (by omega)) ⟨rfl, _, rfl, by omega⟩
              · refine R_iload_n (k := 2) rfl rfl rfl ?_
                refine N_if_eq (a := x64.toInt) 82 rfl rfl rfl (fun c75 => ?_) (fun c75 => ?_)
                · refine R_iload_n (k := 2) rfl rfl rfl ?_
                  exact R_iret rfl rfl (nar_z (by omega)) ⟨rfl, _, rfl, by omega⟩
                · refine R_aload_n (k := 0) rfl rfl rfl ?_
                  refine R_getf_r (j := 4) rfl ft_9_20 sh_96 rfl ?_
                  refine R_aload_n (k := 0) rfl rfl rfl ?_
                  refine R_getf_i (j := 9) rfl ft_9_149 sh_96 rfl ?_
                  refine R_iload_n (k := 3) rfl rfl rfl ?_
                  refine N_iadd (a := (h.1 96 9).toInt) (b := x65.toInt) rfl rfl rfl (by omega) (fun x76 q77 => ?_)
                  refine R_bald rfl sh_100 ⟨by omega, by omega⟩ ?_
                  refine N_any (fun x78 => ?_)
                  refine R_aload_c (k := 1) rfl rfl rfl (by decide) ?_
                  refine R_iload_n (k := 3) rfl rfl rfl ?_
                  refine R_callV (v := .inr (.inr (.inr 8))) (As := [.inl x65]) (rest := [.inl x78]) rfl mt_9_i184 pp_J0_charAt_5068e (by decide) rfl rfl rfl (Nat.le_of_ble_eq_true rfl) (Nat.le_of_ble_eq_true rfl) ((k_J0_charAt_5068e_6 h hI x65 (by omega)).mono (fun r79 h80 p81 => ?_))
                  obtain ⟨rfl, x82, rfl, q83⟩ := p81
                  show RUN d_X9_is 67 [(3, .inl x65), (2, .inl x64), (0, .inr (.inr (.inl 96))), (1, .inr (.inr (.inr 8)))] [.inl x82, .inl x78] h _
                  refine N_icmp_ne (a := x78.toInt) (b := x82.toInt) 74 rfl rfl rfl rfl (fun c84 => ?_) (fun c84 => ?_)
                  · refine R_iconst 0 rfl rfl ?_
                    refine R_istore_n (k := 2) rfl [(2, .inl 0), (3, .inl x65), (0, .inr (.inr (.inl 96))), (1, .inr (.inr (.inr 8)))] rfl rfl (by decide) ?_
                    refine N_iinc (a := x65.toInt) (c := 1) (fun w => [(3, .inl w), (2, .inl 0), (0, .inr (.inr (.inl 96))), (1, .inr (.inr (.inr 8)))]) rfl rfl (fun _ => rfl) (by decide) rfl (by decide) (by omega) (fun x85 q86 => ?_)
                    refine R_goto 39 rfl rfl ?_
                    exact RUN_weak (psub_cons rfl (psub_cons rfl (psub_cons rfl (psub_cons rfl (psub_nil _))))) (ih66 (0 : Int32) x85 (by decide) (by omega) (by omega))
                  · refine R_iconst 1 rfl rfl ?_
                    refine R_goto 75 rfl rfl ?_
                    refine R_istore_n (k := 2) rfl [(2, .inl 1), (3, .inl x65), (0, .inr (.inr (.inl 96))), (1, .inr (.inr (.inr 8)))] rfl rfl (by decide) ?_
                    refine N_iinc (a := x65.toInt) (c := 1) (fun w => [(3, .inl w), (2, .inl 1), (0, .inr (.inr (.inl 96))), (1, .inr (.inr (.inr 8)))]) rfl rfl (fun _ => rfl) (by decide) rfl (by decide) (by omega) (fun x87 q88 => ?_)
                    refine R_goto 39 rfl rfl ?_
                    exact RUN_weak (psub_cons rfl (psub_cons rfl (psub_cons rfl (psub_cons rfl (psub_nil _))))) (ih66 (1 : Int32) x87 (by decide) (by omega) (by omega))
          exact lp63 _ (1 : Int32) (0 : Int32) (by decide) (by decide) (Nat.lt_succ_self _)
abbrev qg_X9_takes_2 (h : PH)  : Option PV → PH → Prop := fun r h' => INV h' ∧ FR [96] h h' ∧ ((h'.1 96 12).toInt = (h.1 96 12).toInt ∧ (h'.1 96 7).toInt = (h.1 96 7).toInt ∧ (h'.1 96 5).toInt = (h.1 96 5).toInt ∧ (h'.1 96 13).toInt = (h.1 96 13).toInt ∧ ((h.1 96 12).toInt ≤ (h'.1 96 12).toInt) ∧ ((h.1 96 8).toInt ≤ (h'.1 96 8).toInt) ∧ True) ∧ ∃ z : Int32, r = some (.inl z) ∧ (((0 ≤ z.toInt ∧ z.toInt ≤ 1)) ∧ (z = ansI d_X9_is [.inr (.inr (.inl 96)), .inr (.inr (.inr 8))] h) ∧ (z.toInt = 0 → h' = h) ∧ True)
set_option maxHeartbeats 4000000 in
set_option maxRecDepth 100000 in
theorem g_X9_takes_2 (h : PH) (hI : INV h)  : CALL d_X9_takes [.inr (.inr (.inl 96)), .inr (.inr (.inr 8))] h (qg_X9_takes_2 h) := by
  show RUN d_X9_takes 0 [(0, .inr (.inr (.inl 96))), (1, .inr (.inr (.inr 8)))] [] h _
  have fr : FR [96] h h := FR.rf _ _
  have b1 : (0 : Int) ≤ (h.1 96 12).toInt ∧ (h.1 96 12).toInt ≤ 3 := hI.1 96 12
  have b2 : (0 : Int) ≤ (h.1 96 8).toInt ∧ (h.1 96 8).toInt ≤ 500 := hI.1 96 8
  have b3 : (0 : Int) ≤ (h.1 96 7).toInt ∧ (h.1 96 7).toInt ≤ 500 := hI.1 96 7
  have b4 : (0 : Int) ≤ (h.1 96 5).toInt ∧ (h.1 96 5).toInt ≤ 500 := hI.1 96 5
  refine R_aload_n (k := 0) rfl rfl rfl ?_
  refine R_aload_c (k := 1) rfl rfl rfl (by decide) ?_
  refine R_callV (v := .inr (.inr (.inl 96))) (As := [.inr (.inr (.inr 8))]) (rest := []) rfl mt_9_i188 pp_X9_is (by decide) rfl rfl rfl (Nat.le_of_ble_eq_true rfl) (Nat.le_of_ble_eq_true rfl) ((CALL_ans (g_X9_is_2 h hI)).mono (fun r5 h6 p7 => ?_))
  obtain ⟨⟨rfl, x8, rfl, q9⟩, za10⟩ := p7
  have za10 := za10 _ rfl
  show RUN d_X9_takes 5 [(0, .inr (.inr (.inl 96))), (1, .inr (.inr (.inr 8)))] [.inl x8] h _
  refine R_istore_n (k := 2) rfl [(2, .inl x8), (0, .inr (.inr (.inl 96))), (1, .inr (.inr (.inr 8)))] rfl rfl (by decide) ?_
  refine R_iload_n (k := 2) rfl rfl rfl ?_
  refine N_if_eq (a := x8.toInt) 14 rfl rfl rfl (fun c11 => ?_) (fun c11 => ?_)
  · refine R_iload_n (k := 2) rfl rfl rfl ?_
    exact R_iret rfl rfl (nar_z (by omega)) ⟨hI, fr, ⟨by omega, by omega, by omega, by omega, by omega, by omega, trivial⟩, _, rfl, ⟨by omega, za10, (fun _ => rfl), trivial⟩⟩
  · refine R_aload_n (k := 0) rfl rfl rfl ?_
    refine R_callV (v := .inr (.inr (.inl 96))) (As := []) (rest := []) rfl mt_9_i192 pp_X9_advance (by decide) rfl rfl rfl (Nat.le_of_ble_eq_true rfl) (Nat.le_of_ble_eq_true rfl) ((g_X9_advance h hI).mono (fun r12 h13 p14 => ?_))
    obtain ⟨hJ, fj, ⟨kp15, kp16, kp17, kp18, xq19, xq20, -⟩, rfl⟩ := p14
    have f21 := fj
    have fr := fr.trans fj (by decide)
    have hI := hJ
    have b22 : (0 : Int) ≤ (h13.1 96 8).toInt ∧ (h13.1 96 8).toInt ≤ 500 := hI.1 96 8
    show RUN d_X9_takes 14 [(2, .inl x8), (0, .inr (.inr (.inl 96))), (1, .inr (.inr (.inr 8)))] [] h13 _
    refine R_iload_n (k := 2) rfl rfl rfl ?_
    exact R_iret rfl rfl (nar_z (by omega)) ⟨hI, fr, ⟨by omega, by omega, by omega, by omega, by omega, by omega, trivial⟩, _, rfl, ⟨by omega, za10, (fun hc => absurd hc (by omega)), trivial⟩⟩
abbrev qg_X9_needs (h : PH)  : Option PV → PH → Prop := fun r h' => INV h' ∧ FR [96] h h' ∧ ((h'.1 96 7).toInt = (h.1 96 7).toInt ∧ (h'.1 96 5).toInt = (h.1 96 5).toInt ∧ ((h.1 96 12).toInt ≤ (h'.1 96 12).toInt) ∧ ((h.1 96 8).toInt ≤ (h'.1 96 8).toInt) ∧ True) ∧ r = none
set_option maxHeartbeats 4000000 in
set_option maxRecDepth 100000 in
theorem g_X9_needs (h : PH) (hI : INV h)  : CALL d_X9_needs [.inr (.inr (.inl 96)), .inr (.inr (.inr 8))] h (qg_X9_needs h) := by
  show RUN d_X9_needs 0 [(0, .inr (.inr (.inl 96))), (1, .inr (.inr (.inr 8)))] [] h _
  have fr : FR [96] h h := FR.rf _ _
  have b1 : (0 : Int) ≤ (h.1 96 12).toInt ∧ (h.1 96 12).toInt ≤ 3 := hI.1 96 12
  have b2 : (0 : Int) ≤ (h.1 96 8).toInt ∧ (h.1 96 8).toInt ≤ 500 := hI.1 96 8
  have b3 : (0 : Int) ≤ (h.1 96 7).toInt ∧ (h.1 96 7).toInt ≤ 500 := hI.1 96 7
  have b4 : (0 : Int) ≤ (h.1 96 5).toInt ∧ (h.1 96 5).toInt ≤ 500 := hI.1 96 5
  refine R_aload_n (k := 0) rfl rfl rfl ?_
  refine R_aload_c (k := 1) rfl rfl rfl (by decide) ?_
  refine R_callV (v := .inr (.inr (.inl 96))) (As := [.inr (.inr (.inr 8))]) (rest := []) rfl mt_9_i195 pp_X9_takes (by decide) rfl rfl rfl (Nat.le_of_ble_eq_true rfl) (Nat.le_of_ble_eq_true rfl) ((g_X9_takes_2 h hI).mono (fun r5 h6 p7 => ?_))
  obtain ⟨hJ, fj, ⟨kp8, kp9, kp10, kp11, xq12, xq13, -⟩, x16, rfl, q17, zq14, zq15, -⟩ := p7
  have f18 := fj
  have fr := fr.trans fj (by decide)
  have hI := hJ
  have b19 : (0 : Int) ≤ (h6.1 96 8).toInt ∧ (h6.1 96 8).toInt ≤ 500 := hI.1 96 8
  show RUN d_X9_needs 5 [(0, .inr (.inr (.inl 96))), (1, .inr (.inr (.inr 8)))] [.inl x16] h6 _
  refine N_if_ne (a := x16.toInt) 13 rfl rfl rfl (fun c20 => ?_) (fun c20 => ?_)
  · exact R_vret rfl rfl ⟨hI, fr, ⟨by omega, by omega, by omega, by omega, trivial⟩, rfl⟩
  · refine R_aload_n (k := 0) rfl rfl rfl ?_
    refine R_iconst 1 rfl rfl ?_
    have k21 : (1 : Int32).toInt = 1 := by decide
    refine R_callV (v := .inr (.inr (.inl 96))) (As := [.inl 1]) (rest := []) rfl mt_9_i198 pp_X9_errs (by decide) rfl rfl rfl (Nat.le_of_ble_eq_true rfl) (Nat.le_of_ble_eq_true rfl) ((g_X9_errs h6 hI (1 : Int32) (by decide)).mono (fun r22 h23 p24 => ?_))
    obtain ⟨hJ, fj, ⟨kp25, kp26, kp27, kp28, kp29, xq30, xq31, xq32, -⟩, rfl⟩ := p24
    have f33 := fj
    have fr := fr.trans fj (by decide)
    have hI := hJ
    have b34 : (0 : Int) ≤ (h23.1 96 12).toInt ∧ (h23.1 96 12).toInt ≤ 3 := hI.1 96 12
    show RUN d_X9_needs 13 [(0, .inr (.inr (.inl 96))), (1, .inr (.inr (.inr 8)))] [] h23 _
    exact R_vret rfl rfl ⟨hI, fr, ⟨by omega, by omega, by omega, by omega, trivial⟩, rfl⟩
abbrev qg_X9_told (h : PH) (a1 : Int32) (a2 : Int32) : Option PV → PH → Prop := fun r h' => INV h' ∧ FR [96] h h' ∧ ((h'.1 96 7).toInt = (h.1 96 7).toInt ∧ (h'.1 96 5).toInt = (h.1 96 5).toInt ∧ ((h.1 96 12).toInt ≤ (h'.1 96 12).toInt) ∧ ((h.1 96 8).toInt ≤ (h'.1 96 8).toInt) ∧ True) ∧ ∃ z : Int32, r = some (.inl z) ∧ (((0 ≤ z.toInt ∧ z.toInt ≤ 999)) ∧ ((h'.1 96 12).toInt = 0 → a1.toInt ≤ z.toInt ∧ z.toInt ≤ a2.toInt) ∧ (z.toInt = 0 ∨ (a1.toInt ≤ z.toInt ∧ z.toInt ≤ a2.toInt)) ∧ True)
set_option maxHeartbeats 4000000 in
set_option maxRecDepth 100000 in
theorem g_X9_told (h : PH) (hI : INV h) (a1 : Int32) (a2 : Int32) (h1a : 1 ≤ a1.toInt ∧ a1.toInt ≤ 1) (h2a : 6 ≤ a2.toInt ∧ a2.toInt ≤ 6) : CALL d_X9_told [.inr (.inr (.inl 96)), .inr (.inr (.inr 8)), .inl a1, .inl a2] h (qg_X9_told h a1 a2) := by
  show RUN d_X9_told 0 [(0, .inr (.inr (.inl 96))), (1, .inr (.inr (.inr 8))), (2, .inl a1), (3, .inl a2)] [] h _
  have fr : FR [96] h h := FR.rf _ _
  have b1 : (0 : Int) ≤ (h.1 96 12).toInt ∧ (h.1 96 12).toInt ≤ 3 := hI.1 96 12
  have b2 : (0 : Int) ≤ (h.1 96 8).toInt ∧ (h.1 96 8).toInt ≤ 500 := hI.1 96 8
  have b3 : (0 : Int) ≤ (h.1 96 7).toInt ∧ (h.1 96 7).toInt ≤ 500 := hI.1 96 7
  have b4 : (0 : Int) ≤ (h.1 96 5).toInt ∧ (h.1 96 5).toInt ≤ 500 := hI.1 96 5
  refine R_aload_n (k := 0) rfl rfl rfl ?_
  refine R_aload_c (k := 1) rfl rfl rfl (by decide) ?_
  refine R_callV (v := .inr (.inr (.inl 96))) (As := [.inr (.inr (.inr 8))]) (rest := []) rfl mt_9_i202 pp_X9_needs (by decide) rfl rfl rfl (Nat.le_of_ble_eq_true rfl) (Nat.le_of_ble_eq_true rfl) ((g_X9_needs h hI).mono (fun r5 h6 p7 => ?_))
  obtain ⟨hJ, fj, ⟨kp8, kp9, xq10, xq11, -⟩, rfl⟩ := p7
  have f12 := fj
  have fr := fr.trans fj (by decide)
  have hI := hJ
  have b13 : (0 : Int) ≤ (h6.1 96 12).toInt ∧ (h6.1 96 12).toInt ≤ 3 := hI.1 96 12
  have b14 : (0 : Int) ≤ (h6.1 96 8).toInt ∧ (h6.1 96 8).toInt ≤ 500 := hI.1 96 8
  show RUN d_X9_told 5 [(0, .inr (.inr (.inl 96))), (1, .inr (.inr (.inr 8))), (2, .inl a1), (3, .inl a2)] [] h6 _
  refine R_aload_n (k := 0) rfl rfl rfl ?_
  refine R_iload_n (k := 2) rfl rfl rfl ?_
  refine R_iload_n (k := 3) rfl rfl rfl ?_
  refine R_callV (v := .inr (.inr (.inl 96))) (As := [.inl a1, .inl a2]) (rest := []) rfl mt_9_i206 pp_X9_number (by decide) rfl rfl rfl (Nat.le_of_ble_eq_true rfl) (Nat.le_of_ble_eq_true rfl) ((g_X9_number h6 hI a1 a2 (by omega) (by omega)).mono (fun r15 h16 p17 => ?_))
  obtain ⟨hJ, fj, ⟨kp18, kp19, xq20, xq21, -⟩, x24, rfl, q25, zq22, zq23, -⟩ := p17
  have f26 := fj
  have fr := fr.trans fj (by decide)
  have hI := hJ
  have b27 : (0 : Int) ≤ (h16.1 96 12).toInt ∧ (h16.1 96 12).toInt ≤ 3 := hI.1 96 12
  have b28 : (0 : Int) ≤ (h16.1 96 8).toInt ∧ (h16.1 96 8).toInt ≤ 500 := hI.1 96 8
  show RUN d_X9_told 11 [(0, .inr (.inr (.inl 96))), (1, .inr (.inr (.inr 8))), (2, .inl a1), (3, .inl a2)] [.inl x24] h16 _
  exact R_iret rfl rfl rfl ⟨hI, fr, ⟨by omega, by omega, by omega, by omega, trivial⟩, _, rfl, ⟨by omega, by omega, by omega, trivial⟩⟩
abbrev qg_X9_is_3 (h : PH)  : Option PV → PH → Prop := fun r h' => h = h' ∧ ∃ z : Int32, r = some (.inl z) ∧ ((0 ≤ z.toInt ∧ z.toInt ≤ 1))
set_option maxHeartbeats 4000000 in
set_option maxRecDepth 100000 in
theorem g_X9_is_3 (h : PH) (hI : INV h)  : CALL d_X9_is [.inr (.inr (.inl 96)), .inr (.inr (.inr 9))] h (qg_X9_is_3 h) := by
  show RUN d_X9_is 0 [(0, .inr (.inr (.inl 96))), (1, .inr (.inr (.inr 9)))] [] h _
  refine R_aload_n (k := 0) rfl rfl rfl ?_
  have b1 : (0 : Int) ≤ (h.1 96 12).toInt ∧ (h.1 96 12).toInt ≤ 3 := hI.1 96 12
  refine R_callV (v := .inr (.inr (.inl 96))) (As := []) (rest := []) rfl mt_9_i176 pp_X9_good (by decide) rfl rfl rfl (Nat.le_of_ble_eq_true rfl) (Nat.le_of_ble_eq_true rfl) ((k_X9_good h hI).mono (fun r2 h3 p4 => ?_))
  obtain ⟨rfl, x5, rfl, q6 | q6⟩ := p4
  · show RUN d_X9_is 4 [(0, .inr (.inr (.inl 96))), (1, .inr (.inr (.inr 9)))] [.inl x5] h _
    refine N_if_eq (a := x5.toInt) 35 rfl rfl rfl (fun c7 => ?_) (fun c7 => ?_)
    · refine R_iconst 0 rfl rfl ?_
      refine R_istore_n (k := 2) rfl [(2, .inl 0), (0, .inr (.inr (.inl 96))), (1, .inr (.inr (.inr 9)))] rfl rfl (by decide) ?_
      refine R_iconst 0 rfl rfl ?_
      refine R_istore_n (k := 3) rfl [(3, .inl 0), (2, .inl 0), (0, .inr (.inr (.inl 96))), (1, .inr (.inr (.inr 9)))] rfl rfl (by decide) ?_
      have lp9 : ∀ (n8 : Nat) (x10 : Int32) (x11 : Int32), 0 ≤ x10.toInt ∧ x10.toInt ≤ 0 → 0 ≤ x11.toInt ∧ x11.toInt ≤ 0 → 0 < n8 → RUN d_X9_is 39 [(3, .inl x11), (2, .inl x10), (0, .inr (.inr (.inl 96))), (1, .inr (.inr (.inr 9)))] [] h (qg_X9_is_3 h) := by
        intro n8
        induction n8 with
        | zero => intro x10 x11 m13 m14 hz; exact absurd hz (Nat.not_lt_zero _)
        | succ n8 ih12 =>
          intro x10 x11 m13 m14 hz
          refine R_iload_n (k := 3) rfl rfl rfl ?_
          refine R_aload_c (k := 1) rfl rfl rfl (by decide) ?_
          refine R_callV (v := .inr (.inr (.inr 9))) (As := []) (rest := [.inl x11]) rfl mt_9_i180 pp_J0_length_8abf5 (by decide) rfl rfl rfl (Nat.le_of_ble_eq_true rfl) (Nat.le_of_ble_eq_true rfl) ((k_J0_length_8abf5_7 h hI).mono (fun r15 h16 p17 => ?_))
          obtain ⟨rfl, x18, rfl, q19⟩ := p17
          show RUN d_X9_is 44 [(3, .inl x11), (2, .inl x10), (0, .inr (.inr (.inl 96))), (1, .inr (.inr (.inr 9)))] [.inl x18, .inl x11] h _
          refine N_icmp_ge (a := x11.toInt) (b := x18.toInt) 82 rfl rfl rfl rfl (fun c20 => ?_) (fun c20 => ?_)
          · exfalso; omega
          · refine R_iload_n (k := 2) rfl rfl rfl ?_
            refine N_if_eq (a := x10.toInt) 82 rfl rfl rfl (fun c21 => ?_) (fun c21 => ?_)
            · refine R_iload_n (k := 2) rfl rfl rfl ?_
              exact R_iret rfl rfl (nar_z (by omega)) ⟨rfl, _, rfl, by omega⟩
            · exfalso; omega
      exact lp9 _ (0 : Int32) (0 : Int32) (by decide) (by decide) (Nat.lt_succ_self _)
    · exfalso; omega
  · show RUN d_X9_is 4 [(0, .inr (.inr (.inl 96))), (1, .inr (.inr (.inr 9)))] [.inl x5] h _
    refine N_if_eq (a := x5.toInt) 35 rfl rfl rfl (fun c22 => ?_) (fun c22 => ?_)
    · exfalso; omega
    · refine R_aload_n (k := 0) rfl rfl rfl ?_
      refine R_getf_i (j := 10) rfl ft_9_152 sh_96 rfl ?_
      refine R_iconst 1 rfl rfl ?_
      refine N_icmp_ne (a := (h.1 96 10).toInt) (b := 1) 35 rfl rfl rfl (by decide) (fun c23 => ?_) (fun c23 => ?_)
      · refine R_iconst 0 rfl rfl ?_
        refine R_istore_n (k := 2) rfl [(2, .inl 0), (0, .inr (.inr (.inl 96))), (1, .inr (.inr (.inr 9)))] rfl rfl (by decide) ?_
        refine R_iconst 0 rfl rfl ?_
        refine R_istore_n (k := 3) rfl [(3, .inl 0), (2, .inl 0), (0, .inr (.inr (.inl 96))), (1, .inr (.inr (.inr 9)))] rfl rfl (by decide) ?_
        have lp25 : ∀ (n24 : Nat) (x26 : Int32) (x27 : Int32), 0 ≤ x26.toInt ∧ x26.toInt ≤ 0 → 0 ≤ x27.toInt ∧ x27.toInt ≤ 0 → 0 < n24 → RUN d_X9_is 39 [(3, .inl x27), (2, .inl x26), (0, .inr (.inr (.inl 96))), (1, .inr (.inr (.inr 9)))] [] h (qg_X9_is_3 h) := by
          intro n24
          induction n24 with
          | zero => intro x26 x27 m29 m30 hz; exact absurd hz (Nat.not_lt_zero _)
          | succ n24 ih28 =>
            intro x26 x27 m29 m30 hz
            refine R_iload_n (k := 3) rfl rfl rfl ?_
            refine R_aload_c (k := 1) rfl rfl rfl (by decide) ?_
            refine R_callV (v := .inr (.inr (.inr 9))) (As := []) (rest := [.inl x27]) rfl mt_9_i180 pp_J0_length_8abf5 (by decide) rfl rfl rfl (Nat.le_of_ble_eq_true rfl) (Nat.le_of_ble_eq_true rfl) ((k_J0_length_8abf5_7 h hI).mono (fun r31 h32 p33 => ?_))
            obtain ⟨rfl, x34, rfl, q35⟩ := p33
            show RUN d_X9_is 44 [(3, .inl x27), (2, .inl x26), (0, .inr (.inr (.inl 96))), (1, .inr (.inr (.inr 9)))] [.inl x34, .inl x27] h _
            refine N_icmp_ge (a := x27.toInt) (b := x34.toInt) 82 rfl rfl rfl rfl (fun c36 => ?_) (fun c36 => ?_)
            · exfalso; omega
            · refine R_iload_n (k := 2) rfl rfl rfl ?_
              refine N_if_eq (a := x26.toInt) 82 rfl rfl rfl (fun c37 => ?_) (fun c37 => ?_)
              · refine R_iload_n (k := 2) rfl rfl rfl ?_
                exact R_iret rfl rfl (nar_z (by omega)) ⟨rfl, _, rfl, by omega⟩
              · exfalso; omega
        exact lp25 _ (0 : Int32) (0 : Int32) (by decide) (by decide) (Nat.lt_succ_self _)
      · refine R_aload_n (k := 0) rfl rfl rfl ?_
        refine R_getf_i (j := 8) rfl ft_9_142 sh_96 rfl ?_
        have b38 : (0 : Int) ≤ (h.1 96 8).toInt ∧ (h.1 96 8).toInt ≤ 500 := hI.1 96 8
        refine R_aload_n (k := 0) rfl rfl rfl ?_
        refine R_getf_i (j := 9) rfl ft_9_149 sh_96 rfl ?_
        have b39 : (0 : Int) ≤ (h.1 96 9).toInt ∧ (h.1 96 9).toInt ≤ 500 := hI.1 96 9
        refine N_isub (a := (h.1 96 8).toInt) (b := (h.1 96 9).toInt) rfl rfl rfl (by omega) (fun x40 q41 => ?_)
        refine R_aload_c (k := 1) rfl rfl rfl (by decide) ?_
        refine R_callV (v := .inr (.inr (.inr 9))) (As := []) (rest := [.inl x40]) rfl mt_9_i180 pp_J0_length_8abf5 (by decide) rfl rfl rfl (Nat.le_of_ble_eq_true rfl) (Nat.le_of_ble_eq_true rfl) ((k_J0_length_8abf5_7 h hI).mono (fun r42 h43 p44 => ?_))
        obtain ⟨rfl, x45, rfl, q46⟩ := p44
        show RUN d_X9_is 28 [(0, .inr (.inr (.inl 96))), (1, .inr (.inr (.inr 9)))] [.inl x45, .inl x40] h _
        refine N_icmp_ne (a := x40.toInt) (b := x45.toInt) 35 rfl rfl rfl rfl (fun c47 => ?_) (fun c47 => ?_)
        · refine R_iconst 0 rfl rfl ?_
          refine R_istore_n (k := 2) rfl [(2, .inl 0), (0, .inr (.inr (.inl 96))), (1, .inr (.inr (.inr 9)))] rfl rfl (by decide) ?_
          refine R_iconst 0 rfl rfl ?_
          refine R_istore_n (k := 3) rfl [(3, .inl 0), (2, .inl 0), (0, .inr (.inr (.inl 96))), (1, .inr (.inr (.inr 9)))] rfl rfl (by decide) ?_
          have lp49 : ∀ (n48 : Nat) (x50 : Int32) (x51 : Int32), 0 ≤ x50.toInt ∧ x50.toInt ≤ 0 → 0 ≤ x51.toInt ∧ x51.toInt ≤ 0 → 0 < n48 → RUN d_X9_is 39 [(3, .inl x51), (2, .inl x50), (0, .inr (.inr (.inl 96))), (1, .inr (.inr (.inr 9)))] [] h (qg_X9_is_3 h) := by
            intro n48
            induction n48 with
            | zero => intro x50 x51 m53 m54 hz; exact absurd hz (Nat.not_lt_zero _)
            | succ n48 ih52 =>
              intro x50 x51 m53 m54 hz
              refine R_iload_n (k := 3) rfl rfl rfl ?_
              refine R_aload_c (k := 1) rfl rfl rfl (by decide) ?_
              refine R_callV (v := .inr (.inr (.inr 9))) (As := []) (rest := [.inl x51]) rfl mt_9_i180 pp_J0_length_8abf5 (by decide) rfl rfl rfl (Nat.le_of_ble_eq_true rfl) (Nat.le_of_ble_eq_true rfl) ((k_J0_length_8abf5_7 h hI).mono (fun r55 h56 p57 => ?_))
              obtain ⟨rfl, x58, rfl, q59⟩ := p57
              show RUN d_X9_is 44 [(3, .inl x51), (2, .inl x50), (0, .inr (.inr (.inl 96))), (1, .inr (.inr (.inr 9)))] [.inl x58, .inl x51] h _
              refine N_icmp_ge (a := x51.toInt) (b := x58.toInt) 82 rfl rfl rfl rfl (fun c60 => ?_) (fun c60 => ?_)
              · exfalso; omega
              · refine R_iload_n (k := 2) rfl rfl rfl ?_
                refine N_if_eq (a := x50.toInt) 82 rfl rfl rfl (fun c61 => ?_) (fun c61 => ?_)
                · refine R_iload_n (k := 2) rfl rfl rfl ?_
                  exact R_iret rfl rfl (nar_z (by omega)) ⟨rfl, _, rfl, by omega⟩
                · exfalso; omega
          exact lp49 _ (0 : Int32) (0 : Int32) (by decide) (by decide) (Nat.lt_succ_self _)
        · refine R_iconst 1 rfl rfl ?_
          refine R_goto 36 rfl rfl ?_
          refine R_istore_n (k := 2) rfl [(2, .inl 1), (0, .inr (.inr (.inl 96))), (1, .inr (.inr (.inr 9)))] rfl rfl (by decide) ?_
          refine R_iconst 0 rfl rfl ?_
          refine R_istore_n (k := 3) rfl [(3, .inl 0), (2, .inl 1), (0, .inr (.inr (.inl 96))), (1, .inr (.inr (.inr 9)))] rfl rfl (by decide) ?_
          have lp63 : ∀ (n62 : Nat) (x64 : Int32) (x65 : Int32), 0 ≤ x64.toInt ∧ x64.toInt ≤ 1 → 0 ≤ x65.toInt ∧ x65.toInt ≤ 6 → (6 - x65.toInt).toNat < n62 → RUN d_X9_is 39 [(3, .inl x65), (2, .inl x64), (0, .inr (.inr (.inl 96))), (1, .inr (.inr (.inr 9)))] [] h (qg_X9_is_3 h) := by
            intro n62
            induction n62 with
            | zero => intro x64 x65 m67 m68 hz; exact absurd hz (Nat.not_lt_zero _)
            | succ n62 ih66 =>
              intro x64 x65 m67 m68 hz
              refine R_iload_n (k := 3) rfl rfl rfl ?_
              refine R_aload_c (k := 1) rfl rfl rfl (by decide) ?_
              refine R_callV (v := .inr (.inr (.inr 9))) (As := []) (rest := [.inl x65]) rfl mt_9_i180 pp_J0_length_8abf5 (by decide) rfl rfl rfl (Nat.le_of_ble_eq_true rfl) (Nat.le_of_ble_eq_true rfl) ((k_J0_length_8abf5_7 h hI).mono (fun r69 h70 p71 => ?_))
              obtain ⟨rfl, x72, rfl, q73⟩ := p71
              show RUN d_X9_is 44 [(3, .inl x65), (2, .inl x64), (0, .inr (.inr (.inl 96))), (1, .inr (.inr (.inr 9)))] [.inl x72, .inl x65] h _
              refine N_icmp_ge (a := x65.toInt) (b := x72.toInt) 82 rfl rfl rfl rfl (fun c74 => ?_) (fun c74 => ?_)
              · refine R_iload_n (k := 2) rfl rfl rfl ?_
                exact R_iret rfl rfl (nar_z (by omega)) ⟨rfl, _, rfl, by omega⟩
              · refine R_iload_n (k := 2) rfl rfl rfl ?_
                refine N_if_eq (a := x64.toInt) 82 rfl rfl rfl (fun c75 => ?_) (fun c75 => ?_)
                · refine R_iload_n (k := 2) rfl rfl rfl ?_
                  exact R_iret rfl rfl (nar_z (by omega)) ⟨rfl, _, rfl, by omega⟩
                · refine R_aload_n (k := 0) rfl rfl rfl ?_
                  refine R_getf_r (j := 4) rfl ft_9_20 sh_96 rfl ?_
                  refine R_aload_n (k := 0) rfl rfl rfl ?_
                  refine R_getf_i (j := 9) rfl ft_9_149 sh_96 rfl ?_
                  refine R_iload_n (k := 3) rfl rfl rfl ?_
                  refine N_iadd (a := (h.1 96 9).toInt) (b := x65.toInt) rfl rfl rfl (by omega) (fun x76 q77 => ?_)
                  refine R_bald rfl sh_100 ⟨by omega, by omega⟩ ?_
                  refine N_any (fun x78 => ?_)
                  refine R_aload_c (k := 1) rfl rfl rfl (by decide) ?_
                  refine R_iload_n (k := 3) rfl rfl rfl ?_
                  refine R_callV (v := .inr (.inr (.inr 9))) (As := [.inl x65]) (rest := [.inl x78]) rfl mt_9_i184 pp_J0_charAt_5068e (by decide) rfl rfl rfl (Nat.le_of_ble_eq_true rfl) (Nat.le_of_ble_eq_true rfl) ((k_J0_charAt_5068e_7 h hI x65 (by omega)).mono (fun r79 h80 p81 => ?_))
                  obtain ⟨rfl, x82, rfl, q83⟩ := p81
                  show RUN d_X9_is 67 [(3, .inl x65), (2, .inl x64), (0, .inr (.inr (.inl 96))), (1, .inr (.inr (.inr 9)))] [.inl x82, .inl x78] h _
                  refine N_icmp_ne (a := x78.toInt) (b := x82.toInt) 74 rfl rfl rfl rfl (fun c84 => ?_) (fun c84 => ?_)
                  · refine R_iconst 0 rfl rfl ?_
                    refine R_istore_n (k := 2) rfl [(2, .inl 0), (3, .inl x65), (0, .inr (.inr (.inl 96))), (1, .inr (.inr (.inr 9)))] rfl rfl (by decide) ?_
                    refine N_iinc (a := x65.toInt) (c := 1) (fun w => [(3, .inl w), (2, .inl 0), (0, .inr (.inr (.inl 96))), (1, .inr (.inr (.inr 9)))]) rfl rfl (fun _ => rfl) (by decide) rfl (by decide) (by omega) (fun x85 q86 => ?_)
                    refine R_goto 39 rfl rfl ?_
                    exact RUN_weak (psub_cons rfl (psub_cons rfl (psub_cons rfl (psub_cons rfl (psub_nil _))))) (ih66 (0 : Int32) x85 (by decide) (by omega) (by omega))
                  · refine R_iconst 1 rfl rfl ?_
                    refine R_goto 75 rfl rfl ?_
                    refine R_istore_n (k := 2) rfl [(2, .inl 1), (3, .inl x65), (0, .inr (.inr (.inl 96))), (1, .inr (.inr (.inr 9)))] rfl rfl (by decide) ?_
                    refine N_iinc (a := x65.toInt) (c := 1) (fun w => [(3, .inl w), (2, .inl 1), (0, .inr (.inr (.inl 96))), (1, .inr (.inr (.inr 9)))]) rfl rfl (fun _ => rfl) (by decide) rfl (by decide) (by omega) (fun x87 q88 => ?_)
                    refine R_goto 39 rfl rfl ?_
                    exact RUN_weak (psub_cons rfl (psub_cons rfl (psub_cons rfl (psub_cons rfl (psub_nil _))))) (ih66 (1 : Int32) x87 (by decide) (by omega) (by omega))
          exact lp63 _ (1 : Int32) (0 : Int32) (by decide) (by decide) (Nat.lt_succ_self _)
abbrev qg_X9_takes_3 (h : PH)  : Option PV → PH → Prop := fun r h' => INV h' ∧ FR [96] h h' ∧ ((h'.1 96 12).toInt = (h.1 96 12).toInt ∧ (h'.1 96 7).toInt = (h.1 96 7).toInt ∧ (h'.1 96 5).toInt = (h.1 96 5).toInt ∧ ((h.1 96 12).toInt ≤ (h'.1 96 12).toInt) ∧ ((h.1 96 8).toInt ≤ (h'.1 96 8).toInt) ∧ True) ∧ ∃ z : Int32, r = some (.inl z) ∧ (((0 ≤ z.toInt ∧ z.toInt ≤ 1)) ∧ (z = ansI d_X9_is [.inr (.inr (.inl 96)), .inr (.inr (.inr 9))] h) ∧ (z.toInt = 0 → h' = h) ∧ True)
set_option maxHeartbeats 4000000 in
set_option maxRecDepth 100000 in
theorem g_X9_takes_3 (h : PH) (hI : INV h)  : CALL d_X9_takes [.inr (.inr (.inl 96)), .inr (.inr (.inr 9))] h (qg_X9_takes_3 h) := by
  show RUN d_X9_takes 0 [(0, .inr (.inr (.inl 96))), (1, .inr (.inr (.inr 9)))] [] h _
  have fr : FR [96] h h := FR.rf _ _
  have b1 : (0 : Int) ≤ (h.1 96 12).toInt ∧ (h.1 96 12).toInt ≤ 3 := hI.1 96 12
  have b2 : (0 : Int) ≤ (h.1 96 8).toInt ∧ (h.1 96 8).toInt ≤ 500 := hI.1 96 8
  have b3 : (0 : Int) ≤ (h.1 96 7).toInt ∧ (h.1 96 7).toInt ≤ 500 := hI.1 96 7
  have b4 : (0 : Int) ≤ (h.1 96 5).toInt ∧ (h.1 96 5).toInt ≤ 500 := hI.1 96 5
  refine R_aload_n (k := 0) rfl rfl rfl ?_
  refine R_aload_c (k := 1) rfl rfl rfl (by decide) ?_
  refine R_callV (v := .inr (.inr (.inl 96))) (As := [.inr (.inr (.inr 9))]) (rest := []) rfl mt_9_i188 pp_X9_is (by decide) rfl rfl rfl (Nat.le_of_ble_eq_true rfl) (Nat.le_of_ble_eq_true rfl) ((CALL_ans (g_X9_is_3 h hI)).mono (fun r5 h6 p7 => ?_))
  obtain ⟨⟨rfl, x8, rfl, q9⟩, za10⟩ := p7
  have za10 := za10 _ rfl
  show RUN d_X9_takes 5 [(0, .inr (.inr (.inl 96))), (1, .inr (.inr (.inr 9)))] [.inl x8] h _
  refine R_istore_n (k := 2) rfl [(2, .inl x8), (0, .inr (.inr (.inl 96))), (1, .inr (.inr (.inr 9)))] rfl rfl (by decide) ?_
  refine R_iload_n (k := 2) rfl rfl rfl ?_
  refine N_if_eq (a := x8.toInt) 14 rfl rfl rfl (fun c11 => ?_) (fun c11 => ?_)
  · refine R_iload_n (k := 2) rfl rfl rfl ?_
    exact R_iret rfl rfl (nar_z (by omega)) ⟨hI, fr, ⟨by omega, by omega, by omega, by omega, by omega, trivial⟩, _, rfl, ⟨by omega, za10, (fun _ => rfl), trivial⟩⟩
  · refine R_aload_n (k := 0) rfl rfl rfl ?_
    refine R_callV (v := .inr (.inr (.inl 96))) (As := []) (rest := []) rfl mt_9_i192 pp_X9_advance (by decide) rfl rfl rfl (Nat.le_of_ble_eq_true rfl) (Nat.le_of_ble_eq_true rfl) ((g_X9_advance h hI).mono (fun r12 h13 p14 => ?_))
    obtain ⟨hJ, fj, ⟨kp15, kp16, kp17, kp18, xq19, xq20, -⟩, rfl⟩ := p14
    have f21 := fj
    have fr := fr.trans fj (by decide)
    have hI := hJ
    have b22 : (0 : Int) ≤ (h13.1 96 8).toInt ∧ (h13.1 96 8).toInt ≤ 500 := hI.1 96 8
    show RUN d_X9_takes 14 [(2, .inl x8), (0, .inr (.inr (.inl 96))), (1, .inr (.inr (.inr 9)))] [] h13 _
    refine R_iload_n (k := 2) rfl rfl rfl ?_
    exact R_iret rfl rfl (nar_z (by omega)) ⟨hI, fr, ⟨by omega, by omega, by omega, by omega, by omega, trivial⟩, _, rfl, ⟨by omega, za10, (fun hc => absurd hc (by omega)), trivial⟩⟩

abbrev qg_X9_needs_1 (h : PH)  : Option PV → PH → Prop := fun r h' => INV h' ∧ FR [96] h h' ∧ ((h'.1 96 7).toInt = (h.1 96 7).toInt ∧ (h'.1 96 5).toInt = (h.1 96 5).toInt ∧ ((h.1 96 12).toInt ≤ (h'.1 96 12).toInt) ∧ ((h.1 96 8).toInt ≤ (h'.1 96 8).toInt) ∧ True) ∧ r = none
set_option maxHeartbeats 4000000 in
set_option maxRecDepth 100000 in
theorem g_X9_needs_1 (h : PH) (hI : INV h)  : CALL d_X9_needs [.inr (.inr (.inl 96)), .inr (.inr (.inr 9))] h (qg_X9_needs_1 h) := by
  show RUN d_X9_needs 0 [(0, .inr (.inr (.inl 96))), (1, .inr (.inr (.inr 9)))] [] h _
  have fr : FR [96] h h := FR.rf _ _
  have b1 : (0 : Int) ≤ (h.1 96 12).toInt ∧ (h.1 96 12).toInt ≤ 3 := hI.1 96 12
  have b2 : (0 : Int) ≤ (h.1 96 8).toInt ∧ (h.1 96 8).toInt ≤ 500 := hI.1 96 8
  have b3 : (0 : Int) ≤ (h.1 96 7).toInt ∧ (h.1 96 7).toInt ≤ 500 := hI.1 96 7
  have b4 : (0 : Int) ≤ (h.1 96 5).toInt ∧ (h.1 96 5).toInt ≤ 500 := hI.1 96 5
  refine R_aload_n (k := 0) rfl rfl rfl ?_
  refine R_aload_c (k := 1) rfl rfl rfl (by decide) ?_
  refine R_callV (v := .inr (.inr (.inl 96))) (As := [.inr (.inr (.inr 9))]) (rest := []) rfl mt_9_i195 pp_X9_takes (by decide) rfl rfl rfl (Nat.le_of_ble_eq_true rfl) (Nat.le_of_ble_eq_true rfl) ((g_X9_takes_3 h hI).mono (fun r5 h6 p7 => ?_))
  obtain ⟨hJ, fj, ⟨kp8, kp9, kp10, xq11, xq12, -⟩, x15, rfl, q16, zq13, zq14, -⟩ := p7
  have f17 := fj
  have fr := fr.trans fj (by decide)
  have hI := hJ
  have b18 : (0 : Int) ≤ (h6.1 96 8).toInt ∧ (h6.1 96 8).toInt ≤ 500 := hI.1 96 8
  show RUN d_X9_needs 5 [(0, .inr (.inr (.inl 96))), (1, .inr (.inr (.inr 9)))] [.inl x15] h6 _
  refine N_if_ne (a := x15.toInt) 13 rfl rfl rfl (fun c19 => ?_) (fun c19 => ?_)
  · exact R_vret rfl rfl ⟨hI, fr, ⟨by omega, by omega, by omega, by omega, trivial⟩, rfl⟩
  · refine R_aload_n (k := 0) rfl rfl rfl ?_
    refine R_iconst 1 rfl rfl ?_
    have k20 : (1 : Int32).toInt = 1 := by decide
    refine R_callV (v := .inr (.inr (.inl 96))) (As := [.inl 1]) (rest := []) rfl mt_9_i198 pp_X9_errs (by decide) rfl rfl rfl (Nat.le_of_ble_eq_true rfl) (Nat.le_of_ble_eq_true rfl) ((g_X9_errs h6 hI (1 : Int32) (by decide)).mono (fun r21 h22 p23 => ?_))
    obtain ⟨hJ, fj, ⟨kp24, kp25, kp26, kp27, kp28, xq29, xq30, xq31, -⟩, rfl⟩ := p23
    have f32 := fj
    have fr := fr.trans fj (by decide)
    have hI := hJ
    have b33 : (0 : Int) ≤ (h22.1 96 12).toInt ∧ (h22.1 96 12).toInt ≤ 3 := hI.1 96 12
    show RUN d_X9_needs 13 [(0, .inr (.inr (.inl 96))), (1, .inr (.inr (.inr 9)))] [] h22 _
    exact R_vret rfl rfl ⟨hI, fr, ⟨by omega, by omega, by omega, by omega, trivial⟩, rfl⟩
abbrev qg_X9_told_1 (h : PH) (a1 : Int32) (a2 : Int32) : Option PV → PH → Prop := fun r h' => INV h' ∧ FR [96] h h' ∧ ((h'.1 96 7).toInt = (h.1 96 7).toInt ∧ (h'.1 96 5).toInt = (h.1 96 5).toInt ∧ ((h.1 96 12).toInt ≤ (h'.1 96 12).toInt) ∧ ((h.1 96 8).toInt ≤ (h'.1 96 8).toInt) ∧ True) ∧ ∃ z : Int32, r = some (.inl z) ∧ (((0 ≤ z.toInt ∧ z.toInt ≤ 999)) ∧ ((h'.1 96 12).toInt = 0 → a1.toInt ≤ z.toInt ∧ z.toInt ≤ a2.toInt) ∧ (z.toInt = 0 ∨ (a1.toInt ≤ z.toInt ∧ z.toInt ≤ a2.toInt)) ∧ True)
set_option maxHeartbeats 4000000 in
set_option maxRecDepth 100000 in
theorem g_X9_told_1 (h : PH) (hI : INV h) (a1 : Int32) (a2 : Int32) (h1a : 0 ≤ a1.toInt ∧ a1.toInt ≤ 0) (h2a : 9 ≤ a2.toInt ∧ a2.toInt ≤ 9) : CALL d_X9_told [.inr (.inr (.inl 96)), .inr (.inr (.inr 9)), .inl a1, .inl a2] h (qg_X9_told_1 h a1 a2) := by
  show RUN d_X9_told 0 [(0, .inr (.inr (.inl 96))), (1, .inr (.inr (.inr 9))), (2, .inl a1), (3, .inl a2)] [] h _
  have fr : FR [96] h h := FR.rf _ _
  have b1 : (0 : Int) ≤ (h.1 96 12).toInt ∧ (h.1 96 12).toInt ≤ 3 := hI.1 96 12
  have b2 : (0 : Int) ≤ (h.1 96 8).toInt ∧ (h.1 96 8).toInt ≤ 500 := hI.1 96 8
  have b3 : (0 : Int) ≤ (h.1 96 7).toInt ∧ (h.1 96 7).toInt ≤ 500 := hI.1 96 7
  have b4 : (0 : Int) ≤ (h.1 96 5).toInt ∧ (h.1 96 5).toInt ≤ 500 := hI.1 96 5
  refine R_aload_n (k := 0) rfl rfl rfl ?_
  refine R_aload_c (k := 1) rfl rfl rfl (by decide) ?_
  refine R_callV (v := .inr (.inr (.inl 96))) (As := [.inr (.inr (.inr 9))]) (rest := []) rfl mt_9_i202 pp_X9_needs (by decide) rfl rfl rfl (Nat.le_of_ble_eq_true rfl) (Nat.le_of_ble_eq_true rfl) ((g_X9_needs_1 h hI).mono (fun r5 h6 p7 => ?_))
  obtain ⟨hJ, fj, ⟨kp8, kp9, xq10, xq11, -⟩, rfl⟩ := p7
  have f12 := fj
  have fr := fr.trans fj (by decide)
  have hI := hJ
  have b13 : (0 : Int) ≤ (h6.1 96 12).toInt ∧ (h6.1 96 12).toInt ≤ 3 := hI.1 96 12
  have b14 : (0 : Int) ≤ (h6.1 96 8).toInt ∧ (h6.1 96 8).toInt ≤ 500 := hI.1 96 8
  show RUN d_X9_told 5 [(0, .inr (.inr (.inl 96))), (1, .inr (.inr (.inr 9))), (2, .inl a1), (3, .inl a2)] [] h6 _
  refine R_aload_n (k := 0) rfl rfl rfl ?_
  refine R_iload_n (k := 2) rfl rfl rfl ?_
  refine R_iload_n (k := 3) rfl rfl rfl ?_
  refine R_callV (v := .inr (.inr (.inl 96))) (As := [.inl a1, .inl a2]) (rest := []) rfl mt_9_i206 pp_X9_number (by decide) rfl rfl rfl (Nat.le_of_ble_eq_true rfl) (Nat.le_of_ble_eq_true rfl) ((g_X9_number h6 hI a1 a2 (by omega) (by omega)).mono (fun r15 h16 p17 => ?_))
  obtain ⟨hJ, fj, ⟨kp18, kp19, xq20, xq21, -⟩, x24, rfl, q25, zq22, zq23, -⟩ := p17
  have f26 := fj
  have fr := fr.trans fj (by decide)
  have hI := hJ
  have b27 : (0 : Int) ≤ (h16.1 96 12).toInt ∧ (h16.1 96 12).toInt ≤ 3 := hI.1 96 12
  have b28 : (0 : Int) ≤ (h16.1 96 8).toInt ∧ (h16.1 96 8).toInt ≤ 500 := hI.1 96 8
  show RUN d_X9_told 11 [(0, .inr (.inr (.inl 96))), (1, .inr (.inr (.inr 9))), (2, .inl a1), (3, .inl a2)] [.inl x24] h16 _
  exact R_iret rfl rfl rfl ⟨hI, fr, ⟨by omega, by omega, by omega, by omega, trivial⟩, _, rfl, ⟨by omega, by omega, by omega, trivial⟩⟩
abbrev qg_X9_is_4 (h : PH)  : Option PV → PH → Prop := fun r h' => h = h' ∧ ∃ z : Int32, r = some (.inl z) ∧ ((0 ≤ z.toInt ∧ z.toInt ≤ 1))
set_option maxHeartbeats 4000000 in
set_option maxRecDepth 100000 in
theorem g_X9_is_4 (h : PH) (hI : INV h)  : CALL d_X9_is [.inr (.inr (.inl 96)), .inr (.inr (.inr 11))] h (qg_X9_is_4 h) := by
  show RUN d_X9_is 0 [(0, .inr (.inr (.inl 96))), (1, .inr (.inr (.inr 11)))] [] h _
  refine R_aload_n (k := 0) rfl rfl rfl ?_
  have b1 : (0 : Int) ≤ (h.1 96 12).toInt ∧ (h.1 96 12).toInt ≤ 3 := hI.1 96 12
  refine R_callV (v := .inr (.inr (.inl 96))) (As := []) (rest := []) rfl mt_9_i176 pp_X9_good (by decide) rfl rfl rfl (Nat.le_of_ble_eq_true rfl) (Nat.le_of_ble_eq_true rfl) ((k_X9_good h hI).mono (fun r2 h3 p4 => ?_))
  obtain ⟨rfl, x5, rfl, q6 | q6⟩ := p4
  · show RUN d_X9_is 4 [(0, .inr (.inr (.inl 96))), (1, .inr (.inr (.inr 11)))] [.inl x5] h _
    refine N_if_eq (a := x5.toInt) 35 rfl rfl rfl (fun c7 => ?_) (fun c7 => ?_)
    · refine R_iconst 0 rfl rfl ?_
      refine R_istore_n (k := 2) rfl [(2, .inl 0), (0, .inr (.inr (.inl 96))), (1, .inr (.inr (.inr 11)))] rfl rfl (by decide) ?_
      refine R_iconst 0 rfl rfl ?_
      refine R_istore_n (k := 3) rfl [(3, .inl 0), (2, .inl 0), (0, .inr (.inr (.inl 96))), (1, .inr (.inr (.inr 11)))] rfl rfl (by decide) ?_
      have lp9 : ∀ (n8 : Nat) (x10 : Int32) (x11 : Int32), 0 ≤ x10.toInt ∧ x10.toInt ≤ 0 → 0 ≤ x11.toInt ∧ x11.toInt ≤ 0 → 0 < n8 → RUN d_X9_is 39 [(3, .inl x11), (2, .inl x10), (0, .inr (.inr (.inl 96))), (1, .inr (.inr (.inr 11)))] [] h (qg_X9_is_4 h) := by
        intro n8
        induction n8 with
        | zero => intro x10 x11 m13 m14 hz; exact absurd hz (Nat.not_lt_zero _)
        | succ n8 ih12 =>
          intro x10 x11 m13 m14 hz
          refine R_iload_n (k := 3) rfl rfl rfl ?_
          refine R_aload_c (k := 1) rfl rfl rfl (by decide) ?_
          refine R_callV (v := .inr (.inr (.inr 11))) (As := []) (rest := [.inl x11]) rfl mt_9_i180 pp_J0_length_8abf5 (by decide) rfl rfl rfl (Nat.le_of_ble_eq_true rfl) (Nat.le_of_ble_eq_true rfl) ((k_J0_length_8abf5_2 h hI).mono (fun r15 h16 p17 => ?_))
          obtain ⟨rfl, x18, rfl, q19⟩ := p17
          show RUN d_X9_is 44 [(3, .inl x11), (2, .inl x10), (0, .inr (.inr (.inl 96))), (1, .inr (.inr (.inr 11)))] [.inl x18, .inl x11] h _
          refine N_icmp_ge (a := x11.toInt) (b := x18.toInt) 82 rfl rfl rfl rfl (fun c20 => ?_) (fun c20 => ?_)
          · exfalso; omega
          · refine R_iload_n (k := 2) rfl rfl rfl ?_
            refine N_if_eq (a := x10.toInt) 82 rfl rfl rfl (fun c21 => ?_) (fun c21 => ?_)
            · refine R_iload_n (k := 2) rfl rfl rfl ?_
              exact R_iret rfl rfl (nar_z (by omega)) ⟨rfl, _, rfl, by omega⟩
            · exfalso; omega
      exact lp9 _ (0 : Int32) (0 : Int32) (by decide) (by decide) (Nat.lt_succ_self _)
    · exfalso; omega
  · show RUN d_X9_is 4 [(0, .inr (.inr (.inl 96))), (1, .inr (.inr (.inr 11)))] [.inl x5] h _
    refine N_if_eq (a := x5.toInt) 35 rfl rfl rfl (fun c22 => ?_) (fun c22 => ?_)
    · exfalso; omega
    · refine R_aload_n (k := 0) rfl rfl rfl ?_
      refine R_getf_i (j := 10) rfl ft_9_152 sh_96 rfl ?_
      refine R_iconst 1 rfl rfl ?_
      refine N_icmp_ne (a := (h.1 96 10).toInt) (b := 1) 35 rfl rfl rfl (by decide) (fun c23 => ?_) (fun c23 => ?_)
      · refine R_iconst 0 rfl rfl ?_
        refine R_istore_n (k := 2) rfl [(2, .inl 0), (0, .inr (.inr (.inl 96))), (1, .inr (.inr (.inr 11)))] rfl rfl (by decide) ?_
        refine R_iconst 0 rfl rfl ?_
        refine R_istore_n (k := 3) rfl [(3, .inl 0), (2, .inl 0), (0, .inr (.inr (.inl 96))), (1, .inr (.inr (.inr 11)))] rfl rfl (by decide) ?_
        have lp25 : ∀ (n24 : Nat) (x26 : Int32) (x27 : Int32), 0 ≤ x26.toInt ∧ x26.toInt ≤ 0 → 0 ≤ x27.toInt ∧ x27.toInt ≤ 0 → 0 < n24 → RUN d_X9_is 39 [(3, .inl x27), (2, .inl x26), (0, .inr (.inr (.inl 96))), (1, .inr (.inr (.inr 11)))] [] h (qg_X9_is_4 h) := by
          intro n24
          induction n24 with
          | zero => intro x26 x27 m29 m30 hz; exact absurd hz (Nat.not_lt_zero _)
          | succ n24 ih28 =>
            intro x26 x27 m29 m30 hz
            refine R_iload_n (k := 3) rfl rfl rfl ?_
            refine R_aload_c (k := 1) rfl rfl rfl (by decide) ?_
            refine R_callV (v := .inr (.inr (.inr 11))) (As := []) (rest := [.inl x27]) rfl mt_9_i180 pp_J0_length_8abf5 (by decide) rfl rfl rfl (Nat.le_of_ble_eq_true rfl) (Nat.le_of_ble_eq_true rfl) ((k_J0_length_8abf5_2 h hI).mono (fun r31 h32 p33 => ?_))
            obtain ⟨rfl, x34, rfl, q35⟩ := p33
            show RUN d_X9_is 44 [(3, .inl x27), (2, .inl x26), (0, .inr (.inr (.inl 96))), (1, .inr (.inr (.inr 11)))] [.inl x34, .inl x27] h _
            refine N_icmp_ge (a := x27.toInt) (b := x34.toInt) 82 rfl rfl rfl rfl (fun c36 => ?_) (fun c36 => ?_)
            · exfalso; omega
            · refine R_iload_n (k := 2) rfl rfl rfl ?_
              refine N_if_eq (a := x26.toInt) 82 rfl rfl rfl (fun c37 => ?_) (fun c37 => ?_)
              · refine R_iload_n (k := 2) rfl rfl rfl ?_
                exact R_iret rfl rfl (nar_z (by omega)) ⟨rfl, _, rfl, by omega⟩
              · exfalso; omega
        exact lp25 _ (0 : Int32) (0 : Int32) (by decide) (by decide) (Nat.lt_succ_self _)
      · refine R_aload_n (k := 0) rfl rfl rfl ?_
        refine R_getf_i (j := 8) rfl ft_9_142 sh_96 rfl ?_
        have b38 : (0 : Int) ≤ (h.1 96 8).toInt ∧ (h.1 96 8).toInt ≤ 500 := hI.1 96 8
        refine R_aload_n (k := 0) rfl rfl rfl ?_
        refine R_getf_i (j := 9) rfl ft_9_149 sh_96 rfl ?_
        have b39 : (0 : Int) ≤ (h.1 96 9).toInt ∧ (h.1 96 9).toInt ≤ 500 := hI.1 96 9
        refine N_isub (a := (h.1 96 8).toInt) (b := (h.1 96 9).toInt) rfl rfl rfl (by omega) (fun x40 q41 => ?_)
        refine R_aload_c (k := 1) rfl rfl rfl (by decide) ?_
        refine R_callV (v := .inr (.inr (.inr 11))) (As := []) (rest := [.inl x40]) rfl mt_9_i180 pp_J0_length_8abf5 (by decide) rfl rfl rfl (Nat.le_of_ble_eq_true rfl) (Nat.le_of_ble_eq_true rfl) ((k_J0_length_8abf5_2 h hI).mono (fun r42 h43 p44 => ?_))
        obtain ⟨rfl, x45, rfl, q46⟩ := p44
        show RUN d_X9_is 28 [(0, .inr (.inr (.inl 96))), (1, .inr (.inr (.inr 11)))] [.inl x45, .inl x40] h _
        refine N_icmp_ne (a := x40.toInt) (b := x45.toInt) 35 rfl rfl rfl rfl (fun c47 => ?_) (fun c47 => ?_)
        · refine R_iconst 0 rfl rfl ?_
          refine R_istore_n (k := 2) rfl [(2, .inl 0), (0, .inr (.inr (.inl 96))), (1, .inr (.inr (.inr 11)))] rfl rfl (by decide) ?_
          refine R_iconst 0 rfl rfl ?_
          refine R_istore_n (k := 3) rfl [(3, .inl 0), (2, .inl 0), (0, .inr (.inr (.inl 96))), (1, .inr (.inr (.inr 11)))] rfl rfl (by decide) ?_
          have lp49 : ∀ (n48 : Nat) (x50 : Int32) (x51 : Int32), 0 ≤ x50.toInt ∧ x50.toInt ≤ 0 → 0 ≤ x51.toInt ∧ x51.toInt ≤ 0 → 0 < n48 → RUN d_X9_is 39 [(3, .inl x51), (2, .inl x50), (0, .inr (.inr (.inl 96))), (1, .inr (.inr (.inr 11)))] [] h (qg_X9_is_4 h) := by
            intro n48
            induction n48 with
            | zero => intro x50 x51 m53 m54 hz; exact absurd hz (Nat.not_lt_zero _)
            | succ n48 ih52 =>
              intro x50 x51 m53 m54 hz
              refine R_iload_n (k := 3) rfl rfl rfl ?_
              refine R_aload_c (k := 1) rfl rfl rfl (by decide) ?_
              refine R_callV (v := .inr (.inr (.inr 11))) (As := []) (rest := [.inl x51]) rfl mt_9_i180 pp_J0_length_8abf5 (by decide) rfl rfl rfl (Nat.le_of_ble_eq_true rfl) (Nat.le_of_ble_eq_true rfl) ((k_J0_length_8abf5_2 h hI).mono (fun r55 h56 p57 => ?_))
              obtain ⟨rfl, x58, rfl, q59⟩ := p57
              show RUN d_X9_is 44 [(3, .inl x51), (2, .inl x50), (0, .inr (.inr (.inl 96))), (1, .inr (.inr (.inr 11)))] [.inl x58, .inl x51] h _
              refine N_icmp_ge (a := x51.toInt) (b := x58.toInt) 82 rfl rfl rfl rfl (fun c60 => ?_) (fun c60 => ?_)
              · exfalso; omega
              · refine R_iload_n (k := 2) rfl rfl rfl ?_
                refine N_if_eq (a := x50.toInt) 82 rfl rfl rfl (fun c61 => ?_) (fun c61 => ?_)
                · refine R_iload_n (k := 2) rfl rfl rfl ?_
                  exact R_iret rfl rfl (nar_z (by omega)) ⟨rfl, _, rfl, by omega⟩
                · exfalso; omega
          exact lp49 _ (0 : Int32) (0 : Int32) (by decide) (by decide) (Nat.lt_succ_self _)
        · refine R_iconst 1 rfl rfl ?_
          refine R_goto 36 rfl rfl ?_
          refine R_istore_n (k := 2) rfl [(2, .inl 1), (0, .inr (.inr (.inl 96))), (1, .inr (.inr (.inr 11)))] rfl rfl (by decide) ?_
          refine R_iconst 0 rfl rfl ?_
          refine R_istore_n (k := 3) rfl [(3, .inl 0), (2, .inl 1), (0, .inr (.inr (.inl 96))), (1, .inr (.inr (.inr 11)))] rfl rfl (by decide) ?_
          have lp63 : ∀ (n62 : Nat) (x64 : Int32) (x65 : Int32), 0 ≤ x64.toInt ∧ x64.toInt ≤ 1 → 0 ≤ x65.toInt ∧ x65.toInt ≤ 5 → (5 - x65.toInt).toNat < n62 → RUN d_X9_is 39 [(3, .inl x65), (2, .inl x64), (0, .inr (.inr (.inl 96))), (1, .inr (.inr (.inr 11)))] [] h (qg_X9_is_4 h) := by
            intro n62
            induction n62 with
            | zero => intro x64 x65 m67 m68 hz; exact absurd hz (Nat.not_lt_zero _)
            | succ n62 ih66 =>
              intro x64 x65 m67 m68 hz
              refine R_iload_n (k := 3) rfl rfl rfl ?_
              refine R_aload_c (k := 1) rfl rfl rfl (by decide) ?_
              refine R_callV (v := .inr (.inr (.inr 11))) (As := []) (rest := [.inl x65]) rfl mt_9_i180 pp_J0_length_8abf5 (by decide) rfl rfl rfl (Nat.le_of_ble_eq_true rfl) (Nat.le_of_ble_eq_true rfl) ((k_J0_length_8abf5_2 h hI).mono (fun r69 h70 p71 => ?_))
              obtain ⟨rfl, x72, rfl, q73⟩ := p71
              show RUN d_X9_is 44 [(3, .inl x65), (2, .inl x64), (0, .inr (.inr (.inl 96))), (1, .inr (.inr (.inr 11)))] [.inl x72, .inl x65] h _
              refine N_icmp_ge (a := x65.toInt) (b := x72.toInt) 82 rfl rfl rfl rfl (fun c74 => ?_) (fun c74 => ?_)
              · refine R_iload_n (k := 2) rfl rfl rfl ?_
                exact R_iret rfl rfl (nar_z (by omega)) ⟨rfl, _, rfl, by omega⟩
              · refine R_iload_n (k := 2) rfl rfl rfl ?_
                refine N_if_eq (a := x64.toInt) 82 rfl rfl rfl (fun c75 => ?_) (fun c75 => ?_)
                · refine R_iload_n (k := 2) rfl rfl rfl ?_
                  exact R_iret rfl rfl (nar_z (by omega)) ⟨rfl, _, rfl, by omega⟩
                · refine R_aload_n (k := 0) rfl rfl rfl ?_
                  refine R_getf_r (j := 4) rfl ft_9_20 sh_96 rfl ?_
                  refine R_aload_n (k := 0) rfl rfl rfl ?_
                  refine R_getf_i (j := 9) rfl ft_9_149 sh_96 rfl ?_
                  refine R_iload_n (k := 3) rfl rfl rfl ?_
                  refine N_iadd (a := (h.1 96 9).toInt) (b := x65.toInt) rfl rfl rfl (by omega) (fun x76 q77 => ?_)
                  refine R_bald rfl sh_100 ⟨by omega, by omega⟩ ?_
                  refine N_any (fun x78 => ?_)
                  refine R_aload_c (k := 1) rfl rfl rfl (by decide) ?_
                  refine R_iload_n (k := 3) rfl rfl rfl ?_
                  refine R_callV (v := .inr (.inr (.inr 11))) (As := [.inl x65]) (rest := [.inl x78]) rfl mt_9_i184 pp_J0_charAt_5068e (by decide) rfl rfl rfl (Nat.le_of_ble_eq_true rfl) (Nat.le_of_ble_eq_true rfl) ((k_J0_charAt_5068e_2 h hI x65 (by omega)).mono (fun r79 h80 p81 => ?_))
                  obtain ⟨rfl, x82, rfl, q83⟩ := p81
                  show RUN d_X9_is 67 [(3, .inl x65), (2, .inl x64), (0, .inr (.inr (.inl 96))), (1, .inr (.inr (.inr 11)))] [.inl x82, .inl x78] h _
                  refine N_icmp_ne (a := x78.toInt) (b := x82.toInt) 74 rfl rfl rfl rfl (fun c84 => ?_) (fun c84 => ?_)
                  · refine R_iconst 0 rfl rfl ?_
                    refine R_istore_n (k := 2) rfl [(2, .inl 0), (3, .inl x65), (0, .inr (.inr (.inl 96))), (1, .inr (.inr (.inr 11)))] rfl rfl (by decide) ?_
                    refine N_iinc (a := x65.toInt) (c := 1) (fun w => [(3, .inl w), (2, .inl 0), (0, .inr (.inr (.inl 96))), (1, .inr (.inr (.inr 11)))]) rfl rfl (fun _ => rfl) (by decide) rfl (by decide) (by omega) (fun x85 q86 => ?_)
                    refine R_goto 39 rfl rfl ?_
                    exact RUN_weak (psub_cons rfl (psub_cons rfl (psub_cons rfl (psub_cons rfl (psub_nil _))))) (ih66 (0 : Int32) x85 (by decide) (by omega) (by omega))
                  · refine R_iconst 1 rfl rfl ?_
                    refine R_goto 75 rfl rfl ?_
                    refine R_istore_n (k := 2) rfl [(2, .inl 1), (3, .inl x65), (0, .inr (.inr (.inl 96))), (1, .inr (.inr (.inr 11)))] rfl rfl (by decide) ?_
                    refine N_iinc (a := x65.toInt) (c := 1) (fun w => [(3, .inl w), (2, .inl 1), (0, .inr (.inr (.inl 96))), (1, .inr (.inr (.inr 11)))]) rfl rfl (fun _ => rfl) (by decide) rfl (by decide) (by omega) (fun x87 q88 => ?_)
                    refine R_goto 39 rfl rfl ?_
                    exact RUN_weak (psub_cons rfl (psub_cons rfl (psub_cons rfl (psub_cons rfl (psub_nil _))))) (ih66 (1 : Int32) x87 (by decide) (by omega) (by omega))
          exact lp63 _ (1 : Int32) (0 : Int32) (by decide) (by decide) (Nat.lt_succ_self _)
abbrev qg_X9_takes_4 (h : PH)  : Option PV → PH → Prop := fun r h' => INV h' ∧ FR [96] h h' ∧ ((h'.1 96 12).toInt = (h.1 96 12).toInt ∧ (h'.1 96 7).toInt = (h.1 96 7).toInt ∧ (h'.1 96 5).toInt = (h.1 96 5).toInt ∧ (h'.1 96 13).toInt = (h.1 96 13).toInt ∧ ((h.1 96 12).toInt ≤ (h'.1 96 12).toInt) ∧ ((h.1 96 8).toInt ≤ (h'.1 96 8).toInt) ∧ True) ∧ ∃ z : Int32, r = some (.inl z) ∧ (((0 ≤ z.toInt ∧ z.toInt ≤ 1)) ∧ (z = ansI d_X9_is [.inr (.inr (.inl 96)), .inr (.inr (.inr 11))] h) ∧ (z.toInt = 0 → h' = h) ∧ True)
set_option maxHeartbeats 4000000 in
set_option maxRecDepth 100000 in
theorem g_X9_takes_4 (h : PH) (hI : INV h)  : CALL d_X9_takes [.inr (.inr (.inl 96)), .inr (.inr (.inr 11))] h (qg_X9_takes_4 h) := by
  show RUN d_X9_takes 0 [(0, .inr (.inr (.inl 96))), (1, .inr (.inr (.inr 11)))] [] h _
  have fr : FR [96] h h := FR.rf _ _
  have b1 : (0 : Int) ≤ (h.1 96 12).toInt ∧ (h.1 96 12).toInt ≤ 3 := hI.1 96 12
  have b2 : (0 : Int) ≤ (h.1 96 8).toInt ∧ (h.1 96 8).toInt ≤ 500 := hI.1 96 8
  have b3 : (0 : Int) ≤ (h.1 96 7).toInt ∧ (h.1 96 7).toInt ≤ 500 := hI.1 96 7
  have b4 : (0 : Int) ≤ (h.1 96 5).toInt ∧ (h.1 96 5).toInt ≤ 500 := hI.1 96 5
  refine R_aload_n (k := 0) rfl rfl rfl ?_
  refine R_aload_c (k := 1) rfl rfl rfl (by decide) ?_
  refine R_callV (v := .inr (.inr (.inl 96))) (As := [.inr (.inr (.inr 11))]) (rest := []) rfl mt_9_i188 pp_X9_is (by decide) rfl rfl rfl (Nat.le_of_ble_eq_true rfl) (Nat.le_of_ble_eq_true rfl) ((CALL_ans (g_X9_is_4 h hI)).mono (fun r5 h6 p7 => ?_))
  obtain ⟨⟨rfl, x8, rfl, q9⟩, za10⟩ := p7
  have za10 := za10 _ rfl
  show RUN d_X9_takes 5 [(0, .inr (.inr (.inl 96))), (1, .inr (.inr (.inr 11)))] [.inl x8] h _
  refine R_istore_n (k := 2) rfl [(2, .inl x8), (0, .inr (.inr (.inl 96))), (1, .inr (.inr (.inr 11)))] rfl rfl (by decide) ?_
  refine R_iload_n (k := 2) rfl rfl rfl ?_
  refine N_if_eq (a := x8.toInt) 14 rfl rfl rfl (fun c11 => ?_) (fun c11 => ?_)
  · refine R_iload_n (k := 2) rfl rfl rfl ?_
    exact R_iret rfl rfl (nar_z (by omega)) ⟨hI, fr, ⟨by omega, by omega, by omega, by omega, by omega, by omega, trivial⟩, _, rfl, ⟨by omega, za10, (fun _ => rfl), trivial⟩⟩
  · refine R_aload_n (k := 0) rfl rfl rfl ?_
    refine R_callV (v := .inr (.inr (.inl 96))) (As := []) (rest := []) rfl mt_9_i192 pp_X9_advance (by decide) rfl rfl rfl (Nat.le_of_ble_eq_true rfl) (Nat.le_of_ble_eq_true rfl) ((g_X9_advance h hI).mono (fun r12 h13 p14 => ?_))
    obtain ⟨hJ, fj, ⟨kp15, kp16, kp17, kp18, xq19, xq20, -⟩, rfl⟩ := p14
    have f21 := fj
    have fr := fr.trans fj (by decide)
    have hI := hJ
    have b22 : (0 : Int) ≤ (h13.1 96 8).toInt ∧ (h13.1 96 8).toInt ≤ 500 := hI.1 96 8
    show RUN d_X9_takes 14 [(2, .inl x8), (0, .inr (.inr (.inl 96))), (1, .inr (.inr (.inr 11)))] [] h13 _
    refine R_iload_n (k := 2) rfl rfl rfl ?_
    exact R_iret rfl rfl (nar_z (by omega)) ⟨hI, fr, ⟨by omega, by omega, by omega, by omega, by omega, by omega, trivial⟩, _, rfl, ⟨by omega, za10, (fun hc => absurd hc (by omega)), trivial⟩⟩
abbrev qg_X9_is_5 (h : PH)  : Option PV → PH → Prop := fun r h' => h = h' ∧ ∃ z : Int32, r = some (.inl z) ∧ ((0 ≤ z.toInt ∧ z.toInt ≤ 1))
set_option maxHeartbeats 4000000 in
set_option maxRecDepth 100000 in
theorem g_X9_is_5 (h : PH) (hI : INV h)  : CALL d_X9_is [.inr (.inr (.inl 96)), .inr (.inr (.inr 13))] h (qg_X9_is_5 h) := by
  show RUN d_X9_is 0 [(0, .inr (.inr (.inl 96))), (1, .inr (.inr (.inr 13)))] [] h _
  refine R_aload_n (k := 0) rfl rfl rfl ?_
  have b1 : (0 : Int) ≤ (h.1 96 12).toInt ∧ (h.1 96 12).toInt ≤ 3 := hI.1 96 12
  refine R_callV (v := .inr (.inr (.inl 96))) (As := []) (rest := []) rfl mt_9_i176 pp_X9_good (by decide) rfl rfl rfl (Nat.le_of_ble_eq_true rfl) (Nat.le_of_ble_eq_true rfl) ((k_X9_good h hI).mono (fun r2 h3 p4 => ?_))
  obtain ⟨rfl, x5, rfl, q6 | q6⟩ := p4
  · show RUN d_X9_is 4 [(0, .inr (.inr (.inl 96))), (1, .inr (.inr (.inr 13)))] [.inl x5] h _
    refine N_if_eq (a := x5.toInt) 35 rfl rfl rfl (fun c7 => ?_) (fun c7 => ?_)
    · refine R_iconst 0 rfl rfl ?_
      refine R_istore_n (k := 2) rfl [(2, .inl 0), (0, .inr (.inr (.inl 96))), (1, .inr (.inr (.inr 13)))] rfl rfl (by decide) ?_
      refine R_iconst 0 rfl rfl ?_
      refine R_istore_n (k := 3) rfl [(3, .inl 0), (2, .inl 0), (0, .inr (.inr (.inl 96))), (1, .inr (.inr (.inr 13)))] rfl rfl (by decide) ?_
      have lp9 : ∀ (n8 : Nat) (x10 : Int32) (x11 : Int32), 0 ≤ x10.toInt ∧ x10.toInt ≤ 0 → 0 ≤ x11.toInt ∧ x11.toInt ≤ 0 → 0 < n8 → RUN d_X9_is 39 [(3, .inl x11), (2, .inl x10), (0, .inr (.inr (.inl 96))), (1, .inr (.inr (.inr 13)))] [] h (qg_X9_is_5 h) := by
        intro n8
        induction n8 with
        | zero => intro x10 x11 m13 m14 hz; exact absurd hz (Nat.not_lt_zero _)
        | succ n8 ih12 =>
          intro x10 x11 m13 m14 hz
          refine R_iload_n (k := 3) rfl rfl rfl ?_
          refine R_aload_c (k := 1) rfl rfl rfl (by decide) ?_
          refine R_callV (v := .inr (.inr (.inr 13))) (As := []) (rest := [.inl x11]) rfl mt_9_i180 pp_J0_length_8abf5 (by decide) rfl rfl rfl (Nat.le_of_ble_eq_true rfl) (Nat.le_of_ble_eq_true rfl) ((k_J0_length_8abf5_4 h hI).mono (fun r15 h16 p17 => ?_))
          obtain ⟨rfl, x18, rfl, q19⟩ := p17
          show RUN d_X9_is 44 [(3, .inl x11), (2, .inl x10), (0, .inr (.inr (.inl 96))), (1, .inr (.inr (.inr 13)))] [.inl x18, .inl x11] h _
          refine N_icmp_ge (a := x11.toInt) (b := x18.toInt) 82 rfl rfl rfl rfl (fun c20 => ?_) (fun c20 => ?_)
          · exfalso; omega
          · refine R_iload_n (k := 2) rfl rfl rfl ?_
            refine N_if_eq (a := x10.toInt) 82 rfl rfl rfl (fun c21 => ?_) (fun c21 => ?_)
            · refine R_iload_n (k := 2) rfl rfl rfl ?_
              exact R_iret rfl rfl (nar_z (by omega)) ⟨rfl, _, rfl, by omega⟩
            · exfalso; omega
      exact lp9 _ (0 : Int32) (0 : Int32) (by decide) (by decide) (Nat.lt_succ_self _)
    · exfalso; omega
  · show RUN d_X9_is 4 [(0, .inr (.inr (.inl 96))), (1, .inr (.inr (.inr 13)))] [.inl x5] h _
    refine N_if_eq (a := x5.toInt) 35 rfl rfl rfl (fun c22 => ?_) (fun c22 => ?_)
    · exfalso; omega
    · refine R_aload_n (k := 0) rfl rfl rfl ?_
      refine R_getf_i (j := 10) rfl ft_9_152 sh_96 rfl ?_
      refine R_iconst 1 rfl rfl ?_
      refine N_icmp_ne (a := (h.1 96 10).toInt) (b := 1) 35 rfl rfl rfl (by decide) (fun c23 => ?_) (fun c23 => ?_)
      · refine R_iconst 0 rfl rfl ?_
        refine R_istore_n (k := 2) rfl [(2, .inl 0), (0, .inr (.inr (.inl 96))), (1, .inr (.inr (.inr 13)))] rfl rfl (by decide) ?_
        refine R_iconst 0 rfl rfl ?_
        refine R_istore_n (k := 3) rfl [(3, .inl 0), (2, .inl 0), (0, .inr (.inr (.inl 96))), (1, .inr (.inr (.inr 13)))] rfl rfl (by decide) ?_
        have lp25 : ∀ (n24 : Nat) (x26 : Int32) (x27 : Int32), 0 ≤ x26.toInt ∧ x26.toInt ≤ 0 → 0 ≤ x27.toInt ∧ x27.toInt ≤ 0 → 0 < n24 → RUN d_X9_is 39 [(3, .inl x27), (2, .inl x26), (0, .inr (.inr (.inl 96))), (1, .inr (.inr (.inr 13)))] [] h (qg_X9_is_5 h) := by
          intro n24
          induction n24 with
          | zero => intro x26 x27 m29 m30 hz; exact absurd hz (Nat.not_lt_zero _)
          | succ n24 ih28 =>
            intro x26 x27 m29 m30 hz
            refine R_iload_n (k := 3) rfl rfl rfl ?_
            refine R_aload_c (k := 1) rfl rfl rfl (by decide) ?_
            refine R_callV (v := .inr (.inr (.inr 13))) (As := []) (rest := [.inl x27]) rfl mt_9_i180 pp_J0_length_8abf5 (by decide) rfl rfl rfl (Nat.le_of_ble_eq_true rfl) (Nat.le_of_ble_eq_true rfl) ((k_J0_length_8abf5_4 h hI).mono (fun r31 h32 p33 => ?_))
            obtain ⟨rfl, x34, rfl, q35⟩ := p33
            show RUN d_X9_is 44 [(3, .inl x27), (2, .inl x26), (0, .inr (.inr (.inl 96))), (1, .inr (.inr (.inr 13)))] [.inl x34, .inl x27] h _
            refine N_icmp_ge (a := x27.toInt) (b := x34.toInt) 82 rfl rfl rfl rfl (fun c36 => ?_) (fun c36 => ?_)
            · exfalso; omega
            · refine R_iload_n (k := 2) rfl rfl rfl ?_
              refine N_if_eq (a := x26.toInt) 82 rfl rfl rfl (fun c37 => ?_) (fun c37 => ?_)
              · refine R_iload_n (k := 2) rfl rfl rfl ?_
                exact R_iret rfl rfl (nar_z (by omega)) ⟨rfl, _, rfl, by omega⟩
              · exfalso; omega
        exact lp25 _ (0 : Int32) (0 : Int32) (by decide) (by decide) (Nat.lt_succ_self _)
      · refine R_aload_n (k := 0) rfl rfl rfl ?_
        refine R_getf_i (j := 8) rfl ft_9_142 sh_96 rfl ?_
        have b38 : (0 : Int) ≤ (h.1 96 8).toInt ∧ (h.1 96 8).toInt ≤ 500 := hI.1 96 8
        refine R_aload_n (k := 0) rfl rfl rfl ?_
        refine R_getf_i (j := 9) rfl ft_9_149 sh_96 rfl ?_
        have b39 : (0 : Int) ≤ (h.1 96 9).toInt ∧ (h.1 96 9).toInt ≤ 500 := hI.1 96 9
        refine N_isub (a := (h.1 96 8).toInt) (b := (h.1 96 9).toInt) rfl rfl rfl (by omega) (fun x40 q41 => ?_)
        refine R_aload_c (k := 1) rfl rfl rfl (by decide) ?_
        refine R_callV (v := .inr (.inr (.inr 13))) (As := []) (rest := [.inl x40]) rfl mt_9_i180 pp_J0_length_8abf5 (by decide) rfl rfl rfl (Nat.le_of_ble_eq_true rfl) (Nat.le_of_ble_eq_true rfl) ((k_J0_length_8abf5_4 h hI).mono (fun r42 h43 p44 => ?_))
        obtain ⟨rfl, x45, rfl, q46⟩ := p44
        show RUN d_X9_is 28 [(0, .inr (.inr (.inl 96))), (1, .inr (.inr (.inr 13)))] [.inl x45, .inl x40] h _
        refine N_icmp_ne (a := x40.toInt) (b := x45.toInt) 35 rfl rfl rfl rfl (fun c47 => ?_) (fun c47 => ?_)
        · refine R_iconst 0 rfl rfl ?_
          refine R_istore_n (k := 2) rfl [(2, .inl 0), (0, .inr (.inr (.inl 96))), (1, .inr (.inr (.inr 13)))] rfl rfl (by decide) ?_
          refine R_iconst 0 rfl rfl ?_
          refine R_istore_n (k := 3) rfl [(3, .inl 0), (2, .inl 0), (0, .inr (.inr (.inl 96))), (1, .inr (.inr (.inr 13)))] rfl rfl (by decide) ?_
          have lp49 : ∀ (n48 : Nat) (x50 : Int32) (x51 : Int32), 0 ≤ x50.toInt ∧ x50.toInt ≤ 0 → 0 ≤ x51.toInt ∧ x51.toInt ≤ 0 → 0 < n48 → RUN d_X9_is 39 [(3, .inl x51), (2, .inl x50), (0, .inr (.inr (.inl 96))), (1, .inr (.inr (.inr 13)))] [] h (qg_X9_is_5 h) := by
            intro n48
            induction n48 with
            | zero => intro x50 x51 m53 m54 hz; exact absurd hz (Nat.not_lt_zero _)
            | succ n48 ih52 =>
              intro x50 x51 m53 m54 hz
              refine R_iload_n (k := 3) rfl rfl rfl ?_
              refine R_aload_c (k := 1) rfl rfl rfl (by decide) ?_
              refine R_callV (v := .inr (.inr (.inr 13))) (As := []) (rest := [.inl x51]) rfl mt_9_i180 pp_J0_length_8abf5 (by decide) rfl rfl rfl (Nat.le_of_ble_eq_true rfl) (Nat.le_of_ble_eq_true rfl) ((k_J0_length_8abf5_4 h hI).mono (fun r55 h56 p57 => ?_))
              obtain ⟨rfl, x58, rfl, q59⟩ := p57
              show RUN d_X9_is 44 [(3, .inl x51), (2, .inl x50), (0, .inr (.inr (.inl 96))), (1, .inr (.inr (.inr 13)))] [.inl x58, .inl x51] h _
              refine N_icmp_ge (a := x51.toInt) (b := x58.toInt) 82 rfl rfl rfl rfl (fun c60 => ?_) (fun c60 => ?_)
              · exfalso; omega
              · refine R_iload_n (k := 2) rfl rfl rfl ?_
                refine N_if_eq (a := x50.toInt) 82 rfl rfl rfl (fun c61 => ?_) (fun c61 => ?_)
                · refine R_iload_n (k := 2) rfl rfl rfl ?_
                  exact R_iret rfl rfl (nar_z (by omega)) ⟨rfl, _, rfl, by omega⟩
                · exfalso; omega
          exact lp49 _ (0 : Int32) (0 : Int32) (by decide) (by decide) (Nat.lt_succ_self _)
        · refine R_iconst 1 rfl rfl ?_
          refine R_goto 36 rfl rfl ?_
          refine R_istore_n (k := 2) rfl [(2, .inl 1), (0, .inr (.inr (.inl 96))), (1, .inr (.inr (.inr 13)))] rfl rfl (by decide) ?_
          refine R_iconst 0 rfl rfl ?_
          refine R_istore_n (k := 3) rfl [(3, .inl 0), (2, .inl 1), (0, .inr (.inr (.inl 96))), (1, .inr (.inr (.inr 13)))] rfl rfl (by decide) ?_
          have lp63 : ∀ (n62 : Nat) (x64 : Int32) (x65 : Int32), 0 ≤ x64.toInt ∧ x64.toInt ≤ 1 → 0 ≤ x65.toInt ∧ x65.toInt ≤ 4 → (4 - x65.toInt).toNat < n62 → RUN d_X9_is 39 [(3, .inl x65), (2, .inl x64), (0, .inr (.inr (.inl 96))), (1, .inr (.inr (.inr 13)))] [] h (qg_X9_is_5 h) := by
            intro n62
            induction n62 with
            | zero => intro x64 x65 m67 m68 hz; exact absurd hz (Nat.not_lt_zero _)
            | succ n62 ih66 =>
              intro x64 x65 m67 m68 hz
              refine R_iload_n (k := 3) rfl rfl rfl ?_
              refine R_aload_c (k := 1) rfl rfl rfl (by decide) ?_
              refine R_callV (v := .inr (.inr (.inr 13))) (As := []) (rest := [.inl x65]) rfl mt_9_i180 pp_J0_length_8abf5 (by decide) rfl rfl rfl (Nat.le_of_ble_eq_true rfl) (Nat.le_of_ble_eq_true rfl) ((k_J0_length_8abf5_4 h hI).mono (fun r69 h70 p71 => ?_))
              obtain ⟨rfl, x72, rfl, q73⟩ := p71
              show RUN d_X9_is 44 [(3, .inl x65), (2, .inl x64), (0, .inr (.inr (.inl 96))), (1, .inr (.inr (.inr 13)))] [.inl x72, .inl x65] h _
              refine N_icmp_ge (a := x65.toInt) (b := x72.toInt) 82 rfl rfl rfl rfl (fun c74 => ?_) (fun c74 => ?_)
              · refine R_iload_n (k := 2) rfl rfl rfl ?_
                exact R_iret rfl rfl (nar_z (by omega)) ⟨rfl, _, rfl, by omega⟩
              · refine R_iload_n (k := 2) rfl rfl rfl ?_
                refine N_if_eq (a := x64.toInt) 82 rfl rfl rfl (fun c75 => ?_) (fun c75 => ?_)
                · refine R_iload_n (k := 2) rfl rfl rfl ?_
                  exact R_iret rfl rfl (nar_z (by omega)) ⟨rfl, _, rfl, by omega⟩
                · refine R_aload_n (k := 0) rfl rfl rfl ?_
                  refine R_getf_r (j := 4) rfl ft_9_20 sh_96 rfl ?_
                  refine R_aload_n (k := 0) rfl rfl rfl ?_
                  refine R_getf_i (j := 9) rfl ft_9_149 sh_96 rfl ?_
                  refine R_iload_n (k := 3) rfl rfl rfl ?_
                  refine N_iadd (a := (h.1 96 9).toInt) (b := x65.toInt) rfl rfl rfl (by omega) (fun x76 q77 => ?_)
                  refine R_bald rfl sh_100 ⟨by omega, by omega⟩ ?_
                  refine N_any (fun x78 => ?_)
                  refine R_aload_c (k := 1) rfl rfl rfl (by decide) ?_
                  refine R_iload_n (k := 3) rfl rfl rfl ?_
                  refine R_callV (v := .inr (.inr (.inr 13))) (As := [.inl x65]) (rest := [.inl x78]) rfl mt_9_i184 pp_J0_charAt_5068e (by decide) rfl rfl rfl (Nat.le_of_ble_eq_true rfl) (Nat.le_of_ble_eq_true rfl) ((k_J0_charAt_5068e_4 h hI x65 (by omega)).mono (fun r79 h80 p81 => ?_))
                  obtain ⟨rfl, x82, rfl, q83⟩ := p81
                  show RUN d_X9_is 67 [(3, .inl x65), (2, .inl x64), (0, .inr (.inr (.inl 96))), (1, .inr (.inr (.inr 13)))] [.inl x82, .inl x78] h _
                  refine N_icmp_ne (a := x78.toInt) (b := x82.toInt) 74 rfl rfl rfl rfl (fun c84 => ?_) (fun c84 => ?_)
                  · refine R_iconst 0 rfl rfl ?_
                    refine R_istore_n (k := 2) rfl [(2, .inl 0), (3, .inl x65), (0, .inr (.inr (.inl 96))), (1, .inr (.inr (.inr 13)))] rfl rfl (by decide) ?_
                    refine N_iinc (a := x65.toInt) (c := 1) (fun w => [(3, .inl w), (2, .inl 0), (0, .inr (.inr (.inl 96))), (1, .inr (.inr (.inr 13)))]) rfl rfl (fun _ => rfl) (by decide) rfl (by decide) (by omega) (fun x85 q86 => ?_)
                    refine R_goto 39 rfl rfl ?_
                    exact RUN_weak (psub_cons rfl (psub_cons rfl (psub_cons rfl (psub_cons rfl (psub_nil _))))) (ih66 (0 : Int32) x85 (by decide) (by omega) (by omega))
                  · refine R_iconst 1 rfl rfl ?_
                    refine R_goto 75 rfl rfl ?_
                    refine R_istore_n (k := 2) rfl [(2, .inl 1), (3, .inl x65), (0, .inr (.inr (.inl 96))), (1, .inr (.inr (.inr 13)))] rfl rfl (by decide) ?_
                    refine N_iinc (a := x65.toInt) (c := 1) (fun w => [(3, .inl w), (2, .inl 1), (0, .inr (.inr (.inl 96))), (1, .inr (.inr (.inr 13)))]) rfl rfl (fun _ => rfl) (by decide) rfl (by decide) (by omega) (fun x87 q88 => ?_)
                    refine R_goto 39 rfl rfl ?_
                    exact RUN_weak (psub_cons rfl (psub_cons rfl (psub_cons rfl (psub_cons rfl (psub_nil _))))) (ih66 (1 : Int32) x87 (by decide) (by omega) (by omega))
          exact lp63 _ (1 : Int32) (0 : Int32) (by decide) (by decide) (Nat.lt_succ_self _)
abbrev qg_X9_takes_5 (h : PH)  : Option PV → PH → Prop := fun r h' => INV h' ∧ FR [96] h h' ∧ ((h'.1 96 12).toInt = (h.1 96 12).toInt ∧ (h'.1 96 7).toInt = (h.1 96 7).toInt ∧ (h'.1 96 5).toInt = (h.1 96 5).toInt ∧ (h'.1 96 13).toInt = (h.1 96 13).toInt ∧ ((h.1 96 12).toInt ≤ (h'.1 96 12).toInt) ∧ ((h.1 96 8).toInt ≤ (h'.1 96 8).toInt) ∧ True) ∧ ∃ z : Int32, r = some (.inl z) ∧ (((0 ≤ z.toInt ∧ z.toInt ≤ 1)) ∧ (z = ansI d_X9_is [.inr (.inr (.inl 96)), .inr (.inr (.inr 13))] h) ∧ (z.toInt = 0 → h' = h) ∧ True)
set_option maxHeartbeats 4000000 in
set_option maxRecDepth 100000 in
theorem g_X9_takes_5 (h : PH) (hI : INV h)  : CALL d_X9_takes [.inr (.inr (.inl 96)), .inr (.inr (.inr 13))] h (qg_X9_takes_5 h) := by
  show RUN d_X9_takes 0 [(0, .inr (.inr (.inl 96))), (1, .inr (.inr (.inr 13)))] [] h _
  have fr : FR [96] h h := FR.rf _ _
  have b1 : (0 : Int) ≤ (h.1 96 12).toInt ∧ (h.1 96 12).toInt ≤ 3 := hI.1 96 12
  have b2 : (0 : Int) ≤ (h.1 96 8).toInt ∧ (h.1 96 8).toInt ≤ 500 := hI.1 96 8
  have b3 : (0 : Int) ≤ (h.1 96 7).toInt ∧ (h.1 96 7).toInt ≤ 500 := hI.1 96 7
  have b4 : (0 : Int) ≤ (h.1 96 5).toInt ∧ (h.1 96 5).toInt ≤ 500 := hI.1 96 5
  refine R_aload_n (k := 0) rfl rfl rfl ?_
  refine R_aload_c (k := 1) rfl rfl rfl (by decide) ?_
  refine R_callV (v := .inr (.inr (.inl 96))) (As := [.inr (.inr (.inr 13))]) (rest := []) rfl mt_9_i188 pp_X9_is (by decide) rfl rfl rfl (Nat.le_of_ble_eq_true rfl) (Nat.le_of_ble_eq_true rfl) ((CALL_ans (g_X9_is_5 h hI)).mono (fun r5 h6 p7 => ?_))
  obtain ⟨⟨rfl, x8, rfl, q9⟩, za10⟩ := p7
  have za10 := za10 _ rfl
  show RUN d_X9_takes 5 [(0, .inr (.inr (.inl 96))), (1, .inr (.inr (.inr 13)))] [.inl x8] h _
  refine R_istore_n (k := 2) rfl [(2, .inl x8), (0, .inr (.inr (.inl 96))), (1, .inr (.inr (.inr 13)))] rfl rfl (by decide) ?_
  refine R_iload_n (k := 2) rfl rfl rfl ?_
  refine N_if_eq (a := x8.toInt) 14 rfl rfl rfl (fun c11 => ?_) (fun c11 => ?_)
  · refine R_iload_n (k := 2) rfl rfl rfl ?_
    exact R_iret rfl rfl (nar_z (by omega)) ⟨hI, fr, ⟨by omega, by omega, by omega, by omega, by omega, by omega, trivial⟩, _, rfl, ⟨by omega, za10, (fun _ => rfl), trivial⟩⟩
  · refine R_aload_n (k := 0) rfl rfl rfl ?_
    refine R_callV (v := .inr (.inr (.inl 96))) (As := []) (rest := []) rfl mt_9_i192 pp_X9_advance (by decide) rfl rfl rfl (Nat.le_of_ble_eq_true rfl) (Nat.le_of_ble_eq_true rfl) ((g_X9_advance h hI).mono (fun r12 h13 p14 => ?_))
    obtain ⟨hJ, fj, ⟨kp15, kp16, kp17, kp18, xq19, xq20, -⟩, rfl⟩ := p14
    have f21 := fj
    have fr := fr.trans fj (by decide)
    have hI := hJ
    have b22 : (0 : Int) ≤ (h13.1 96 8).toInt ∧ (h13.1 96 8).toInt ≤ 500 := hI.1 96 8
    show RUN d_X9_takes 14 [(2, .inl x8), (0, .inr (.inr (.inl 96))), (1, .inr (.inr (.inr 13)))] [] h13 _
    refine R_iload_n (k := 2) rfl rfl rfl ?_
    exact R_iret rfl rfl (nar_z (by omega)) ⟨hI, fr, ⟨by omega, by omega, by omega, by omega, by omega, by omega, trivial⟩, _, rfl, ⟨by omega, za10, (fun hc => absurd hc (by omega)), trivial⟩⟩

abbrev qg_X9_needs_2 (h : PH)  : Option PV → PH → Prop := fun r h' => INV h' ∧ FR [96] h h' ∧ ((h'.1 96 7).toInt = (h.1 96 7).toInt ∧ (h'.1 96 5).toInt = (h.1 96 5).toInt ∧ ((h.1 96 12).toInt ≤ (h'.1 96 12).toInt) ∧ ((h.1 96 8).toInt ≤ (h'.1 96 8).toInt) ∧ True) ∧ r = none
set_option maxHeartbeats 4000000 in
set_option maxRecDepth 100000 in
theorem g_X9_needs_2 (h : PH) (hI : INV h)  : CALL d_X9_needs [.inr (.inr (.inl 96)), .inr (.inr (.inr 13))] h (qg_X9_needs_2 h) := by
  show RUN d_X9_needs 0 [(0, .inr (.inr (.inl 96))), (1, .inr (.inr (.inr 13)))] [] h _
  have fr : FR [96] h h := FR.rf _ _
  have b1 : (0 : Int) ≤ (h.1 96 12).toInt ∧ (h.1 96 12).toInt ≤ 3 := hI.1 96 12
  have b2 : (0 : Int) ≤ (h.1 96 8).toInt ∧ (h.1 96 8).toInt ≤ 500 := hI.1 96 8
  have b3 : (0 : Int) ≤ (h.1 96 7).toInt ∧ (h.1 96 7).toInt ≤ 500 := hI.1 96 7
  have b4 : (0 : Int) ≤ (h.1 96 5).toInt ∧ (h.1 96 5).toInt ≤ 500 := hI.1 96 5
  refine R_aload_n (k := 0) rfl rfl rfl ?_
  refine R_aload_c (k := 1) rfl rfl rfl (by decide) ?_
  refine R_callV (v := .inr (.inr (.inl 96))) (As := [.inr (.inr (.inr 13))]) (rest := []) rfl mt_9_i195 pp_X9_takes (by decide) rfl rfl rfl (Nat.le_of_ble_eq_true rfl) (Nat.le_of_ble_eq_true rfl) ((g_X9_takes_5 h hI).mono (fun r5 h6 p7 => ?_))
  obtain ⟨hJ, fj, ⟨kp8, kp9, kp10, kp11, xq12, xq13, -⟩, x16, rfl, q17, zq14, zq15, -⟩ := p7
  have f18 := fj
  have fr := fr.trans fj (by decide)
  have hI := hJ
  have b19 : (0 : Int) ≤ (h6.1 96 8).toInt ∧ (h6.1 96 8).toInt ≤ 500 := hI.1 96 8
  show RUN d_X9_needs 5 [(0, .inr (.inr (.inl 96))), (1, .inr (.inr (.inr 13)))] [.inl x16] h6 _
  refine N_if_ne (a := x16.toInt) 13 rfl rfl rfl (fun c20 => ?_) (fun c20 => ?_)
  · exact R_vret rfl rfl ⟨hI, fr, ⟨by omega, by omega, by omega, by omega, trivial⟩, rfl⟩
  · refine R_aload_n (k := 0) rfl rfl rfl ?_
    refine R_iconst 1 rfl rfl ?_
    have k21 : (1 : Int32).toInt = 1 := by decide
    refine R_callV (v := .inr (.inr (.inl 96))) (As := [.inl 1]) (rest := []) rfl mt_9_i198 pp_X9_errs (by decide) rfl rfl rfl (Nat.le_of_ble_eq_true rfl) (Nat.le_of_ble_eq_true rfl) ((g_X9_errs h6 hI (1 : Int32) (by decide)).mono (fun r22 h23 p24 => ?_))
    obtain ⟨hJ, fj, ⟨kp25, kp26, kp27, kp28, kp29, xq30, xq31, xq32, -⟩, rfl⟩ := p24
    have f33 := fj
    have fr := fr.trans fj (by decide)
    have hI := hJ
    have b34 : (0 : Int) ≤ (h23.1 96 12).toInt ∧ (h23.1 96 12).toInt ≤ 3 := hI.1 96 12
    show RUN d_X9_needs 13 [(0, .inr (.inr (.inl 96))), (1, .inr (.inr (.inr 13)))] [] h23 _
    exact R_vret rfl rfl ⟨hI, fr, ⟨by omega, by omega, by omega, by omega, trivial⟩, rfl⟩
abbrev qg_X9_told_2 (h : PH) (a1 : Int32) (a2 : Int32) : Option PV → PH → Prop := fun r h' => INV h' ∧ FR [96] h h' ∧ ((h'.1 96 7).toInt = (h.1 96 7).toInt ∧ (h'.1 96 5).toInt = (h.1 96 5).toInt ∧ ((h.1 96 12).toInt ≤ (h'.1 96 12).toInt) ∧ ((h.1 96 8).toInt ≤ (h'.1 96 8).toInt) ∧ True) ∧ ∃ z : Int32, r = some (.inl z) ∧ (((0 ≤ z.toInt ∧ z.toInt ≤ 999)) ∧ ((h'.1 96 12).toInt = 0 → a1.toInt ≤ z.toInt ∧ z.toInt ≤ a2.toInt) ∧ (z.toInt = 0 ∨ (a1.toInt ≤ z.toInt ∧ z.toInt ≤ a2.toInt)) ∧ True)
set_option maxHeartbeats 4000000 in
set_option maxRecDepth 100000 in
theorem g_X9_told_2 (h : PH) (hI : INV h) (a1 : Int32) (a2 : Int32) (h1a : 1 ≤ a1.toInt ∧ a1.toInt ≤ 1) (h2a : 999 ≤ a2.toInt ∧ a2.toInt ≤ 999) : CALL d_X9_told [.inr (.inr (.inl 96)), .inr (.inr (.inr 13)), .inl a1, .inl a2] h (qg_X9_told_2 h a1 a2) := by
  show RUN d_X9_told 0 [(0, .inr (.inr (.inl 96))), (1, .inr (.inr (.inr 13))), (2, .inl a1), (3, .inl a2)] [] h _
  have fr : FR [96] h h := FR.rf _ _
  have b1 : (0 : Int) ≤ (h.1 96 12).toInt ∧ (h.1 96 12).toInt ≤ 3 := hI.1 96 12
  have b2 : (0 : Int) ≤ (h.1 96 8).toInt ∧ (h.1 96 8).toInt ≤ 500 := hI.1 96 8
  have b3 : (0 : Int) ≤ (h.1 96 7).toInt ∧ (h.1 96 7).toInt ≤ 500 := hI.1 96 7
  have b4 : (0 : Int) ≤ (h.1 96 5).toInt ∧ (h.1 96 5).toInt ≤ 500 := hI.1 96 5
  refine R_aload_n (k := 0) rfl rfl rfl ?_
  refine R_aload_c (k := 1) rfl rfl rfl (by decide) ?_
  refine R_callV (v := .inr (.inr (.inl 96))) (As := [.inr (.inr (.inr 13))]) (rest := []) rfl mt_9_i202 pp_X9_needs (by decide) rfl rfl rfl (Nat.le_of_ble_eq_true rfl) (Nat.le_of_ble_eq_true rfl) ((g_X9_needs_2 h hI).mono (fun r5 h6 p7 => ?_))
  obtain ⟨hJ, fj, ⟨kp8, kp9, xq10, xq11, -⟩, rfl⟩ := p7
  have f12 := fj
  have fr := fr.trans fj (by decide)
  have hI := hJ
  have b13 : (0 : Int) ≤ (h6.1 96 12).toInt ∧ (h6.1 96 12).toInt ≤ 3 := hI.1 96 12
  have b14 : (0 : Int) ≤ (h6.1 96 8).toInt ∧ (h6.1 96 8).toInt ≤ 500 := hI.1 96 8
  show RUN d_X9_told 5 [(0, .inr (.inr (.inl 96))), (1, .inr (.inr (.inr 13))), (2, .inl a1), (3, .inl a2)] [] h6 _
  refine R_aload_n (k := 0) rfl rfl rfl ?_
  refine R_iload_n (k := 2) rfl rfl rfl ?_
  refine R_iload_n (k := 3) rfl rfl rfl ?_
  refine R_callV (v := .inr (.inr (.inl 96))) (As := [.inl a1, .inl a2]) (rest := []) rfl mt_9_i206 pp_X9_number (by decide) rfl rfl rfl (Nat.le_of_ble_eq_true rfl) (Nat.le_of_ble_eq_true rfl) ((g_X9_number h6 hI a1 a2 (by omega) (by omega)).mono (fun r15 h16 p17 => ?_))
  obtain ⟨hJ, fj, ⟨kp18, kp19, xq20, xq21, -⟩, x24, rfl, q25, zq22, zq23, -⟩ := p17
  have f26 := fj
  have fr := fr.trans fj (by decide)
  have hI := hJ
  have b27 : (0 : Int) ≤ (h16.1 96 12).toInt ∧ (h16.1 96 12).toInt ≤ 3 := hI.1 96 12
  have b28 : (0 : Int) ≤ (h16.1 96 8).toInt ∧ (h16.1 96 8).toInt ≤ 500 := hI.1 96 8
  show RUN d_X9_told 11 [(0, .inr (.inr (.inl 96))), (1, .inr (.inr (.inr 13))), (2, .inl a1), (3, .inl a2)] [.inl x24] h16 _
  exact R_iret rfl rfl rfl ⟨hI, fr, ⟨by omega, by omega, by omega, by omega, trivial⟩, _, rfl, ⟨by omega, by omega, by omega, trivial⟩⟩
abbrev qg_X9_is_6 (h : PH)  : Option PV → PH → Prop := fun r h' => h = h' ∧ ∃ z : Int32, r = some (.inl z) ∧ ((0 ≤ z.toInt ∧ z.toInt ≤ 1))
set_option maxHeartbeats 4000000 in
set_option maxRecDepth 100000 in
theorem g_X9_is_6 (h : PH) (hI : INV h)  : CALL d_X9_is [.inr (.inr (.inl 96)), .inr (.inr (.inr 14))] h (qg_X9_is_6 h) := by
  show RUN d_X9_is 0 [(0, .inr (.inr (.inl 96))), (1, .inr (.inr (.inr 14)))] [] h _
  refine R_aload_n (k := 0) rfl rfl rfl ?_
  have b1 : (0 : Int) ≤ (h.1 96 12).toInt ∧ (h.1 96 12).toInt ≤ 3 := hI.1 96 12
  refine R_callV (v := .inr (.inr (.inl 96))) (As := []) (rest := []) rfl mt_9_i176 pp_X9_good (by decide) rfl rfl rfl (Nat.le_of_ble_eq_true rfl) (Nat.le_of_ble_eq_true rfl) ((k_X9_good h hI).mono (fun r2 h3 p4 => ?_))
  obtain ⟨rfl, x5, rfl, q6 | q6⟩ := p4
  · show RUN d_X9_is 4 [(0, .inr (.inr (.inl 96))), (1, .inr (.inr (.inr 14)))] [.inl x5] h _
    refine N_if_eq (a := x5.toInt) 35 rfl rfl rfl (fun c7 => ?_) (fun c7 => ?_)
    · refine R_iconst 0 rfl rfl ?_
      refine R_istore_n (k := 2) rfl [(2, .inl 0), (0, .inr (.inr (.inl 96))), (1, .inr (.inr (.inr 14)))] rfl rfl (by decide) ?_
      refine R_iconst 0 rfl rfl ?_
      refine R_istore_n (k := 3) rfl [(3, .inl 0), (2, .inl 0), (0, .inr (.inr (.inl 96))), (1, .inr (.inr (.inr 14)))] rfl rfl (by decide) ?_
      have lp9 : ∀ (n8 : Nat) (x10 : Int32) (x11 : Int32), 0 ≤ x10.toInt ∧ x10.toInt ≤ 0 → 0 ≤ x11.toInt ∧ x11.toInt ≤ 0 → 0 < n8 → RUN d_X9_is 39 [(3, .inl x11), (2, .inl x10), (0, .inr (.inr (.inl 96))), (1, .inr (.inr (.inr 14)))] [] h (qg_X9_is_6 h) := by
        intro n8
        induction n8 with
        | zero => intro x10 x11 m13 m14 hz; exact absurd hz (Nat.not_lt_zero _)
        | succ n8 ih12 =>
          intro x10 x11 m13 m14 hz
          refine R_iload_n (k := 3) rfl rfl rfl ?_
          refine R_aload_c (k := 1) rfl rfl rfl (by decide) ?_
          refine R_callV (v := .inr (.inr (.inr 14))) (As := []) (rest := [.inl x11]) rfl mt_9_i180 pp_J0_length_8abf5 (by decide) rfl rfl rfl (Nat.le_of_ble_eq_true rfl) (Nat.le_of_ble_eq_true rfl) ((k_J0_length_8abf5_5 h hI).mono (fun r15 h16 p17 => ?_))
          obtain ⟨rfl, x18, rfl, q19⟩ := p17
          show RUN d_X9_is 44 [(3, .inl x11), (2, .inl x10), (0, .inr (.inr (.inl 96))), (1, .inr (.inr (.inr 14)))] [.inl x18, .inl x11] h _
          refine N_icmp_ge (a := x11.toInt) (b := x18.toInt) 82 rfl rfl rfl rfl (fun c20 => ?_) (fun c20 => ?_)
          · exfalso; omega
          · refine R_iload_n (k := 2) rfl rfl rfl ?_
            refine N_if_eq (a := x10.toInt) 82 rfl rfl rfl (fun c21 => ?_) (fun c21 => ?_)
            · refine R_iload_n (k := 2) rfl rfl rfl ?_
              exact R_iret rfl rfl (nar_z (by omega)) ⟨rfl, _, rfl, by omega⟩
            · exfalso; omega
      exact lp9 _ (0 : Int32) (0 : Int32) (by decide) (by decide) (Nat.lt_succ_self _)
    · exfalso; omega
  · show RUN d_X9_is 4 [(0, .inr (.inr (.inl 96))), (1, .inr (.inr (.inr 14)))] [.inl x5] h _
    refine N_if_eq (a := x5.toInt) 35 rfl rfl rfl (fun c22 => ?_) (fun c22 => ?_)
    · exfalso; omega
    · refine R_aload_n (k := 0) rfl rfl rfl ?_
      refine R_getf_i (j := 10) rfl ft_9_152 sh_96 rfl ?_
      refine R_iconst 1 rfl rfl ?_
      refine N_icmp_ne (a := (h.1 96 10).toInt) (b := 1) 35 rfl rfl rfl (by decide) (fun c23 => ?_) (fun c23 => ?_)
      · refine R_iconst 0 rfl rfl ?_
        refine R_istore_n (k := 2) rfl [(2, .inl 0), (0, .inr (.inr (.inl 96))), (1, .inr (.inr (.inr 14)))] rfl rfl (by decide) ?_
        refine R_iconst 0 rfl rfl ?_
        refine R_istore_n (k := 3) rfl [(3, .inl 0), (2, .inl 0), (0, .inr (.inr (.inl 96))), (1, .inr (.inr (.inr 14)))] rfl rfl (by decide) ?_
        have lp25 : ∀ (n24 : Nat) (x26 : Int32) (x27 : Int32), 0 ≤ x26.toInt ∧ x26.toInt ≤ 0 → 0 ≤ x27.toInt ∧ x27.toInt ≤ 0 → 0 < n24 → RUN d_X9_is 39 [(3, .inl x27), (2, .inl x26), (0, .inr (.inr (.inl 96))), (1, .inr (.inr (.inr 14)))] [] h (qg_X9_is_6 h) := by
          intro n24
          induction n24 with
          | zero => intro x26 x27 m29 m30 hz; exact absurd hz (Nat.not_lt_zero _)
          | succ n24 ih28 =>
            intro x26 x27 m29 m30 hz
            refine R_iload_n (k := 3) rfl rfl rfl ?_
            refine R_aload_c (k := 1) rfl rfl rfl (by decide) ?_
            refine R_callV (v := .inr (.inr (.inr 14))) (As := []) (rest := [.inl x27]) rfl mt_9_i180 pp_J0_length_8abf5 (by decide) rfl rfl rfl (Nat.le_of_ble_eq_true rfl) (Nat.le_of_ble_eq_true rfl) ((k_J0_length_8abf5_5 h hI).mono (fun r31 h32 p33 => ?_))
            obtain ⟨rfl, x34, rfl, q35⟩ := p33
            show RUN d_X9_is 44 [(3, .inl x27), (2, .inl x26), (0, .inr (.inr (.inl 96))), (1, .inr (.inr (.inr 14)))] [.inl x34, .inl x27] h _
            refine N_icmp_ge (a := x27.toInt) (b := x34.toInt) 82 rfl rfl rfl rfl (fun c36 => ?_) (fun c36 => ?_)
            · exfalso; omega
            · refine R_iload_n (k := 2) rfl rfl rfl ?_
              refine N_if_eq (a := x26.toInt) 82 rfl rfl rfl (fun c37 => ?_) (fun c37 => ?_)
              · refine R_iload_n (k := 2) rfl rfl rfl ?_
                exact R_iret rfl rfl (nar_z (by omega)) ⟨rfl, _, rfl, by omega⟩
              · exfalso; omega
        exact lp25 _ (0 : Int32) (0 : Int32) (by decide) (by decide) (Nat.lt_succ_self _)
      · refine R_aload_n (k := 0) rfl rfl rfl ?_
        refine R_getf_i (j := 8) rfl ft_9_142 sh_96 rfl ?_
        have b38 : (0 : Int) ≤ (h.1 96 8).toInt ∧ (h.1 96 8).toInt ≤ 500 := hI.1 96 8
        refine R_aload_n (k := 0) rfl rfl rfl ?_
        refine R_getf_i (j := 9) rfl ft_9_149 sh_96 rfl ?_
        have b39 : (0 : Int) ≤ (h.1 96 9).toInt ∧ (h.1 96 9).toInt ≤ 500 := hI.1 96 9
        refine N_isub (a := (h.1 96 8).toInt) (b := (h.1 96 9).toInt) rfl rfl rfl (by omega) (fun x40 q41 => ?_)
        refine R_aload_c (k := 1) rfl rfl rfl (by decide) ?_
        refine R_callV (v := .inr (.inr (.inr 14))) (As := []) (rest := [.inl x40]) rfl mt_9_i180 pp_J0_length_8abf5 (by decide) rfl rfl rfl (Nat.le_of_ble_eq_true rfl) (Nat.le_of_ble_eq_true rfl) ((k_J0_length_8abf5_5 h hI).mono (fun r42 h43 p44 => ?_))
        obtain ⟨rfl, x45, rfl, q46⟩ := p44
        show RUN d_X9_is 28 [(0, .inr (.inr (.inl 96))), (1, .inr (.inr (.inr 14)))] [.inl x45, .inl x40] h _
        refine N_icmp_ne (a := x40.toInt) (b := x45.toInt) 35 rfl rfl rfl rfl (fun c47 => ?_) (fun c47 => ?_)
        · refine R_iconst 0 rfl rfl ?_
          refine R_istore_n (k := 2) rfl [(2, .inl 0), (0, .inr (.inr (.inl 96))), (1, .inr (.inr (.inr 14)))] rfl rfl (by decide) ?_
          refine R_iconst 0 rfl rfl ?_
          refine R_istore_n (k := 3) rfl [(3, .inl 0), (2, .inl 0), (0, .inr (.inr (.inl 96))), (1, .inr (.inr (.inr 14)))] rfl rfl (by decide) ?_
          have lp49 : ∀ (n48 : Nat) (x50 : Int32) (x51 : Int32), 0 ≤ x50.toInt ∧ x50.toInt ≤ 0 → 0 ≤ x51.toInt ∧ x51.toInt ≤ 0 → 0 < n48 → RUN d_X9_is 39 [(3, .inl x51), (2, .inl x50), (0, .inr (.inr (.inl 96))), (1, .inr (.inr (.inr 14)))] [] h (qg_X9_is_6 h) := by
            intro n48
            induction n48 with
            | zero => intro x50 x51 m53 m54 hz; exact absurd hz (Nat.not_lt_zero _)
            | succ n48 ih52 =>
              intro x50 x51 m53 m54 hz
              refine R_iload_n (k := 3) rfl rfl rfl ?_
              refine R_aload_c (k := 1) rfl rfl rfl (by decide) ?_
              refine R_callV (v := .inr (.inr (.inr 14))) (As := []) (rest := [.inl x51]) rfl mt_9_i180 pp_J0_length_8abf5 (by decide) rfl rfl rfl (Nat.le_of_ble_eq_true rfl) (Nat.le_of_ble_eq_true rfl) ((k_J0_length_8abf5_5 h hI).mono (fun r55 h56 p57 => ?_))
              obtain ⟨rfl, x58, rfl, q59⟩ := p57
              show RUN d_X9_is 44 [(3, .inl x51), (2, .inl x50), (0, .inr (.inr (.inl 96))), (1, .inr (.inr (.inr 14)))] [.inl x58, .inl x51] h _
              refine N_icmp_ge (a := x51.toInt) (b := x58.toInt) 82 rfl rfl rfl rfl (fun c60 => ?_) (fun c60 => ?_)
              · exfalso; omega
              · refine R_iload_n (k := 2) rfl rfl rfl ?_
                refine N_if_eq (a := x50.toInt) 82 rfl rfl rfl (fun c61 => ?_) (fun c61 => ?_)
                · refine R_iload_n (k := 2) rfl rfl rfl ?_
                  exact R_iret rfl rfl (nar_z (by omega)) ⟨rfl, _, rfl, by omega⟩
                · exfalso; omega
          exact lp49 _ (0 : Int32) (0 : Int32) (by decide) (by decide) (Nat.lt_succ_self _)
        · refine R_iconst 1 rfl rfl ?_
          refine R_goto 36 rfl rfl ?_
          refine R_istore_n (k := 2) rfl [(2, .inl 1), (0, .inr (.inr (.inl 96))), (1, .inr (.inr (.inr 14)))] rfl rfl (by decide) ?_
          refine R_iconst 0 rfl rfl ?_
          refine R_istore_n (k := 3) rfl [(3, .inl 0), (2, .inl 1), (0, .inr (.inr (.inl 96))), (1, .inr (.inr (.inr 14)))] rfl rfl (by decide) ?_
          have lp63 : ∀ (n62 : Nat) (x64 : Int32) (x65 : Int32), 0 ≤ x64.toInt ∧ x64.toInt ≤ 1 → 0 ≤ x65.toInt ∧ x65.toInt ≤ 5 → (5 - x65.toInt).toNat < n62 → RUN d_X9_is 39 [(3, .inl x65), (2, .inl x64), (0, .inr (.inr (.inl 96))), (1, .inr (.inr (.inr 14)))] [] h (qg_X9_is_6 h) := by
            intro n62
            induction n62 with
            | zero => intro x64 x65 m67 m68 hz; exact absurd hz (Nat.not_lt_zero _)
            | succ n62 ih66 =>
              intro x64 x65 m67 m68 hz
              refine R_iload_n (k := 3) rfl rfl rfl ?_
              refine R_aload_c (k := 1) rfl rfl rfl (by decide) ?_
              refine R_callV (v := .inr (.inr (.inr 14))) (As := []) (rest := [.inl x65]) rfl mt_9_i180 pp_J0_length_8abf5 (by decide) rfl rfl rfl (Nat.le_of_ble_eq_true rfl) (Nat.le_of_ble_eq_true rfl) ((k_J0_length_8abf5_5 h hI).mono (fun r69 h70 p71 => ?_))
              obtain ⟨rfl, x72, rfl, q73⟩ := p71
              show RUN d_X9_is 44 [(3, .inl x65), (2, .inl x64), (0, .inr (.inr (.inl 96))), (1, .inr (.inr (.inr 14)))] [.inl x72, .inl x65] h _
              refine N_icmp_ge (a := x65.toInt) (b := x72.toInt) 82 rfl rfl rfl rfl (fun c74 => ?_) (fun c74 => ?_)
              · refine R_iload_n (k := 2) rfl rfl rfl ?_
                exact R_iret rfl rfl (nar_z (by omega)) ⟨rfl, _, rfl, by omega⟩
              · refine R_iload_n (k := 2) rfl rfl rfl ?_
                refine N_if_eq (a := x64.toInt) 82 rfl rfl rfl (fun c75 => ?_) (fun c75 => ?_)
                · refine R_iload_n (k := 2) rfl rfl rfl ?_
                  exact R_iret rfl rfl (nar_z (by omega)) ⟨rfl, _, rfl, by omega⟩
                · refine R_aload_n (k := 0) rfl rfl rfl ?_
                  refine R_getf_r (j := 4) rfl ft_9_20 sh_96 rfl ?_
                  refine R_aload_n (k := 0) rfl rfl rfl ?_
                  refine R_getf_i (j := 9) rfl ft_9_149 sh_96 rfl ?_
                  refine R_iload_n (k := 3) rfl rfl rfl ?_
                  refine N_iadd (a := (h.1 96 9).toInt) (b := x65.toInt) rfl rfl rfl (by omega) (fun x76 q77 => ?_)
                  refine R_bald rfl sh_100 ⟨by omega, by omega⟩ ?_
                  refine N_any (fun x78 => ?_)
                  refine R_aload_c (k := 1) rfl rfl rfl (by decide) ?_
                  refine R_iload_n (k := 3) rfl rfl rfl ?_
                  refine R_callV (v := .inr (.inr (.inr 14))) (As := [.inl x65]) (rest := [.inl x78]) rfl mt_9_i184 pp_J0_charAt_5068e (by decide) rfl rfl rfl (Nat.le_of_ble_eq_true rfl) (Nat.le_of_ble_eq_true rfl) ((k_J0_charAt_5068e_5 h hI x65 (by omega)).mono (fun r79 h80 p81 => ?_))
                  obtain ⟨rfl, x82, rfl, q83⟩ := p81
                  show RUN d_X9_is 67 [(3, .inl x65), (2, .inl x64), (0, .inr (.inr (.inl 96))), (1, .inr (.inr (.inr 14)))] [.inl x82, .inl x78] h _
                  refine N_icmp_ne (a := x78.toInt) (b := x82.toInt) 74 rfl rfl rfl rfl (fun c84 => ?_) (fun c84 => ?_)
                  · refine R_iconst 0 rfl rfl ?_
                    refine R_istore_n (k := 2) rfl [(2, .inl 0), (3, .inl x65), (0, .inr (.inr (.inl 96))), (1, .inr (.inr (.inr 14)))] rfl rfl (by decide) ?_
                    refine N_iinc (a := x65.toInt) (c := 1) (fun w => [(3, .inl w), (2, .inl 0), (0, .inr (.inr (.inl 96))), (1, .inr (.inr (.inr 14)))]) rfl rfl (fun _ => rfl) (by decide) rfl (by decide) (by omega) (fun x85 q86 => ?_)
                    refine R_goto 39 rfl rfl ?_
                    exact RUN_weak (psub_cons rfl (psub_cons rfl (psub_cons rfl (psub_cons rfl (psub_nil _))))) (ih66 (0 : Int32) x85 (by decide) (by omega) (by omega))
                  · refine R_iconst 1 rfl rfl ?_
                    refine R_goto 75 rfl rfl ?_
                    refine R_istore_n (k := 2) rfl [(2, .inl 1), (3, .inl x65), (0, .inr (.inr (.inl 96))), (1, .inr (.inr (.inr 14)))] rfl rfl (by decide) ?_
                    refine N_iinc (a := x65.toInt) (c := 1) (fun w => [(3, .inl w), (2, .inl 1), (0, .inr (.inr (.inl 96))), (1, .inr (.inr (.inr 14)))]) rfl rfl (fun _ => rfl) (by decide) rfl (by decide) (by omega) (fun x87 q88 => ?_)
                    refine R_goto 39 rfl rfl ?_
                    exact RUN_weak (psub_cons rfl (psub_cons rfl (psub_cons rfl (psub_cons rfl (psub_nil _))))) (ih66 (1 : Int32) x87 (by decide) (by omega) (by omega))
          exact lp63 _ (1 : Int32) (0 : Int32) (by decide) (by decide) (Nat.lt_succ_self _)
abbrev qg_X9_takes_6 (h : PH)  : Option PV → PH → Prop := fun r h' => INV h' ∧ FR [96] h h' ∧ ((h'.1 96 12).toInt = (h.1 96 12).toInt ∧ (h'.1 96 7).toInt = (h.1 96 7).toInt ∧ (h'.1 96 5).toInt = (h.1 96 5).toInt ∧ ((h.1 96 12).toInt ≤ (h'.1 96 12).toInt) ∧ ((h.1 96 8).toInt ≤ (h'.1 96 8).toInt) ∧ True) ∧ ∃ z : Int32, r = some (.inl z) ∧ (((0 ≤ z.toInt ∧ z.toInt ≤ 1)) ∧ (z = ansI d_X9_is [.inr (.inr (.inl 96)), .inr (.inr (.inr 14))] h) ∧ (z.toInt = 0 → h' = h) ∧ True)
set_option maxHeartbeats 4000000 in
set_option maxRecDepth 100000 in
theorem g_X9_takes_6 (h : PH) (hI : INV h)  : CALL d_X9_takes [.inr (.inr (.inl 96)), .inr (.inr (.inr 14))] h (qg_X9_takes_6 h) := by
  show RUN d_X9_takes 0 [(0, .inr (.inr (.inl 96))), (1, .inr (.inr (.inr 14)))] [] h _
  have fr : FR [96] h h := FR.rf _ _
  have b1 : (0 : Int) ≤ (h.1 96 12).toInt ∧ (h.1 96 12).toInt ≤ 3 := hI.1 96 12
  have b2 : (0 : Int) ≤ (h.1 96 8).toInt ∧ (h.1 96 8).toInt ≤ 500 := hI.1 96 8
  have b3 : (0 : Int) ≤ (h.1 96 7).toInt ∧ (h.1 96 7).toInt ≤ 500 := hI.1 96 7
  have b4 : (0 : Int) ≤ (h.1 96 5).toInt ∧ (h.1 96 5).toInt ≤ 500 := hI.1 96 5
  refine R_aload_n (k := 0) rfl rfl rfl ?_
  refine R_aload_c (k := 1) rfl rfl rfl (by decide) ?_
  refine R_callV (v := .inr (.inr (.inl 96))) (As := [.inr (.inr (.inr 14))]) (rest := []) rfl mt_9_i188 pp_X9_is (by decide) rfl rfl rfl (Nat.le_of_ble_eq_true rfl) (Nat.le_of_ble_eq_true rfl) ((CALL_ans (g_X9_is_6 h hI)).mono (fun r5 h6 p7 => ?_))
  obtain ⟨⟨rfl, x8, rfl, q9⟩, za10⟩ := p7
  have za10 := za10 _ rfl
  show RUN d_X9_takes 5 [(0, .inr (.inr (.inl 96))), (1, .inr (.inr (.inr 14)))] [.inl x8] h _
  refine R_istore_n (k := 2) rfl [(2, .inl x8), (0, .inr (.inr (.inl 96))), (1, .inr (.inr (.inr 14)))] rfl rfl (by decide) ?_
  refine R_iload_n (k := 2) rfl rfl rfl ?_
  refine N_if_eq (a := x8.toInt) 14 rfl rfl rfl (fun c11 => ?_) (fun c11 => ?_)
  · refine R_iload_n (k := 2) rfl rfl rfl ?_
    exact R_iret rfl rfl (nar_z (by omega)) ⟨hI, fr, ⟨by omega, by omega, by omega, by omega, by omega, trivial⟩, _, rfl, ⟨by omega, za10, (fun _ => rfl), trivial⟩⟩
  · refine R_aload_n (k := 0) rfl rfl rfl ?_
    refine R_callV (v := .inr (.inr (.inl 96))) (As := []) (rest := []) rfl mt_9_i192 pp_X9_advance (by decide) rfl rfl rfl (Nat.le_of_ble_eq_true rfl) (Nat.le_of_ble_eq_true rfl) ((g_X9_advance h hI).mono (fun r12 h13 p14 => ?_))
    obtain ⟨hJ, fj, ⟨kp15, kp16, kp17, kp18, xq19, xq20, -⟩, rfl⟩ := p14
    have f21 := fj
    have fr := fr.trans fj (by decide)
    have hI := hJ
    have b22 : (0 : Int) ≤ (h13.1 96 8).toInt ∧ (h13.1 96 8).toInt ≤ 500 := hI.1 96 8
    show RUN d_X9_takes 14 [(2, .inl x8), (0, .inr (.inr (.inl 96))), (1, .inr (.inr (.inr 14)))] [] h13 _
    refine R_iload_n (k := 2) rfl rfl rfl ?_
    exact R_iret rfl rfl (nar_z (by omega)) ⟨hI, fr, ⟨by omega, by omega, by omega, by omega, by omega, trivial⟩, _, rfl, ⟨by omega, za10, (fun hc => absurd hc (by omega)), trivial⟩⟩
abbrev qg_X9_needs_3 (h : PH)  : Option PV → PH → Prop := fun r h' => INV h' ∧ FR [96] h h' ∧ ((h'.1 96 7).toInt = (h.1 96 7).toInt ∧ (h'.1 96 5).toInt = (h.1 96 5).toInt ∧ ((h.1 96 12).toInt ≤ (h'.1 96 12).toInt) ∧ ((h.1 96 8).toInt ≤ (h'.1 96 8).toInt) ∧ True) ∧ r = none
set_option maxHeartbeats 4000000 in
set_option maxRecDepth 100000 in
theorem g_X9_needs_3 (h : PH) (hI : INV h)  : CALL d_X9_needs [.inr (.inr (.inl 96)), .inr (.inr (.inr 14))] h (qg_X9_needs_3 h) := by
  show RUN d_X9_needs 0 [(0, .inr (.inr (.inl 96))), (1, .inr (.inr (.inr 14)))] [] h _
  have fr : FR [96] h h := FR.rf _ _
  have b1 : (0 : Int) ≤ (h.1 96 12).toInt ∧ (h.1 96 12).toInt ≤ 3 := hI.1 96 12
  have b2 : (0 : Int) ≤ (h.1 96 8).toInt ∧ (h.1 96 8).toInt ≤ 500 := hI.1 96 8
  have b3 : (0 : Int) ≤ (h.1 96 7).toInt ∧ (h.1 96 7).toInt ≤ 500 := hI.1 96 7
  have b4 : (0 : Int) ≤ (h.1 96 5).toInt ∧ (h.1 96 5).toInt ≤ 500 := hI.1 96 5
  refine R_aload_n (k := 0) rfl rfl rfl ?_
  refine R_aload_c (k := 1) rfl rfl rfl (by decide) ?_
  refine R_callV (v := .inr (.inr (.inl 96))) (As := [.inr (.inr (.inr 14))]) (rest := []) rfl mt_9_i195 pp_X9_takes (by decide) rfl rfl rfl (Nat.le_of_ble_eq_true rfl) (Nat.le_of_ble_eq_true rfl) ((g_X9_takes_6 h hI).mono (fun r5 h6 p7 => ?_))
  obtain ⟨hJ, fj, ⟨kp8, kp9, kp10, xq11, xq12, -⟩, x15, rfl, q16, zq13, zq14, -⟩ := p7
  have f17 := fj
  have fr := fr.trans fj (by decide)
  have hI := hJ
  have b18 : (0 : Int) ≤ (h6.1 96 8).toInt ∧ (h6.1 96 8).toInt ≤ 500 := hI.1 96 8
  show RUN d_X9_needs 5 [(0, .inr (.inr (.inl 96))), (1, .inr (.inr (.inr 14)))] [.inl x15] h6 _
  refine N_if_ne (a := x15.toInt) 13 rfl rfl rfl (fun c19 => ?_) (fun c19 => ?_)
  · exact R_vret rfl rfl ⟨hI, fr, ⟨by omega, by omega, by omega, by omega, trivial⟩, rfl⟩
  · refine R_aload_n (k := 0) rfl rfl rfl ?_
    refine R_iconst 1 rfl rfl ?_
    have k20 : (1 : Int32).toInt = 1 := by decide
    refine R_callV (v := .inr (.inr (.inl 96))) (As := [.inl 1]) (rest := []) rfl mt_9_i198 pp_X9_errs (by decide) rfl rfl rfl (Nat.le_of_ble_eq_true rfl) (Nat.le_of_ble_eq_true rfl) ((g_X9_errs h6 hI (1 : Int32) (by decide)).mono (fun r21 h22 p23 => ?_))
    obtain ⟨hJ, fj, ⟨kp24, kp25, kp26, kp27, kp28, xq29, xq30, xq31, -⟩, rfl⟩ := p23
    have f32 := fj
    have fr := fr.trans fj (by decide)
    have hI := hJ
    have b33 : (0 : Int) ≤ (h22.1 96 12).toInt ∧ (h22.1 96 12).toInt ≤ 3 := hI.1 96 12
    show RUN d_X9_needs 13 [(0, .inr (.inr (.inl 96))), (1, .inr (.inr (.inr 14)))] [] h22 _
    exact R_vret rfl rfl ⟨hI, fr, ⟨by omega, by omega, by omega, by omega, trivial⟩, rfl⟩
abbrev qg_X9_told_3 (h : PH) (a1 : Int32) (a2 : Int32) : Option PV → PH → Prop := fun r h' => INV h' ∧ FR [96] h h' ∧ ((h'.1 96 7).toInt = (h.1 96 7).toInt ∧ (h'.1 96 5).toInt = (h.1 96 5).toInt ∧ ((h.1 96 12).toInt ≤ (h'.1 96 12).toInt) ∧ ((h.1 96 8).toInt ≤ (h'.1 96 8).toInt) ∧ True) ∧ ∃ z : Int32, r = some (.inl z) ∧ (((0 ≤ z.toInt ∧ z.toInt ≤ 999)) ∧ ((h'.1 96 12).toInt = 0 → a1.toInt ≤ z.toInt ∧ z.toInt ≤ a2.toInt) ∧ (z.toInt = 0 ∨ (a1.toInt ≤ z.toInt ∧ z.toInt ≤ a2.toInt)) ∧ True)
set_option maxHeartbeats 4000000 in
set_option maxRecDepth 100000 in
theorem g_X9_told_3 (h : PH) (hI : INV h) (a1 : Int32) (a2 : Int32) (h1a : 0 ≤ a1.toInt ∧ a1.toInt ≤ 0) (h2a : 9 ≤ a2.toInt ∧ a2.toInt ≤ 9) : CALL d_X9_told [.inr (.inr (.inl 96)), .inr (.inr (.inr 14)), .inl a1, .inl a2] h (qg_X9_told_3 h a1 a2) := by
  show RUN d_X9_told 0 [(0, .inr (.inr (.inl 96))), (1, .inr (.inr (.inr 14))), (2, .inl a1), (3, .inl a2)] [] h _
  have fr : FR [96] h h := FR.rf _ _
  have b1 : (0 : Int) ≤ (h.1 96 12).toInt ∧ (h.1 96 12).toInt ≤ 3 := hI.1 96 12
  have b2 : (0 : Int) ≤ (h.1 96 8).toInt ∧ (h.1 96 8).toInt ≤ 500 := hI.1 96 8
  have b3 : (0 : Int) ≤ (h.1 96 7).toInt ∧ (h.1 96 7).toInt ≤ 500 := hI.1 96 7
  have b4 : (0 : Int) ≤ (h.1 96 5).toInt ∧ (h.1 96 5).toInt ≤ 500 := hI.1 96 5
  refine R_aload_n (k := 0) rfl rfl rfl ?_
  refine R_aload_c (k := 1) rfl rfl rfl (by decide) ?_
  refine R_callV (v := .inr (.inr (.inl 96))) (As := [.inr (.inr (.inr 14))]) (rest := []) rfl mt_9_i202 pp_X9_needs (by decide) rfl rfl rfl (Nat.le_of_ble_eq_true rfl) (Nat.le_of_ble_eq_true rfl) ((g_X9_needs_3 h hI).mono (fun r5 h6 p7 => ?_))
  obtain ⟨hJ, fj, ⟨kp8, kp9, xq10, xq11, -⟩, rfl⟩ := p7
  have f12 := fj
  have fr := fr.trans fj (by decide)
  have hI := hJ
  have b13 : (0 : Int) ≤ (h6.1 96 12).toInt ∧ (h6.1 96 12).toInt ≤ 3 := hI.1 96 12
  have b14 : (0 : Int) ≤ (h6.1 96 8).toInt ∧ (h6.1 96 8).toInt ≤ 500 := hI.1 96 8
  show RUN d_X9_told 5 [(0, .inr (.inr (.inl 96))), (1, .inr (.inr (.inr 14))), (2, .inl a1), (3, .inl a2)] [] h6 _
  refine R_aload_n (k := 0) rfl rfl rfl ?_
  refine R_iload_n (k := 2) rfl rfl rfl ?_
  refine R_iload_n (k := 3) rfl rfl rfl ?_
  refine R_callV (v := .inr (.inr (.inl 96))) (As := [.inl a1, .inl a2]) (rest := []) rfl mt_9_i206 pp_X9_number (by decide) rfl rfl rfl (Nat.le_of_ble_eq_true rfl) (Nat.le_of_ble_eq_true rfl) ((g_X9_number h6 hI a1 a2 (by omega) (by omega)).mono (fun r15 h16 p17 => ?_))
  obtain ⟨hJ, fj, ⟨kp18, kp19, xq20, xq21, -⟩, x24, rfl, q25, zq22, zq23, -⟩ := p17
  have f26 := fj
  have fr := fr.trans fj (by decide)
  have hI := hJ
  have b27 : (0 : Int) ≤ (h16.1 96 12).toInt ∧ (h16.1 96 12).toInt ≤ 3 := hI.1 96 12
  have b28 : (0 : Int) ≤ (h16.1 96 8).toInt ∧ (h16.1 96 8).toInt ≤ 500 := hI.1 96 8
  show RUN d_X9_told 11 [(0, .inr (.inr (.inl 96))), (1, .inr (.inr (.inr 14))), (2, .inl a1), (3, .inl a2)] [.inl x24] h16 _
  exact R_iret rfl rfl rfl ⟨hI, fr, ⟨by omega, by omega, by omega, by omega, trivial⟩, _, rfl, ⟨by omega, by omega, by omega, trivial⟩⟩
abbrev qg_X9_is_7 (h : PH)  : Option PV → PH → Prop := fun r h' => h = h' ∧ ∃ z : Int32, r = some (.inl z) ∧ ((0 ≤ z.toInt ∧ z.toInt ≤ 1))
set_option maxHeartbeats 4000000 in
set_option maxRecDepth 100000 in
theorem g_X9_is_7 (h : PH) (hI : INV h)  : CALL d_X9_is [.inr (.inr (.inl 96)), .inr (.inr (.inr 12))] h (qg_X9_is_7 h) := by
  show RUN d_X9_is 0 [(0, .inr (.inr (.inl 96))), (1, .inr (.inr (.inr 12)))] [] h _
  refine R_aload_n (k := 0) rfl rfl rfl ?_
  have b1 : (0 : Int) ≤ (h.1 96 12).toInt ∧ (h.1 96 12).toInt ≤ 3 := hI.1 96 12
  refine R_callV (v := .inr (.inr (.inl 96))) (As := []) (rest := []) rfl mt_9_i176 pp_X9_good (by decide) rfl rfl rfl (Nat.le_of_ble_eq_true rfl) (Nat.le_of_ble_eq_true rfl) ((k_X9_good h hI).mono (fun r2 h3 p4 => ?_))
  obtain ⟨rfl, x5, rfl, q6 | q6⟩ := p4
  · show RUN d_X9_is 4 [(0, .inr (.inr (.inl 96))), (1, .inr (.inr (.inr 12)))] [.inl x5] h _
    refine N_if_eq (a := x5.toInt) 35 rfl rfl rfl (fun c7 => ?_) (fun c7 => ?_)
    · refine R_iconst 0 rfl rfl ?_
      refine R_istore_n (k := 2) rfl [(2, .inl 0), (0, .inr (.inr (.inl 96))), (1, .inr (.inr (.inr 12)))] rfl rfl (by decide) ?_
      refine R_iconst 0 rfl rfl ?_
      refine R_istore_n (k := 3) rfl [(3, .inl 0), (2, .inl 0), (0, .inr (.inr (.inl 96))), (1, .inr (.inr (.inr 12)))] rfl rfl (by decide) ?_
      have lp9 : ∀ (n8 : Nat) (x10 : Int32) (x11 : Int32), 0 ≤ x10.toInt ∧ x10.toInt ≤ 0 → 0 ≤ x11.toInt ∧ x11.toInt ≤ 0 → 0 < n8 → RUN d_X9_is 39 [(3, .inl x11), (2, .inl x10), (0, .inr (.inr (.inl 96))), (1, .inr (.inr (.inr 12)))] [] h (qg_X9_is_7 h) := by
        intro n8
        induction n8 with
        | zero => intro x10 x11 m13 m14 hz; exact absurd hz (Nat.not_lt_zero _)
        | succ n8 ih12 =>
          intro x10 x11 m13 m14 hz
          refine R_iload_n (k := 3) rfl rfl rfl ?_
          refine R_aload_c (k := 1) rfl rfl rfl (by decide) ?_
          refine R_callV (v := .inr (.inr (.inr 12))) (As := []) (rest := [.inl x11]) rfl mt_9_i180 pp_J0_length_8abf5 (by decide) rfl rfl rfl (Nat.le_of_ble_eq_true rfl) (Nat.le_of_ble_eq_true rfl) ((k_J0_length_8abf5_3 h hI).mono (fun r15 h16 p17 => ?_))
          obtain ⟨rfl, x18, rfl, q19⟩ := p17
          show RUN d_X9_is 44 [(3, .inl x11), (2, .inl x10), (0, .inr (.inr (.inl 96))), (1, .inr (.inr (.inr 12)))] [.inl x18, .inl x11] h _
          refine N_icmp_ge (a := x11.toInt) (b := x18.toInt) 82 rfl rfl rfl rfl (fun c20 => ?_) (fun c20 => ?_)
          · exfalso; omega
          · refine R_iload_n (k := 2) rfl rfl rfl ?_
            refine N_if_eq (a := x10.toInt) 82 rfl rfl rfl (fun c21 => ?_) (fun c21 => ?_)
            · refine R_iload_n (k := 2) rfl rfl rfl ?_
              exact R_iret rfl rfl (nar_z (by omega)) ⟨rfl, _, rfl, by omega⟩
            · exfalso; omega
      exact lp9 _ (0 : Int32) (0 : Int32) (by decide) (by decide) (Nat.lt_succ_self _)
    · exfalso; omega
  · show RUN d_X9_is 4 [(0, .inr (.inr (.inl 96))), (1, .inr (.inr (.inr 12)))] [.inl x5] h _
    refine N_if_eq (a := x5.toInt) 35 rfl rfl rfl (fun c22 => ?_) (fun c22 => ?_)
    · exfalso; omega
    · refine R_aload_n (k := 0) rfl rfl rfl ?_
      refine R_getf_i (j := 10) rfl ft_9_152 sh_96 rfl ?_
      refine R_iconst 1 rfl rfl ?_
      refine N_icmp_ne (a := (h.1 96 10).toInt) (b := 1) 35 rfl rfl rfl (by decide) (fun c23 => ?_) (fun c23 => ?_)
      · refine R_iconst 0 rfl rfl ?_
        refine R_istore_n (k := 2) rfl [(2, .inl 0), (0, .inr (.inr (.inl 96))), (1, .inr (.inr (.inr 12)))] rfl rfl (by decide) ?_
        refine R_iconst 0 rfl rfl ?_
        refine R_istore_n (k := 3) rfl [(3, .inl 0), (2, .inl 0), (0, .inr (.inr (.inl 96))), (1, .inr (.inr (.inr 12)))] rfl rfl (by decide) ?_
        have lp25 : ∀ (n24 : Nat) (x26 : Int32) (x27 : Int32), 0 ≤ x26.toInt ∧ x26.toInt ≤ 0 → 0 ≤ x27.toInt ∧ x27.toInt ≤ 0 → 0 < n24 → RUN d_X9_is 39 [(3, .inl x27), (2, .inl x26), (0, .inr (.inr (.inl 96))), (1, .inr (.inr (.inr 12)))] [] h (qg_X9_is_7 h) := by
          intro n24
          induction n24 with
          | zero => intro x26 x27 m29 m30 hz; exact absurd hz (Nat.not_lt_zero _)
          | succ n24 ih28 =>
            intro x26 x27 m29 m30 hz
            refine R_iload_n (k := 3) rfl rfl rfl ?_
            refine R_aload_c (k := 1) rfl rfl rfl (by decide) ?_
            refine R_callV (v := .inr (.inr (.inr 12))) (As := []) (rest := [.inl x27]) rfl mt_9_i180 pp_J0_length_8abf5 (by decide) rfl rfl rfl (Nat.le_of_ble_eq_true rfl) (Nat.le_of_ble_eq_true rfl) ((k_J0_length_8abf5_3 h hI).mono (fun r31 h32 p33 => ?_))
            obtain ⟨rfl, x34, rfl, q35⟩ := p33
            show RUN d_X9_is 44 [(3, .inl x27), (2, .inl x26), (0, .inr (.inr (.inl 96))), (1, .inr (.inr (.inr 12)))] [.inl x34, .inl x27] h _
            refine N_icmp_ge (a := x27.toInt) (b := x34.toInt) 82 rfl rfl rfl rfl (fun c36 => ?_) (fun c36 => ?_)
            · exfalso; omega
            · refine R_iload_n (k := 2) rfl rfl rfl ?_
              refine N_if_eq (a := x26.toInt) 82 rfl rfl rfl (fun c37 => ?_) (fun c37 => ?_)
              · refine R_iload_n (k := 2) rfl rfl rfl ?_
                exact R_iret rfl rfl (nar_z (by omega)) ⟨rfl, _, rfl, by omega⟩
              · exfalso; omega
        exact lp25 _ (0 : Int32) (0 : Int32) (by decide) (by decide) (Nat.lt_succ_self _)
      · refine R_aload_n (k := 0) rfl rfl rfl ?_
        refine R_getf_i (j := 8) rfl ft_9_142 sh_96 rfl ?_
        have b38 : (0 : Int) ≤ (h.1 96 8).toInt ∧ (h.1 96 8).toInt ≤ 500 := hI.1 96 8
        refine R_aload_n (k := 0) rfl rfl rfl ?_
        refine R_getf_i (j := 9) rfl ft_9_149 sh_96 rfl ?_
        have b39 : (0 : Int) ≤ (h.1 96 9).toInt ∧ (h.1 96 9).toInt ≤ 500 := hI.1 96 9
        refine N_isub (a := (h.1 96 8).toInt) (b := (h.1 96 9).toInt) rfl rfl rfl (by omega) (fun x40 q41 => ?_)
        refine R_aload_c (k := 1) rfl rfl rfl (by decide) ?_
        refine R_callV (v := .inr (.inr (.inr 12))) (As := []) (rest := [.inl x40]) rfl mt_9_i180 pp_J0_length_8abf5 (by decide) rfl rfl rfl (Nat.le_of_ble_eq_true rfl) (Nat.le_of_ble_eq_true rfl) ((k_J0_length_8abf5_3 h hI).mono (fun r42 h43 p44 => ?_))
        obtain ⟨rfl, x45, rfl, q46⟩ := p44
        show RUN d_X9_is 28 [(0, .inr (.inr (.inl 96))), (1, .inr (.inr (.inr 12)))] [.inl x45, .inl x40] h _
        refine N_icmp_ne (a := x40.toInt) (b := x45.toInt) 35 rfl rfl rfl rfl (fun c47 => ?_) (fun c47 => ?_)
        · refine R_iconst 0 rfl rfl ?_
          refine R_istore_n (k := 2) rfl [(2, .inl 0), (0, .inr (.inr (.inl 96))), (1, .inr (.inr (.inr 12)))] rfl rfl (by decide) ?_
          refine R_iconst 0 rfl rfl ?_
          refine R_istore_n (k := 3) rfl [(3, .inl 0), (2, .inl 0), (0, .inr (.inr (.inl 96))), (1, .inr (.inr (.inr 12)))] rfl rfl (by decide) ?_
          have lp49 : ∀ (n48 : Nat) (x50 : Int32) (x51 : Int32), 0 ≤ x50.toInt ∧ x50.toInt ≤ 0 → 0 ≤ x51.toInt ∧ x51.toInt ≤ 0 → 0 < n48 → RUN d_X9_is 39 [(3, .inl x51), (2, .inl x50), (0, .inr (.inr (.inl 96))), (1, .inr (.inr (.inr 12)))] [] h (qg_X9_is_7 h) := by
            intro n48
            induction n48 with
            | zero => intro x50 x51 m53 m54 hz; exact absurd hz (Nat.not_lt_zero _)
            | succ n48 ih52 =>
              intro x50 x51 m53 m54 hz
              refine R_iload_n (k := 3) rfl rfl rfl ?_
              refine R_aload_c (k := 1) rfl rfl rfl (by decide) ?_
              refine R_callV (v := .inr (.inr (.inr 12))) (As := []) (rest := [.inl x51]) rfl mt_9_i180 pp_J0_length_8abf5 (by decide) rfl rfl rfl (Nat.le_of_ble_eq_true rfl) (Nat.le_of_ble_eq_true rfl) ((k_J0_length_8abf5_3 h hI).mono (fun r55 h56 p57 => ?_))
              obtain ⟨rfl, x58, rfl, q59⟩ := p57
              show RUN d_X9_is 44 [(3, .inl x51), (2, .inl x50), (0, .inr (.inr (.inl 96))), (1, .inr (.inr (.inr 12)))] [.inl x58, .inl x51] h _
              refine N_icmp_ge (a := x51.toInt) (b := x58.toInt) 82 rfl rfl rfl rfl (fun c60 => ?_) (fun c60 => ?_)
              · exfalso; omega
              · refine R_iload_n (k := 2) rfl rfl rfl ?_
                refine N_if_eq (a := x50.toInt) 82 rfl rfl rfl (fun c61 => ?_) (fun c61 => ?_)
                · refine R_iload_n (k := 2) rfl rfl rfl ?_
                  exact R_iret rfl rfl (nar_z (by omega)) ⟨rfl, _, rfl, by omega⟩
                · exfalso; omega
          exact lp49 _ (0 : Int32) (0 : Int32) (by decide) (by decide) (Nat.lt_succ_self _)
        · refine R_iconst 1 rfl rfl ?_
          refine R_goto 36 rfl rfl ?_
          refine R_istore_n (k := 2) rfl [(2, .inl 1), (0, .inr (.inr (.inl 96))), (1, .inr (.inr (.inr 12)))] rfl rfl (by decide) ?_
          refine R_iconst 0 rfl rfl ?_
          refine R_istore_n (k := 3) rfl [(3, .inl 0), (2, .inl 1), (0, .inr (.inr (.inl 96))), (1, .inr (.inr (.inr 12)))] rfl rfl (by decide) ?_
          have lp63 : ∀ (n62 : Nat) (x64 : Int32) (x65 : Int32), 0 ≤ x64.toInt ∧ x64.toInt ≤ 1 → 0 ≤ x65.toInt ∧ x65.toInt ≤ 4 → (4 - x65.toInt).toNat < n62 → RUN d_X9_is 39 [(3, .inl x65), (2, .inl x64), (0, .inr (.inr (.inl 96))), (1, .inr (.inr (.inr 12)))] [] h (qg_X9_is_7 h) := by
            intro n62
            induction n62 with
            | zero => intro x64 x65 m67 m68 hz; exact absurd hz (Nat.not_lt_zero _)
            | succ n62 ih66 =>
              intro x64 x65 m67 m68 hz
              refine R_iload_n (k := 3) rfl rfl rfl ?_
              refine R_aload_c (k := 1) rfl rfl rfl (by decide) ?_
              refine R_callV (v := .inr (.inr (.inr 12))) (As := []) (rest := [.inl x65]) rfl mt_9_i180 pp_J0_length_8abf5 (by decide) rfl rfl rfl (Nat.le_of_ble_eq_true rfl) (Nat.le_of_ble_eq_true rfl) ((k_J0_length_8abf5_3 h hI).mono (fun r69 h70 p71 => ?_))
              obtain ⟨rfl, x72, rfl, q73⟩ := p71
              show RUN d_X9_is 44 [(3, .inl x65), (2, .inl x64), (0, .inr (.inr (.inl 96))), (1, .inr (.inr (.inr 12)))] [.inl x72, .inl x65] h _
              refine N_icmp_ge (a := x65.toInt) (b := x72.toInt) 82 rfl rfl rfl rfl (fun c74 => ?_) (fun c74 => ?_)
              · refine R_iload_n (k := 2) rfl rfl rfl ?_
                exact R_iret rfl rfl (nar_z (by omega)) ⟨rfl, _, rfl, by omega⟩
              · refine R_iload_n (k := 2) rfl rfl rfl ?_
                refine N_if_eq (a := x64.toInt) 82 rfl rfl rfl (fun c75 => ?_) (fun c75 => ?_)
                · refine R_iload_n (k := 2) rfl rfl rfl ?_
                  exact R_iret rfl rfl (nar_z (by omega)) ⟨rfl, _, rfl, by omega⟩
                · refine R_aload_n (k := 0) rfl rfl rfl ?_
                  refine R_getf_r (j := 4) rfl ft_9_20 sh_96 rfl ?_
                  refine R_aload_n (k := 0) rfl rfl rfl ?_
                  refine R_getf_i (j := 9) rfl ft_9_149 sh_96 rfl ?_
                  refine R_iload_n (k := 3) rfl rfl rfl ?_
                  refine N_iadd (a := (h.1 96 9).toInt) (b := x65.toInt) rfl rfl rfl (by omega) (fun x76 q77 => ?_)
                  refine R_bald rfl sh_100 ⟨by omega, by omega⟩ ?_
                  refine N_any (fun x78 => ?_)
                  refine R_aload_c (k := 1) rfl rfl rfl (by decide) ?_
                  refine R_iload_n (k := 3) rfl rfl rfl ?_
                  refine R_callV (v := .inr (.inr (.inr 12))) (As := [.inl x65]) (rest := [.inl x78]) rfl mt_9_i184 pp_J0_charAt_5068e (by decide) rfl rfl rfl (Nat.le_of_ble_eq_true rfl) (Nat.le_of_ble_eq_true rfl) ((k_J0_charAt_5068e_3 h hI x65 (by omega)).mono (fun r79 h80 p81 => ?_))
                  obtain ⟨rfl, x82, rfl, q83⟩ := p81
                  show RUN d_X9_is 67 [(3, .inl x65), (2, .inl x64), (0, .inr (.inr (.inl 96))), (1, .inr (.inr (.inr 12)))] [.inl x82, .inl x78] h _
                  refine N_icmp_ne (a := x78.toInt) (b := x82.toInt) 74 rfl rfl rfl rfl (fun c84 => ?_) (fun c84 => ?_)
                  · refine R_iconst 0 rfl rfl ?_
                    refine R_istore_n (k := 2) rfl [(2, .inl 0), (3, .inl x65), (0, .inr (.inr (.inl 96))), (1, .inr (.inr (.inr 12)))] rfl rfl (by decide) ?_
                    refine N_iinc (a := x65.toInt) (c := 1) (fun w => [(3, .inl w), (2, .inl 0), (0, .inr (.inr (.inl 96))), (1, .inr (.inr (.inr 12)))]) rfl rfl (fun _ => rfl) (by decide) rfl (by decide) (by omega) (fun x85 q86 => ?_)
                    refine R_goto 39 rfl rfl ?_
                    exact RUN_weak (psub_cons rfl (psub_cons rfl (psub_cons rfl (psub_cons rfl (psub_nil _))))) (ih66 (0 : Int32) x85 (by decide) (by omega) (by omega))
                  · refine R_iconst 1 rfl rfl ?_
                    refine R_goto 75 rfl rfl ?_
                    refine R_istore_n (k := 2) rfl [(2, .inl 1), (3, .inl x65), (0, .inr (.inr (.inl 96))), (1, .inr (.inr (.inr 12)))] rfl rfl (by decide) ?_
                    refine N_iinc (a := x65.toInt) (c := 1) (fun w => [(3, .inl w), (2, .inl 1), (0, .inr (.inr (.inl 96))), (1, .inr (.inr (.inr 12)))]) rfl rfl (fun _ => rfl) (by decide) rfl (by decide) (by omega) (fun x87 q88 => ?_)
                    refine R_goto 39 rfl rfl ?_
                    exact RUN_weak (psub_cons rfl (psub_cons rfl (psub_cons rfl (psub_cons rfl (psub_nil _))))) (ih66 (1 : Int32) x87 (by decide) (by omega) (by omega))
          exact lp63 _ (1 : Int32) (0 : Int32) (by decide) (by decide) (Nat.lt_succ_self _)
