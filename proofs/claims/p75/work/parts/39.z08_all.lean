abbrev qg_X9_is_8 (h : PH)  : Option PV → PH → Prop := fun r h' => h = h' ∧ ∃ z : Int32, r = some (.inl z) ∧ ((0 ≤ z.toInt ∧ z.toInt ≤ 1))
set_option maxHeartbeats 4000000 in
set_option maxRecDepth 100000 in
theorem g_X9_is_8 (h : PH) (hI : INV h)  : CALL d_X9_is [.inr (.inr (.inl 96)), .inr (.inr (.inr 1))] h (qg_X9_is_8 h) := by
  show RUN d_X9_is 0 [(0, .inr (.inr (.inl 96))), (1, .inr (.inr (.inr 1)))] [] h _
  refine R_aload_n (k := 0) rfl rfl rfl ?_
  have b1 : (0 : Int) ≤ (h.1 96 12).toInt ∧ (h.1 96 12).toInt ≤ 3 := hI.1 96 12
  refine R_callV (v := .inr (.inr (.inl 96))) (As := []) (rest := []) rfl mt_9_i176 pp_X9_good (by decide) rfl rfl rfl (Nat.le_of_ble_eq_true rfl) (Nat.le_of_ble_eq_true rfl) ((k_X9_good h hI).mono (fun r2 h3 p4 => ?_))
  obtain ⟨rfl, x5, rfl, q6 | q6⟩ := p4
  · show RUN d_X9_is 4 [(0, .inr (.inr (.inl 96))), (1, .inr (.inr (.inr 1)))] [.inl x5] h _
    refine N_if_eq (a := x5.toInt) 35 rfl rfl rfl (fun c7 => ?_) (fun c7 => ?_)
    · refine R_iconst 0 rfl rfl ?_
      refine R_istore_n (k := 2) rfl [(2, .inl 0), (0, .inr (.inr (.inl 96))), (1, .inr (.inr (.inr 1)))] rfl rfl (by decide) ?_
      refine R_iconst 0 rfl rfl ?_
      refine R_istore_n (k := 3) rfl [(3, .inl 0), (2, .inl 0), (0, .inr (.inr (.inl 96))), (1, .inr (.inr (.inr 1)))] rfl rfl (by decide) ?_
      have lp9 : ∀ (n8 : Nat) (x10 : Int32) (x11 : Int32), 0 ≤ x10.toInt ∧ x10.toInt ≤ 0 → 0 ≤ x11.toInt ∧ x11.toInt ≤ 0 → 0 < n8 → RUN d_X9_is 39 [(3, .inl x11), (2, .inl x10), (0, .inr (.inr (.inl 96))), (1, .inr (.inr (.inr 1)))] [] h (qg_X9_is_8 h) := by
        intro n8
        induction n8 with
        | zero => intro x10 x11 m13 m14 hz; exact absurd hz (Nat.not_lt_zero _)
        | succ n8 ih12 =>
          intro x10 x11 m13 m14 hz
          refine R_iload_n (k := 3) rfl rfl rfl ?_
          refine R_aload_c (k := 1) rfl rfl rfl (by decide) ?_
          refine R_callV (v := .inr (.inr (.inr 1))) (As := []) (rest := [.inl x11]) rfl mt_9_i180 pp_J0_length_8abf5 (by decide) rfl rfl rfl (Nat.le_of_ble_eq_true rfl) (Nat.le_of_ble_eq_true rfl) ((k_J0_length_8abf5_8 h hI).mono (fun r15 h16 p17 => ?_))
          obtain ⟨rfl, x18, rfl, q19⟩ := p17
          show RUN d_X9_is 44 [(3, .inl x11), (2, .inl x10), (0, .inr (.inr (.inl 96))), (1, .inr (.inr (.inr 1)))] [.inl x18, .inl x11] h _
          refine N_icmp_ge (a := x11.toInt) (b := x18.toInt) 82 rfl rfl rfl rfl (fun c20 => ?_) (fun c20 => ?_)
          · exfalso; omega
          · refine R_iload_n (k := 2) rfl rfl rfl ?_
            refine N_if_eq (a := x10.toInt) 82 rfl rfl rfl (fun c21 => ?_) (fun c21 => ?_)
            · refine R_iload_n (k := 2) rfl rfl rfl ?_
              exact R_iret rfl rfl (nar_z (by omega)) ⟨rfl, _, rfl, by omega⟩
            · exfalso; omega
      exact lp9 _ (0 : Int32) (0 : Int32) (by decide) (by decide) (Nat.lt_succ_self _)
    · exfalso; omega
  · show RUN d_X9_is 4 [(0, .inr (.inr (.inl 96))), (1, .inr (.inr (.inr 1)))] [.inl x5] h _
    refine N_if_eq (a := x5.toInt) 35 rfl rfl rfl (fun c22 => ?_) (fun c22 => ?_)
    · exfalso; omega
    · refine R_aload_n (k := 0) rfl rfl rfl ?_
      refine R_getf_i (j := 10) rfl ft_9_152 sh_96 rfl ?_
      refine R_iconst 1 rfl rfl ?_
      refine N_icmp_ne (a := (h.1 96 10).toInt) (b := 1) 35 rfl rfl rfl (by decide) (fun c23 => ?_) (fun c23 => ?_)
      · refine R_iconst 0 rfl rfl ?_
        refine R_istore_n (k := 2) rfl [(2, .inl 0), (0, .inr (.inr (.inl 96))), (1, .inr (.inr (.inr 1)))] rfl rfl (by decide) ?_
        refine R_iconst 0 rfl rfl ?_
        refine R_istore_n (k := 3) rfl [(3, .inl 0), (2, .inl 0), (0, .inr (.inr (.inl 96))), (1, .inr (.inr (.inr 1)))] rfl rfl (by decide) ?_
        have lp25 : ∀ (n24 : Nat) (x26 : Int32) (x27 : Int32), 0 ≤ x26.toInt ∧ x26.toInt ≤ 0 → 0 ≤ x27.toInt ∧ x27.toInt ≤ 0 → 0 < n24 → RUN d_X9_is 39 [(3, .inl x27), (2, .inl x26), (0, .inr (.inr (.inl 96))), (1, .inr (.inr (.inr 1)))] [] h (qg_X9_is_8 h) := by
          intro n24
          induction n24 with
          | zero => intro x26 x27 m29 m30 hz; exact absurd hz (Nat.not_lt_zero _)
          | succ n24 ih28 =>
            intro x26 x27 m29 m30 hz
            refine R_iload_n (k := 3) rfl rfl rfl ?_
            refine R_aload_c (k := 1) rfl rfl rfl (by decide) ?_
            refine R_callV (v := .inr (.inr (.inr 1))) (As := []) (rest := [.inl x27]) rfl mt_9_i180 pp_J0_length_8abf5 (by decide) rfl rfl rfl (Nat.le_of_ble_eq_true rfl) (Nat.le_of_ble_eq_true rfl) ((k_J0_length_8abf5_8 h hI).mono (fun r31 h32 p33 => ?_))
            obtain ⟨rfl, x34, rfl, q35⟩ := p33
            show RUN d_X9_is 44 [(3, .inl x27), (2, .inl x26), (0, .inr (.inr (.inl 96))), (1, .inr (.inr (.inr 1)))] [.inl x34, .inl x27] h _
            refine N_icmp_ge (a := x27.toInt) (b := x34.toInt) 82 rfl rfl rfl rfl (fun c36 => ?_) (fun c36 => ?_)
            · exfalso; omega
            · refine R_iload_n (k := 2) rfl rfl rfl ?_
              refine N_if_eq (a := x26.toInt) 82 rfl rfl rfl (fun c37 => ?_) (fun c37 => ?_)
              · refine R_iload_n (k := 2) rfl rfl rfl ?_
                exact R_iret rfl rfl (nar_z (by omega)) ⟨rfl, _, rfl, by omega⟩
              · exfalso; omega
        exact lp25 _ (0 : Int32) (0 : Int32) (by decide) (by decide) (Nat.lt_succ_self _)
      · refine R_aload_n (k := 0) rfl rfl rfl ?_
        refine R_getf_i (j := 8) rfl ft_9_142 sh_96 rfl ?_
        have b38 : (0 : Int) ≤ (h.1 96 8).toInt ∧ (h.1 96 8).toInt ≤ 500 := hI.1 96 8
        refine R_aload_n (k := 0) rfl rfl rfl ?_
        refine R_getf_i (j := 9) rfl ft_9_149 sh_96 rfl ?_
        have b39 : (0 : Int) ≤ (h.1 96 9).toInt ∧ (h.1 96 9).toInt ≤ 500 := hI.1 96 9
        refine N_isub (a := (h.1 96 8).toInt) (b := (h.1 96 9).toInt) rfl rfl rfl (by omega) (fun x40 q41 => ?_)
        refine R_aload_c (k := 1) rfl rfl rfl (by decide) ?_
        refine R_callV (v := .inr (.inr (.inr 1))) (As := []) (rest := [.inl x40]) rfl mt_9_i180 pp_J0_length_8abf5 (by decide) rfl rfl rfl (Nat.le_of_ble_eq_true rfl) (Nat.le_of_ble_eq_true rfl) ((k_J0_length_8abf5_8 h hI).mono (fun r42 h43 p44 => ?_))
        obtain ⟨rfl, x45, rfl, q46⟩ := p44
        show RUN d_X9_is 28 [(0, .inr (.inr (.inl 96))), (1, .inr (.inr (.inr 1)))] [.inl x45, .inl x40] h _
        refine N_icmp_ne (a := x40.toInt) (b := x45.toInt) 35 rfl rfl rfl rfl (fun c47 => ?_) (fun c47 => ?_)
        · refine R_iconst 0 rfl rfl ?_
          refine R_istore_n (k := 2) rfl [(2, .inl 0), (0, .inr (.inr (.inl 96))), (1, .inr (.inr (.inr 1)))] rfl rfl (by decide) ?_
          refine R_iconst 0 rfl rfl ?_
          refine R_istore_n (k := 3) rfl [(3, .inl 0), (2, .inl 0), (0, .inr (.inr (.inl 96))), (1, .inr (.inr (.inr 1)))] rfl rfl (by decide) ?_
          have lp49 : ∀ (n48 : Nat) (x50 : Int32) (x51 : Int32), 0 ≤ x50.toInt ∧ x50.toInt ≤ 0 → 0 ≤ x51.toInt ∧ x51.toInt ≤ 0 → 0 < n48 → RUN d_X9_is 39 [(3, .inl x51), (2, .inl x50), (0, .inr (.inr (.inl 96))), (1, .inr (.inr (.inr 1)))] [] h (qg_X9_is_8 h) := by
            intro n48
            induction n48 with
            | zero => intro x50 x51 m53 m54 hz; exact absurd hz (Nat.not_lt_zero _)
            | succ n48 ih52 =>
              intro x50 x51 m53 m54 hz
              refine R_iload_n (k := 3) rfl rfl rfl ?_
              refine R_aload_c (k := 1) rfl rfl rfl (by decide) ?_
              refine R_callV (v := .inr (.inr (.inr 1))) (As := []) (rest := [.inl x51]) rfl mt_9_i180 pp_J0_length_8abf5 (by decide) rfl rfl rfl (Nat.le_of_ble_eq_true rfl) (Nat.le_of_ble_eq_true rfl) ((k_J0_length_8abf5_8 h hI).mono (fun r55 h56 p57 => ?_))
              obtain ⟨rfl, x58, rfl, q59⟩ := p57
              show RUN d_X9_is 44 [(3, .inl x51), (2, .inl x50), (0, .inr (.inr (.inl 96))), (1, .inr (.inr (.inr 1)))] [.inl x58, .inl x51] h _
              refine N_icmp_ge (a := x51.toInt) (b := x58.toInt) 82 rfl rfl rfl rfl (fun c60 => ?_) (fun c60 => ?_)
              · exfalso; omega
              · refine R_iload_n (k := 2) rfl rfl rfl ?_
                refine N_if_eq (a := x50.toInt) 82 rfl rfl rfl (fun c61 => ?_) (fun c61 => ?_)
                · refine R_iload_n (k := 2) rfl rfl rfl ?_
                  exact R_iret rfl rfl (nar_z (by omega)) ⟨rfl, _, rfl, by omega⟩
                · exfalso; omega
          exact lp49 _ (0 : Int32) (0 : Int32) (by decide) (by decide) (Nat.lt_succ_self _)
        · refine R_iconst 1 rfl rfl ?_
          refine R_goto 36 rfl rfl ?_
          refine R_istore_n (k := 2) rfl [(2, .inl 1), (0, .inr (.inr (.inl 96))), (1, .inr (.inr (.inr 1)))] rfl rfl (by decide) ?_
          refine R_iconst 0 rfl rfl ?_
          refine R_istore_n (k := 3) rfl [(3, .inl 0), (2, .inl 1), (0, .inr (.inr (.inl 96))), (1, .inr (.inr (.inr 1)))] rfl rfl (by decide) ?_
          have lp63 : ∀ (n62 : Nat) (x64 : Int32) (x65 : Int32), 0 ≤ x64.toInt ∧ x64.toInt ≤ 1 → 0 ≤ x65.toInt ∧ x65.toInt ≤ 7 → (7 - x65.toInt).toNat < n62 → RUN d_X9_is 39 [(3, .inl x65), (2, .inl x64), (0, .inr (.inr (.inl 96))), (1, .inr (.inr (.inr 1)))] [] h (qg_X9_is_8 h) := by
            intro n62
            induction n62 with
            | zero => intro x64 x65 m67 m68 hz; exact absurd hz (Nat.not_lt_zero _)
            | succ n62 ih66 =>
              intro x64 x65 m67 m68 hz
              refine R_iload_n (k := 3) rfl rfl rfl ?_
              refine R_aload_c (k := 1) rfl rfl rfl (by decide) ?_
              refine R_callV (v := .inr (.inr (.inr 1))) (As := []) (rest := [.inl x65]) rfl mt_9_i180 pp_J0_length_8abf5 (by decide) rfl rfl rfl (Nat.le_of_ble_eq_true rfl) (Nat.le_of_ble_eq_true rfl) ((k_J0_length_8abf5_8 h hI).mono (fun r69 h70 p71 => ?_))
              obtain ⟨rfl, x72, rfl, q73⟩ := p71
              show RUN d_X9_is 44 [(3, .inl x65), (2, .inl x64), (0, .inr (.inr (.inl 96))), (1, .inr (.inr (.inr 1)))] [.inl x72, .inl x65] h _
              refine N_icmp_ge (a := x65.toInt) (b := x72.toInt) 82 rfl rfl rfl rfl (fun c74 => ?_) (fun c74 => ?_)
              · refine R_iload_n (k := 2) rfl rfl rfl ?_
                exact R_iret rfl rfl (nar_z (by omega)) ⟨rfl, _, rfl, by omega⟩
              · refine R_iload_n (k := 2) rfl rfl rfl ?_
                refine N_if_eq (a := x64.toInt) 82 rfl rfl rfl (fun c75 => ?_) (fun c75 => ?_)
                · refine R_iload_n (k := 2) rfl rfl rfl ?_
                  exact R_iret rfl rfl (nar_z (by omega)) ⟨rfl, _, rfl, by omega⟩
                · refine R_aload_n (k := 0) rfl rfl rfl ?_
                  refine R_getf_r (j := 4) rfl ft_9_20 sh_96 rfl ?_
                  refine R_aload_n (k := 0) rfl rfl rfl ?_
                  refine R_getf_i (j := 9) rfl ft_9_149 sh_96 rfl ?_
                  refine R_iload_n (k := 3) rfl rfl rfl ?_
                  refine N_iadd (a := (h.1 96 9).toInt) (b := x65.toInt) rfl rfl rfl (by omega) (fun x76 q77 => ?_)
                  refine R_bald rfl sh_100 ⟨by omega, by omega⟩ ?_
                  refine N_any (fun x78 => ?_)
                  refine R_aload_c (k := 1) rfl rfl rfl (by decide) ?_
                  refine R_iload_n (k := 3) rfl rfl rfl ?_
                  refine R_callV (v := .inr (.inr (.inr 1))) (As := [.inl x65]) (rest := [.inl x78]) rfl mt_9_i184 pp_J0_charAt_5068e (by decide) rfl rfl rfl (Nat.le_of_ble_eq_true rfl) (Nat.le_of_ble_eq_true rfl) ((k_J0_charAt_5068e_8 h hI x65 (by omega)).mono (fun r79 h80 p81 => ?_))
                  obtain ⟨rfl, x82, rfl, q83⟩ := p81
                  show RUN d_X9_is 67 [(3, .inl x65), (2, .inl x64), (0, .inr (.inr (.inl 96))), (1, .inr (.inr (.inr 1)))] [.inl x82, .inl x78] h _
                  refine N_icmp_ne (a := x78.toInt) (b := x82.toInt) 74 rfl rfl rfl rfl (fun c84 => ?_) (fun c84 => ?_)
                  · refine R_iconst 0 rfl rfl ?_
                    refine R_istore_n (k := 2) rfl [(2, .inl 0), (3, .inl x65), (0, .inr (.inr (.inl 96))), (1, .inr (.inr (.inr 1)))] rfl rfl (by decide) ?_
                    refine N_iinc (a := x65.toInt) (c := 1) (fun w => [(3, .inl w), (2, .inl 0), (0, .inr (.inr (.inl 96))), (1, .inr (.inr (.inr 1)))]) rfl rfl (fun _ => rfl) (by decide) rfl (by decide) (by omega) (fun x85 q86 => ?_)
                    refine R_goto 39 rfl rfl ?_
                    exact RUN_weak (psub_cons rfl (psub_cons rfl (psub_cons rfl (psub_cons rfl (psub_nil _))))) (ih66 (0 : Int32) x85 (by decide) (by omega) (by omega))
                  · refine R_iconst 1 rfl rfl ?_
                    refine R_goto 75 rfl rfl ?_
                    refine R_istore_n (k := 2) rfl [(2, .inl 1), (3, .inl x65), (0, .inr (.inr (.inl 96))), (1, .inr (.inr (.inr 1)))] rfl rfl (by decide) ?_
                    refine N_iinc (a := x65.toInt) (c := 1) (fun w => [(3, .inl w), (2, .inl 1), (0, .inr (.inr (.inl 96))), (1, .inr (.inr (.inr 1)))]) rfl rfl (fun _ => rfl) (by decide) rfl (by decide) (by omega) (fun x87 q88 => ?_)
                    refine R_goto 39 rfl rfl ?_
                    exact RUN_weak (psub_cons rfl (psub_cons rfl (psub_cons rfl (psub_cons rfl (psub_nil _))))) (ih66 (1 : Int32) x87 (by decide) (by omega) (by omega))
          exact lp63 _ (1 : Int32) (0 : Int32) (by decide) (by decide) (Nat.lt_succ_self _)
abbrev qg_X9_takes_7 (h : PH)  : Option PV → PH → Prop := fun r h' => INV h' ∧ FR [96] h h' ∧ ((h'.1 96 12).toInt = (h.1 96 12).toInt ∧ (h'.1 96 7).toInt = (h.1 96 7).toInt ∧ (h'.1 96 5).toInt = (h.1 96 5).toInt ∧ (h'.1 96 13).toInt = (h.1 96 13).toInt ∧ ((h.1 96 12).toInt ≤ (h'.1 96 12).toInt) ∧ ((h.1 96 8).toInt ≤ (h'.1 96 8).toInt) ∧ True) ∧ ∃ z : Int32, r = some (.inl z) ∧ (((0 ≤ z.toInt ∧ z.toInt ≤ 1)) ∧ (z = ansI d_X9_is [.inr (.inr (.inl 96)), .inr (.inr (.inr 1))] h) ∧ (z.toInt = 0 → h' = h) ∧ True)
set_option maxHeartbeats 4000000 in
set_option maxRecDepth 100000 in
theorem g_X9_takes_7 (h : PH) (hI : INV h)  : CALL d_X9_takes [.inr (.inr (.inl 96)), .inr (.inr (.inr 1))] h (qg_X9_takes_7 h) := by
  show RUN d_X9_takes 0 [(0, .inr (.inr (.inl 96))), (1, .inr (.inr (.inr 1)))] [] h _
  have fr : FR [96] h h := FR.rf _ _
  have b1 : (0 : Int) ≤ (h.1 96 12).toInt ∧ (h.1 96 12).toInt ≤ 3 := hI.1 96 12
  have b2 : (0 : Int) ≤ (h.1 96 8).toInt ∧ (h.1 96 8).toInt ≤ 500 := hI.1 96 8
  have b3 : (0 : Int) ≤ (h.1 96 7).toInt ∧ (h.1 96 7).toInt ≤ 500 := hI.1 96 7
  have b4 : (0 : Int) ≤ (h.1 96 5).toInt ∧ (h.1 96 5).toInt ≤ 500 := hI.1 96 5
  refine R_aload_n (k := 0) rfl rfl rfl ?_
  refine R_aload_c (k := 1) rfl rfl rfl (by decide) ?_
  refine R_callV (v := .inr (.inr (.inl 96))) (As := [.inr (.inr (.inr 1))]) (rest := []) rfl mt_9_i188 pp_X9_is (by decide) rfl rfl rfl (Nat.le_of_ble_eq_true rfl) (Nat.le_of_ble_eq_true rfl) ((CALL_ans (g_X9_is_8 h hI)).mono (fun r5 h6 p7 => ?_))
  obtain ⟨⟨rfl, x8, rfl, q9⟩, za10⟩ := p7
  have za10 := za10 _ rfl
  show RUN d_X9_takes 5 [(0, .inr (.inr (.inl 96))), (1, .inr (.inr (.inr 1)))] [.inl x8] h _
  refine R_istore_n (k := 2) rfl [(2, .inl x8), (0, .inr (.inr (.inl 96))), (1, .inr (.inr (.inr 1)))] rfl rfl (by decide) ?_
  refine R_iload_n (k := 2) rfl rfl rfl ?_
  refine N_if_eq (a := x8.toInt) 14 rfl rfl rfl (fun c11 => ?_) (fun c11 => ?_)
  · refine R_iload_n (k := 2) rfl rfl rfl ?_
    exact R_iret rfl rfl (nar_z (by omega)) ⟨hI, fr, ⟨by omega, by omega, by omega, by omega, by omega, by omega, trivial⟩, _, rfl, ⟨by omega, za10, (fun _ => rfl), trivial⟩⟩
  · refine R_aload_n (k := 0) rfl rfl rfl ?_
    refine R_callV (v := .inr (.inr (.inl 96))) (As := []) (rest := []) rfl mt_9_i192 pp_X9_advance (by decide) rfl rfl rfl (Nat.le_of_ble_eq_true rfl) (Nat.le_of_ble_eq_true rfl) ((g_X9_advance h hI).mono (fun r12 h13 p14 => ?_))
    obtain ⟨hJ, fj, ⟨kp15, kp16, kp17, kp18, xq19, xq20, -⟩, rfl⟩ := p14
    have f21 := fj
    have fr := fr.trans fj (by decide)
    have hI := hJ
    have b22 : (0 : Int) ≤ (h13.1 96 8).toInt ∧ (h13.1 96 8).toInt ≤ 500 := hI.1 96 8
    show RUN d_X9_takes 14 [(2, .inl x8), (0, .inr (.inr (.inl 96))), (1, .inr (.inr (.inr 1)))] [] h13 _
    refine R_iload_n (k := 2) rfl rfl rfl ?_
    exact R_iret rfl rfl (nar_z (by omega)) ⟨hI, fr, ⟨by omega, by omega, by omega, by omega, by omega, by omega, trivial⟩, _, rfl, ⟨by omega, za10, (fun hc => absurd hc (by omega)), trivial⟩⟩
abbrev qg_X9_needs_4 (h : PH)  : Option PV → PH → Prop := fun r h' => INV h' ∧ FR [96] h h' ∧ ((h'.1 96 7).toInt = (h.1 96 7).toInt ∧ (h'.1 96 5).toInt = (h.1 96 5).toInt ∧ ((h.1 96 12).toInt ≤ (h'.1 96 12).toInt) ∧ ((h.1 96 8).toInt ≤ (h'.1 96 8).toInt) ∧ True) ∧ r = none
set_option maxHeartbeats 4000000 in
set_option maxRecDepth 100000 in
theorem g_X9_needs_4 (h : PH) (hI : INV h)  : CALL d_X9_needs [.inr (.inr (.inl 96)), .inr (.inr (.inr 1))] h (qg_X9_needs_4 h) := by
  show RUN d_X9_needs 0 [(0, .inr (.inr (.inl 96))), (1, .inr (.inr (.inr 1)))] [] h _
  have fr : FR [96] h h := FR.rf _ _
  have b1 : (0 : Int) ≤ (h.1 96 12).toInt ∧ (h.1 96 12).toInt ≤ 3 := hI.1 96 12
  have b2 : (0 : Int) ≤ (h.1 96 8).toInt ∧ (h.1 96 8).toInt ≤ 500 := hI.1 96 8
  have b3 : (0 : Int) ≤ (h.1 96 7).toInt ∧ (h.1 96 7).toInt ≤ 500 := hI.1 96 7
  have b4 : (0 : Int) ≤ (h.1 96 5).toInt ∧ (h.1 96 5).toInt ≤ 500 := hI.1 96 5
  refine R_aload_n (k := 0) rfl rfl rfl ?_
  refine R_aload_c (k := 1) rfl rfl rfl (by decide) ?_
  refine R_callV (v := .inr (.inr (.inl 96))) (As := [.inr (.inr (.inr 1))]) (rest := []) rfl mt_9_i195 pp_X9_takes (by decide) rfl rfl rfl (Nat.le_of_ble_eq_true rfl) (Nat.le_of_ble_eq_true rfl) ((g_X9_takes_7 h hI).mono (fun r5 h6 p7 => ?_))
  obtain ⟨hJ, fj, ⟨kp8, kp9, kp10, kp11, xq12, xq13, -⟩, x16, rfl, q17, zq14, zq15, -⟩ := p7
  have f18 := fj
  have fr := fr.trans fj (by decide)
  have hI := hJ
  have b19 : (0 : Int) ≤ (h6.1 96 8).toInt ∧ (h6.1 96 8).toInt ≤ 500 := hI.1 96 8
  show RUN d_X9_needs 5 [(0, .inr (.inr (.inl 96))), (1, .inr (.inr (.inr 1)))] [.inl x16] h6 _
  refine N_if_ne (a := x16.toInt) 13 rfl rfl rfl (fun c20 => ?_) (fun c20 => ?_)
  · exact R_vret rfl rfl ⟨hI, fr, ⟨by omega, by omega, by omega, by omega, trivial⟩, rfl⟩
  · refine R_aload_n (k := 0) rfl rfl rfl ?_
    refine R_iconst 1 rfl rfl ?_
    have k21 : (1 : Int32).toInt = 1 := by decide
    refine R_callV (v := .inr (.inr (.inl 96))) (As := [.inl 1]) (rest := []) rfl mt_9_i198 pp_X9_errs (by decide) rfl rfl rfl (Nat.le_of_ble_eq_true rfl) (Nat.le_of_ble_eq_true rfl) ((g_X9_errs h6 hI (1 : Int32) (by decide)).mono (fun r22 h23 p24 => ?_))
    obtain ⟨hJ, fj, ⟨kp25, kp26, kp27, kp28, kp29, xq30, xq31, xq32, -⟩, rfl⟩ := p24
    have f33 := fj
    have fr := fr.trans fj (by decide)
    have hI := hJ
    have b34 : (0 : Int) ≤ (h23.1 96 12).toInt ∧ (h23.1 96 12).toInt ≤ 3 := hI.1 96 12
    show RUN d_X9_needs 13 [(0, .inr (.inr (.inl 96))), (1, .inr (.inr (.inr 1)))] [] h23 _
    exact R_vret rfl rfl ⟨hI, fr, ⟨by omega, by omega, by omega, by omega, trivial⟩, rfl⟩
abbrev qg_X9_is_9 (h : PH)  : Option PV → PH → Prop := fun r h' => h = h' ∧ ∃ z : Int32, r = some (.inl z) ∧ ((0 ≤ z.toInt ∧ z.toInt ≤ 1))
set_option maxHeartbeats 4000000 in
set_option maxRecDepth 100000 in
theorem g_X9_is_9 (h : PH) (hI : INV h)  : CALL d_X9_is [.inr (.inr (.inl 96)), .inr (.inr (.inr 2))] h (qg_X9_is_9 h) := by
  show RUN d_X9_is 0 [(0, .inr (.inr (.inl 96))), (1, .inr (.inr (.inr 2)))] [] h _
  refine R_aload_n (k := 0) rfl rfl rfl ?_
  have b1 : (0 : Int) ≤ (h.1 96 12).toInt ∧ (h.1 96 12).toInt ≤ 3 := hI.1 96 12
  refine R_callV (v := .inr (.inr (.inl 96))) (As := []) (rest := []) rfl mt_9_i176 pp_X9_good (by decide) rfl rfl rfl (Nat.le_of_ble_eq_true rfl) (Nat.le_of_ble_eq_true rfl) ((k_X9_good h hI).mono (fun r2 h3 p4 => ?_))
  obtain ⟨rfl, x5, rfl, q6 | q6⟩ := p4
  · show RUN d_X9_is 4 [(0, .inr (.inr (.inl 96))), (1, .inr (.inr (.inr 2)))] [.inl x5] h _
    refine N_if_eq (a := x5.toInt) 35 rfl rfl rfl (fun c7 => ?_) (fun c7 => ?_)
    · refine R_iconst 0 rfl rfl ?_
      refine R_istore_n (k := 2) rfl [(2, .inl 0), (0, .inr (.inr (.inl 96))), (1, .inr (.inr (.inr 2)))] rfl rfl (by decide) ?_
      refine R_iconst 0 rfl rfl ?_
      refine R_istore_n (k := 3) rfl [(3, .inl 0), (2, .inl 0), (0, .inr (.inr (.inl 96))), (1, .inr (.inr (.inr 2)))] rfl rfl (by decide) ?_
      have lp9 : ∀ (n8 : Nat) (x10 : Int32) (x11 : Int32), 0 ≤ x10.toInt ∧ x10.toInt ≤ 0 → 0 ≤ x11.toInt ∧ x11.toInt ≤ 0 → 0 < n8 → RUN d_X9_is 39 [(3, .inl x11), (2, .inl x10), (0, .inr (.inr (.inl 96))), (1, .inr (.inr (.inr 2)))] [] h (qg_X9_is_9 h) := by
        intro n8
        induction n8 with
        | zero => intro x10 x11 m13 m14 hz; exact absurd hz (Nat.not_lt_zero _)
        | succ n8 ih12 =>
          intro x10 x11 m13 m14 hz
          refine R_iload_n (k := 3) rfl rfl rfl ?_
          refine R_aload_c (k := 1) rfl rfl rfl (by decide) ?_
          refine R_callV (v := .inr (.inr (.inr 2))) (As := []) (rest := [.inl x11]) rfl mt_9_i180 pp_J0_length_8abf5 (by decide) rfl rfl rfl (Nat.le_of_ble_eq_true rfl) (Nat.le_of_ble_eq_true rfl) ((k_J0_length_8abf5_9 h hI).mono (fun r15 h16 p17 => ?_))
          obtain ⟨rfl, x18, rfl, q19⟩ := p17
          show RUN d_X9_is 44 [(3, .inl x11), (2, .inl x10), (0, .inr (.inr (.inl 96))), (1, .inr (.inr (.inr 2)))] [.inl x18, .inl x11] h _
          refine N_icmp_ge (a := x11.toInt) (b := x18.toInt) 82 rfl rfl rfl rfl (fun c20 => ?_) (fun c20 => ?_)
          · exfalso; omega
          · refine R_iload_n (k := 2) rfl rfl rfl ?_
            refine N_if_eq (a := x10.toInt) 82 rfl rfl rfl (fun c21 => ?_) (fun c21 => ?_)
            · refine R_iload_n (k := 2) rfl rfl rfl ?_
              exact R_iret rfl rfl (nar_z (by omega)) ⟨rfl, _, rfl, by omega⟩
            · exfalso; omega
      exact lp9 _ (0 : Int32) (0 : Int32) (by decide) (by decide) (Nat.lt_succ_self _)
    · exfalso; omega
  · show RUN d_X9_is 4 [(0, .inr (.inr (.inl 96))), (1, .inr (.inr (.inr 2)))] [.inl x5] h _
    refine N_if_eq (a := x5.toInt) 35 rfl rfl rfl (fun c22 => ?_) (fun c22 => ?_)
    · exfalso; omega
    · refine R_aload_n (k := 0) rfl rfl rfl ?_
      refine R_getf_i (j := 10) rfl ft_9_152 sh_96 rfl ?_
      refine R_iconst 1 rfl rfl ?_
      refine N_icmp_ne (a := (h.1 96 10).toInt) (b := 1) 35 rfl rfl rfl (by decide) (fun c23 => ?_) (fun c23 => ?_)
      · refine R_iconst 0 rfl rfl ?_
        refine R_istore_n (k := 2) rfl [(2, .inl 0), (0, .inr (.inr (.inl 96))), (1, .inr (.inr (.inr 2)))] rfl rfl (by decide) ?_
        refine R_iconst 0 rfl rfl ?_
        refine R_istore_n (k := 3) rfl [(3, .inl 0), (2, .inl 0), (0, .inr (.inr (.inl 96))), (1, .inr (.inr (.inr 2)))] rfl rfl (by decide) ?_
        have lp25 : ∀ (n24 : Nat) (x26 : Int32) (x27 : Int32), 0 ≤ x26.toInt ∧ x26.toInt ≤ 0 → 0 ≤ x27.toInt ∧ x27.toInt ≤ 0 → 0 < n24 → RUN d_X9_is 39 [(3, .inl x27), (2, .inl x26), (0, .inr (.inr (.inl 96))), (1, .inr (.inr (.inr 2)))] [] h (qg_X9_is_9 h) := by
          intro n24
          induction n24 with
          | zero => intro x26 x27 m29 m30 hz; exact absurd hz (Nat.not_lt_zero _)
          | succ n24 ih28 =>
            intro x26 x27 m29 m30 hz
            refine R_iload_n (k := 3) rfl rfl rfl ?_
            refine R_aload_c (k := 1) rfl rfl rfl (by decide) ?_
            refine R_callV (v := .inr (.inr (.inr 2))) (As := []) (rest := [.inl x27]) rfl mt_9_i180 pp_J0_length_8abf5 (by decide) rfl rfl rfl (Nat.le_of_ble_eq_true rfl) (Nat.le_of_ble_eq_true rfl) ((k_J0_length_8abf5_9 h hI).mono (fun r31 h32 p33 => ?_))
            obtain ⟨rfl, x34, rfl, q35⟩ := p33
            show RUN d_X9_is 44 [(3, .inl x27), (2, .inl x26), (0, .inr (.inr (.inl 96))), (1, .inr (.inr (.inr 2)))] [.inl x34, .inl x27] h _
            refine N_icmp_ge (a := x27.toInt) (b := x34.toInt) 82 rfl rfl rfl rfl (fun c36 => ?_) (fun c36 => ?_)
            · exfalso; omega
            · refine R_iload_n (k := 2) rfl rfl rfl ?_
              refine N_if_eq (a := x26.toInt) 82 rfl rfl rfl (fun c37 => ?_) (fun c37 => ?_)
              · refine R_iload_n (k := 2) rfl rfl rfl ?_
                exact R_iret rfl rfl (nar_z (by omega)) ⟨rfl, _, rfl, by omega⟩
              · exfalso; omega
        exact lp25 _ (0 : Int32) (0 : Int32) (by decide) (by decide) (Nat.lt_succ_self _)
      · refine R_aload_n (k := 0) rfl rfl rfl ?_
        refine R_getf_i (j := 8) rfl ft_9_142 sh_96 rfl ?_
        have b38 : (0 : Int) ≤ (h.1 96 8).toInt ∧ (h.1 96 8).toInt ≤ 500 := hI.1 96 8
        refine R_aload_n (k := 0) rfl rfl rfl ?_
        refine R_getf_i (j := 9) rfl ft_9_149 sh_96 rfl ?_
        have b39 : (0 : Int) ≤ (h.1 96 9).toInt ∧ (h.1 96 9).toInt ≤ 500 := hI.1 96 9
        refine N_isub (a := (h.1 96 8).toInt) (b := (h.1 96 9).toInt) rfl rfl rfl (by omega) (fun x40 q41 => ?_)
        refine R_aload_c (k := 1) rfl rfl rfl (by decide) ?_
        refine R_callV (v := .inr (.inr (.inr 2))) (As := []) (rest := [.inl x40]) rfl mt_9_i180 pp_J0_length_8abf5 (by decide) rfl rfl rfl (Nat.le_of_ble_eq_true rfl) (Nat.le_of_ble_eq_true rfl) ((k_J0_length_8abf5_9 h hI).mono (fun r42 h43 p44 => ?_))
        obtain ⟨rfl, x45, rfl, q46⟩ := p44
        show RUN d_X9_is 28 [(0, .inr (.inr (.inl 96))), (1, .inr (.inr (.inr 2)))] [.inl x45, .inl x40] h _
        refine N_icmp_ne (a := x40.toInt) (b := x45.toInt) 35 rfl rfl rfl rfl (fun c47 => ?_) (fun c47 => ?_)
        · refine R_iconst 0 rfl rfl ?_
          refine R_istore_n (k := 2) rfl [(2, .inl 0), (0, .inr (.inr (.inl 96))), (1, .inr (.inr (.inr 2)))] rfl rfl (by decide) ?_
          refine R_iconst 0 rfl rfl ?_
          refine R_istore_n (k := 3) rfl [(3, .inl 0), (2, .inl 0), (0, .inr (.inr (.inl 96))), (1, .inr (.inr (.inr 2)))] rfl rfl (by decide) ?_
          have lp49 : ∀ (n48 : Nat) (x50 : Int32) (x51 : Int32), 0 ≤ x50.toInt ∧ x50.toInt ≤ 0 → 0 ≤ x51.toInt ∧ x51.toInt ≤ 0 → 0 < n48 → RUN d_X9_is 39 [(3, .inl x51), (2, .inl x50), (0, .inr (.inr (.inl 96))), (1, .inr (.inr (.inr 2)))] [] h (qg_X9_is_9 h) := by
            intro n48
            induction n48 with
            | zero => intro x50 x51 m53 m54 hz; exact absurd hz (Nat.not_lt_zero _)
            | succ n48 ih52 =>
              intro x50 x51 m53 m54 hz
              refine R_iload_n (k := 3) rfl rfl rfl ?_
              refine R_aload_c (k := 1) rfl rfl rfl (by decide) ?_
              refine R_callV (v := .inr (.inr (.inr 2))) (As := []) (rest := [.inl x51]) rfl mt_9_i180 pp_J0_length_8abf5 (by decide) rfl rfl rfl (Nat.le_of_ble_eq_true rfl) (Nat.le_of_ble_eq_true rfl) ((k_J0_length_8abf5_9 h hI).mono (fun r55 h56 p57 => ?_))
              obtain ⟨rfl, x58, rfl, q59⟩ := p57
              show RUN d_X9_is 44 [(3, .inl x51), (2, .inl x50), (0, .inr (.inr (.inl 96))), (1, .inr (.inr (.inr 2)))] [.inl x58, .inl x51] h _
              refine N_icmp_ge (a := x51.toInt) (b := x58.toInt) 82 rfl rfl rfl rfl (fun c60 => ?_) (fun c60 => ?_)
              · exfalso; omega
              · refine R_iload_n (k := 2) rfl rfl rfl ?_
                refine N_if_eq (a := x50.toInt) 82 rfl rfl rfl (fun c61 => ?_) (fun c61 => ?_)
                · refine R_iload_n (k := 2) rfl rfl rfl ?_
                  exact R_iret rfl rfl (nar_z (by omega)) ⟨rfl, _, rfl, by omega⟩
                · exfalso; omega
          exact lp49 _ (0 : Int32) (0 : Int32) (by decide) (by decide) (Nat.lt_succ_self _)
        · refine R_iconst 1 rfl rfl ?_
          refine R_goto 36 rfl rfl ?_
          refine R_istore_n (k := 2) rfl [(2, .inl 1), (0, .inr (.inr (.inl 96))), (1, .inr (.inr (.inr 2)))] rfl rfl (by decide) ?_
          refine R_iconst 0 rfl rfl ?_
          refine R_istore_n (k := 3) rfl [(3, .inl 0), (2, .inl 1), (0, .inr (.inr (.inl 96))), (1, .inr (.inr (.inr 2)))] rfl rfl (by decide) ?_
          have lp63 : ∀ (n62 : Nat) (x64 : Int32) (x65 : Int32), 0 ≤ x64.toInt ∧ x64.toInt ≤ 1 → 0 ≤ x65.toInt ∧ x65.toInt ≤ 7 → (7 - x65.toInt).toNat < n62 → RUN d_X9_is 39 [(3, .inl x65), (2, .inl x64), (0, .inr (.inr (.inl 96))), (1, .inr (.inr (.inr 2)))] [] h (qg_X9_is_9 h) := by
            intro n62
            induction n62 with
            | zero => intro x64 x65 m67 m68 hz; exact absurd hz (Nat.not_lt_zero _)
            | succ n62 ih66 =>
              intro x64 x65 m67 m68 hz
              refine R_iload_n (k := 3) rfl rfl rfl ?_
              refine R_aload_c (k := 1) rfl rfl rfl (by decide) ?_
              refine R_callV (v := .inr (.inr (.inr 2))) (As := []) (rest := [.inl x65]) rfl mt_9_i180 pp_J0_length_8abf5 (by decide) rfl rfl rfl (Nat.le_of_ble_eq_true rfl) (Nat.le_of_ble_eq_true rfl) ((k_J0_length_8abf5_9 h hI).mono (fun r69 h70 p71 => ?_))
              obtain ⟨rfl, x72, rfl, q73⟩ := p71
              show RUN d_X9_is 44 [(3, .inl x65), (2, .inl x64), (0, .inr (.inr (.inl 96))), (1, .inr (.inr (.inr 2)))] [.inl x72, .inl x65] h _
              refine N_icmp_ge (a := x65.toInt) (b := x72.toInt) 82 rfl rfl rfl rfl (fun c74 => ?_) (fun c74 => ?_)
              · refine R_iload_n (k := 2) rfl rfl rfl ?_
                exact R_iret rfl rfl (nar_z (by omega)) ⟨rfl, _, rfl, by omega⟩
              · refine R_iload_n (k := 2) rfl rfl rfl ?_
                refine N_if_eq (a := x64.toInt) 82 rfl rfl rfl (fun c75 => ?_) (fun c75 => ?_)
                · refine R_iload_n (k := 2) rfl rfl rfl ?_
                  exact R_iret rfl rfl (nar_z (by omega)) ⟨rfl, _, rfl, by omega⟩
                · refine R_aload_n (k := 0) rfl rfl rfl ?_
                  refine R_getf_r (j := 4) rfl ft_9_20 sh_96 rfl ?_
                  refine R_aload_n (k := 0) rfl rfl rfl ?_
                  refine R_getf_i (j := 9) rfl ft_9_149 sh_96 rfl ?_
                  refine R_iload_n (k := 3) rfl rfl rfl ?_
                  refine N_iadd (a := (h.1 96 9).toInt) (b := x65.toInt) rfl rfl rfl (by omega) (fun x76 q77 => ?_)
                  refine R_bald rfl sh_100 ⟨by omega, by omega⟩ ?_
                  refine N_any (fun x78 => ?_)
                  refine R_aload_c (k := 1) rfl rfl rfl (by decide) ?_
                  refine R_iload_n (k := 3) rfl rfl rfl ?_
                  refine R_callV (v := .inr (.inr (.inr 2))) (As := [.inl x65]) (rest := [.inl x78]) rfl mt_9_i184 pp_J0_charAt_5068e (by decide) rfl rfl rfl (Nat.le_of_ble_eq_true rfl) (Nat.le_of_ble_eq_true rfl) ((k_J0_charAt_5068e_9 h hI x65 (by omega)).mono (fun r79 h80 p81 => ?_))
                  obtain ⟨rfl, x82, rfl, q83⟩ := p81
                  show RUN d_X9_is 67 [(3, .inl x65), (2, .inl x64), (0, .inr (.inr (.inl 96))), (1, .inr (.inr (.inr 2)))] [.inl x82, .inl x78] h _
                  refine N_icmp_ne (a := x78.toInt) (b := x82.toInt) 74 rfl rfl rfl rfl (fun c84 => ?_) (fun c84 => ?_)
                  · refine R_iconst 0 rfl rfl ?_
                    refine R_istore_n (k := 2) rfl [(2, .inl 0), (3, .inl x65), (0, .inr (.inr (.inl 96))), (1, .inr (.inr (.inr 2)))] rfl rfl (by decide) ?_
                    refine N_iinc (a := x65.toInt) (c := 1) (fun w => [(3, .inl w), (2, .inl 0), (0, .inr (.inr (.inl 96))), (1, .inr (.inr (.inr 2)))]) rfl rfl (fun _ => rfl) (by decide) rfl (by decide) (by omega) (fun x85 q86 => ?_)
                    refine R_goto 39 rfl rfl ?_
                    exact RUN_weak (psub_cons rfl (psub_cons rfl (psub_cons rfl (psub_cons rfl (psub_nil _))))) (ih66 (0 : Int32) x85 (by decide) (by omega) (by omega))
                  · refine R_iconst 1 rfl rfl ?_
                    refine R_goto 75 rfl rfl ?_
                    refine R_istore_n (k := 2) rfl [(2, .inl 1), (3, .inl x65), (0, .inr (.inr (.inl 96))), (1, .inr (.inr (.inr 2)))] rfl rfl (by decide) ?_
                    refine N_iinc (a := x65.toInt) (c := 1) (fun w => [(3, .inl w), (2, .inl 1), (0, .inr (.inr (.inl 96))), (1, .inr (.inr (.inr 2)))]) rfl rfl (fun _ => rfl) (by decide) rfl (by decide) (by omega) (fun x87 q88 => ?_)
                    refine R_goto 39 rfl rfl ?_
                    exact RUN_weak (psub_cons rfl (psub_cons rfl (psub_cons rfl (psub_cons rfl (psub_nil _))))) (ih66 (1 : Int32) x87 (by decide) (by omega) (by omega))
          exact lp63 _ (1 : Int32) (0 : Int32) (by decide) (by decide) (Nat.lt_succ_self _)
abbrev qg_X9_takes_8 (h : PH)  : Option PV → PH → Prop := fun r h' => INV h' ∧ FR [96] h h' ∧ ((h'.1 96 12).toInt = (h.1 96 12).toInt ∧ (h'.1 96 7).toInt = (h.1 96 7).toInt ∧ (h'.1 96 5).toInt = (h.1 96 5).toInt ∧ ((h.1 96 12).toInt ≤ (h'.1 96 12).toInt) ∧ ((h.1 96 8).toInt ≤ (h'.1 96 8).toInt) ∧ True) ∧ ∃ z : Int32, r = some (.inl z) ∧ (((0 ≤ z.toInt ∧ z.toInt ≤ 1)) ∧ (z = ansI d_X9_is [.inr (.inr (.inl 96)), .inr (.inr (.inr 2))] h) ∧ (z.toInt = 0 → h' = h) ∧ True)
set_option maxHeartbeats 4000000 in
set_option maxRecDepth 100000 in
theorem g_X9_takes_8 (h : PH) (hI : INV h)  : CALL d_X9_takes [.inr (.inr (.inl 96)), .inr (.inr (.inr 2))] h (qg_X9_takes_8 h) := by
  show RUN d_X9_takes 0 [(0, .inr (.inr (.inl 96))), (1, .inr (.inr (.inr 2)))] [] h _
  have fr : FR [96] h h := FR.rf _ _
  have b1 : (0 : Int) ≤ (h.1 96 12).toInt ∧ (h.1 96 12).toInt ≤ 3 := hI.1 96 12
  have b2 : (0 : Int) ≤ (h.1 96 8).toInt ∧ (h.1 96 8).toInt ≤ 500 := hI.1 96 8
  have b3 : (0 : Int) ≤ (h.1 96 7).toInt ∧ (h.1 96 7).toInt ≤ 500 := hI.1 96 7
  have b4 : (0 : Int) ≤ (h.1 96 5).toInt ∧ (h.1 96 5).toInt ≤ 500 := hI.1 96 5
  refine R_aload_n (k := 0) rfl rfl rfl ?_
  refine R_aload_c (k := 1) rfl rfl rfl (by decide) ?_
  refine R_callV (v := .inr (.inr (.inl 96))) (As := [.inr (.inr (.inr 2))]) (rest := []) rfl mt_9_i188 pp_X9_is (by decide) rfl rfl rfl (Nat.le_of_ble_eq_true rfl) (Nat.le_of_ble_eq_true rfl) ((CALL_ans (g_X9_is_9 h hI)).mono (fun r5 h6 p7 => ?_))
  obtain ⟨⟨rfl, x8, rfl, q9⟩, za10⟩ := p7
  have za10 := za10 _ rfl
  show RUN d_X9_takes 5 [(0, .inr (.inr (.inl 96))), (1, .inr (.inr (.inr 2)))] [.inl x8] h _
  refine R_istore_n (k := 2) rfl [(2, .inl x8), (0, .inr (.inr (.inl 96))), (1, .inr (.inr (.inr 2)))] rfl rfl (by decide) ?_
  refine R_iload_n (k := 2) rfl rfl rfl ?_
  refine N_if_eq (a := x8.toInt) 14 rfl rfl rfl (fun c11 => ?_) (fun c11 => ?_)
  · refine R_iload_n (k := 2) rfl rfl rfl ?_
    exact R_iret rfl rfl (nar_z (by omega)) ⟨hI, fr, ⟨by omega, by omega, by omega, by omega, by omega, trivial⟩, _, rfl, ⟨by omega, za10, (fun _ => rfl), trivial⟩⟩
  · refine R_aload_n (k := 0) rfl rfl rfl ?_
    refine R_callV (v := .inr (.inr (.inl 96))) (As := []) (rest := []) rfl mt_9_i192 pp_X9_advance (by decide) rfl rfl rfl (Nat.le_of_ble_eq_true rfl) (Nat.le_of_ble_eq_true rfl) ((g_X9_advance h hI).mono (fun r12 h13 p14 => ?_))
    obtain ⟨hJ, fj, ⟨kp15, kp16, kp17, kp18, xq19, xq20, -⟩, rfl⟩ := p14
    have f21 := fj
    have fr := fr.trans fj (by decide)
    have hI := hJ
    have b22 : (0 : Int) ≤ (h13.1 96 8).toInt ∧ (h13.1 96 8).toInt ≤ 500 := hI.1 96 8
    show RUN d_X9_takes 14 [(2, .inl x8), (0, .inr (.inr (.inl 96))), (1, .inr (.inr (.inr 2)))] [] h13 _
    refine R_iload_n (k := 2) rfl rfl rfl ?_
    exact R_iret rfl rfl (nar_z (by omega)) ⟨hI, fr, ⟨by omega, by omega, by omega, by omega, by omega, trivial⟩, _, rfl, ⟨by omega, za10, (fun hc => absurd hc (by omega)), trivial⟩⟩
abbrev qg_X9_needs_5 (h : PH)  : Option PV → PH → Prop := fun r h' => INV h' ∧ FR [96] h h' ∧ ((h'.1 96 7).toInt = (h.1 96 7).toInt ∧ (h'.1 96 5).toInt = (h.1 96 5).toInt ∧ ((h.1 96 12).toInt ≤ (h'.1 96 12).toInt) ∧ ((h.1 96 8).toInt ≤ (h'.1 96 8).toInt) ∧ True) ∧ r = none
set_option maxHeartbeats 4000000 in
set_option maxRecDepth 100000 in
theorem g_X9_needs_5 (h : PH) (hI : INV h)  : CALL d_X9_needs [.inr (.inr (.inl 96)), .inr (.inr (.inr 2))] h (qg_X9_needs_5 h) := by
  show RUN d_X9_needs 0 [(0, .inr (.inr (.inl 96))), (1, .inr (.inr (.inr 2)))] [] h _
  have fr : FR [96] h h := FR.rf _ _
  have b1 : (0 : Int) ≤ (h.1 96 12).toInt ∧ (h.1 96 12).toInt ≤ 3 := hI.1 96 12
  have b2 : (0 : Int) ≤ (h.1 96 8).toInt ∧ (h.1 96 8).toInt ≤ 500 := hI.1 96 8
  have b3 : (0 : Int) ≤ (h.1 96 7).toInt ∧ (h.1 96 7).toInt ≤ 500 := hI.1 96 7
  have b4 : (0 : Int) ≤ (h.1 96 5).toInt ∧ (h.1 96 5).toInt ≤ 500 := hI.1 96 5
  refine R_aload_n (k := 0) rfl rfl rfl ?_
  refine R_aload_c (k := 1) rfl rfl rfl (by decide) ?_
  refine R_callV (v := .inr (.inr (.inl 96))) (As := [.inr (.inr (.inr 2))]) (rest := []) rfl mt_9_i195 pp_X9_takes (by decide) rfl rfl rfl (Nat.le_of_ble_eq_true rfl) (Nat.le_of_ble_eq_true rfl) ((g_X9_takes_8 h hI).mono (fun r5 h6 p7 => ?_))
  obtain ⟨hJ, fj, ⟨kp8, kp9, kp10, xq11, xq12, -⟩, x15, rfl, q16, zq13, zq14, -⟩ := p7
  have f17 := fj
  have fr := fr.trans fj (by decide)
  have hI := hJ
  have b18 : (0 : Int) ≤ (h6.1 96 8).toInt ∧ (h6.1 96 8).toInt ≤ 500 := hI.1 96 8
  show RUN d_X9_needs 5 [(0, .inr (.inr (.inl 96))), (1, .inr (.inr (.inr 2)))] [.inl x15] h6 _
  refine N_if_ne (a := x15.toInt) 13 rfl rfl rfl (fun c19 => ?_) (fun c19 => ?_)
  · exact R_vret rfl rfl ⟨hI, fr, ⟨by omega, by omega, by omega, by omega, trivial⟩, rfl⟩
  · refine R_aload_n (k := 0) rfl rfl rfl ?_
    refine R_iconst 1 rfl rfl ?_
    have k20 : (1 : Int32).toInt = 1 := by decide
    refine R_callV (v := .inr (.inr (.inl 96))) (As := [.inl 1]) (rest := []) rfl mt_9_i198 pp_X9_errs (by decide) rfl rfl rfl (Nat.le_of_ble_eq_true rfl) (Nat.le_of_ble_eq_true rfl) ((g_X9_errs h6 hI (1 : Int32) (by decide)).mono (fun r21 h22 p23 => ?_))
    obtain ⟨hJ, fj, ⟨kp24, kp25, kp26, kp27, kp28, xq29, xq30, xq31, -⟩, rfl⟩ := p23
    have f32 := fj
    have fr := fr.trans fj (by decide)
    have hI := hJ
    have b33 : (0 : Int) ≤ (h22.1 96 12).toInt ∧ (h22.1 96 12).toInt ≤ 3 := hI.1 96 12
    show RUN d_X9_needs 13 [(0, .inr (.inr (.inl 96))), (1, .inr (.inr (.inr 2)))] [] h22 _
    exact R_vret rfl rfl ⟨hI, fr, ⟨by omega, by omega, by omega, by omega, trivial⟩, rfl⟩

abbrev qg_X9_told_4 (h : PH) (a1 : Int32) (a2 : Int32) : Option PV → PH → Prop := fun r h' => INV h' ∧ FR [96] h h' ∧ ((h'.1 96 7).toInt = (h.1 96 7).toInt ∧ (h'.1 96 5).toInt = (h.1 96 5).toInt ∧ ((h.1 96 12).toInt ≤ (h'.1 96 12).toInt) ∧ ((h.1 96 8).toInt ≤ (h'.1 96 8).toInt) ∧ True) ∧ ∃ z : Int32, r = some (.inl z) ∧ (((0 ≤ z.toInt ∧ z.toInt ≤ 999)) ∧ ((h'.1 96 12).toInt = 0 → a1.toInt ≤ z.toInt ∧ z.toInt ≤ a2.toInt) ∧ (z.toInt = 0 ∨ (a1.toInt ≤ z.toInt ∧ z.toInt ≤ a2.toInt)) ∧ True)
set_option maxHeartbeats 4000000 in
set_option maxRecDepth 100000 in
theorem g_X9_told_4 (h : PH) (hI : INV h) (a1 : Int32) (a2 : Int32) (h1a : 1 ≤ a1.toInt ∧ a1.toInt ≤ 1) (h2a : 60 ≤ a2.toInt ∧ a2.toInt ≤ 60) : CALL d_X9_told [.inr (.inr (.inl 96)), .inr (.inr (.inr 2)), .inl a1, .inl a2] h (qg_X9_told_4 h a1 a2) := by
  show RUN d_X9_told 0 [(0, .inr (.inr (.inl 96))), (1, .inr (.inr (.inr 2))), (2, .inl a1), (3, .inl a2)] [] h _
  have fr : FR [96] h h := FR.rf _ _
  have b1 : (0 : Int) ≤ (h.1 96 12).toInt ∧ (h.1 96 12).toInt ≤ 3 := hI.1 96 12
  have b2 : (0 : Int) ≤ (h.1 96 8).toInt ∧ (h.1 96 8).toInt ≤ 500 := hI.1 96 8
  have b3 : (0 : Int) ≤ (h.1 96 7).toInt ∧ (h.1 96 7).toInt ≤ 500 := hI.1 96 7
  have b4 : (0 : Int) ≤ (h.1 96 5).toInt ∧ (h.1 96 5).toInt ≤ 500 := hI.1 96 5
  refine R_aload_n (k := 0) rfl rfl rfl ?_
  refine R_aload_c (k := 1) rfl rfl rfl (by decide) ?_
  refine R_callV (v := .inr (.inr (.inl 96))) (As := [.inr (.inr (.inr 2))]) (rest := []) rfl mt_9_i202 pp_X9_needs (by decide) rfl rfl rfl (Nat.le_of_ble_eq_true rfl) (Nat.le_of_ble_eq_true rfl) ((g_X9_needs_5 h hI).mono (fun r5 h6 p7 => ?_))
  obtain ⟨hJ, fj, ⟨kp8, kp9, xq10, xq11, -⟩, rfl⟩ := p7
  have f12 := fj
  have fr := fr.trans fj (by decide)
  have hI := hJ
  have b13 : (0 : Int) ≤ (h6.1 96 12).toInt ∧ (h6.1 96 12).toInt ≤ 3 := hI.1 96 12
  have b14 : (0 : Int) ≤ (h6.1 96 8).toInt ∧ (h6.1 96 8).toInt ≤ 500 := hI.1 96 8
  show RUN d_X9_told 5 [(0, .inr (.inr (.inl 96))), (1, .inr (.inr (.inr 2))), (2, .inl a1), (3, .inl a2)] [] h6 _
  refine R_aload_n (k := 0) rfl rfl rfl ?_
  refine R_iload_n (k := 2) rfl rfl rfl ?_
  refine R_iload_n (k := 3) rfl rfl rfl ?_
  refine R_callV (v := .inr (.inr (.inl 96))) (As := [.inl a1, .inl a2]) (rest := []) rfl mt_9_i206 pp_X9_number (by decide) rfl rfl rfl (Nat.le_of_ble_eq_true rfl) (Nat.le_of_ble_eq_true rfl) ((g_X9_number h6 hI a1 a2 (by omega) (by omega)).mono (fun r15 h16 p17 => ?_))
  obtain ⟨hJ, fj, ⟨kp18, kp19, xq20, xq21, -⟩, x24, rfl, q25, zq22, zq23, -⟩ := p17
  have f26 := fj
  have fr := fr.trans fj (by decide)
  have hI := hJ
  have b27 : (0 : Int) ≤ (h16.1 96 12).toInt ∧ (h16.1 96 12).toInt ≤ 3 := hI.1 96 12
  have b28 : (0 : Int) ≤ (h16.1 96 8).toInt ∧ (h16.1 96 8).toInt ≤ 500 := hI.1 96 8
  show RUN d_X9_told 11 [(0, .inr (.inr (.inl 96))), (1, .inr (.inr (.inr 2))), (2, .inl a1), (3, .inl a2)] [.inl x24] h16 _
  exact R_iret rfl rfl rfl ⟨hI, fr, ⟨by omega, by omega, by omega, by omega, trivial⟩, _, rfl, ⟨by omega, by omega, by omega, trivial⟩⟩
abbrev qg_X9_is_10 (h : PH)  : Option PV → PH → Prop := fun r h' => h = h' ∧ ∃ z : Int32, r = some (.inl z) ∧ ((0 ≤ z.toInt ∧ z.toInt ≤ 1))
set_option maxHeartbeats 4000000 in
set_option maxRecDepth 100000 in
theorem g_X9_is_10 (h : PH) (hI : INV h)  : CALL d_X9_is [.inr (.inr (.inl 96)), .inr (.inr (.inr 3))] h (qg_X9_is_10 h) := by
  show RUN d_X9_is 0 [(0, .inr (.inr (.inl 96))), (1, .inr (.inr (.inr 3)))] [] h _
  refine R_aload_n (k := 0) rfl rfl rfl ?_
  have b1 : (0 : Int) ≤ (h.1 96 12).toInt ∧ (h.1 96 12).toInt ≤ 3 := hI.1 96 12
  refine R_callV (v := .inr (.inr (.inl 96))) (As := []) (rest := []) rfl mt_9_i176 pp_X9_good (by decide) rfl rfl rfl (Nat.le_of_ble_eq_true rfl) (Nat.le_of_ble_eq_true rfl) ((k_X9_good h hI).mono (fun r2 h3 p4 => ?_))
  obtain ⟨rfl, x5, rfl, q6 | q6⟩ := p4
  · show RUN d_X9_is 4 [(0, .inr (.inr (.inl 96))), (1, .inr (.inr (.inr 3)))] [.inl x5] h _
    refine N_if_eq (a := x5.toInt) 35 rfl rfl rfl (fun c7 => ?_) (fun c7 => ?_)
    · refine R_iconst 0 rfl rfl ?_
      refine R_istore_n (k := 2) rfl [(2, .inl 0), (0, .inr (.inr (.inl 96))), (1, .inr (.inr (.inr 3)))] rfl rfl (by decide) ?_
      refine R_iconst 0 rfl rfl ?_
      refine R_istore_n (k := 3) rfl [(3, .inl 0), (2, .inl 0), (0, .inr (.inr (.inl 96))), (1, .inr (.inr (.inr 3)))] rfl rfl (by decide) ?_
      have lp9 : ∀ (n8 : Nat) (x10 : Int32) (x11 : Int32), 0 ≤ x10.toInt ∧ x10.toInt ≤ 0 → 0 ≤ x11.toInt ∧ x11.toInt ≤ 0 → 0 < n8 → RUN d_X9_is 39 [(3, .inl x11), (2, .inl x10), (0, .inr (.inr (.inl 96))), (1, .inr (.inr (.inr 3)))] [] h (qg_X9_is_10 h) := by
        intro n8
        induction n8 with
        | zero => intro x10 x11 m13 m14 hz; exact absurd hz (Nat.not_lt_zero _)
        | succ n8 ih12 =>
          intro x10 x11 m13 m14 hz
          refine R_iload_n (k := 3) rfl rfl rfl ?_
          refine R_aload_c (k := 1) rfl rfl rfl (by decide) ?_
          refine R_callV (v := .inr (.inr (.inr 3))) (As := []) (rest := [.inl x11]) rfl mt_9_i180 pp_J0_length_8abf5 (by decide) rfl rfl rfl (Nat.le_of_ble_eq_true rfl) (Nat.le_of_ble_eq_true rfl) ((k_J0_length_8abf5_10 h hI).mono (fun r15 h16 p17 => ?_))
          obtain ⟨rfl, x18, rfl, q19⟩ := p17
          show RUN d_X9_is 44 [(3, .inl x11), (2, .inl x10), (0, .inr (.inr (.inl 96))), (1, .inr (.inr (.inr 3)))] [.inl x18, .inl x11] h _
          refine N_icmp_ge (a := x11.toInt) (b := x18.toInt) 82 rfl rfl rfl rfl (fun c20 => ?_) (fun c20 => ?_)
          · exfalso; omega
          · refine R_iload_n (k := 2) rfl rfl rfl ?_
            refine N_if_eq (a := x10.toInt) 82 rfl rfl rfl (fun c21 => ?_) (fun c21 => ?_)
            · refine R_iload_n (k := 2) rfl rfl rfl ?_
              exact R_iret rfl rfl (nar_z (by omega)) ⟨rfl, _, rfl, by omega⟩
            · exfalso; omega
      exact lp9 _ (0 : Int32) (0 : Int32) (by decide) (by decide) (Nat.lt_succ_self _)
    · exfalso; omega
  · show RUN d_X9_is 4 [(0, .inr (.inr (.inl 96))), (1, .inr (.inr (.inr 3)))] [.inl x5] h _
    refine N_if_eq (a := x5.toInt) 35 rfl rfl rfl (fun c22 => ?_) (fun c22 => ?_)
    · exfalso; omega
    · refine R_aload_n (k := 0) rfl rfl rfl ?_
      refine R_getf_i (j := 10) rfl ft_9_152 sh_96 rfl ?_
      refine R_iconst 1 rfl rfl ?_
      refine N_icmp_ne (a := (h.1 96 10).toInt) (b := 1) 35 rfl rfl rfl (by decide) (fun c23 => ?_) (fun c23 => ?_)
      · refine R_iconst 0 rfl rfl ?_
        refine R_istore_n (k := 2) rfl [(2, .inl 0), (0, .inr (.inr (.inl 96))), (1, .inr (.inr (.inr 3)))] rfl rfl (by decide) ?_
        refine R_iconst 0 rfl rfl ?_
        refine R_istore_n (k := 3) rfl [(3, .inl 0), (2, .inl 0), (0, .inr (.inr (.inl 96))), (1, .inr (.inr (.inr 3)))] rfl rfl (by decide) ?_
        have lp25 : ∀ (n24 : Nat) (x26 : Int32) (x27 : Int32), 0 ≤ x26.toInt ∧ x26.toInt ≤ 0 → 0 ≤ x27.toInt ∧ x27.toInt ≤ 0 → 0 < n24 → RUN d_X9_is 39 [(3, .inl x27), (2, .inl x26), (0, .inr (.inr (.inl 96))), (1, .inr (.inr (.inr 3)))] [] h (qg_X9_is_10 h) := by
          intro n24
          induction n24 with
          | zero => intro x26 x27 m29 m30 hz; exact absurd hz (Nat.not_lt_zero _)
          | succ n24 ih28 =>
            intro x26 x27 m29 m30 hz
            refine R_iload_n (k := 3) rfl rfl rfl ?_
            refine R_aload_c (k := 1) rfl rfl rfl (by decide) ?_
            refine R_callV (v := .inr (.inr (.inr 3))) (As := []) (rest := [.inl x27]) rfl mt_9_i180 pp_J0_length_8abf5 (by decide) rfl rfl rfl (Nat.le_of_ble_eq_true rfl) (Nat.le_of_ble_eq_true rfl) ((k_J0_length_8abf5_10 h hI).mono (fun r31 h32 p33 => ?_))
            obtain ⟨rfl, x34, rfl, q35⟩ := p33
            show RUN d_X9_is 44 [(3, .inl x27), (2, .inl x26), (0, .inr (.inr (.inl 96))), (1, .inr (.inr (.inr 3)))] [.inl x34, .inl x27] h _
            refine N_icmp_ge (a := x27.toInt) (b := x34.toInt) 82 rfl rfl rfl rfl (fun c36 => ?_) (fun c36 => ?_)
            · exfalso; omega
            · refine R_iload_n (k := 2) rfl rfl rfl ?_
              refine N_if_eq (a := x26.toInt) 82 rfl rfl rfl (fun c37 => ?_) (fun c37 => ?_)
              · refine R_iload_n (k := 2) rfl rfl rfl ?_
                exact R_iret rfl rfl (nar_z (by omega)) ⟨rfl, _, rfl, by omega⟩
              · exfalso; omega
        exact lp25 _ (0 : Int32) (0 : Int32) (by decide) (by decide) (Nat.lt_succ_self _)
      · refine R_aload_n (k := 0) rfl rfl rfl ?_
        refine R_getf_i (j := 8) rfl ft_9_142 sh_96 rfl ?_
        have b38 : (0 : Int) ≤ (h.1 96 8).toInt ∧ (h.1 96 8).toInt ≤ 500 := hI.1 96 8
        refine R_aload_n (k := 0) rfl rfl rfl ?_
        refine R_getf_i (j := 9) rfl ft_9_149 sh_96 rfl ?_
        have b39 : (0 : Int) ≤ (h.1 96 9).toInt ∧ (h.1 96 9).toInt ≤ 500 := hI.1 96 9
        refine N_isub (a := (h.1 96 8).toInt) (b := (h.1 96 9).toInt) rfl rfl rfl (by omega) (fun x40 q41 => ?_)
        refine R_aload_c (k := 1) rfl rfl rfl (by decide) ?_
        refine R_callV (v := .inr (.inr (.inr 3))) (As := []) (rest := [.inl x40]) rfl mt_9_i180 pp_J0_length_8abf5 (by decide) rfl rfl rfl (Nat.le_of_ble_eq_true rfl) (Nat.le_of_ble_eq_true rfl) ((k_J0_length_8abf5_10 h hI).mono (fun r42 h43 p44 => ?_))
        obtain ⟨rfl, x45, rfl, q46⟩ := p44
        show RUN d_X9_is 28 [(0, .inr (.inr (.inl 96))), (1, .inr (.inr (.inr 3)))] [.inl x45, .inl x40] h _
        refine N_icmp_ne (a := x40.toInt) (b := x45.toInt) 35 rfl rfl rfl rfl (fun c47 => ?_) (fun c47 => ?_)
        · refine R_iconst 0 rfl rfl ?_
          refine R_istore_n (k := 2) rfl [(2, .inl 0), (0, .inr (.inr (.inl 96))), (1, .inr (.inr (.inr 3)))] rfl rfl (by decide) ?_
          refine R_iconst 0 rfl rfl ?_
          refine R_istore_n (k := 3) rfl [(3, .inl 0), (2, .inl 0), (0, .inr (.inr (.inl 96))), (1, .inr (.inr (.inr 3)))] rfl rfl (by decide) ?_
          have lp49 : ∀ (n48 : Nat) (x50 : Int32) (x51 : Int32), 0 ≤ x50.toInt ∧ x50.toInt ≤ 0 → 0 ≤ x51.toInt ∧ x51.toInt ≤ 0 → 0 < n48 → RUN d_X9_is 39 [(3, .inl x51), (2, .inl x50), (0, .inr (.inr (.inl 96))), (1, .inr (.inr (.inr 3)))] [] h (qg_X9_is_10 h) := by
            intro n48
            induction n48 with
            | zero => intro x50 x51 m53 m54 hz; exact absurd hz (Nat.not_lt_zero _)
            | succ n48 ih52 =>
              intro x50 x51 m53 m54 hz
              refine R_iload_n (k := 3) rfl rfl rfl ?_
              refine R_aload_c (k := 1) rfl rfl rfl (by decide) ?_
              refine R_callV (v := .inr (.inr (.inr 3))) (As := []) (rest := [.inl x51]) rfl mt_9_i180 pp_J0_length_8abf5 (by decide) rfl rfl rfl (Nat.le_of_ble_eq_true rfl) (Nat.le_of_ble_eq_true rfl) ((k_J0_length_8abf5_10 h hI).mono (fun r55 h56 p57 => ?_))
              obtain ⟨rfl, x58, rfl, q59⟩ := p57
              show RUN d_X9_is 44 [(3, .inl x51), (2, .inl x50), (0, .inr (.inr (.inl 96))), (1, .inr (.inr (.inr 3)))] [.inl x58, .inl x51] h _
              refine N_icmp_ge (a := x51.toInt) (b := x58.toInt) 82 rfl rfl rfl rfl (fun c60 => ?_) (fun c60 => ?_)
              · exfalso; omega
              · refine R_iload_n (k := 2) rfl rfl rfl ?_
                refine N_if_eq (a := x50.toInt) 82 rfl rfl rfl (fun c61 => ?_) (fun c61 => ?_)
                · refine R_iload_n (k := 2) rfl rfl rfl ?_
                  exact R_iret rfl rfl (nar_z (by omega)) ⟨rfl, _, rfl, by omega⟩
                · exfalso; omega
          exact lp49 _ (0 : Int32) (0 : Int32) (by decide) (by decide) (Nat.lt_succ_self _)
        · refine R_iconst 1 rfl rfl ?_
          refine R_goto 36 rfl rfl ?_
          refine R_istore_n (k := 2) rfl [(2, .inl 1), (0, .inr (.inr (.inl 96))), (1, .inr (.inr (.inr 3)))] rfl rfl (by decide) ?_
          refine R_iconst 0 rfl rfl ?_
          refine R_istore_n (k := 3) rfl [(3, .inl 0), (2, .inl 1), (0, .inr (.inr (.inl 96))), (1, .inr (.inr (.inr 3)))] rfl rfl (by decide) ?_
          have lp63 : ∀ (n62 : Nat) (x64 : Int32) (x65 : Int32), 0 ≤ x64.toInt ∧ x64.toInt ≤ 1 → 0 ≤ x65.toInt ∧ x65.toInt ≤ 7 → (7 - x65.toInt).toNat < n62 → RUN d_X9_is 39 [(3, .inl x65), (2, .inl x64), (0, .inr (.inr (.inl 96))), (1, .inr (.inr (.inr 3)))] [] h (qg_X9_is_10 h) := by
            intro n62
            induction n62 with
            | zero => intro x64 x65 m67 m68 hz; exact absurd hz (Nat.not_lt_zero _)
            | succ n62 ih66 =>
              intro x64 x65 m67 m68 hz
              refine R_iload_n (k := 3) rfl rfl rfl ?_
              refine R_aload_c (k := 1) rfl rfl rfl (by decide) ?_
              refine R_callV (v := .inr (.inr (.inr 3))) (As := []) (rest := [.inl x65]) rfl mt_9_i180 pp_J0_length_8abf5 (by decide) rfl rfl rfl (Nat.le_of_ble_eq_true rfl) (Nat.le_of_ble_eq_true rfl) ((k_J0_length_8abf5_10 h hI).mono (fun r69 h70 p71 => ?_))
              obtain ⟨rfl, x72, rfl, q73⟩ := p71
              show RUN d_X9_is 44 [(3, .inl x65), (2, .inl x64), (0, .inr (.inr (.inl 96))), (1, .inr (.inr (.inr 3)))] [.inl x72, .inl x65] h _
              refine N_icmp_ge (a := x65.toInt) (b := x72.toInt) 82 rfl rfl rfl rfl (fun c74 => ?_) (fun c74 => ?_)
              · refine R_iload_n (k := 2) rfl rfl rfl ?_
                exact R_iret rfl rfl (nar_z (by omega)) ⟨rfl, _, rfl, by omega⟩
              · refine R_iload_n (k := 2) rfl rfl rfl ?_
                refine N_if_eq (a := x64.toInt) 82 rfl rfl rfl (fun c75 => ?_) (fun c75 => ?_)
                · refine R_iload_n (k := 2) rfl rfl rfl ?_
                  exact R_iret rfl rfl (nar_z (by omega)) ⟨rfl, _, rfl, by omega⟩
                · refine R_aload_n (k := 0) rfl rfl rfl ?_
                  refine R_getf_r (j := 4) rfl ft_9_20 sh_96 rfl ?_
                  refine R_aload_n (k := 0) rfl rfl rfl ?_
                  refine R_getf_i (j := 9) rfl ft_9_149 sh_96 rfl ?_
                  refine R_iload_n (k := 3) rfl rfl rfl ?_
                  refine N_iadd (a := (h.1 96 9).toInt) (b := x65.toInt) rfl rfl rfl (by omega) (fun x76 q77 => ?_)
                  refine R_bald rfl sh_100 ⟨by omega, by omega⟩ ?_
                  refine N_any (fun x78 => ?_)
                  refine R_aload_c (k := 1) rfl rfl rfl (by decide) ?_
                  refine R_iload_n (k := 3) rfl rfl rfl ?_
                  refine R_callV (v := .inr (.inr (.inr 3))) (As := [.inl x65]) (rest := [.inl x78]) rfl mt_9_i184 pp_J0_charAt_5068e (by decide) rfl rfl rfl (Nat.le_of_ble_eq_true rfl) (Nat.le_of_ble_eq_true rfl) ((k_J0_charAt_5068e_10 h hI x65 (by omega)).mono (fun r79 h80 p81 => ?_))
                  obtain ⟨rfl, x82, rfl, q83⟩ := p81
                  show RUN d_X9_is 67 [(3, .inl x65), (2, .inl x64), (0, .inr (.inr (.inl 96))), (1, .inr (.inr (.inr 3)))] [.inl x82, .inl x78] h _
                  refine N_icmp_ne (a := x78.toInt) (b := x82.toInt) 74 rfl rfl rfl rfl (fun c84 => ?_) (fun c84 => ?_)
                  · refine R_iconst 0 rfl rfl ?_
                    refine R_istore_n (k := 2) rfl [(2, .inl 0), (3, .inl x65), (0, .inr (.inr (.inl 96))), (1, .inr (.inr (.inr 3)))] rfl rfl (by decide) ?_
                    refine N_iinc (a := x65.toInt) (c := 1) (fun w => [(3, .inl w), (2, .inl 0), (0, .inr (.inr (.inl 96))), (1, .inr (.inr (.inr 3)))]) rfl rfl (fun _ => rfl) (by decide) rfl (by decide) (by omega) (fun x85 q86 => ?_)
                    refine R_goto 39 rfl rfl ?_
                    exact RUN_weak (psub_cons rfl (psub_cons rfl (psub_cons rfl (psub_cons rfl (psub_nil _))))) (ih66 (0 : Int32) x85 (by decide) (by omega) (by omega))
                  · refine R_iconst 1 rfl rfl ?_
                    refine R_goto 75 rfl rfl ?_
                    refine R_istore_n (k := 2) rfl [(2, .inl 1), (3, .inl x65), (0, .inr (.inr (.inl 96))), (1, .inr (.inr (.inr 3)))] rfl rfl (by decide) ?_
                    refine N_iinc (a := x65.toInt) (c := 1) (fun w => [(3, .inl w), (2, .inl 1), (0, .inr (.inr (.inl 96))), (1, .inr (.inr (.inr 3)))]) rfl rfl (fun _ => rfl) (by decide) rfl (by decide) (by omega) (fun x87 q88 => ?_)
                    refine R_goto 39 rfl rfl ?_
                    exact RUN_weak (psub_cons rfl (psub_cons rfl (psub_cons rfl (psub_cons rfl (psub_nil _))))) (ih66 (1 : Int32) x87 (by decide) (by omega) (by omega))
          exact lp63 _ (1 : Int32) (0 : Int32) (by decide) (by decide) (Nat.lt_succ_self _)
abbrev qg_X9_takes_9 (h : PH)  : Option PV → PH → Prop := fun r h' => INV h' ∧ FR [96] h h' ∧ ((h'.1 96 12).toInt = (h.1 96 12).toInt ∧ (h'.1 96 7).toInt = (h.1 96 7).toInt ∧ (h'.1 96 5).toInt = (h.1 96 5).toInt ∧ ((h.1 96 12).toInt ≤ (h'.1 96 12).toInt) ∧ ((h.1 96 8).toInt ≤ (h'.1 96 8).toInt) ∧ True) ∧ ∃ z : Int32, r = some (.inl z) ∧ (((0 ≤ z.toInt ∧ z.toInt ≤ 1)) ∧ (z = ansI d_X9_is [.inr (.inr (.inl 96)), .inr (.inr (.inr 3))] h) ∧ (z.toInt = 0 → h' = h) ∧ True)
set_option maxHeartbeats 4000000 in
set_option maxRecDepth 100000 in
theorem g_X9_takes_9 (h : PH) (hI : INV h)  : CALL d_X9_takes [.inr (.inr (.inl 96)), .inr (.inr (.inr 3))] h (qg_X9_takes_9 h) := by
  show RUN d_X9_takes 0 [(0, .inr (.inr (.inl 96))), (1, .inr (.inr (.inr 3)))] [] h _
  have fr : FR [96] h h := FR.rf _ _
  have b1 : (0 : Int) ≤ (h.1 96 12).toInt ∧ (h.1 96 12).toInt ≤ 3 := hI.1 96 12
  have b2 : (0 : Int) ≤ (h.1 96 8).toInt ∧ (h.1 96 8).toInt ≤ 500 := hI.1 96 8
  have b3 : (0 : Int) ≤ (h.1 96 7).toInt ∧ (h.1 96 7).toInt ≤ 500 := hI.1 96 7
  have b4 : (0 : Int) ≤ (h.1 96 5).toInt ∧ (h.1 96 5).toInt ≤ 500 := hI.1 96 5
  refine R_aload_n (k := 0) rfl rfl rfl ?_
  refine R_aload_c (k := 1) rfl rfl rfl (by decide) ?_
  refine R_callV (v := .inr (.inr (.inl 96))) (As := [.inr (.inr (.inr 3))]) (rest := []) rfl mt_9_i188 pp_X9_is (by decide) rfl rfl rfl (Nat.le_of_ble_eq_true rfl) (Nat.le_of_ble_eq_true rfl) ((CALL_ans (g_X9_is_10 h hI)).mono (fun r5 h6 p7 => ?_))
  obtain ⟨⟨rfl, x8, rfl, q9⟩, za10⟩ := p7
  have za10 := za10 _ rfl
  show RUN d_X9_takes 5 [(0, .inr (.inr (.inl 96))), (1, .inr (.inr (.inr 3)))] [.inl x8] h _
  refine R_istore_n (k := 2) rfl [(2, .inl x8), (0, .inr (.inr (.inl 96))), (1, .inr (.inr (.inr 3)))] rfl rfl (by decide) ?_
  refine R_iload_n (k := 2) rfl rfl rfl ?_
  refine N_if_eq (a := x8.toInt) 14 rfl rfl rfl (fun c11 => ?_) (fun c11 => ?_)
  · refine R_iload_n (k := 2) rfl rfl rfl ?_
    exact R_iret rfl rfl (nar_z (by omega)) ⟨hI, fr, ⟨by omega, by omega, by omega, by omega, by omega, trivial⟩, _, rfl, ⟨by omega, za10, (fun _ => rfl), trivial⟩⟩
  · refine R_aload_n (k := 0) rfl rfl rfl ?_
    refine R_callV (v := .inr (.inr (.inl 96))) (As := []) (rest := []) rfl mt_9_i192 pp_X9_advance (by decide) rfl rfl rfl (Nat.le_of_ble_eq_true rfl) (Nat.le_of_ble_eq_true rfl) ((g_X9_advance h hI).mono (fun r12 h13 p14 => ?_))
    obtain ⟨hJ, fj, ⟨kp15, kp16, kp17, kp18, xq19, xq20, -⟩, rfl⟩ := p14
    have f21 := fj
    have fr := fr.trans fj (by decide)
    have hI := hJ
    have b22 : (0 : Int) ≤ (h13.1 96 8).toInt ∧ (h13.1 96 8).toInt ≤ 500 := hI.1 96 8
    show RUN d_X9_takes 14 [(2, .inl x8), (0, .inr (.inr (.inl 96))), (1, .inr (.inr (.inr 3)))] [] h13 _
    refine R_iload_n (k := 2) rfl rfl rfl ?_
    exact R_iret rfl rfl (nar_z (by omega)) ⟨hI, fr, ⟨by omega, by omega, by omega, by omega, by omega, trivial⟩, _, rfl, ⟨by omega, za10, (fun hc => absurd hc (by omega)), trivial⟩⟩
abbrev qg_X9_needs_6 (h : PH)  : Option PV → PH → Prop := fun r h' => INV h' ∧ FR [96] h h' ∧ ((h'.1 96 7).toInt = (h.1 96 7).toInt ∧ (h'.1 96 5).toInt = (h.1 96 5).toInt ∧ ((h.1 96 12).toInt ≤ (h'.1 96 12).toInt) ∧ ((h.1 96 8).toInt ≤ (h'.1 96 8).toInt) ∧ True) ∧ r = none
set_option maxHeartbeats 4000000 in
set_option maxRecDepth 100000 in
theorem g_X9_needs_6 (h : PH) (hI : INV h)  : CALL d_X9_needs [.inr (.inr (.inl 96)), .inr (.inr (.inr 3))] h (qg_X9_needs_6 h) := by
  show RUN d_X9_needs 0 [(0, .inr (.inr (.inl 96))), (1, .inr (.inr (.inr 3)))] [] h _
  have fr : FR [96] h h := FR.rf _ _
  have b1 : (0 : Int) ≤ (h.1 96 12).toInt ∧ (h.1 96 12).toInt ≤ 3 := hI.1 96 12
  have b2 : (0 : Int) ≤ (h.1 96 8).toInt ∧ (h.1 96 8).toInt ≤ 500 := hI.1 96 8
  have b3 : (0 : Int) ≤ (h.1 96 7).toInt ∧ (h.1 96 7).toInt ≤ 500 := hI.1 96 7
  have b4 : (0 : Int) ≤ (h.1 96 5).toInt ∧ (h.1 96 5).toInt ≤ 500 := hI.1 96 5
  refine R_aload_n (k := 0) rfl rfl rfl ?_
  refine R_aload_c (k := 1) rfl rfl rfl (by decide) ?_
  refine R_callV (v := .inr (.inr (.inl 96))) (As := [.inr (.inr (.inr 3))]) (rest := []) rfl mt_9_i195 pp_X9_takes (by decide) rfl rfl rfl (Nat.le_of_ble_eq_true rfl) (Nat.le_of_ble_eq_true rfl) ((g_X9_takes_9 h hI).mono (fun r5 h6 p7 => ?_))
  obtain ⟨hJ, fj, ⟨kp8, kp9, kp10, xq11, xq12, -⟩, x15, rfl, q16, zq13, zq14, -⟩ := p7
  have f17 := fj
  have fr := fr.trans fj (by decide)
  have hI := hJ
  have b18 : (0 : Int) ≤ (h6.1 96 8).toInt ∧ (h6.1 96 8).toInt ≤ 500 := hI.1 96 8
  show RUN d_X9_needs 5 [(0, .inr (.inr (.inl 96))), (1, .inr (.inr (.inr 3)))] [.inl x15] h6 _
  refine N_if_ne (a := x15.toInt) 13 rfl rfl rfl (fun c19 => ?_) (fun c19 => ?_)
  · exact R_vret rfl rfl ⟨hI, fr, ⟨by omega, by omega, by omega, by omega, trivial⟩, rfl⟩
  · refine R_aload_n (k := 0) rfl rfl rfl ?_
    refine R_iconst 1 rfl rfl ?_
    have k20 : (1 : Int32).toInt = 1 := by decide
    refine R_callV (v := .inr (.inr (.inl 96))) (As := [.inl 1]) (rest := []) rfl mt_9_i198 pp_X9_errs (by decide) rfl rfl rfl (Nat.le_of_ble_eq_true rfl) (Nat.le_of_ble_eq_true rfl) ((g_X9_errs h6 hI (1 : Int32) (by decide)).mono (fun r21 h22 p23 => ?_))
    obtain ⟨hJ, fj, ⟨kp24, kp25, kp26, kp27, kp28, xq29, xq30, xq31, -⟩, rfl⟩ := p23
    have f32 := fj
    have fr := fr.trans fj (by decide)
    have hI := hJ
    have b33 : (0 : Int) ≤ (h22.1 96 12).toInt ∧ (h22.1 96 12).toInt ≤ 3 := hI.1 96 12
    show RUN d_X9_needs 13 [(0, .inr (.inr (.inl 96))), (1, .inr (.inr (.inr 3)))] [] h22 _
    exact R_vret rfl rfl ⟨hI, fr, ⟨by omega, by omega, by omega, by omega, trivial⟩, rfl⟩
abbrev qg_X9_told_5 (h : PH) (a1 : Int32) (a2 : Int32) : Option PV → PH → Prop := fun r h' => INV h' ∧ FR [96] h h' ∧ ((h'.1 96 7).toInt = (h.1 96 7).toInt ∧ (h'.1 96 5).toInt = (h.1 96 5).toInt ∧ ((h.1 96 12).toInt ≤ (h'.1 96 12).toInt) ∧ ((h.1 96 8).toInt ≤ (h'.1 96 8).toInt) ∧ True) ∧ ∃ z : Int32, r = some (.inl z) ∧ (((0 ≤ z.toInt ∧ z.toInt ≤ 999)) ∧ ((h'.1 96 12).toInt = 0 → a1.toInt ≤ z.toInt ∧ z.toInt ≤ a2.toInt) ∧ (z.toInt = 0 ∨ (a1.toInt ≤ z.toInt ∧ z.toInt ≤ a2.toInt)) ∧ True)
set_option maxHeartbeats 4000000 in
set_option maxRecDepth 100000 in
theorem g_X9_told_5 (h : PH) (hI : INV h) (a1 : Int32) (a2 : Int32) (h1a : 1 ≤ a1.toInt ∧ a1.toInt ≤ 1) (h2a : 8 ≤ a2.toInt ∧ a2.toInt ≤ 8) : CALL d_X9_told [.inr (.inr (.inl 96)), .inr (.inr (.inr 3)), .inl a1, .inl a2] h (qg_X9_told_5 h a1 a2) := by
  show RUN d_X9_told 0 [(0, .inr (.inr (.inl 96))), (1, .inr (.inr (.inr 3))), (2, .inl a1), (3, .inl a2)] [] h _
  have fr : FR [96] h h := FR.rf _ _
  have b1 : (0 : Int) ≤ (h.1 96 12).toInt ∧ (h.1 96 12).toInt ≤ 3 := hI.1 96 12
  have b2 : (0 : Int) ≤ (h.1 96 8).toInt ∧ (h.1 96 8).toInt ≤ 500 := hI.1 96 8
  have b3 : (0 : Int) ≤ (h.1 96 7).toInt ∧ (h.1 96 7).toInt ≤ 500 := hI.1 96 7
  have b4 : (0 : Int) ≤ (h.1 96 5).toInt ∧ (h.1 96 5).toInt ≤ 500 := hI.1 96 5
  refine R_aload_n (k := 0) rfl rfl rfl ?_
  refine R_aload_c (k := 1) rfl rfl rfl (by decide) ?_
  refine R_callV (v := .inr (.inr (.inl 96))) (As := [.inr (.inr (.inr 3))]) (rest := []) rfl mt_9_i202 pp_X9_needs (by decide) rfl rfl rfl (Nat.le_of_ble_eq_true rfl) (Nat.le_of_ble_eq_true rfl) ((g_X9_needs_6 h hI).mono (fun r5 h6 p7 => ?_))
  obtain ⟨hJ, fj, ⟨kp8, kp9, xq10, xq11, -⟩, rfl⟩ := p7
  have f12 := fj
  have fr := fr.trans fj (by decide)
  have hI := hJ
  have b13 : (0 : Int) ≤ (h6.1 96 12).toInt ∧ (h6.1 96 12).toInt ≤ 3 := hI.1 96 12
  have b14 : (0 : Int) ≤ (h6.1 96 8).toInt ∧ (h6.1 96 8).toInt ≤ 500 := hI.1 96 8
  show RUN d_X9_told 5 [(0, .inr (.inr (.inl 96))), (1, .inr (.inr (.inr 3))), (2, .inl a1), (3, .inl a2)] [] h6 _
  refine R_aload_n (k := 0) rfl rfl rfl ?_
  refine R_iload_n (k := 2) rfl rfl rfl ?_
  refine R_iload_n (k := 3) rfl rfl rfl ?_
  refine R_callV (v := .inr (.inr (.inl 96))) (As := [.inl a1, .inl a2]) (rest := []) rfl mt_9_i206 pp_X9_number (by decide) rfl rfl rfl (Nat.le_of_ble_eq_true rfl) (Nat.le_of_ble_eq_true rfl) ((g_X9_number h6 hI a1 a2 (by omega) (by omega)).mono (fun r15 h16 p17 => ?_))
  obtain ⟨hJ, fj, ⟨kp18, kp19, xq20, xq21, -⟩, x24, rfl, q25, zq22, zq23, -⟩ := p17
  have f26 := fj
  have fr := fr.trans fj (by decide)
  have hI := hJ
  have b27 : (0 : Int) ≤ (h16.1 96 12).toInt ∧ (h16.1 96 12).toInt ≤ 3 := hI.1 96 12
  have b28 : (0 : Int) ≤ (h16.1 96 8).toInt ∧ (h16.1 96 8).toInt ≤ 500 := hI.1 96 8
  show RUN d_X9_told 11 [(0, .inr (.inr (.inl 96))), (1, .inr (.inr (.inr 3))), (2, .inl a1), (3, .inl a2)] [.inl x24] h16 _
  exact R_iret rfl rfl rfl ⟨hI, fr, ⟨by omega, by omega, by omega, by omega, trivial⟩, _, rfl, ⟨by omega, by omega, by omega, trivial⟩⟩
abbrev qg_X9_is_11 (h : PH)  : Option PV → PH → Prop := fun r h' => h = h' ∧ ∃ z : Int32, r = some (.inl z) ∧ ((0 ≤ z.toInt ∧ z.toInt ≤ 1))
set_option maxHeartbeats 4000000 in
set_option maxRecDepth 100000 in
theorem g_X9_is_11 (h : PH) (hI : INV h)  : CALL d_X9_is [.inr (.inr (.inl 96)), .inr (.inr (.inr 4))] h (qg_X9_is_11 h) := by
  show RUN d_X9_is 0 [(0, .inr (.inr (.inl 96))), (1, .inr (.inr (.inr 4)))] [] h _
  refine R_aload_n (k := 0) rfl rfl rfl ?_
  have b1 : (0 : Int) ≤ (h.1 96 12).toInt ∧ (h.1 96 12).toInt ≤ 3 := hI.1 96 12
  refine R_callV (v := .inr (.inr (.inl 96))) (As := []) (rest := []) rfl mt_9_i176 pp_X9_good (by decide) rfl rfl rfl (Nat.le_of_ble_eq_true rfl) (Nat.le_of_ble_eq_true rfl) ((k_X9_good h hI).mono (fun r2 h3 p4 => ?_))
  obtain ⟨rfl, x5, rfl, q6 | q6⟩ := p4
  · show RUN d_X9_is 4 [(0, .inr (.inr (.inl 96))), (1, .inr (.inr (.inr 4)))] [.inl x5] h _
    refine N_if_eq (a := x5.toInt) 35 rfl rfl rfl (fun c7 => ?_) (fun c7 => ?_)
    · refine R_iconst 0 rfl rfl ?_
      refine R_istore_n (k := 2) rfl [(2, .inl 0), (0, .inr (.inr (.inl 96))), (1, .inr (.inr (.inr 4)))] rfl rfl (by decide) ?_
      refine R_iconst 0 rfl rfl ?_
      refine R_istore_n (k := 3) rfl [(3, .inl 0), (2, .inl 0), (0, .inr (.inr (.inl 96))), (1, .inr (.inr (.inr 4)))] rfl rfl (by decide) ?_
      have lp9 : ∀ (n8 : Nat) (x10 : Int32) (x11 : Int32), 0 ≤ x10.toInt ∧ x10.toInt ≤ 0 → 0 ≤ x11.toInt ∧ x11.toInt ≤ 0 → 0 < n8 → RUN d_X9_is 39 [(3, .inl x11), (2, .inl x10), (0, .inr (.inr (.inl 96))), (1, .inr (.inr (.inr 4)))] [] h (qg_X9_is_11 h) := by
        intro n8
        induction n8 with
        | zero => intro x10 x11 m13 m14 hz; exact absurd hz (Nat.not_lt_zero _)
        | succ n8 ih12 =>
          intro x10 x11 m13 m14 hz
          refine R_iload_n (k := 3) rfl rfl rfl ?_
          refine R_aload_c (k := 1) rfl rfl rfl (by decide) ?_
          refine R_callV (v := .inr (.inr (.inr 4))) (As := []) (rest := [.inl x11]) rfl mt_9_i180 pp_J0_length_8abf5 (by decide) rfl rfl rfl (Nat.le_of_ble_eq_true rfl) (Nat.le_of_ble_eq_true rfl) ((k_J0_length_8abf5_11 h hI).mono (fun r15 h16 p17 => ?_))
          obtain ⟨rfl, x18, rfl, q19⟩ := p17
          show RUN d_X9_is 44 [(3, .inl x11), (2, .inl x10), (0, .inr (.inr (.inl 96))), (1, .inr (.inr (.inr 4)))] [.inl x18, .inl x11] h _
          refine N_icmp_ge (a := x11.toInt) (b := x18.toInt) 82 rfl rfl rfl rfl (fun c20 => ?_) (fun c20 => ?_)
          · exfalso; omega
          · refine R_iload_n (k := 2) rfl rfl rfl ?_
            refine N_if_eq (a := x10.toInt) 82 rfl rfl rfl (fun c21 => ?_) (fun c21 => ?_)
            · refine R_iload_n (k := 2) rfl rfl rfl ?_
              exact R_iret rfl rfl (nar_z (by omega)) ⟨rfl, _, rfl, by omega⟩
            · exfalso; omega
      exact lp9 _ (0 : Int32) (0 : Int32) (by decide) (by decide) (Nat.lt_succ_self _)
    · exfalso; omega
  · show RUN d_X9_is 4 [(0, .inr (.inr (.inl 96))), (1, .inr (.inr (.inr 4)))] [.inl x5] h _
    refine N_if_eq (a := x5.toInt) 35 rfl rfl rfl (fun c22 => ?_) (fun c22 => ?_)
    · exfalso; omega
    · refine R_aload_n (k := 0) rfl rfl rfl ?_
      refine R_getf_i (j := 10) rfl ft_9_152 sh_96 rfl ?_
      refine R_iconst 1 rfl rfl ?_
      refine N_icmp_ne (a := (h.1 96 10).toInt) (b := 1) 35 rfl rfl rfl (by decide) (fun c23 => ?_) (fun c23 => ?_)
      · refine R_iconst 0 rfl rfl ?_
        refine R_istore_n (k := 2) rfl [(2, .inl 0), (0, .inr (.inr (.inl 96))), (1, .inr (.inr (.inr 4)))] rfl rfl (by decide) ?_
        refine R_iconst 0 rfl rfl ?_
        refine R_istore_n (k := 3) rfl [(3, .inl 0), (2, .inl 0), (0, .inr (.inr (.inl 96))), (1, .inr (.inr (.inr 4)))] rfl rfl (by decide) ?_
        have lp25 : ∀ (n24 : Nat) (x26 : Int32) (x27 : Int32), 0 ≤ x26.toInt ∧ x26.toInt ≤ 0 → 0 ≤ x27.toInt ∧ x27.toInt ≤ 0 → 0 < n24 → RUN d_X9_is 39 [(3, .inl x27), (2, .inl x26), (0, .inr (.inr (.inl 96))), (1, .inr (.inr (.inr 4)))] [] h (qg_X9_is_11 h) := by
          intro n24
          induction n24 with
          | zero => intro x26 x27 m29 m30 hz; exact absurd hz (Nat.not_lt_zero _)
          | succ n24 ih28 =>
            intro x26 x27 m29 m30 hz
            refine R_iload_n (k := 3) rfl rfl rfl ?_
            refine R_aload_c (k := 1) rfl rfl rfl (by decide) ?_
            refine R_callV (v := .inr (.inr (.inr 4))) (As := []) (rest := [.inl x27]) rfl mt_9_i180 pp_J0_length_8abf5 (by decide) rfl rfl rfl (Nat.le_of_ble_eq_true rfl) (Nat.le_of_ble_eq_true rfl) ((k_J0_length_8abf5_11 h hI).mono (fun r31 h32 p33 => ?_))
            obtain ⟨rfl, x34, rfl, q35⟩ := p33
            show RUN d_X9_is 44 [(3, .inl x27), (2, .inl x26), (0, .inr (.inr (.inl 96))), (1, .inr (.inr (.inr 4)))] [.inl x34, .inl x27] h _
            refine N_icmp_ge (a := x27.toInt) (b := x34.toInt) 82 rfl rfl rfl rfl (fun c36 => ?_) (fun c36 => ?_)
            · exfalso; omega
            · refine R_iload_n (k := 2) rfl rfl rfl ?_
              refine N_if_eq (a := x26.toInt) 82 rfl rfl rfl (fun c37 => ?_) (fun c37 => ?_)
              · refine R_iload_n (k := 2) rfl rfl rfl ?_
                exact R_iret rfl rfl (nar_z (by omega)) ⟨rfl, _, rfl, by omega⟩
              · exfalso; omega
        exact lp25 _ (0 : Int32) (0 : Int32) (by decide) (by decide) (Nat.lt_succ_self _)
      · refine R_aload_n (k := 0) rfl rfl rfl ?_
        refine R_getf_i (j := 8) rfl ft_9_142 sh_96 rfl ?_
        have b38 : (0 : Int) ≤ (h.1 96 8).toInt ∧ (h.1 96 8).toInt ≤ 500 := hI.1 96 8
        refine R_aload_n (k := 0) rfl rfl rfl ?_
        refine R_getf_i (j := 9) rfl ft_9_149 sh_96 rfl ?_
        have b39 : (0 : Int) ≤ (h.1 96 9).toInt ∧ (h.1 96 9).toInt ≤ 500 := hI.1 96 9
        refine N_isub (a := (h.1 96 8).toInt) (b := (h.1 96 9).toInt) rfl rfl rfl (by omega) (fun x40 q41 => ?_)
        refine R_aload_c (k := 1) rfl rfl rfl (by decide) ?_
        refine R_callV (v := .inr (.inr (.inr 4))) (As := []) (rest := [.inl x40]) rfl mt_9_i180 pp_J0_length_8abf5 (by decide) rfl rfl rfl (Nat.le_of_ble_eq_true rfl) (Nat.le_of_ble_eq_true rfl) ((k_J0_length_8abf5_11 h hI).mono (fun r42 h43 p44 => ?_))
        obtain ⟨rfl, x45, rfl, q46⟩ := p44
        show RUN d_X9_is 28 [(0, .inr (.inr (.inl 96))), (1, .inr (.inr (.inr 4)))] [.inl x45, .inl x40] h _
        refine N_icmp_ne (a := x40.toInt) (b := x45.toInt) 35 rfl rfl rfl rfl (fun c47 => ?_) (fun c47 => ?_)
        · refine R_iconst 0 rfl rfl ?_
          refine R_istore_n (k := 2) rfl [(2, .inl 0), (0, .inr (.inr (.inl 96))), (1, .inr (.inr (.inr 4)))] rfl rfl (by decide) ?_
          refine R_iconst 0 rfl rfl ?_
          refine R_istore_n (k := 3) rfl [(3, .inl 0), (2, .inl 0), (0, .inr (.inr (.inl 96))), (1, .inr (.inr (.inr 4)))] rfl rfl (by decide) ?_
          have lp49 : ∀ (n48 : Nat) (x50 : Int32) (x51 : Int32), 0 ≤ x50.toInt ∧ x50.toInt ≤ 0 → 0 ≤ x51.toInt ∧ x51.toInt ≤ 0 → 0 < n48 → RUN d_X9_is 39 [(3, .inl x51), (2, .inl x50), (0, .inr (.inr (.inl 96))), (1, .inr (.inr (.inr 4)))] [] h (qg_X9_is_11 h) := by
            intro n48
            induction n48 with
            | zero => intro x50 x51 m53 m54 hz; exact absurd hz (Nat.not_lt_zero _)
            | succ n48 ih52 =>
              intro x50 x51 m53 m54 hz
              refine R_iload_n (k := 3) rfl rfl rfl ?_
              refine R_aload_c (k := 1) rfl rfl rfl (by decide) ?_
              refine R_callV (v := .inr (.inr (.inr 4))) (As := []) (rest := [.inl x51]) rfl mt_9_i180 pp_J0_length_8abf5 (by decide) rfl rfl rfl (Nat.le_of_ble_eq_true rfl) (Nat.le_of_ble_eq_true rfl) ((k_J0_length_8abf5_11 h hI).mono (fun r55 h56 p57 => ?_))
              obtain ⟨rfl, x58, rfl, q59⟩ := p57
              show RUN d_X9_is 44 [(3, .inl x51), (2, .inl x50), (0, .inr (.inr (.inl 96))), (1, .inr (.inr (.inr 4)))] [.inl x58, .inl x51] h _
              refine N_icmp_ge (a := x51.toInt) (b := x58.toInt) 82 rfl rfl rfl rfl (fun c60 => ?_) (fun c60 => ?_)
              · exfalso; omega
              · refine R_iload_n (k := 2) rfl rfl rfl ?_
                refine N_if_eq (a := x50.toInt) 82 rfl rfl rfl (fun c61 => ?_) (fun c61 => ?_)
                · refine R_iload_n (k := 2) rfl rfl rfl ?_
                  exact R_iret rfl rfl (nar_z (by omega)) ⟨rfl, _, rfl, by omega⟩
                · exfalso; omega
          exact lp49 _ (0 : Int32) (0 : Int32) (by decide) (by decide) (Nat.lt_succ_self _)
        · refine R_iconst 1 rfl rfl ?_
          refine R_goto 36 rfl rfl ?_
          refine R_istore_n (k := 2) rfl [(2, .inl 1), (0, .inr (.inr (.inl 96))), (1, .inr (.inr (.inr 4)))] rfl rfl (by decide) ?_
          refine R_iconst 0 rfl rfl ?_
          refine R_istore_n (k := 3) rfl [(3, .inl 0), (2, .inl 1), (0, .inr (.inr (.inl 96))), (1, .inr (.inr (.inr 4)))] rfl rfl (by decide) ?_
          have lp63 : ∀ (n62 : Nat) (x64 : Int32) (x65 : Int32), 0 ≤ x64.toInt ∧ x64.toInt ≤ 1 → 0 ≤ x65.toInt ∧ x65.toInt ≤ 4 → (4 - x65.toInt).toNat < n62 → RUN d_X9_is 39 [(3, .inl x65), (2, .inl x64), (0, .inr (.inr (.inl 96))), (1, .inr (.inr (.inr 4)))] [] h (qg_X9_is_11 h) := by
            intro n62
            induction n62 with
            | zero => intro x64 x65 m67 m68 hz; exact absurd hz (Nat.not_lt_zero _)
            | succ n62 ih66 =>
              intro x64 x65 m67 m68 hz
              refine R_iload_n (k := 3) rfl rfl rfl ?_
              refine R_aload_c (k := 1) rfl rfl rfl (by decide) ?_
              refine R_callV (v := .inr (.inr (.inr 4))) (As := []) (rest := [.inl x65]) rfl mt_9_i180 pp_J0_length_8abf5 (by decide) rfl rfl rfl (Nat.le_of_ble_eq_true rfl) (Nat.le_of_ble_eq_true rfl) ((k_J0_length_8abf5_11 h hI).mono (fun r69 h70 p71 => ?_))
              obtain ⟨rfl, x72, rfl, q73⟩ := p71
              show RUN d_X9_is 44 [(3, .inl x65), (2, .inl x64), (0, .inr (.inr (.inl 96))), (1, .inr (.inr (.inr 4)))] [.inl x72, .inl x65] h _
              refine N_icmp_ge (a := x65.toInt) (b := x72.toInt) 82 rfl rfl rfl rfl (fun c74 => ?_) (fun c74 => ?_)
              · refine R_iload_n (k := 2) rfl rfl rfl ?_
                exact R_iret rfl rfl (nar_z (by omega)) ⟨rfl, _, rfl, by omega⟩
              · refine R_iload_n (k := 2) rfl rfl rfl ?_
                refine N_if_eq (a := x64.toInt) 82 rfl rfl rfl (fun c75 => ?_) (fun c75 => ?_)
                · refine R_iload_n (k := 2) rfl rfl rfl ?_
                  exact R_iret rfl rfl (nar_z (by omega)) ⟨rfl, _, rfl, by omega⟩
                · refine R_aload_n (k := 0) rfl rfl rfl ?_
                  refine R_getf_r (j := 4) rfl ft_9_20 sh_96 rfl ?_
                  refine R_aload_n (k := 0) rfl rfl rfl ?_
                  refine R_getf_i (j := 9) rfl ft_9_149 sh_96 rfl ?_
                  refine R_iload_n (k := 3) rfl rfl rfl ?_
                  refine N_iadd (a := (h.1 96 9).toInt) (b := x65.toInt) rfl rfl rfl (by omega) (fun x76 q77 => ?_)
                  refine R_bald rfl sh_100 ⟨by omega, by omega⟩ ?_
                  refine N_any (fun x78 => ?_)
                  refine R_aload_c (k := 1) rfl rfl rfl (by decide) ?_
                  refine R_iload_n (k := 3) rfl rfl rfl ?_
                  refine R_callV (v := .inr (.inr (.inr 4))) (As := [.inl x65]) (rest := [.inl x78]) rfl mt_9_i184 pp_J0_charAt_5068e (by decide) rfl rfl rfl (Nat.le_of_ble_eq_true rfl) (Nat.le_of_ble_eq_true rfl) ((k_J0_charAt_5068e_11 h hI x65 (by omega)).mono (fun r79 h80 p81 => ?_))
                  obtain ⟨rfl, x82, rfl, q83⟩ := p81
                  show RUN d_X9_is 67 [(3, .inl x65), (2, .inl x64), (0, .inr (.inr (.inl 96))), (1, .inr (.inr (.inr 4)))] [.inl x82, .inl x78] h _
                  refine N_icmp_ne (a := x78.toInt) (b := x82.toInt) 74 rfl rfl rfl rfl (fun c84 => ?_) (fun c84 => ?_)
                  · refine R_iconst 0 rfl rfl ?_
                    refine R_istore_n (k := 2) rfl [(2, .inl 0), (3, .inl x65), (0, .inr (.inr (.inl 96))), (1, .inr (.inr (.inr 4)))] rfl rfl (by decide) ?_
                    refine N_iinc (a := x65.toInt) (c := 1) (fun w => [(3, .inl w), (2, .inl 0), (0, .inr (.inr (.inl 96))), (1, .inr (.inr (.inr 4)))]) rfl rfl (fun _ => rfl) (by decide) rfl (by decide) (by omega) (fun x85 q86 => ?_)
                    refine R_goto 39 rfl rfl ?_
                    exact RUN_weak (psub_cons rfl (psub_cons rfl (psub_cons rfl (psub_cons rfl (psub_nil _))))) (ih66 (0 : Int32) x85 (by decide) (by omega) (by omega))
                  · refine R_iconst 1 rfl rfl ?_
                    refine R_goto 75 rfl rfl ?_
                    refine R_istore_n (k := 2) rfl [(2, .inl 1), (3, .inl x65), (0, .inr (.inr (.inl 96))), (1, .inr (.inr (.inr 4)))] rfl rfl (by decide) ?_
                    refine N_iinc (a := x65.toInt) (c := 1) (fun w => [(3, .inl w), (2, .inl 1), (0, .inr (.inr (.inl 96))), (1, .inr (.inr (.inr 4)))]) rfl rfl (fun _ => rfl) (by decide) rfl (by decide) (by omega) (fun x87 q88 => ?_)
                    refine R_goto 39 rfl rfl ?_
                    exact RUN_weak (psub_cons rfl (psub_cons rfl (psub_cons rfl (psub_cons rfl (psub_nil _))))) (ih66 (1 : Int32) x87 (by decide) (by omega) (by omega))
          exact lp63 _ (1 : Int32) (0 : Int32) (by decide) (by decide) (Nat.lt_succ_self _)

abbrev qg_X9_takes_10 (h : PH)  : Option PV → PH → Prop := fun r h' => INV h' ∧ FR [96] h h' ∧ ((h'.1 96 12).toInt = (h.1 96 12).toInt ∧ ((h.1 96 12).toInt ≤ (h'.1 96 12).toInt) ∧ ((h.1 96 8).toInt ≤ (h'.1 96 8).toInt) ∧ True) ∧ ∃ z : Int32, r = some (.inl z) ∧ (((0 ≤ z.toInt ∧ z.toInt ≤ 1)) ∧ (z = ansI d_X9_is [.inr (.inr (.inl 96)), .inr (.inr (.inr 4))] h) ∧ (z.toInt = 0 → h' = h) ∧ True)
set_option maxHeartbeats 4000000 in
set_option maxRecDepth 100000 in
theorem g_X9_takes_10 (h : PH) (hI : INV h)  : CALL d_X9_takes [.inr (.inr (.inl 96)), .inr (.inr (.inr 4))] h (qg_X9_takes_10 h) := by
  show RUN d_X9_takes 0 [(0, .inr (.inr (.inl 96))), (1, .inr (.inr (.inr 4)))] [] h _
  have fr : FR [96] h h := FR.rf _ _
  have b1 : (0 : Int) ≤ (h.1 96 12).toInt ∧ (h.1 96 12).toInt ≤ 3 := hI.1 96 12
  have b2 : (0 : Int) ≤ (h.1 96 8).toInt ∧ (h.1 96 8).toInt ≤ 500 := hI.1 96 8
  have b3 : (0 : Int) ≤ (h.1 96 7).toInt ∧ (h.1 96 7).toInt ≤ 500 := hI.1 96 7
  have b4 : (0 : Int) ≤ (h.1 96 5).toInt ∧ (h.1 96 5).toInt ≤ 500 := hI.1 96 5
  refine R_aload_n (k := 0) rfl rfl rfl ?_
  refine R_aload_c (k := 1) rfl rfl rfl (by decide) ?_
  refine R_callV (v := .inr (.inr (.inl 96))) (As := [.inr (.inr (.inr 4))]) (rest := []) rfl mt_9_i188 pp_X9_is (by decide) rfl rfl rfl (Nat.le_of_ble_eq_true rfl) (Nat.le_of_ble_eq_true rfl) ((CALL_ans (g_X9_is_11 h hI)).mono (fun r5 h6 p7 => ?_))
  obtain ⟨⟨rfl, x8, rfl, q9⟩, za10⟩ := p7
  have za10 := za10 _ rfl
  show RUN d_X9_takes 5 [(0, .inr (.inr (.inl 96))), (1, .inr (.inr (.inr 4)))] [.inl x8] h _
  refine R_istore_n (k := 2) rfl [(2, .inl x8), (0, .inr (.inr (.inl 96))), (1, .inr (.inr (.inr 4)))] rfl rfl (by decide) ?_
  refine R_iload_n (k := 2) rfl rfl rfl ?_
  refine N_if_eq (a := x8.toInt) 14 rfl rfl rfl (fun c11 => ?_) (fun c11 => ?_)
  · refine R_iload_n (k := 2) rfl rfl rfl ?_
    exact R_iret rfl rfl (nar_z (by omega)) ⟨hI, fr, ⟨by omega, by omega, by omega, trivial⟩, _, rfl, ⟨by omega, za10, (fun _ => rfl), trivial⟩⟩
  · refine R_aload_n (k := 0) rfl rfl rfl ?_
    refine R_callV (v := .inr (.inr (.inl 96))) (As := []) (rest := []) rfl mt_9_i192 pp_X9_advance (by decide) rfl rfl rfl (Nat.le_of_ble_eq_true rfl) (Nat.le_of_ble_eq_true rfl) ((g_X9_advance h hI).mono (fun r12 h13 p14 => ?_))
    obtain ⟨hJ, fj, ⟨kp15, kp16, kp17, kp18, xq19, xq20, -⟩, rfl⟩ := p14
    have f21 := fj
    have fr := fr.trans fj (by decide)
    have hI := hJ
    have b22 : (0 : Int) ≤ (h13.1 96 8).toInt ∧ (h13.1 96 8).toInt ≤ 500 := hI.1 96 8
    show RUN d_X9_takes 14 [(2, .inl x8), (0, .inr (.inr (.inl 96))), (1, .inr (.inr (.inr 4)))] [] h13 _
    refine R_iload_n (k := 2) rfl rfl rfl ?_
    exact R_iret rfl rfl (nar_z (by omega)) ⟨hI, fr, ⟨by omega, by omega, by omega, trivial⟩, _, rfl, ⟨by omega, za10, (fun hc => absurd hc (by omega)), trivial⟩⟩
abbrev qg_X9_needs_7 (h : PH)  : Option PV → PH → Prop := fun r h' => INV h' ∧ FR [96] h h' ∧ (((h.1 96 12).toInt ≤ (h'.1 96 12).toInt) ∧ ((h.1 96 8).toInt ≤ (h'.1 96 8).toInt) ∧ True) ∧ r = none
set_option maxHeartbeats 4000000 in
set_option maxRecDepth 100000 in
theorem g_X9_needs_7 (h : PH) (hI : INV h)  : CALL d_X9_needs [.inr (.inr (.inl 96)), .inr (.inr (.inr 4))] h (qg_X9_needs_7 h) := by
  show RUN d_X9_needs 0 [(0, .inr (.inr (.inl 96))), (1, .inr (.inr (.inr 4)))] [] h _
  have fr : FR [96] h h := FR.rf _ _
  have b1 : (0 : Int) ≤ (h.1 96 12).toInt ∧ (h.1 96 12).toInt ≤ 3 := hI.1 96 12
  have b2 : (0 : Int) ≤ (h.1 96 8).toInt ∧ (h.1 96 8).toInt ≤ 500 := hI.1 96 8
  have b3 : (0 : Int) ≤ (h.1 96 7).toInt ∧ (h.1 96 7).toInt ≤ 500 := hI.1 96 7
  have b4 : (0 : Int) ≤ (h.1 96 5).toInt ∧ (h.1 96 5).toInt ≤ 500 := hI.1 96 5
  refine R_aload_n (k := 0) rfl rfl rfl ?_
  refine R_aload_c (k := 1) rfl rfl rfl (by decide) ?_
  refine R_callV (v := .inr (.inr (.inl 96))) (As := [.inr (.inr (.inr 4))]) (rest := []) rfl mt_9_i195 pp_X9_takes (by decide) rfl rfl rfl (Nat.le_of_ble_eq_true rfl) (Nat.le_of_ble_eq_true rfl) ((g_X9_takes_10 h hI).mono (fun r5 h6 p7 => ?_))
  obtain ⟨hJ, fj, ⟨kp8, xq9, xq10, -⟩, x13, rfl, q14, zq11, zq12, -⟩ := p7
  have f15 := fj
  have fr := fr.trans fj (by decide)
  have hI := hJ
  have b16 : (0 : Int) ≤ (h6.1 96 8).toInt ∧ (h6.1 96 8).toInt ≤ 500 := hI.1 96 8
  show RUN d_X9_needs 5 [(0, .inr (.inr (.inl 96))), (1, .inr (.inr (.inr 4)))] [.inl x13] h6 _
  refine N_if_ne (a := x13.toInt) 13 rfl rfl rfl (fun c17 => ?_) (fun c17 => ?_)
  · exact R_vret rfl rfl ⟨hI, fr, ⟨by omega, by omega, trivial⟩, rfl⟩
  · refine R_aload_n (k := 0) rfl rfl rfl ?_
    refine R_iconst 1 rfl rfl ?_
    have k18 : (1 : Int32).toInt = 1 := by decide
    refine R_callV (v := .inr (.inr (.inl 96))) (As := [.inl 1]) (rest := []) rfl mt_9_i198 pp_X9_errs (by decide) rfl rfl rfl (Nat.le_of_ble_eq_true rfl) (Nat.le_of_ble_eq_true rfl) ((g_X9_errs h6 hI (1 : Int32) (by decide)).mono (fun r19 h20 p21 => ?_))
    obtain ⟨hJ, fj, ⟨kp22, kp23, kp24, kp25, kp26, xq27, xq28, xq29, -⟩, rfl⟩ := p21
    have f30 := fj
    have fr := fr.trans fj (by decide)
    have hI := hJ
    have b31 : (0 : Int) ≤ (h20.1 96 12).toInt ∧ (h20.1 96 12).toInt ≤ 3 := hI.1 96 12
    show RUN d_X9_needs 13 [(0, .inr (.inr (.inl 96))), (1, .inr (.inr (.inr 4)))] [] h20 _
    exact R_vret rfl rfl ⟨hI, fr, ⟨by omega, by omega, trivial⟩, rfl⟩
abbrev qg_X9_told_6 (h : PH) (a1 : Int32) (a2 : Int32) : Option PV → PH → Prop := fun r h' => INV h' ∧ FR [96] h h' ∧ (((h.1 96 12).toInt ≤ (h'.1 96 12).toInt) ∧ ((h.1 96 8).toInt ≤ (h'.1 96 8).toInt) ∧ True) ∧ ∃ z : Int32, r = some (.inl z) ∧ (((0 ≤ z.toInt ∧ z.toInt ≤ 999)) ∧ ((h'.1 96 12).toInt = 0 → a1.toInt ≤ z.toInt ∧ z.toInt ≤ a2.toInt) ∧ (z.toInt = 0 ∨ (a1.toInt ≤ z.toInt ∧ z.toInt ≤ a2.toInt)) ∧ True)
set_option maxHeartbeats 4000000 in
set_option maxRecDepth 100000 in
theorem g_X9_told_6 (h : PH) (hI : INV h) (a1 : Int32) (a2 : Int32) (h1a : 1 ≤ a1.toInt ∧ a1.toInt ≤ 1) (h2a : 30 ≤ a2.toInt ∧ a2.toInt ≤ 30) : CALL d_X9_told [.inr (.inr (.inl 96)), .inr (.inr (.inr 4)), .inl a1, .inl a2] h (qg_X9_told_6 h a1 a2) := by
  show RUN d_X9_told 0 [(0, .inr (.inr (.inl 96))), (1, .inr (.inr (.inr 4))), (2, .inl a1), (3, .inl a2)] [] h _
  have fr : FR [96] h h := FR.rf _ _
  have b1 : (0 : Int) ≤ (h.1 96 12).toInt ∧ (h.1 96 12).toInt ≤ 3 := hI.1 96 12
  have b2 : (0 : Int) ≤ (h.1 96 8).toInt ∧ (h.1 96 8).toInt ≤ 500 := hI.1 96 8
  have b3 : (0 : Int) ≤ (h.1 96 7).toInt ∧ (h.1 96 7).toInt ≤ 500 := hI.1 96 7
  have b4 : (0 : Int) ≤ (h.1 96 5).toInt ∧ (h.1 96 5).toInt ≤ 500 := hI.1 96 5
  refine R_aload_n (k := 0) rfl rfl rfl ?_
  refine R_aload_c (k := 1) rfl rfl rfl (by decide) ?_
  refine R_callV (v := .inr (.inr (.inl 96))) (As := [.inr (.inr (.inr 4))]) (rest := []) rfl mt_9_i202 pp_X9_needs (by decide) rfl rfl rfl (Nat.le_of_ble_eq_true rfl) (Nat.le_of_ble_eq_true rfl) ((g_X9_needs_7 h hI).mono (fun r5 h6 p7 => ?_))
  obtain ⟨hJ, fj, ⟨xq8, xq9, -⟩, rfl⟩ := p7
  have f10 := fj
  have fr := fr.trans fj (by decide)
  have hI := hJ
  have b11 : (0 : Int) ≤ (h6.1 96 12).toInt ∧ (h6.1 96 12).toInt ≤ 3 := hI.1 96 12
  have b12 : (0 : Int) ≤ (h6.1 96 8).toInt ∧ (h6.1 96 8).toInt ≤ 500 := hI.1 96 8
  show RUN d_X9_told 5 [(0, .inr (.inr (.inl 96))), (1, .inr (.inr (.inr 4))), (2, .inl a1), (3, .inl a2)] [] h6 _
  refine R_aload_n (k := 0) rfl rfl rfl ?_
  refine R_iload_n (k := 2) rfl rfl rfl ?_
  refine R_iload_n (k := 3) rfl rfl rfl ?_
  refine R_callV (v := .inr (.inr (.inl 96))) (As := [.inl a1, .inl a2]) (rest := []) rfl mt_9_i206 pp_X9_number (by decide) rfl rfl rfl (Nat.le_of_ble_eq_true rfl) (Nat.le_of_ble_eq_true rfl) ((g_X9_number h6 hI a1 a2 (by omega) (by omega)).mono (fun r13 h14 p15 => ?_))
  obtain ⟨hJ, fj, ⟨kp16, kp17, xq18, xq19, -⟩, x22, rfl, q23, zq20, zq21, -⟩ := p15
  have f24 := fj
  have fr := fr.trans fj (by decide)
  have hI := hJ
  have b25 : (0 : Int) ≤ (h14.1 96 12).toInt ∧ (h14.1 96 12).toInt ≤ 3 := hI.1 96 12
  have b26 : (0 : Int) ≤ (h14.1 96 8).toInt ∧ (h14.1 96 8).toInt ≤ 500 := hI.1 96 8
  show RUN d_X9_told 11 [(0, .inr (.inr (.inl 96))), (1, .inr (.inr (.inr 4))), (2, .inl a1), (3, .inl a2)] [.inl x22] h14 _
  exact R_iret rfl rfl rfl ⟨hI, fr, ⟨by omega, by omega, trivial⟩, _, rfl, ⟨by omega, by omega, by omega, trivial⟩⟩
abbrev qg_X9_is_12 (h : PH)  : Option PV → PH → Prop := fun r h' => h = h' ∧ ∃ z : Int32, r = some (.inl z) ∧ ((0 ≤ z.toInt ∧ z.toInt ≤ 1))
set_option maxHeartbeats 4000000 in
set_option maxRecDepth 100000 in
theorem g_X9_is_12 (h : PH) (hI : INV h)  : CALL d_X9_is [.inr (.inr (.inl 96)), .inr (.inr (.inr 5))] h (qg_X9_is_12 h) := by
  show RUN d_X9_is 0 [(0, .inr (.inr (.inl 96))), (1, .inr (.inr (.inr 5)))] [] h _
  refine R_aload_n (k := 0) rfl rfl rfl ?_
  have b1 : (0 : Int) ≤ (h.1 96 12).toInt ∧ (h.1 96 12).toInt ≤ 3 := hI.1 96 12
  refine R_callV (v := .inr (.inr (.inl 96))) (As := []) (rest := []) rfl mt_9_i176 pp_X9_good (by decide) rfl rfl rfl (Nat.le_of_ble_eq_true rfl) (Nat.le_of_ble_eq_true rfl) ((k_X9_good h hI).mono (fun r2 h3 p4 => ?_))
  obtain ⟨rfl, x5, rfl, q6 | q6⟩ := p4
  · show RUN d_X9_is 4 [(0, .inr (.inr (.inl 96))), (1, .inr (.inr (.inr 5)))] [.inl x5] h _
    refine N_if_eq (a := x5.toInt) 35 rfl rfl rfl (fun c7 => ?_) (fun c7 => ?_)
    · refine R_iconst 0 rfl rfl ?_
      refine R_istore_n (k := 2) rfl [(2, .inl 0), (0, .inr (.inr (.inl 96))), (1, .inr (.inr (.inr 5)))] rfl rfl (by decide) ?_
      refine R_iconst 0 rfl rfl ?_
      refine R_istore_n (k := 3) rfl [(3, .inl 0), (2, .inl 0), (0, .inr (.inr (.inl 96))), (1, .inr (.inr (.inr 5)))] rfl rfl (by decide) ?_
      have lp9 : ∀ (n8 : Nat) (x10 : Int32) (x11 : Int32), 0 ≤ x10.toInt ∧ x10.toInt ≤ 0 → 0 ≤ x11.toInt ∧ x11.toInt ≤ 0 → 0 < n8 → RUN d_X9_is 39 [(3, .inl x11), (2, .inl x10), (0, .inr (.inr (.inl 96))), (1, .inr (.inr (.inr 5)))] [] h (qg_X9_is_12 h) := by
        intro n8
        induction n8 with
        | zero => intro x10 x11 m13 m14 hz; exact absurd hz (Nat.not_lt_zero _)
        | succ n8 ih12 =>
          intro x10 x11 m13 m14 hz
          refine R_iload_n (k := 3) rfl rfl rfl ?_
          refine R_aload_c (k := 1) rfl rfl rfl (by decide) ?_
          refine R_callV (v := .inr (.inr (.inr 5))) (As := []) (rest := [.inl x11]) rfl mt_9_i180 pp_J0_length_8abf5 (by decide) rfl rfl rfl (Nat.le_of_ble_eq_true rfl) (Nat.le_of_ble_eq_true rfl) ((k_J0_length_8abf5_12 h hI).mono (fun r15 h16 p17 => ?_))
          obtain ⟨rfl, x18, rfl, q19⟩ := p17
          show RUN d_X9_is 44 [(3, .inl x11), (2, .inl x10), (0, .inr (.inr (.inl 96))), (1, .inr (.inr (.inr 5)))] [.inl x18, .inl x11] h _
          refine N_icmp_ge (a := x11.toInt) (b := x18.toInt) 82 rfl rfl rfl rfl (fun c20 => ?_) (fun c20 => ?_)
          · exfalso; omega
          · refine R_iload_n (k := 2) rfl rfl rfl ?_
            refine N_if_eq (a := x10.toInt) 82 rfl rfl rfl (fun c21 => ?_) (fun c21 => ?_)
            · refine R_iload_n (k := 2) rfl rfl rfl ?_
              exact R_iret rfl rfl (nar_z (by omega)) ⟨rfl, _, rfl, by omega⟩
            · exfalso; omega
      exact lp9 _ (0 : Int32) (0 : Int32) (by decide) (by decide) (Nat.lt_succ_self _)
    · exfalso; omega
  · show RUN d_X9_is 4 [(0, .inr (.inr (.inl 96))), (1, .inr (.inr (.inr 5)))] [.inl x5] h _
    refine N_if_eq (a := x5.toInt) 35 rfl rfl rfl (fun c22 => ?_) (fun c22 => ?_)
    · exfalso; omega
    · refine R_aload_n (k := 0) rfl rfl rfl ?_
      refine R_getf_i (j := 10) rfl ft_9_152 sh_96 rfl ?_
      refine R_iconst 1 rfl rfl ?_
      refine N_icmp_ne (a := (h.1 96 10).toInt) (b := 1) 35 rfl rfl rfl (by decide) (fun c23 => ?_) (fun c23 => ?_)
      · refine R_iconst 0 rfl rfl ?_
        refine R_istore_n (k := 2) rfl [(2, .inl 0), (0, .inr (.inr (.inl 96))), (1, .inr (.inr (.inr 5)))] rfl rfl (by decide) ?_
        refine R_iconst 0 rfl rfl ?_
        refine R_istore_n (k := 3) rfl [(3, .inl 0), (2, .inl 0), (0, .inr (.inr (.inl 96))), (1, .inr (.inr (.inr 5)))] rfl rfl (by decide) ?_
        have lp25 : ∀ (n24 : Nat) (x26 : Int32) (x27 : Int32), 0 ≤ x26.toInt ∧ x26.toInt ≤ 0 → 0 ≤ x27.toInt ∧ x27.toInt ≤ 0 → 0 < n24 → RUN d_X9_is 39 [(3, .inl x27), (2, .inl x26), (0, .inr (.inr (.inl 96))), (1, .inr (.inr (.inr 5)))] [] h (qg_X9_is_12 h) := by
          intro n24
          induction n24 with
          | zero => intro x26 x27 m29 m30 hz; exact absurd hz (Nat.not_lt_zero _)
          | succ n24 ih28 =>
            intro x26 x27 m29 m30 hz
            refine R_iload_n (k := 3) rfl rfl rfl ?_
            refine R_aload_c (k := 1) rfl rfl rfl (by decide) ?_
            refine R_callV (v := .inr (.inr (.inr 5))) (As := []) (rest := [.inl x27]) rfl mt_9_i180 pp_J0_length_8abf5 (by decide) rfl rfl rfl (Nat.le_of_ble_eq_true rfl) (Nat.le_of_ble_eq_true rfl) ((k_J0_length_8abf5_12 h hI).mono (fun r31 h32 p33 => ?_))
            obtain ⟨rfl, x34, rfl, q35⟩ := p33
            show RUN d_X9_is 44 [(3, .inl x27), (2, .inl x26), (0, .inr (.inr (.inl 96))), (1, .inr (.inr (.inr 5)))] [.inl x34, .inl x27] h _
            refine N_icmp_ge (a := x27.toInt) (b := x34.toInt) 82 rfl rfl rfl rfl (fun c36 => ?_) (fun c36 => ?_)
            · exfalso; omega
            · refine R_iload_n (k := 2) rfl rfl rfl ?_
              refine N_if_eq (a := x26.toInt) 82 rfl rfl rfl (fun c37 => ?_) (fun c37 => ?_)
              · refine R_iload_n (k := 2) rfl rfl rfl ?_
                exact R_iret rfl rfl (nar_z (by omega)) ⟨rfl, _, rfl, by omega⟩
              · exfalso; omega
        exact lp25 _ (0 : Int32) (0 : Int32) (by decide) (by decide) (Nat.lt_succ_self _)
      · refine R_aload_n (k := 0) rfl rfl rfl ?_
        refine R_getf_i (j := 8) rfl ft_9_142 sh_96 rfl ?_
        have b38 : (0 : Int) ≤ (h.1 96 8).toInt ∧ (h.1 96 8).toInt ≤ 500 := hI.1 96 8
        refine R_aload_n (k := 0) rfl rfl rfl ?_
        refine R_getf_i (j := 9) rfl ft_9_149 sh_96 rfl ?_
        have b39 : (0 : Int) ≤ (h.1 96 9).toInt ∧ (h.1 96 9).toInt ≤ 500 := hI.1 96 9
        refine N_isub (a := (h.1 96 8).toInt) (b := (h.1 96 9).toInt) rfl rfl rfl (by omega) (fun x40 q41 => ?_)
        refine R_aload_c (k := 1) rfl rfl rfl (by decide) ?_
        refine R_callV (v := .inr (.inr (.inr 5))) (As := []) (rest := [.inl x40]) rfl mt_9_i180 pp_J0_length_8abf5 (by decide) rfl rfl rfl (Nat.le_of_ble_eq_true rfl) (Nat.le_of_ble_eq_true rfl) ((k_J0_length_8abf5_12 h hI).mono (fun r42 h43 p44 => ?_))
        obtain ⟨rfl, x45, rfl, q46⟩ := p44
        show RUN d_X9_is 28 [(0, .inr (.inr (.inl 96))), (1, .inr (.inr (.inr 5)))] [.inl x45, .inl x40] h _
        refine N_icmp_ne (a := x40.toInt) (b := x45.toInt) 35 rfl rfl rfl rfl (fun c47 => ?_) (fun c47 => ?_)
        · refine R_iconst 0 rfl rfl ?_
          refine R_istore_n (k := 2) rfl [(2, .inl 0), (0, .inr (.inr (.inl 96))), (1, .inr (.inr (.inr 5)))] rfl rfl (by decide) ?_
          refine R_iconst 0 rfl rfl ?_
          refine R_istore_n (k := 3) rfl [(3, .inl 0), (2, .inl 0), (0, .inr (.inr (.inl 96))), (1, .inr (.inr (.inr 5)))] rfl rfl (by decide) ?_
          have lp49 : ∀ (n48 : Nat) (x50 : Int32) (x51 : Int32), 0 ≤ x50.toInt ∧ x50.toInt ≤ 0 → 0 ≤ x51.toInt ∧ x51.toInt ≤ 0 → 0 < n48 → RUN d_X9_is 39 [(3, .inl x51), (2, .inl x50), (0, .inr (.inr (.inl 96))), (1, .inr (.inr (.inr 5)))] [] h (qg_X9_is_12 h) := by
            intro n48
            induction n48 with
            | zero => intro x50 x51 m53 m54 hz; exact absurd hz (Nat.not_lt_zero _)
            | succ n48 ih52 =>
              intro x50 x51 m53 m54 hz
              refine R_iload_n (k := 3) rfl rfl rfl ?_
              refine R_aload_c (k := 1) rfl rfl rfl (by decide) ?_
              refine R_callV (v := .inr (.inr (.inr 5))) (As := []) (rest := [.inl x51]) rfl mt_9_i180 pp_J0_length_8abf5 (by decide) rfl rfl rfl (Nat.le_of_ble_eq_true rfl) (Nat.le_of_ble_eq_true rfl) ((k_J0_length_8abf5_12 h hI).mono (fun r55 h56 p57 => ?_))
              obtain ⟨rfl, x58, rfl, q59⟩ := p57
              show RUN d_X9_is 44 [(3, .inl x51), (2, .inl x50), (0, .inr (.inr (.inl 96))), (1, .inr (.inr (.inr 5)))] [.inl x58, .inl x51] h _
              refine N_icmp_ge (a := x51.toInt) (b := x58.toInt) 82 rfl rfl rfl rfl (fun c60 => ?_) (fun c60 => ?_)
              · exfalso; omega
              · refine R_iload_n (k := 2) rfl rfl rfl ?_
                refine N_if_eq (a := x50.toInt) 82 rfl rfl rfl (fun c61 => ?_) (fun c61 => ?_)
                · refine R_iload_n (k := 2) rfl rfl rfl ?_
                  exact R_iret rfl rfl (nar_z (by omega)) ⟨rfl, _, rfl, by omega⟩
                · exfalso; omega
          exact lp49 _ (0 : Int32) (0 : Int32) (by decide) (by decide) (Nat.lt_succ_self _)
        · refine R_iconst 1 rfl rfl ?_
          refine R_goto 36 rfl rfl ?_
          refine R_istore_n (k := 2) rfl [(2, .inl 1), (0, .inr (.inr (.inl 96))), (1, .inr (.inr (.inr 5)))] rfl rfl (by decide) ?_
          refine R_iconst 0 rfl rfl ?_
          refine R_istore_n (k := 3) rfl [(3, .inl 0), (2, .inl 1), (0, .inr (.inr (.inl 96))), (1, .inr (.inr (.inr 5)))] rfl rfl (by decide) ?_
          have lp63 : ∀ (n62 : Nat) (x64 : Int32) (x65 : Int32), 0 ≤ x64.toInt ∧ x64.toInt ≤ 1 → 0 ≤ x65.toInt ∧ x65.toInt ≤ 4 → (4 - x65.toInt).toNat < n62 → RUN d_X9_is 39 [(3, .inl x65), (2, .inl x64), (0, .inr (.inr (.inl 96))), (1, .inr (.inr (.inr 5)))] [] h (qg_X9_is_12 h) := by
            intro n62
            induction n62 with
            | zero => intro x64 x65 m67 m68 hz; exact absurd hz (Nat.not_lt_zero _)
            | succ n62 ih66 =>
              intro x64 x65 m67 m68 hz
              refine R_iload_n (k := 3) rfl rfl rfl ?_
              refine R_aload_c (k := 1) rfl rfl rfl (by decide) ?_
              refine R_callV (v := .inr (.inr (.inr 5))) (As := []) (rest := [.inl x65]) rfl mt_9_i180 pp_J0_length_8abf5 (by decide) rfl rfl rfl (Nat.le_of_ble_eq_true rfl) (Nat.le_of_ble_eq_true rfl) ((k_J0_length_8abf5_12 h hI).mono (fun r69 h70 p71 => ?_))
              obtain ⟨rfl, x72, rfl, q73⟩ := p71
              show RUN d_X9_is 44 [(3, .inl x65), (2, .inl x64), (0, .inr (.inr (.inl 96))), (1, .inr (.inr (.inr 5)))] [.inl x72, .inl x65] h _
              refine N_icmp_ge (a := x65.toInt) (b := x72.toInt) 82 rfl rfl rfl rfl (fun c74 => ?_) (fun c74 => ?_)
              · refine R_iload_n (k := 2) rfl rfl rfl ?_
                exact R_iret rfl rfl (nar_z (by omega)) ⟨rfl, _, rfl, by omega⟩
              · refine R_iload_n (k := 2) rfl rfl rfl ?_
                refine N_if_eq (a := x64.toInt) 82 rfl rfl rfl (fun c75 => ?_) (fun c75 => ?_)
                · refine R_iload_n (k := 2) rfl rfl rfl ?_
                  exact R_iret rfl rfl (nar_z (by omega)) ⟨rfl, _, rfl, by omega⟩
                · refine R_aload_n (k := 0) rfl rfl rfl ?_
                  refine R_getf_r (j := 4) rfl ft_9_20 sh_96 rfl ?_
                  refine R_aload_n (k := 0) rfl rfl rfl ?_
                  refine R_getf_i (j := 9) rfl ft_9_149 sh_96 rfl ?_
                  refine R_iload_n (k := 3) rfl rfl rfl ?_
                  refine N_iadd (a := (h.1 96 9).toInt) (b := x65.toInt) rfl rfl rfl (by omega) (fun x76 q77 => ?_)
                  refine R_bald rfl sh_100 ⟨by omega, by omega⟩ ?_
                  refine N_any (fun x78 => ?_)
                  refine R_aload_c (k := 1) rfl rfl rfl (by decide) ?_
                  refine R_iload_n (k := 3) rfl rfl rfl ?_
                  refine R_callV (v := .inr (.inr (.inr 5))) (As := [.inl x65]) (rest := [.inl x78]) rfl mt_9_i184 pp_J0_charAt_5068e (by decide) rfl rfl rfl (Nat.le_of_ble_eq_true rfl) (Nat.le_of_ble_eq_true rfl) ((k_J0_charAt_5068e_12 h hI x65 (by omega)).mono (fun r79 h80 p81 => ?_))
                  obtain ⟨rfl, x82, rfl, q83⟩ := p81
                  show RUN d_X9_is 67 [(3, .inl x65), (2, .inl x64), (0, .inr (.inr (.inl 96))), (1, .inr (.inr (.inr 5)))] [.inl x82, .inl x78] h _
                  refine N_icmp_ne (a := x78.toInt) (b := x82.toInt) 74 rfl rfl rfl rfl (fun c84 => ?_) (fun c84 => ?_)
                  · refine R_iconst 0 rfl rfl ?_
                    refine R_istore_n (k := 2) rfl [(2, .inl 0), (3, .inl x65), (0, .inr (.inr (.inl 96))), (1, .inr (.inr (.inr 5)))] rfl rfl (by decide) ?_
                    refine N_iinc (a := x65.toInt) (c := 1) (fun w => [(3, .inl w), (2, .inl 0), (0, .inr (.inr (.inl 96))), (1, .inr (.inr (.inr 5)))]) rfl rfl (fun _ => rfl) (by decide) rfl (by decide) (by omega) (fun x85 q86 => ?_)
                    refine R_goto 39 rfl rfl ?_
                    exact RUN_weak (psub_cons rfl (psub_cons rfl (psub_cons rfl (psub_cons rfl (psub_nil _))))) (ih66 (0 : Int32) x85 (by decide) (by omega) (by omega))
                  · refine R_iconst 1 rfl rfl ?_
                    refine R_goto 75 rfl rfl ?_
                    refine R_istore_n (k := 2) rfl [(2, .inl 1), (3, .inl x65), (0, .inr (.inr (.inl 96))), (1, .inr (.inr (.inr 5)))] rfl rfl (by decide) ?_
                    refine N_iinc (a := x65.toInt) (c := 1) (fun w => [(3, .inl w), (2, .inl 1), (0, .inr (.inr (.inl 96))), (1, .inr (.inr (.inr 5)))]) rfl rfl (fun _ => rfl) (by decide) rfl (by decide) (by omega) (fun x87 q88 => ?_)
                    refine R_goto 39 rfl rfl ?_
                    exact RUN_weak (psub_cons rfl (psub_cons rfl (psub_cons rfl (psub_cons rfl (psub_nil _))))) (ih66 (1 : Int32) x87 (by decide) (by omega) (by omega))
          exact lp63 _ (1 : Int32) (0 : Int32) (by decide) (by decide) (Nat.lt_succ_self _)
abbrev qg_X9_takes_11 (h : PH)  : Option PV → PH → Prop := fun r h' => INV h' ∧ FR [96] h h' ∧ ((h'.1 96 12).toInt = (h.1 96 12).toInt ∧ ((h.1 96 12).toInt ≤ (h'.1 96 12).toInt) ∧ ((h.1 96 8).toInt ≤ (h'.1 96 8).toInt) ∧ True) ∧ ∃ z : Int32, r = some (.inl z) ∧ (((0 ≤ z.toInt ∧ z.toInt ≤ 1)) ∧ (z = ansI d_X9_is [.inr (.inr (.inl 96)), .inr (.inr (.inr 5))] h) ∧ (z.toInt = 0 → h' = h) ∧ True)
set_option maxHeartbeats 4000000 in
set_option maxRecDepth 100000 in
theorem g_X9_takes_11 (h : PH) (hI : INV h)  : CALL d_X9_takes [.inr (.inr (.inl 96)), .inr (.inr (.inr 5))] h (qg_X9_takes_11 h) := by
  show RUN d_X9_takes 0 [(0, .inr (.inr (.inl 96))), (1, .inr (.inr (.inr 5)))] [] h _
  have fr : FR [96] h h := FR.rf _ _
  have b1 : (0 : Int) ≤ (h.1 96 12).toInt ∧ (h.1 96 12).toInt ≤ 3 := hI.1 96 12
  have b2 : (0 : Int) ≤ (h.1 96 8).toInt ∧ (h.1 96 8).toInt ≤ 500 := hI.1 96 8
  refine R_aload_n (k := 0) rfl rfl rfl ?_
  refine R_aload_c (k := 1) rfl rfl rfl (by decide) ?_
  refine R_callV (v := .inr (.inr (.inl 96))) (As := [.inr (.inr (.inr 5))]) (rest := []) rfl mt_9_i188 pp_X9_is (by decide) rfl rfl rfl (Nat.le_of_ble_eq_true rfl) (Nat.le_of_ble_eq_true rfl) ((CALL_ans (g_X9_is_12 h hI)).mono (fun r3 h4 p5 => ?_))
  obtain ⟨⟨rfl, x6, rfl, q7⟩, za8⟩ := p5
  have za8 := za8 _ rfl
  show RUN d_X9_takes 5 [(0, .inr (.inr (.inl 96))), (1, .inr (.inr (.inr 5)))] [.inl x6] h _
  refine R_istore_n (k := 2) rfl [(2, .inl x6), (0, .inr (.inr (.inl 96))), (1, .inr (.inr (.inr 5)))] rfl rfl (by decide) ?_
  refine R_iload_n (k := 2) rfl rfl rfl ?_
  refine N_if_eq (a := x6.toInt) 14 rfl rfl rfl (fun c9 => ?_) (fun c9 => ?_)
  · refine R_iload_n (k := 2) rfl rfl rfl ?_
    exact R_iret rfl rfl (nar_z (by omega)) ⟨hI, fr, ⟨by omega, by omega, by omega, trivial⟩, _, rfl, ⟨by omega, za8, (fun _ => rfl), trivial⟩⟩
  · refine R_aload_n (k := 0) rfl rfl rfl ?_
    refine R_callV (v := .inr (.inr (.inl 96))) (As := []) (rest := []) rfl mt_9_i192 pp_X9_advance (by decide) rfl rfl rfl (Nat.le_of_ble_eq_true rfl) (Nat.le_of_ble_eq_true rfl) ((g_X9_advance h hI).mono (fun r10 h11 p12 => ?_))
    obtain ⟨hJ, fj, ⟨kp13, kp14, kp15, kp16, xq17, xq18, -⟩, rfl⟩ := p12
    have f19 := fj
    have fr := fr.trans fj (by decide)
    have hI := hJ
    have b20 : (0 : Int) ≤ (h11.1 96 8).toInt ∧ (h11.1 96 8).toInt ≤ 500 := hI.1 96 8
    have b21 : (0 : Int) ≤ (h11.1 96 7).toInt ∧ (h11.1 96 7).toInt ≤ 500 := hI.1 96 7
    show RUN d_X9_takes 14 [(2, .inl x6), (0, .inr (.inr (.inl 96))), (1, .inr (.inr (.inr 5)))] [] h11 _
    refine R_iload_n (k := 2) rfl rfl rfl ?_
    exact R_iret rfl rfl (nar_z (by omega)) ⟨hI, fr, ⟨by omega, by omega, by omega, trivial⟩, _, rfl, ⟨by omega, za8, (fun hc => absurd hc (by omega)), trivial⟩⟩
abbrev qg_X9_needs_8 (h : PH)  : Option PV → PH → Prop := fun r h' => INV h' ∧ FR [96] h h' ∧ (((h.1 96 12).toInt ≤ (h'.1 96 12).toInt) ∧ ((h.1 96 8).toInt ≤ (h'.1 96 8).toInt) ∧ True) ∧ r = none
set_option maxHeartbeats 4000000 in
set_option maxRecDepth 100000 in
theorem g_X9_needs_8 (h : PH) (hI : INV h)  : CALL d_X9_needs [.inr (.inr (.inl 96)), .inr (.inr (.inr 5))] h (qg_X9_needs_8 h) := by
  show RUN d_X9_needs 0 [(0, .inr (.inr (.inl 96))), (1, .inr (.inr (.inr 5)))] [] h _
  have fr : FR [96] h h := FR.rf _ _
  have b1 : (0 : Int) ≤ (h.1 96 12).toInt ∧ (h.1 96 12).toInt ≤ 3 := hI.1 96 12
  have b2 : (0 : Int) ≤ (h.1 96 8).toInt ∧ (h.1 96 8).toInt ≤ 500 := hI.1 96 8
  refine R_aload_n (k := 0) rfl rfl rfl ?_
  refine R_aload_c (k := 1) rfl rfl rfl (by decide) ?_
  refine R_callV (v := .inr (.inr (.inl 96))) (As := [.inr (.inr (.inr 5))]) (rest := []) rfl mt_9_i195 pp_X9_takes (by decide) rfl rfl rfl (Nat.le_of_ble_eq_true rfl) (Nat.le_of_ble_eq_true rfl) ((g_X9_takes_11 h hI).mono (fun r3 h4 p5 => ?_))
  obtain ⟨hJ, fj, ⟨kp6, xq7, xq8, -⟩, x11, rfl, q12, zq9, zq10, -⟩ := p5
  have f13 := fj
  have fr := fr.trans fj (by decide)
  have hI := hJ
  have b14 : (0 : Int) ≤ (h4.1 96 8).toInt ∧ (h4.1 96 8).toInt ≤ 500 := hI.1 96 8
  show RUN d_X9_needs 5 [(0, .inr (.inr (.inl 96))), (1, .inr (.inr (.inr 5)))] [.inl x11] h4 _
  refine N_if_ne (a := x11.toInt) 13 rfl rfl rfl (fun c15 => ?_) (fun c15 => ?_)
  · exact R_vret rfl rfl ⟨hI, fr, ⟨by omega, by omega, trivial⟩, rfl⟩
  · refine R_aload_n (k := 0) rfl rfl rfl ?_
    refine R_iconst 1 rfl rfl ?_
    have k16 : (1 : Int32).toInt = 1 := by decide
    refine R_callV (v := .inr (.inr (.inl 96))) (As := [.inl 1]) (rest := []) rfl mt_9_i198 pp_X9_errs (by decide) rfl rfl rfl (Nat.le_of_ble_eq_true rfl) (Nat.le_of_ble_eq_true rfl) ((g_X9_errs h4 hI (1 : Int32) (by decide)).mono (fun r17 h18 p19 => ?_))
    obtain ⟨hJ, fj, ⟨kp20, kp21, kp22, kp23, kp24, xq25, xq26, xq27, -⟩, rfl⟩ := p19
    have f28 := fj
    have fr := fr.trans fj (by decide)
    have hI := hJ
    have b29 : (0 : Int) ≤ (h18.1 96 12).toInt ∧ (h18.1 96 12).toInt ≤ 3 := hI.1 96 12
    show RUN d_X9_needs 13 [(0, .inr (.inr (.inl 96))), (1, .inr (.inr (.inr 5)))] [] h18 _
    exact R_vret rfl rfl ⟨hI, fr, ⟨by omega, by omega, trivial⟩, rfl⟩
abbrev qg_X9_told_7 (h : PH) (a1 : Int32) (a2 : Int32) : Option PV → PH → Prop := fun r h' => INV h' ∧ FR [96] h h' ∧ (((h.1 96 12).toInt ≤ (h'.1 96 12).toInt) ∧ ((h.1 96 8).toInt ≤ (h'.1 96 8).toInt) ∧ True) ∧ ∃ z : Int32, r = some (.inl z) ∧ (((0 ≤ z.toInt ∧ z.toInt ≤ 999)) ∧ ((h'.1 96 12).toInt = 0 → a1.toInt ≤ z.toInt ∧ z.toInt ≤ a2.toInt) ∧ (z.toInt = 0 ∨ (a1.toInt ≤ z.toInt ∧ z.toInt ≤ a2.toInt)) ∧ True)
set_option maxHeartbeats 4000000 in
set_option maxRecDepth 100000 in
theorem g_X9_told_7 (h : PH) (hI : INV h) (a1 : Int32) (a2 : Int32) (h1a : 0 ≤ a1.toInt ∧ a1.toInt ≤ 0) (h2a : 20 ≤ a2.toInt ∧ a2.toInt ≤ 20) : CALL d_X9_told [.inr (.inr (.inl 96)), .inr (.inr (.inr 5)), .inl a1, .inl a2] h (qg_X9_told_7 h a1 a2) := by
  show RUN d_X9_told 0 [(0, .inr (.inr (.inl 96))), (1, .inr (.inr (.inr 5))), (2, .inl a1), (3, .inl a2)] [] h _
  have fr : FR [96] h h := FR.rf _ _
  have b1 : (0 : Int) ≤ (h.1 96 12).toInt ∧ (h.1 96 12).toInt ≤ 3 := hI.1 96 12
  have b2 : (0 : Int) ≤ (h.1 96 8).toInt ∧ (h.1 96 8).toInt ≤ 500 := hI.1 96 8
  refine R_aload_n (k := 0) rfl rfl rfl ?_
  refine R_aload_c (k := 1) rfl rfl rfl (by decide) ?_
  refine R_callV (v := .inr (.inr (.inl 96))) (As := [.inr (.inr (.inr 5))]) (rest := []) rfl mt_9_i202 pp_X9_needs (by decide) rfl rfl rfl (Nat.le_of_ble_eq_true rfl) (Nat.le_of_ble_eq_true rfl) ((g_X9_needs_8 h hI).mono (fun r3 h4 p5 => ?_))
  obtain ⟨hJ, fj, ⟨xq6, xq7, -⟩, rfl⟩ := p5
  have f8 := fj
  have fr := fr.trans fj (by decide)
  have hI := hJ
  have b9 : (0 : Int) ≤ (h4.1 96 12).toInt ∧ (h4.1 96 12).toInt ≤ 3 := hI.1 96 12
  have b10 : (0 : Int) ≤ (h4.1 96 8).toInt ∧ (h4.1 96 8).toInt ≤ 500 := hI.1 96 8
  show RUN d_X9_told 5 [(0, .inr (.inr (.inl 96))), (1, .inr (.inr (.inr 5))), (2, .inl a1), (3, .inl a2)] [] h4 _
  refine R_aload_n (k := 0) rfl rfl rfl ?_
  refine R_iload_n (k := 2) rfl rfl rfl ?_
  refine R_iload_n (k := 3) rfl rfl rfl ?_
  refine R_callV (v := .inr (.inr (.inl 96))) (As := [.inl a1, .inl a2]) (rest := []) rfl mt_9_i206 pp_X9_number (by decide) rfl rfl rfl (Nat.le_of_ble_eq_true rfl) (Nat.le_of_ble_eq_true rfl) ((g_X9_number h4 hI a1 a2 (by omega) (by omega)).mono (fun r11 h12 p13 => ?_))
  obtain ⟨hJ, fj, ⟨kp14, kp15, xq16, xq17, -⟩, x20, rfl, q21, zq18, zq19, -⟩ := p13
  have f22 := fj
  have fr := fr.trans fj (by decide)
  have hI := hJ
  have b23 : (0 : Int) ≤ (h12.1 96 12).toInt ∧ (h12.1 96 12).toInt ≤ 3 := hI.1 96 12
  have b24 : (0 : Int) ≤ (h12.1 96 8).toInt ∧ (h12.1 96 8).toInt ≤ 500 := hI.1 96 8
  show RUN d_X9_told 11 [(0, .inr (.inr (.inl 96))), (1, .inr (.inr (.inr 5))), (2, .inl a1), (3, .inl a2)] [.inl x20] h12 _
  exact R_iret rfl rfl rfl ⟨hI, fr, ⟨by omega, by omega, trivial⟩, _, rfl, ⟨by omega, by omega, by omega, trivial⟩⟩
abbrev qg_X9_is_13 (h : PH)  : Option PV → PH → Prop := fun r h' => h = h' ∧ ∃ z : Int32, r = some (.inl z) ∧ ((0 ≤ z.toInt ∧ z.toInt ≤ 1))
set_option maxHeartbeats 4000000 in
set_option maxRecDepth 100000 in
theorem g_X9_is_13 (h : PH) (hI : INV h)  : CALL d_X9_is [.inr (.inr (.inl 96)), .inr (.inr (.inr 6))] h (qg_X9_is_13 h) := by
  show RUN d_X9_is 0 [(0, .inr (.inr (.inl 96))), (1, .inr (.inr (.inr 6)))] [] h _
  refine R_aload_n (k := 0) rfl rfl rfl ?_
  have b1 : (0 : Int) ≤ (h.1 96 12).toInt ∧ (h.1 96 12).toInt ≤ 3 := hI.1 96 12
  refine R_callV (v := .inr (.inr (.inl 96))) (As := []) (rest := []) rfl mt_9_i176 pp_X9_good (by decide) rfl rfl rfl (Nat.le_of_ble_eq_true rfl) (Nat.le_of_ble_eq_true rfl) ((k_X9_good h hI).mono (fun r2 h3 p4 => ?_))
  obtain ⟨rfl, x5, rfl, q6 | q6⟩ := p4
  · show RUN d_X9_is 4 [(0, .inr (.inr (.inl 96))), (1, .inr (.inr (.inr 6)))] [.inl x5] h _
    refine N_if_eq (a := x5.toInt) 35 rfl rfl rfl (fun c7 => ?_) (fun c7 => ?_)
    · refine R_iconst 0 rfl rfl ?_
      refine R_istore_n (k := 2) rfl [(2, .inl 0), (0, .inr (.inr (.inl 96))), (1, .inr (.inr (.inr 6)))] rfl rfl (by decide) ?_
      refine R_iconst 0 rfl rfl ?_
      refine R_istore_n (k := 3) rfl [(3, .inl 0), (2, .inl 0), (0, .inr (.inr (.inl 96))), (1, .inr (.inr (.inr 6)))] rfl rfl (by decide) ?_
      have lp9 : ∀ (n8 : Nat) (x10 : Int32) (x11 : Int32), 0 ≤ x10.toInt ∧ x10.toInt ≤ 0 → 0 ≤ x11.toInt ∧ x11.toInt ≤ 0 → 0 < n8 → RUN d_X9_is 39 [(3, .inl x11), (2, .inl x10), (0, .inr (.inr (.inl 96))), (1, .inr (.inr (.inr 6)))] [] h (qg_X9_is_13 h) := by
        intro n8
        induction n8 with
        | zero => intro x10 x11 m13 m14 hz; exact absurd hz (Nat.not_lt_zero _)
        | succ n8 ih12 =>
          intro x10 x11 m13 m14 hz
          refine R_iload_n (k := 3) rfl rfl rfl ?_
          refine R_aload_c (k := 1) rfl rfl rfl (by decide) ?_
          refine R_callV (v := .inr (.inr (.inr 6))) (As := []) (rest := [.inl x11]) rfl mt_9_i180 pp_J0_length_8abf5 (by decide) rfl rfl rfl (Nat.le_of_ble_eq_true rfl) (Nat.le_of_ble_eq_true rfl) ((k_J0_length_8abf5_13 h hI).mono (fun r15 h16 p17 => ?_))
          obtain ⟨rfl, x18, rfl, q19⟩ := p17
          show RUN d_X9_is 44 [(3, .inl x11), (2, .inl x10), (0, .inr (.inr (.inl 96))), (1, .inr (.inr (.inr 6)))] [.inl x18, .inl x11] h _
          refine N_icmp_ge (a := x11.toInt) (b := x18.toInt) 82 rfl rfl rfl rfl (fun c20 => ?_) (fun c20 => ?_)
          · exfalso; omega
          · refine R_iload_n (k := 2) rfl rfl rfl ?_
            refine N_if_eq (a := x10.toInt) 82 rfl rfl rfl (fun c21 => ?_) (fun c21 => ?_)
            · refine R_iload_n (k := 2) rfl rfl rfl ?_
              exact R_iret rfl rfl (nar_z (by omega)) ⟨rfl, _, rfl, by omega⟩
            · exfalso; omega
      exact lp9 _ (0 : Int32) (0 : Int32) (by decide) (by decide) (Nat.lt_succ_self _)
    · exfalso; omega
  · show RUN d_X9_is 4 [(0, .inr (.inr (.inl 96))), (1, .inr (.inr (.inr 6)))] [.inl x5] h _
    refine N_if_eq (a := x5.toInt) 35 rfl rfl rfl (fun c22 => ?_) (fun c22 => ?_)
    · exfalso; omega
    · refine R_aload_n (k := 0) rfl rfl rfl ?_
      refine R_getf_i (j := 10) rfl ft_9_152 sh_96 rfl ?_
      refine R_iconst 1 rfl rfl ?_
      refine N_icmp_ne (a := (h.1 96 10).toInt) (b := 1) 35 rfl rfl rfl (by decide) (fun c23 => ?_) (fun c23 => ?_)
      · refine R_iconst 0 rfl rfl ?_
        refine R_istore_n (k := 2) rfl [(2, .inl 0), (0, .inr (.inr (.inl 96))), (1, .inr (.inr (.inr 6)))] rfl rfl (by decide) ?_
        refine R_iconst 0 rfl rfl ?_
        refine R_istore_n (k := 3) rfl [(3, .inl 0), (2, .inl 0), (0, .inr (.inr (.inl 96))), (1, .inr (.inr (.inr 6)))] rfl rfl (by decide) ?_
        have lp25 : ∀ (n24 : Nat) (x26 : Int32) (x27 : Int32), 0 ≤ x26.toInt ∧ x26.toInt ≤ 0 → 0 ≤ x27.toInt ∧ x27.toInt ≤ 0 → 0 < n24 → RUN d_X9_is 39 [(3, .inl x27), (2, .inl x26), (0, .inr (.inr (.inl 96))), (1, .inr (.inr (.inr 6)))] [] h (qg_X9_is_13 h) := by
          intro n24
          induction n24 with
          | zero => intro x26 x27 m29 m30 hz; exact absurd hz (Nat.not_lt_zero _)
          | succ n24 ih28 =>
            intro x26 x27 m29 m30 hz
            refine R_iload_n (k := 3) rfl rfl rfl ?_
            refine R_aload_c (k := 1) rfl rfl rfl (by decide) ?_
            refine R_callV (v := .inr (.inr (.inr 6))) (As := []) (rest := [.inl x27]) rfl mt_9_i180 pp_J0_length_8abf5 (by decide) rfl rfl rfl (Nat.le_of_ble_eq_true rfl) (Nat.le_of_ble_eq_true rfl) ((k_J0_length_8abf5_13 h hI).mono (fun r31 h32 p33 => ?_))
            obtain ⟨rfl, x34, rfl, q35⟩ := p33
            show RUN d_X9_is 44 [(3, .inl x27), (2, .inl x26), (0, .inr (.inr (.inl 96))), (1, .inr (.inr (.inr 6)))] [.inl x34, .inl x27] h _
            refine N_icmp_ge (a := x27.toInt) (b := x34.toInt) 82 rfl rfl rfl rfl (fun c36 => ?_) (fun c36 => ?_)
            · exfalso; omega
            · refine R_iload_n (k := 2) rfl rfl rfl ?_
              refine N_if_eq (a := x26.toInt) 82 rfl rfl rfl (fun c37 => ?_) (fun c37 => ?_)
              · refine R_iload_n (k := 2) rfl rfl rfl ?_
                exact R_iret rfl rfl (nar_z (by omega)) ⟨rfl, _, rfl, by omega⟩
              · exfalso; omega
        exact lp25 _ (0 : Int32) (0 : Int32) (by decide) (by decide) (Nat.lt_succ_self _)
      · refine R_aload_n (k := 0) rfl rfl rfl ?_
        refine R_getf_i (j := 8) rfl ft_9_142 sh_96 rfl ?_
        have b38 : (0 : Int) ≤ (h.1 96 8).toInt ∧ (h.1 96 8).toInt ≤ 500 := hI.1 96 8
        refine R_aload_n (k := 0) rfl rfl rfl ?_
        refine R_getf_i (j := 9) rfl ft_9_149 sh_96 rfl ?_
        have b39 : (0 : Int) ≤ (h.1 96 9).toInt ∧ (h.1 96 9).toInt ≤ 500 := hI.1 96 9
        refine N_isub (a := (h.1 96 8).toInt) (b := (h.1 96 9).toInt) rfl rfl rfl (by omega) (fun x40 q41 => ?_)
        refine R_aload_c (k := 1) rfl rfl rfl (by decide) ?_
        refine R_callV (v := .inr (.inr (.inr 6))) (As := []) (rest := [.inl x40]) rfl mt_9_i180 pp_J0_length_8abf5 (by decide) rfl rfl rfl (Nat.le_of_ble_eq_true rfl) (Nat.le_of_ble_eq_true rfl) ((k_J0_length_8abf5_13 h hI).mono (fun r42 h43 p44 => ?_))
        obtain ⟨rfl, x45, rfl, q46⟩ := p44
        show RUN d_X9_is 28 [(0, .inr (.inr (.inl 96))), (1, .inr (.inr (.inr 6)))] [.inl x45, .inl x40] h _
        refine N_icmp_ne (a := x40.toInt) (b := x45.toInt) 35 rfl rfl rfl rfl (fun c47 => ?_) (fun c47 => ?_)
        · refine R_iconst 0 rfl rfl ?_
          refine R_istore_n (k := 2) rfl [(2, .inl 0), (0, .inr (.inr (.inl 96))), (1, .inr (.inr (.inr 6)))] rfl rfl (by decide) ?_
          refine R_iconst 0 rfl rfl ?_
          refine R_istore_n (k := 3) rfl [(3, .inl 0), (2, .inl 0), (0, .inr (.inr (.inl 96))), (1, .inr (.inr (.inr 6)))] rfl rfl (by decide) ?_
          have lp49 : ∀ (n48 : Nat) (x50 : Int32) (x51 : Int32), 0 ≤ x50.toInt ∧ x50.toInt ≤ 0 → 0 ≤ x51.toInt ∧ x51.toInt ≤ 0 → 0 < n48 → RUN d_X9_is 39 [(3, .inl x51), (2, .inl x50), (0, .inr (.inr (.inl 96))), (1, .inr (.inr (.inr 6)))] [] h (qg_X9_is_13 h) := by
            intro n48
            induction n48 with
            | zero => intro x50 x51 m53 m54 hz; exact absurd hz (Nat.not_lt_zero _)
            | succ n48 ih52 =>
              intro x50 x51 m53 m54 hz
              refine R_iload_n (k := 3) rfl rfl rfl ?_
              refine R_aload_c (k := 1) rfl rfl rfl (by decide) ?_
              refine R_callV (v := .inr (.inr (.inr 6))) (As := []) (rest := [.inl x51]) rfl mt_9_i180 pp_J0_length_8abf5 (by decide) rfl rfl rfl (Nat.le_of_ble_eq_true rfl) (Nat.le_of_ble_eq_true rfl) ((k_J0_length_8abf5_13 h hI).mono (fun r55 h56 p57 => ?_))
              obtain ⟨rfl, x58, rfl, q59⟩ := p57
              show RUN d_X9_is 44 [(3, .inl x51), (2, .inl x50), (0, .inr (.inr (.inl 96))), (1, .inr (.inr (.inr 6)))] [.inl x58, .inl x51] h _
              refine N_icmp_ge (a := x51.toInt) (b := x58.toInt) 82 rfl rfl rfl rfl (fun c60 => ?_) (fun c60 => ?_)
              · exfalso; omega
              · refine R_iload_n (k := 2) rfl rfl rfl ?_
                refine N_if_eq (a := x50.toInt) 82 rfl rfl rfl (fun c61 => ?_) (fun c61 => ?_)
                · refine R_iload_n (k := 2) rfl rfl rfl ?_
                  exact R_iret rfl rfl (nar_z (by omega)) ⟨rfl, _, rfl, by omega⟩
                · exfalso; omega
          exact lp49 _ (0 : Int32) (0 : Int32) (by decide) (by decide) (Nat.lt_succ_self _)
        · refine R_iconst 1 rfl rfl ?_
          refine R_goto 36 rfl rfl ?_
          refine R_istore_n (k := 2) rfl [(2, .inl 1), (0, .inr (.inr (.inl 96))), (1, .inr (.inr (.inr 6)))] rfl rfl (by decide) ?_
          refine R_iconst 0 rfl rfl ?_
          refine R_istore_n (k := 3) rfl [(3, .inl 0), (2, .inl 1), (0, .inr (.inr (.inl 96))), (1, .inr (.inr (.inr 6)))] rfl rfl (by decide) ?_
          have lp63 : ∀ (n62 : Nat) (x64 : Int32) (x65 : Int32), 0 ≤ x64.toInt ∧ x64.toInt ≤ 1 → 0 ≤ x65.toInt ∧ x65.toInt ≤ 4 → (4 - x65.toInt).toNat < n62 → RUN d_X9_is 39 [(3, .inl x65), (2, .inl x64), (0, .inr (.inr (.inl 96))), (1, .inr (.inr (.inr 6)))] [] h (qg_X9_is_13 h) := by
            intro n62
            induction n62 with
            | zero => intro x64 x65 m67 m68 hz; exact absurd hz (Nat.not_lt_zero _)
            | succ n62 ih66 =>
              intro x64 x65 m67 m68 hz
              refine R_iload_n (k := 3) rfl rfl rfl ?_
              refine R_aload_c (k := 1) rfl rfl rfl (by decide) ?_
              refine R_callV (v := .inr (.inr (.inr 6))) (As := []) (rest := [.inl x65]) rfl mt_9_i180 pp_J0_length_8abf5 (by decide) rfl rfl rfl (Nat.le_of_ble_eq_true rfl) (Nat.le_of_ble_eq_true rfl) ((k_J0_length_8abf5_13 h hI).mono (fun r69 h70 p71 => ?_))
              obtain ⟨rfl, x72, rfl, q73⟩ := p71
              show RUN d_X9_is 44 [(3, .inl x65), (2, .inl x64), (0, .inr (.inr (.inl 96))), (1, .inr (.inr (.inr 6)))] [.inl x72, .inl x65] h _
              refine N_icmp_ge (a := x65.toInt) (b := x72.toInt) 82 rfl rfl rfl rfl (fun c74 => ?_) (fun c74 => ?_)
              · refine R_iload_n (k := 2) rfl rfl rfl ?_
                exact R_iret rfl rfl (nar_z (by omega)) ⟨rfl, _, rfl, by omega⟩
              · refine R_iload_n (k := 2) rfl rfl rfl ?_
                refine N_if_eq (a := x64.toInt) 82 rfl rfl rfl (fun c75 => ?_) (fun c75 => ?_)
                · refine R_iload_n (k := 2) rfl rfl rfl ?_
                  exact R_iret rfl rfl (nar_z (by omega)) ⟨rfl, _, rfl, by omega⟩
                · refine R_aload_n (k := 0) rfl rfl rfl ?_
                  refine R_getf_r (j := 4) rfl ft_9_20 sh_96 rfl ?_
                  refine R_aload_n (k := 0) rfl rfl rfl ?_
                  refine R_getf_i (j := 9) rfl ft_9_149 sh_96 rfl ?_
                  refine R_iload_n (k := 3) rfl rfl rfl ?_
                  refine N_iadd (a := (h.1 96 9).toInt) (b := x65.toInt) rfl rfl rfl (by omega) (fun x76 q77 => ?_)
                  refine R_bald rfl sh_100 ⟨by omega, by omega⟩ ?_
                  refine N_any (fun x78 => ?_)
                  refine R_aload_c (k := 1) rfl rfl rfl (by decide) ?_
                  refine R_iload_n (k := 3) rfl rfl rfl ?_
                  refine R_callV (v := .inr (.inr (.inr 6))) (As := [.inl x65]) (rest := [.inl x78]) rfl mt_9_i184 pp_J0_charAt_5068e (by decide) rfl rfl rfl (Nat.le_of_ble_eq_true rfl) (Nat.le_of_ble_eq_true rfl) ((k_J0_charAt_5068e_13 h hI x65 (by omega)).mono (fun r79 h80 p81 => ?_))
                  obtain ⟨rfl, x82, rfl, q83⟩ := p81
                  show RUN d_X9_is 67 [(3, .inl x65), (2, .inl x64), (0, .inr (.inr (.inl 96))), (1, .inr (.inr (.inr 6)))] [.inl x82, .inl x78] h _
                  refine N_icmp_ne (a := x78.toInt) (b := x82.toInt) 74 rfl rfl rfl rfl (fun c84 => ?_) (fun c84 => ?_)
                  · refine R_iconst 0 rfl rfl ?_
                    refine R_istore_n (k := 2) rfl [(2, .inl 0), (3, .inl x65), (0, .inr (.inr (.inl 96))), (1, .inr (.inr (.inr 6)))] rfl rfl (by decide) ?_
                    refine N_iinc (a := x65.toInt) (c := 1) (fun w => [(3, .inl w), (2, .inl 0), (0, .inr (.inr (.inl 96))), (1, .inr (.inr (.inr 6)))]) rfl rfl (fun _ => rfl) (by decide) rfl (by decide) (by omega) (fun x85 q86 => ?_)
                    refine R_goto 39 rfl rfl ?_
                    exact RUN_weak (psub_cons rfl (psub_cons rfl (psub_cons rfl (psub_cons rfl (psub_nil _))))) (ih66 (0 : Int32) x85 (by decide) (by omega) (by omega))
                  · refine R_iconst 1 rfl rfl ?_
                    refine R_goto 75 rfl rfl ?_
                    refine R_istore_n (k := 2) rfl [(2, .inl 1), (3, .inl x65), (0, .inr (.inr (.inl 96))), (1, .inr (.inr (.inr 6)))] rfl rfl (by decide) ?_
                    refine N_iinc (a := x65.toInt) (c := 1) (fun w => [(3, .inl w), (2, .inl 1), (0, .inr (.inr (.inl 96))), (1, .inr (.inr (.inr 6)))]) rfl rfl (fun _ => rfl) (by decide) rfl (by decide) (by omega) (fun x87 q88 => ?_)
                    refine R_goto 39 rfl rfl ?_
                    exact RUN_weak (psub_cons rfl (psub_cons rfl (psub_cons rfl (psub_cons rfl (psub_nil _))))) (ih66 (1 : Int32) x87 (by decide) (by omega) (by omega))
          exact lp63 _ (1 : Int32) (0 : Int32) (by decide) (by decide) (Nat.lt_succ_self _)

abbrev qg_X9_takes_12 (h : PH)  : Option PV → PH → Prop := fun r h' => INV h' ∧ FR [96] h h' ∧ ((h'.1 96 12).toInt = (h.1 96 12).toInt ∧ ((h.1 96 12).toInt ≤ (h'.1 96 12).toInt) ∧ ((h.1 96 8).toInt ≤ (h'.1 96 8).toInt) ∧ True) ∧ ∃ z : Int32, r = some (.inl z) ∧ (((0 ≤ z.toInt ∧ z.toInt ≤ 1)) ∧ (z = ansI d_X9_is [.inr (.inr (.inl 96)), .inr (.inr (.inr 6))] h) ∧ (z.toInt = 0 → h' = h) ∧ True)
set_option maxHeartbeats 4000000 in
set_option maxRecDepth 100000 in
theorem g_X9_takes_12 (h : PH) (hI : INV h)  : CALL d_X9_takes [.inr (.inr (.inl 96)), .inr (.inr (.inr 6))] h (qg_X9_takes_12 h) := by
  show RUN d_X9_takes 0 [(0, .inr (.inr (.inl 96))), (1, .inr (.inr (.inr 6)))] [] h _
  have fr : FR [96] h h := FR.rf _ _
  have b1 : (0 : Int) ≤ (h.1 96 12).toInt ∧ (h.1 96 12).toInt ≤ 3 := hI.1 96 12
  have b2 : (0 : Int) ≤ (h.1 96 8).toInt ∧ (h.1 96 8).toInt ≤ 500 := hI.1 96 8
  refine R_aload_n (k := 0) rfl rfl rfl ?_
  refine R_aload_c (k := 1) rfl rfl rfl (by decide) ?_
  refine R_callV (v := .inr (.inr (.inl 96))) (As := [.inr (.inr (.inr 6))]) (rest := []) rfl mt_9_i188 pp_X9_is (by decide) rfl rfl rfl (Nat.le_of_ble_eq_true rfl) (Nat.le_of_ble_eq_true rfl) ((CALL_ans (g_X9_is_13 h hI)).mono (fun r3 h4 p5 => ?_))
  obtain ⟨⟨rfl, x6, rfl, q7⟩, za8⟩ := p5
  have za8 := za8 _ rfl
  show RUN d_X9_takes 5 [(0, .inr (.inr (.inl 96))), (1, .inr (.inr (.inr 6)))] [.inl x6] h _
  refine R_istore_n (k := 2) rfl [(2, .inl x6), (0, .inr (.inr (.inl 96))), (1, .inr (.inr (.inr 6)))] rfl rfl (by decide) ?_
  refine R_iload_n (k := 2) rfl rfl rfl ?_
  refine N_if_eq (a := x6.toInt) 14 rfl rfl rfl (fun c9 => ?_) (fun c9 => ?_)
  · refine R_iload_n (k := 2) rfl rfl rfl ?_
    exact R_iret rfl rfl (nar_z (by omega)) ⟨hI, fr, ⟨by omega, by omega, by omega, trivial⟩, _, rfl, ⟨by omega, za8, (fun _ => rfl), trivial⟩⟩
  · refine R_aload_n (k := 0) rfl rfl rfl ?_
    refine R_callV (v := .inr (.inr (.inl 96))) (As := []) (rest := []) rfl mt_9_i192 pp_X9_advance (by decide) rfl rfl rfl (Nat.le_of_ble_eq_true rfl) (Nat.le_of_ble_eq_true rfl) ((g_X9_advance h hI).mono (fun r10 h11 p12 => ?_))
    obtain ⟨hJ, fj, ⟨kp13, kp14, kp15, kp16, xq17, xq18, -⟩, rfl⟩ := p12
    have f19 := fj
    have fr := fr.trans fj (by decide)
    have hI := hJ
    have b20 : (0 : Int) ≤ (h11.1 96 8).toInt ∧ (h11.1 96 8).toInt ≤ 500 := hI.1 96 8
    have b21 : (0 : Int) ≤ (h11.1 96 7).toInt ∧ (h11.1 96 7).toInt ≤ 500 := hI.1 96 7
    show RUN d_X9_takes 14 [(2, .inl x6), (0, .inr (.inr (.inl 96))), (1, .inr (.inr (.inr 6)))] [] h11 _
    refine R_iload_n (k := 2) rfl rfl rfl ?_
    exact R_iret rfl rfl (nar_z (by omega)) ⟨hI, fr, ⟨by omega, by omega, by omega, trivial⟩, _, rfl, ⟨by omega, za8, (fun hc => absurd hc (by omega)), trivial⟩⟩
abbrev qg_X9_needs_9 (h : PH)  : Option PV → PH → Prop := fun r h' => INV h' ∧ FR [96] h h' ∧ (((h.1 96 12).toInt ≤ (h'.1 96 12).toInt) ∧ ((h.1 96 8).toInt ≤ (h'.1 96 8).toInt) ∧ True) ∧ r = none
set_option maxHeartbeats 4000000 in
set_option maxRecDepth 100000 in
theorem g_X9_needs_9 (h : PH) (hI : INV h)  : CALL d_X9_needs [.inr (.inr (.inl 96)), .inr (.inr (.inr 6))] h (qg_X9_needs_9 h) := by
  show RUN d_X9_needs 0 [(0, .inr (.inr (.inl 96))), (1, .inr (.inr (.inr 6)))] [] h _
  have fr : FR [96] h h := FR.rf _ _
  have b1 : (0 : Int) ≤ (h.1 96 12).toInt ∧ (h.1 96 12).toInt ≤ 3 := hI.1 96 12
  have b2 : (0 : Int) ≤ (h.1 96 8).toInt ∧ (h.1 96 8).toInt ≤ 500 := hI.1 96 8
  refine R_aload_n (k := 0) rfl rfl rfl ?_
  refine R_aload_c (k := 1) rfl rfl rfl (by decide) ?_
  refine R_callV (v := .inr (.inr (.inl 96))) (As := [.inr (.inr (.inr 6))]) (rest := []) rfl mt_9_i195 pp_X9_takes (by decide) rfl rfl rfl (Nat.le_of_ble_eq_true rfl) (Nat.le_of_ble_eq_true rfl) ((g_X9_takes_12 h hI).mono (fun r3 h4 p5 => ?_))
  obtain ⟨hJ, fj, ⟨kp6, xq7, xq8, -⟩, x11, rfl, q12, zq9, zq10, -⟩ := p5
  have f13 := fj
  have fr := fr.trans fj (by decide)
  have hI := hJ
  have b14 : (0 : Int) ≤ (h4.1 96 8).toInt ∧ (h4.1 96 8).toInt ≤ 500 := hI.1 96 8
  show RUN d_X9_needs 5 [(0, .inr (.inr (.inl 96))), (1, .inr (.inr (.inr 6)))] [.inl x11] h4 _
  refine N_if_ne (a := x11.toInt) 13 rfl rfl rfl (fun c15 => ?_) (fun c15 => ?_)
  · exact R_vret rfl rfl ⟨hI, fr, ⟨by omega, by omega, trivial⟩, rfl⟩
  · refine R_aload_n (k := 0) rfl rfl rfl ?_
    refine R_iconst 1 rfl rfl ?_
    have k16 : (1 : Int32).toInt = 1 := by decide
    refine R_callV (v := .inr (.inr (.inl 96))) (As := [.inl 1]) (rest := []) rfl mt_9_i198 pp_X9_errs (by decide) rfl rfl rfl (Nat.le_of_ble_eq_true rfl) (Nat.le_of_ble_eq_true rfl) ((g_X9_errs h4 hI (1 : Int32) (by decide)).mono (fun r17 h18 p19 => ?_))
    obtain ⟨hJ, fj, ⟨kp20, kp21, kp22, kp23, kp24, xq25, xq26, xq27, -⟩, rfl⟩ := p19
    have f28 := fj
    have fr := fr.trans fj (by decide)
    have hI := hJ
    have b29 : (0 : Int) ≤ (h18.1 96 12).toInt ∧ (h18.1 96 12).toInt ≤ 3 := hI.1 96 12
    show RUN d_X9_needs 13 [(0, .inr (.inr (.inl 96))), (1, .inr (.inr (.inr 6)))] [] h18 _
    exact R_vret rfl rfl ⟨hI, fr, ⟨by omega, by omega, trivial⟩, rfl⟩
abbrev qg_X9_told_8 (h : PH) (a1 : Int32) (a2 : Int32) : Option PV → PH → Prop := fun r h' => INV h' ∧ FR [96] h h' ∧ (((h.1 96 12).toInt ≤ (h'.1 96 12).toInt) ∧ ((h.1 96 8).toInt ≤ (h'.1 96 8).toInt) ∧ True) ∧ ∃ z : Int32, r = some (.inl z) ∧ (((0 ≤ z.toInt ∧ z.toInt ≤ 999)) ∧ ((h'.1 96 12).toInt = 0 → a1.toInt ≤ z.toInt ∧ z.toInt ≤ a2.toInt) ∧ (z.toInt = 0 ∨ (a1.toInt ≤ z.toInt ∧ z.toInt ≤ a2.toInt)) ∧ True)
set_option maxHeartbeats 4000000 in
set_option maxRecDepth 100000 in
theorem g_X9_told_8 (h : PH) (hI : INV h) (a1 : Int32) (a2 : Int32) (h1a : 0 ≤ a1.toInt ∧ a1.toInt ≤ 0) (h2a : 10 ≤ a2.toInt ∧ a2.toInt ≤ 10) : CALL d_X9_told [.inr (.inr (.inl 96)), .inr (.inr (.inr 6)), .inl a1, .inl a2] h (qg_X9_told_8 h a1 a2) := by
  show RUN d_X9_told 0 [(0, .inr (.inr (.inl 96))), (1, .inr (.inr (.inr 6))), (2, .inl a1), (3, .inl a2)] [] h _
  have fr : FR [96] h h := FR.rf _ _
  have b1 : (0 : Int) ≤ (h.1 96 12).toInt ∧ (h.1 96 12).toInt ≤ 3 := hI.1 96 12
  have b2 : (0 : Int) ≤ (h.1 96 8).toInt ∧ (h.1 96 8).toInt ≤ 500 := hI.1 96 8
  refine R_aload_n (k := 0) rfl rfl rfl ?_
  refine R_aload_c (k := 1) rfl rfl rfl (by decide) ?_
  refine R_callV (v := .inr (.inr (.inl 96))) (As := [.inr (.inr (.inr 6))]) (rest := []) rfl mt_9_i202 pp_X9_needs (by decide) rfl rfl rfl (Nat.le_of_ble_eq_true rfl) (Nat.le_of_ble_eq_true rfl) ((g_X9_needs_9 h hI).mono (fun r3 h4 p5 => ?_))
  obtain ⟨hJ, fj, ⟨xq6, xq7, -⟩, rfl⟩ := p5
  have f8 := fj
  have fr := fr.trans fj (by decide)
  have hI := hJ
  have b9 : (0 : Int) ≤ (h4.1 96 12).toInt ∧ (h4.1 96 12).toInt ≤ 3 := hI.1 96 12
  have b10 : (0 : Int) ≤ (h4.1 96 8).toInt ∧ (h4.1 96 8).toInt ≤ 500 := hI.1 96 8
  show RUN d_X9_told 5 [(0, .inr (.inr (.inl 96))), (1, .inr (.inr (.inr 6))), (2, .inl a1), (3, .inl a2)] [] h4 _
  refine R_aload_n (k := 0) rfl rfl rfl ?_
  refine R_iload_n (k := 2) rfl rfl rfl ?_
  refine R_iload_n (k := 3) rfl rfl rfl ?_
  refine R_callV (v := .inr (.inr (.inl 96))) (As := [.inl a1, .inl a2]) (rest := []) rfl mt_9_i206 pp_X9_number (by decide) rfl rfl rfl (Nat.le_of_ble_eq_true rfl) (Nat.le_of_ble_eq_true rfl) ((g_X9_number h4 hI a1 a2 (by omega) (by omega)).mono (fun r11 h12 p13 => ?_))
  obtain ⟨hJ, fj, ⟨kp14, kp15, xq16, xq17, -⟩, x20, rfl, q21, zq18, zq19, -⟩ := p13
  have f22 := fj
  have fr := fr.trans fj (by decide)
  have hI := hJ
  have b23 : (0 : Int) ≤ (h12.1 96 12).toInt ∧ (h12.1 96 12).toInt ≤ 3 := hI.1 96 12
  have b24 : (0 : Int) ≤ (h12.1 96 8).toInt ∧ (h12.1 96 8).toInt ≤ 500 := hI.1 96 8
  show RUN d_X9_told 11 [(0, .inr (.inr (.inl 96))), (1, .inr (.inr (.inr 6))), (2, .inl a1), (3, .inl a2)] [.inl x20] h12 _
  exact R_iret rfl rfl rfl ⟨hI, fr, ⟨by omega, by omega, trivial⟩, _, rfl, ⟨by omega, by omega, by omega, trivial⟩⟩
abbrev qg_X9_readFirst (h : PH)  : Option PV → PH → Prop := fun r h' => INV h' ∧ FR [96, 102] h h' ∧ ((h'.1 102 5).toInt = (h.1 102 5).toInt ∧ (h'.1 102 6).toInt = (h.1 102 6).toInt ∧ (h'.1 102 9).toInt = (h.1 102 9).toInt ∧ (h'.1 102 10).toInt = (h.1 102 10).toInt ∧ ((h.1 96 12).toInt ≤ (h'.1 96 12).toInt) ∧ ((h.1 96 8).toInt ≤ (h'.1 96 8).toInt) ∧ ((h'.1 96 12).toInt = 0 → 1 ≤ (h'.1 102 0).toInt) ∧ True) ∧ r = none
set_option maxHeartbeats 4000000 in
set_option maxRecDepth 100000 in
theorem g_X9_readFirst (h : PH) (hI : INV h)  : CALL d_X9_readFirst [.inr (.inr (.inl 96))] h (qg_X9_readFirst h) := by
  show RUN d_X9_readFirst 0 [(0, .inr (.inr (.inl 96)))] [] h _
  have fr : FR [96, 102] h h := FR.rf _ _
  have b1 : (0 : Int) ≤ (h.1 96 12).toInt ∧ (h.1 96 12).toInt ≤ 3 := hI.1 96 12
  have b2 : (0 : Int) ≤ (h.1 96 8).toInt ∧ (h.1 96 8).toInt ≤ 500 := hI.1 96 8
  have b3 : (0 : Int) ≤ (h.1 102 0).toInt ∧ (h.1 102 0).toInt ≤ 60 := hI.1 102 0
  have b4 : (0 : Int) ≤ (h.1 102 5).toInt ∧ (h.1 102 5).toInt ≤ 6 := hI.1 102 5
  have b5 : (0 : Int) ≤ (h.1 102 6).toInt ∧ (h.1 102 6).toInt ≤ 5 := hI.1 102 6
  have b6 : (0 : Int) ≤ (h.1 102 9).toInt ∧ (h.1 102 9).toInt ≤ 30 := hI.1 102 9
  have b7 : (0 : Int) ≤ (h.1 96 7).toInt ∧ (h.1 96 7).toInt ≤ 500 := hI.1 96 7
  have b8 : (0 : Int) ≤ (h.1 96 5).toInt ∧ (h.1 96 5).toInt ≤ 500 := hI.1 96 5
  refine R_aload_n (k := 0) rfl rfl rfl ?_
  refine R_ldc_s (i := 0) rfl kt_9_209 ?_
  refine R_callV (v := .inr (.inr (.inl 96))) (As := [.inr (.inr (.inr 1))]) (rest := []) rfl mt_9_i202 pp_X9_needs (by decide) rfl rfl rfl (Nat.le_of_ble_eq_true rfl) (Nat.le_of_ble_eq_true rfl) ((g_X9_needs_4 h hI).mono (fun r9 h10 p11 => ?_))
  obtain ⟨hJ, fj, ⟨kp12, kp13, xq14, xq15, -⟩, rfl⟩ := p11
  have f16 := fj
  have fr := fr.trans fj (by decide)
  have hI := hJ
  have s17 : (h10.1 102 0).toInt = (h.1 102 0).toInt := by rw [(f16 102 (by decide)).1]
  have s18 : (h10.1 102 5).toInt = (h.1 102 5).toInt := by rw [(f16 102 (by decide)).1]
  have s19 : (h10.1 102 6).toInt = (h.1 102 6).toInt := by rw [(f16 102 (by decide)).1]
  have s20 : (h10.1 102 9).toInt = (h.1 102 9).toInt := by rw [(f16 102 (by decide)).1]
  have s21 : (h10.1 102 10).toInt = (h.1 102 10).toInt := by rw [(f16 102 (by decide)).1]
  have b22 : (0 : Int) ≤ (h10.1 96 12).toInt ∧ (h10.1 96 12).toInt ≤ 3 := hI.1 96 12
  have b23 : (0 : Int) ≤ (h10.1 96 8).toInt ∧ (h10.1 96 8).toInt ≤ 500 := hI.1 96 8
  show RUN d_X9_readFirst 6 [(0, .inr (.inr (.inl 96)))] [] h10 _
  refine R_aload_n (k := 0) rfl rfl rfl ?_
  refine R_getf_r (j := 14) rfl ft_9_31 sh_96 rfl ?_
  refine R_iconst 0 rfl rfl ?_
  refine R_aload_n (k := 0) rfl rfl rfl ?_
  refine R_ldc_s (i := 1) rfl kt_9_211 ?_
  refine R_iconst 1 rfl rfl ?_
  refine R_bipush 60 rfl rfl ?_
  have k24 : (1 : Int32).toInt = 1 := by decide
  have k25 : (60 : Int32).toInt = 60 := by decide
  refine R_callV (v := .inr (.inr (.inl 96))) (As := [.inr (.inr (.inr 2)), .inl 1, .inl 60]) (rest := [.inl 0, .inr (.inr (.inl 102))]) rfl mt_9_i213 pp_X9_told (by decide) rfl rfl rfl (Nat.le_of_ble_eq_true rfl) (Nat.le_of_ble_eq_true rfl) ((g_X9_told_4 h10 hI (1 : Int32) (60 : Int32) (by decide) (by decide)).mono (fun r26 h27 p28 => ?_))
  obtain ⟨hJ, fj, ⟨kp29, kp30, xq31, xq32, -⟩, x35, rfl, q36, zq33, zq34, -⟩ := p28
  have f37 := fj
  have fr := fr.trans fj (by decide)
  have hI := hJ
  have s38 : (h27.1 102 0).toInt = (h10.1 102 0).toInt := by rw [(f37 102 (by decide)).1]
  have s39 : (h27.1 102 5).toInt = (h10.1 102 5).toInt := by rw [(f37 102 (by decide)).1]
  have s40 : (h27.1 102 6).toInt = (h10.1 102 6).toInt := by rw [(f37 102 (by decide)).1]
  have s41 : (h27.1 102 9).toInt = (h10.1 102 9).toInt := by rw [(f37 102 (by decide)).1]
  have s42 : (h27.1 102 10).toInt = (h10.1 102 10).toInt := by rw [(f37 102 (by decide)).1]
  have b43 : (0 : Int) ≤ (h27.1 96 12).toInt ∧ (h27.1 96 12).toInt ≤ 3 := hI.1 96 12
  have b44 : (0 : Int) ≤ (h27.1 96 8).toInt ∧ (h27.1 96 8).toInt ≤ 500 := hI.1 96 8
  show RUN d_X9_readFirst 20 [(0, .inr (.inr (.inl 96)))] [.inl x35, .inl 0, .inr (.inr (.inl 102))] h27 _
  refine K_iast (a := 0) (lo := 0) (hi' := 60) rfl sh_102 (by decide) (by decide) hI (by decide) rfl (by omega) fr (by decide) (fun h45 g46 hI fr => ?_)
  have s47 : (h45.1 102 5).toInt = (h27.1 102 5).toInt := by rw [g46, show (0 : Int32).toNatClampNeg = 0 from rfl, wI_at (by decide)]
  have s48 : (h45.1 102 6).toInt = (h27.1 102 6).toInt := by rw [g46, show (0 : Int32).toNatClampNeg = 0 from rfl, wI_at (by decide)]
  have s49 : (h45.1 102 9).toInt = (h27.1 102 9).toInt := by rw [g46, show (0 : Int32).toNatClampNeg = 0 from rfl, wI_at (by decide)]
  have s50 : (h45.1 102 10).toInt = (h27.1 102 10).toInt := by rw [g46, show (0 : Int32).toNatClampNeg = 0 from rfl, wI_at (by decide)]
  have s51 : (h45.1 96 7).toInt = (h27.1 96 7).toInt := by rw [g46, wI_ne _ _ _ (by decide)]
  have s52 : (h45.1 96 5).toInt = (h27.1 96 5).toInt := by rw [g46, wI_ne _ _ _ (by decide)]
  have s53 : (h45.1 96 12).toInt = (h27.1 96 12).toInt := by rw [g46, wI_ne _ _ _ (by decide)]
  have s54 : (h45.1 96 8).toInt = (h27.1 96 8).toInt := by rw [g46, wI_ne _ _ _ (by decide)]
  have s55 : (h45.1 102 0).toInt = x35.toInt := by rw [g46, show (0 : Int32).toNatClampNeg = 0 from rfl, wI_is]
  refine R_aload_n (k := 0) rfl rfl rfl ?_
  refine R_getf_r (j := 14) rfl ft_9_31 sh_96 rfl ?_
  refine R_iconst 1 rfl rfl ?_
  refine R_aload_n (k := 0) rfl rfl rfl ?_
  refine R_ldc_s (i := 2) rfl kt_9_217 ?_
  refine R_iconst 1 rfl rfl ?_
  refine R_bipush 8 rfl rfl ?_
  have k56 : (1 : Int32).toInt = 1 := by decide
  have k57 : (8 : Int32).toInt = 8 := by decide
  refine R_callV (v := .inr (.inr (.inl 96))) (As := [.inr (.inr (.inr 3)), .inl 1, .inl 8]) (rest := [.inl 1, .inr (.inr (.inl 102))]) rfl mt_9_i213 pp_X9_told (by decide) rfl rfl rfl (Nat.le_of_ble_eq_true rfl) (Nat.le_of_ble_eq_true rfl) ((g_X9_told_5 h45 hI (1 : Int32) (8 : Int32) (by decide) (by decide)).mono (fun r58 h59 p60 => ?_))
  obtain ⟨hJ, fj, ⟨kp61, kp62, xq63, xq64, -⟩, x67, rfl, q68, zq65, zq66, -⟩ := p60
  have f69 := fj
  have fr := fr.trans fj (by decide)
  have hI := hJ
  have s70 : (h59.1 102 5).toInt = (h45.1 102 5).toInt := by rw [(f69 102 (by decide)).1]
  have s71 : (h59.1 102 6).toInt = (h45.1 102 6).toInt := by rw [(f69 102 (by decide)).1]
  have s72 : (h59.1 102 9).toInt = (h45.1 102 9).toInt := by rw [(f69 102 (by decide)).1]
  have s73 : (h59.1 102 10).toInt = (h45.1 102 10).toInt := by rw [(f69 102 (by decide)).1]
  have s74 : (h59.1 102 0).toInt = (h45.1 102 0).toInt := by rw [(f69 102 (by decide)).1]
  have b75 : (0 : Int) ≤ (h59.1 96 12).toInt ∧ (h59.1 96 12).toInt ≤ 3 := hI.1 96 12
  have b76 : (0 : Int) ≤ (h59.1 96 8).toInt ∧ (h59.1 96 8).toInt ≤ 500 := hI.1 96 8
  show RUN d_X9_readFirst 35 [(0, .inr (.inr (.inl 96)))] [.inl x67, .inl 1, .inr (.inr (.inl 102))] h59 _
  refine K_iast (a := 1) (lo := 0) (hi' := 8) rfl sh_102 (by decide) (by decide) hI (by decide) rfl (by omega) fr (by decide) (fun h77 g78 hI fr => ?_)
  have s79 : (h77.1 102 5).toInt = (h59.1 102 5).toInt := by rw [g78, show (1 : Int32).toNatClampNeg = 1 from rfl, wI_at (by decide)]
  have s80 : (h77.1 102 6).toInt = (h59.1 102 6).toInt := by rw [g78, show (1 : Int32).toNatClampNeg = 1 from rfl, wI_at (by decide)]
  have s81 : (h77.1 102 9).toInt = (h59.1 102 9).toInt := by rw [g78, show (1 : Int32).toNatClampNeg = 1 from rfl, wI_at (by decide)]
  have s82 : (h77.1 102 10).toInt = (h59.1 102 10).toInt := by rw [g78, show (1 : Int32).toNatClampNeg = 1 from rfl, wI_at (by decide)]
  have s83 : (h77.1 96 7).toInt = (h59.1 96 7).toInt := by rw [g78, wI_ne _ _ _ (by decide)]
  have s84 : (h77.1 96 5).toInt = (h59.1 96 5).toInt := by rw [g78, wI_ne _ _ _ (by decide)]
  have s85 : (h77.1 102 0).toInt = (h59.1 102 0).toInt := by rw [g78, show (1 : Int32).toNatClampNeg = 1 from rfl, wI_at (by decide)]
  have s86 : (h77.1 96 12).toInt = (h59.1 96 12).toInt := by rw [g78, wI_ne _ _ _ (by decide)]
  have s87 : (h77.1 96 8).toInt = (h59.1 96 8).toInt := by rw [g78, wI_ne _ _ _ (by decide)]
  have s88 : (h77.1 102 1).toInt = x67.toInt := by rw [g78, show (1 : Int32).toNatClampNeg = 1 from rfl, wI_is]
  refine R_aload_n (k := 0) rfl rfl rfl ?_
  refine R_getf_r (j := 14) rfl ft_9_31 sh_96 rfl ?_
  refine R_iconst 2 rfl rfl ?_
  refine R_aload_n (k := 0) rfl rfl rfl ?_
  refine R_ldc_s (i := 3) rfl kt_9_219 ?_
  refine R_iconst 1 rfl rfl ?_
  refine R_bipush 30 rfl rfl ?_
  have k89 : (1 : Int32).toInt = 1 := by decide
  have k90 : (30 : Int32).toInt = 30 := by decide
  refine R_callV (v := .inr (.inr (.inl 96))) (As := [.inr (.inr (.inr 4)), .inl 1, .inl 30]) (rest := [.inl 2, .inr (.inr (.inl 102))]) rfl mt_9_i213 pp_X9_told (by decide) rfl rfl rfl (Nat.le_of_ble_eq_true rfl) (Nat.le_of_ble_eq_true rfl) ((g_X9_told_6 h77 hI (1 : Int32) (30 : Int32) (by decide) (by decide)).mono (fun r91 h92 p93 => ?_))
  obtain ⟨hJ, fj, ⟨xq94, xq95, -⟩, x98, rfl, q99, zq96, zq97, -⟩ := p93
  have f100 := fj
  have fr := fr.trans fj (by decide)
  have hI := hJ
  have s101 : (h92.1 102 5).toInt = (h77.1 102 5).toInt := by rw [(f100 102 (by decide)).1]
  have s102 : (h92.1 102 6).toInt = (h77.1 102 6).toInt := by rw [(f100 102 (by decide)).1]
  have s103 : (h92.1 102 9).toInt = (h77.1 102 9).toInt := by rw [(f100 102 (by decide)).1]
  have s104 : (h92.1 102 10).toInt = (h77.1 102 10).toInt := by rw [(f100 102 (by decide)).1]
  have s105 : (h92.1 102 0).toInt = (h77.1 102 0).toInt := by rw [(f100 102 (by decide)).1]
  have s106 : (h92.1 102 1).toInt = (h77.1 102 1).toInt := by rw [(f100 102 (by decide)).1]
  have b107 : (0 : Int) ≤ (h92.1 96 12).toInt ∧ (h92.1 96 12).toInt ≤ 3 := hI.1 96 12
  have b108 : (0 : Int) ≤ (h92.1 96 8).toInt ∧ (h92.1 96 8).toInt ≤ 500 := hI.1 96 8
  show RUN d_X9_readFirst 50 [(0, .inr (.inr (.inl 96)))] [.inl x98, .inl 2, .inr (.inr (.inl 102))] h92 _
  refine K_iast (a := 2) (lo := (-2147483648)) (hi' := 2147483647) rfl sh_102 (by decide) (by decide) hI (by decide) rfl (i_rng _) fr (by decide) (fun h109 g110 hI fr => ?_)
  have s111 : (h109.1 102 5).toInt = (h92.1 102 5).toInt := by rw [g110, show (2 : Int32).toNatClampNeg = 2 from rfl, wI_at (by decide)]
  have s112 : (h109.1 102 6).toInt = (h92.1 102 6).toInt := by rw [g110, show (2 : Int32).toNatClampNeg = 2 from rfl, wI_at (by decide)]
  have s113 : (h109.1 102 9).toInt = (h92.1 102 9).toInt := by rw [g110, show (2 : Int32).toNatClampNeg = 2 from rfl, wI_at (by decide)]
  have s114 : (h109.1 102 10).toInt = (h92.1 102 10).toInt := by rw [g110, show (2 : Int32).toNatClampNeg = 2 from rfl, wI_at (by decide)]
  have s115 : (h109.1 102 0).toInt = (h92.1 102 0).toInt := by rw [g110, show (2 : Int32).toNatClampNeg = 2 from rfl, wI_at (by decide)]
  have s116 : (h109.1 102 1).toInt = (h92.1 102 1).toInt := by rw [g110, show (2 : Int32).toNatClampNeg = 2 from rfl, wI_at (by decide)]
  have s117 : (h109.1 96 12).toInt = (h92.1 96 12).toInt := by rw [g110, wI_ne _ _ _ (by decide)]
  have s118 : (h109.1 96 8).toInt = (h92.1 96 8).toInt := by rw [g110, wI_ne _ _ _ (by decide)]
  have s119 : (h109.1 102 2).toInt = x98.toInt := by rw [g110, show (2 : Int32).toNatClampNeg = 2 from rfl, wI_is]
  refine R_aload_n (k := 0) rfl rfl rfl ?_
  refine R_getf_r (j := 14) rfl ft_9_31 sh_96 rfl ?_
  refine R_iconst 3 rfl rfl ?_
  refine R_aload_n (k := 0) rfl rfl rfl ?_
  refine R_ldc_s (i := 4) rfl kt_9_221 ?_
  refine R_iconst 0 rfl rfl ?_
  refine R_bipush 20 rfl rfl ?_
  have k120 : (0 : Int32).toInt = 0 := by decide
  have k121 : (20 : Int32).toInt = 20 := by decide
  refine R_callV (v := .inr (.inr (.inl 96))) (As := [.inr (.inr (.inr 5)), .inl 0, .inl 20]) (rest := [.inl 3, .inr (.inr (.inl 102))]) rfl mt_9_i213 pp_X9_told (by decide) rfl rfl rfl (Nat.le_of_ble_eq_true rfl) (Nat.le_of_ble_eq_true rfl) ((g_X9_told_7 h109 hI (0 : Int32) (20 : Int32) (by decide) (by decide)).mono (fun r122 h123 p124 => ?_))
  obtain ⟨hJ, fj, ⟨xq125, xq126, -⟩, x129, rfl, q130, zq127, zq128, -⟩ := p124
  have f131 := fj
  have fr := fr.trans fj (by decide)
  have hI := hJ
  have s132 : (h123.1 102 5).toInt = (h109.1 102 5).toInt := by rw [(f131 102 (by decide)).1]
  have s133 : (h123.1 102 6).toInt = (h109.1 102 6).toInt := by rw [(f131 102 (by decide)).1]
  have s134 : (h123.1 102 9).toInt = (h109.1 102 9).toInt := by rw [(f131 102 (by decide)).1]
  have s135 : (h123.1 102 10).toInt = (h109.1 102 10).toInt := by rw [(f131 102 (by decide)).1]
  have s136 : (h123.1 102 0).toInt = (h109.1 102 0).toInt := by rw [(f131 102 (by decide)).1]
  have s137 : (h123.1 102 1).toInt = (h109.1 102 1).toInt := by rw [(f131 102 (by decide)).1]
  have s138 : (h123.1 102 2).toInt = (h109.1 102 2).toInt := by rw [(f131 102 (by decide)).1]
  have b139 : (0 : Int) ≤ (h123.1 96 12).toInt ∧ (h123.1 96 12).toInt ≤ 3 := hI.1 96 12
  have b140 : (0 : Int) ≤ (h123.1 96 8).toInt ∧ (h123.1 96 8).toInt ≤ 500 := hI.1 96 8
  show RUN d_X9_readFirst 65 [(0, .inr (.inr (.inl 96)))] [.inl x129, .inl 3, .inr (.inr (.inl 102))] h123 _
  refine K_iast (a := 3) (lo := 0) (hi' := 20) rfl sh_102 (by decide) (by decide) hI (by decide) rfl (by omega) fr (by decide) (fun h141 g142 hI fr => ?_)
  have s143 : (h141.1 102 5).toInt = (h123.1 102 5).toInt := by rw [g142, show (3 : Int32).toNatClampNeg = 3 from rfl, wI_at (by decide)]
  have s144 : (h141.1 102 6).toInt = (h123.1 102 6).toInt := by rw [g142, show (3 : Int32).toNatClampNeg = 3 from rfl, wI_at (by decide)]
  have s145 : (h141.1 102 9).toInt = (h123.1 102 9).toInt := by rw [g142, show (3 : Int32).toNatClampNeg = 3 from rfl, wI_at (by decide)]
  have s146 : (h141.1 102 10).toInt = (h123.1 102 10).toInt := by rw [g142, show (3 : Int32).toNatClampNeg = 3 from rfl, wI_at (by decide)]
  have s147 : (h141.1 102 0).toInt = (h123.1 102 0).toInt := by rw [g142, show (3 : Int32).toNatClampNeg = 3 from rfl, wI_at (by decide)]
  have s148 : (h141.1 102 1).toInt = (h123.1 102 1).toInt := by rw [g142, show (3 : Int32).toNatClampNeg = 3 from rfl, wI_at (by decide)]
  have s149 : (h141.1 102 2).toInt = (h123.1 102 2).toInt := by rw [g142, show (3 : Int32).toNatClampNeg = 3 from rfl, wI_at (by decide)]
  have s150 : (h141.1 96 12).toInt = (h123.1 96 12).toInt := by rw [g142, wI_ne _ _ _ (by decide)]
  have s151 : (h141.1 96 8).toInt = (h123.1 96 8).toInt := by rw [g142, wI_ne _ _ _ (by decide)]
  have s152 : (h141.1 102 3).toInt = x129.toInt := by rw [g142, show (3 : Int32).toNatClampNeg = 3 from rfl, wI_is]
  refine R_aload_n (k := 0) rfl rfl rfl ?_
  refine R_getf_r (j := 14) rfl ft_9_31 sh_96 rfl ?_
  refine R_iconst 4 rfl rfl ?_
  refine R_aload_n (k := 0) rfl rfl rfl ?_
  refine R_ldc_s (i := 5) rfl kt_9_223 ?_
  refine R_iconst 0 rfl rfl ?_
  refine R_bipush 10 rfl rfl ?_
  have k153 : (0 : Int32).toInt = 0 := by decide
  have k154 : (10 : Int32).toInt = 10 := by decide
  refine R_callV (v := .inr (.inr (.inl 96))) (As := [.inr (.inr (.inr 6)), .inl 0, .inl 10]) (rest := [.inl 4, .inr (.inr (.inl 102))]) rfl mt_9_i213 pp_X9_told (by decide) rfl rfl rfl (Nat.le_of_ble_eq_true rfl) (Nat.le_of_ble_eq_true rfl) ((g_X9_told_8 h141 hI (0 : Int32) (10 : Int32) (by decide) (by decide)).mono (fun r155 h156 p157 => ?_))
  obtain ⟨hJ, fj, ⟨xq158, xq159, -⟩, x162, rfl, q163, zq160, zq161, -⟩ := p157
  have f164 := fj
  have fr := fr.trans fj (by decide)
  have hI := hJ
  have s165 : (h156.1 102 5).toInt = (h141.1 102 5).toInt := by rw [(f164 102 (by decide)).1]
  have s166 : (h156.1 102 6).toInt = (h141.1 102 6).toInt := by rw [(f164 102 (by decide)).1]
  have s167 : (h156.1 102 9).toInt = (h141.1 102 9).toInt := by rw [(f164 102 (by decide)).1]
  have s168 : (h156.1 102 10).toInt = (h141.1 102 10).toInt := by rw [(f164 102 (by decide)).1]
  have s169 : (h156.1 102 0).toInt = (h141.1 102 0).toInt := by rw [(f164 102 (by decide)).1]
  have s170 : (h156.1 102 1).toInt = (h141.1 102 1).toInt := by rw [(f164 102 (by decide)).1]
  have s171 : (h156.1 102 2).toInt = (h141.1 102 2).toInt := by rw [(f164 102 (by decide)).1]
  have s172 : (h156.1 102 3).toInt = (h141.1 102 3).toInt := by rw [(f164 102 (by decide)).1]
  have b173 : (0 : Int) ≤ (h156.1 96 12).toInt ∧ (h156.1 96 12).toInt ≤ 3 := hI.1 96 12
  have b174 : (0 : Int) ≤ (h156.1 96 8).toInt ∧ (h156.1 96 8).toInt ≤ 500 := hI.1 96 8
  show RUN d_X9_readFirst 80 [(0, .inr (.inr (.inl 96)))] [.inl x162, .inl 4, .inr (.inr (.inl 102))] h156 _
  refine K_iast (a := 4) (lo := 0) (hi' := 10) rfl sh_102 (by decide) (by decide) hI (by decide) rfl (by omega) fr (by decide) (fun h175 g176 hI fr => ?_)
  have s177 : (h175.1 102 5).toInt = (h156.1 102 5).toInt := by rw [g176, show (4 : Int32).toNatClampNeg = 4 from rfl, wI_at (by decide)]
  have s178 : (h175.1 102 6).toInt = (h156.1 102 6).toInt := by rw [g176, show (4 : Int32).toNatClampNeg = 4 from rfl, wI_at (by decide)]
  have s179 : (h175.1 102 9).toInt = (h156.1 102 9).toInt := by rw [g176, show (4 : Int32).toNatClampNeg = 4 from rfl, wI_at (by decide)]
  have s180 : (h175.1 102 10).toInt = (h156.1 102 10).toInt := by rw [g176, show (4 : Int32).toNatClampNeg = 4 from rfl, wI_at (by decide)]
  have s181 : (h175.1 102 0).toInt = (h156.1 102 0).toInt := by rw [g176, show (4 : Int32).toNatClampNeg = 4 from rfl, wI_at (by decide)]
  have s182 : (h175.1 102 1).toInt = (h156.1 102 1).toInt := by rw [g176, show (4 : Int32).toNatClampNeg = 4 from rfl, wI_at (by decide)]
  have s183 : (h175.1 102 2).toInt = (h156.1 102 2).toInt := by rw [g176, show (4 : Int32).toNatClampNeg = 4 from rfl, wI_at (by decide)]
  have s184 : (h175.1 102 3).toInt = (h156.1 102 3).toInt := by rw [g176, show (4 : Int32).toNatClampNeg = 4 from rfl, wI_at (by decide)]
  have s185 : (h175.1 96 12).toInt = (h156.1 96 12).toInt := by rw [g176, wI_ne _ _ _ (by decide)]
  have s186 : (h175.1 96 8).toInt = (h156.1 96 8).toInt := by rw [g176, wI_ne _ _ _ (by decide)]
  have s187 : (h175.1 102 4).toInt = x162.toInt := by rw [g176, show (4 : Int32).toNatClampNeg = 4 from rfl, wI_is]
  exact R_vret rfl rfl ⟨hI, fr, ⟨by omega, by omega, by omega, by omega, by omega, by omega, by omega, trivial⟩, rfl⟩
abbrev qg_X9_readLine (h : PH)  : Option PV → PH → Prop := fun r h' => INV h' ∧ FR [96, 102] h h' ∧ ((h'.1 102 9).toInt = (h.1 102 9).toInt ∧ ((h.1 96 12).toInt ≤ (h'.1 96 12).toInt) ∧ ((h.1 96 8).toInt ≤ (h'.1 96 8).toInt) ∧ ((h'.1 96 12).toInt = 0 → (h'.1 96 10).toInt = 0 ∨ (h.1 96 8).toInt + 1 ≤ (h'.1 96 8).toInt) ∧ ((h'.1 96 12).toInt = 0 → (1 ≤ (h.1 102 0).toInt ∨ (h.1 102 10).toInt = 0) → 1 ≤ (h'.1 102 0).toInt) ∧ ((h'.1 102 9).toInt = (h.1 102 9).toInt) ∧ True) ∧ r = none
set_option maxHeartbeats 4000000 in
set_option maxRecDepth 100000 in
theorem g_X9_readLine (h : PH) (hI : INV h)  : CALL d_X9_readLine [.inr (.inr (.inl 96))] h (qg_X9_readLine h) := by
  show RUN d_X9_readLine 0 [(0, .inr (.inr (.inl 96)))] [] h _
  have fr : FR [96, 102] h h := FR.rf _ _
  have b1 : (0 : Int) ≤ (h.1 96 7).toInt ∧ (h.1 96 7).toInt ≤ 500 := hI.1 96 7
  have b2 : (0 : Int) ≤ (h.1 96 5).toInt ∧ (h.1 96 5).toInt ≤ 500 := hI.1 96 5
  have b3 : (0 : Int) ≤ (h.1 96 12).toInt ∧ (h.1 96 12).toInt ≤ 3 := hI.1 96 12
  have b4 : (0 : Int) ≤ (h.1 102 9).toInt ∧ (h.1 102 9).toInt ≤ 30 := hI.1 102 9
  have b5 : (0 : Int) ≤ (h.1 102 5).toInt ∧ (h.1 102 5).toInt ≤ 6 := hI.1 102 5
  have b6 : (0 : Int) ≤ (h.1 102 0).toInt ∧ (h.1 102 0).toInt ≤ 60 := hI.1 102 0
  have b7 : (0 : Int) ≤ (h.1 96 8).toInt ∧ (h.1 96 8).toInt ≤ 500 := hI.1 96 8
  have b8 : (0 : Int) ≤ (h.1 102 6).toInt ∧ (h.1 102 6).toInt ≤ 5 := hI.1 102 6
  refine R_aload_n (k := 0) rfl rfl rfl ?_
  refine R_getf_r (j := 14) rfl ft_9_31 sh_96 rfl ?_
  refine R_bipush 10 rfl rfl ?_
  refine R_iald rfl sh_102 (by decide) ?_
  show RUN d_X9_readLine 7 [(0, .inr (.inr (.inl 96)))] [.inl (h.1 102 10)] h _
  refine N_if_ne (a := (h.1 102 10).toInt) 17 rfl rfl rfl (fun c9 => ?_) (fun c9 => ?_)
  · refine R_aload_n (k := 0) rfl rfl rfl ?_
    refine R_callV (v := .inr (.inr (.inl 96))) (As := []) (rest := []) rfl mt_9_i247 pp_X9_readNext (by decide) rfl rfl rfl (Nat.le_of_ble_eq_true rfl) (Nat.le_of_ble_eq_true rfl) ((g_X9_readNext h hI).mono (fun r10 h11 p12 => ?_))
    obtain ⟨hJ, fj, ⟨kp13, kp14, kp15, kp16, kp17, xq18, xq19, -⟩, rfl⟩ := p12
    have f20 := fj
    have fr := fr.trans fj (by decide)
    have hI := hJ
    have b21 : (0 : Int) ≤ (h11.1 96 12).toInt ∧ (h11.1 96 12).toInt ≤ 3 := hI.1 96 12
    have b22 : (0 : Int) ≤ (h11.1 96 8).toInt ∧ (h11.1 96 8).toInt ≤ 500 := hI.1 96 8
    have b23 : (0 : Int) ≤ (h11.1 102 5).toInt ∧ (h11.1 102 5).toInt ≤ 6 := hI.1 102 5
    have b24 : (0 : Int) ≤ (h11.1 102 6).toInt ∧ (h11.1 102 6).toInt ≤ 5 := hI.1 102 6
    show RUN d_X9_readLine 21 [(0, .inr (.inr (.inl 96)))] [] h11 _
    refine R_aload_n (k := 0) rfl rfl rfl ?_
    refine R_callV (v := .inr (.inr (.inl 96))) (As := []) (rest := []) rfl mt_9_i176 pp_X9_good (by decide) rfl rfl rfl (Nat.le_of_ble_eq_true rfl) (Nat.le_of_ble_eq_true rfl) ((k_X9_good h11 hI).mono (fun r25 h26 p27 => ?_))
    obtain ⟨rfl, x28, rfl, q29 | q29⟩ := p27
    · show RUN d_X9_readLine 25 [(0, .inr (.inr (.inl 96)))] [.inl x28] h11 _
      refine N_if_eq (a := x28.toInt) 41 rfl rfl rfl (fun c30 => ?_) (fun c30 => ?_)
      · refine R_aload_n (k := 0) rfl rfl rfl ?_
        refine R_callV (v := .inr (.inr (.inl 96))) (As := []) (rest := []) rfl mt_9_i176 pp_X9_good (by decide) rfl rfl rfl (Nat.le_of_ble_eq_true rfl) (Nat.le_of_ble_eq_true rfl) ((k_X9_good h11 hI).mono (fun r31 h32 p33 => ?_))
        obtain ⟨rfl, x34, rfl, q35 | q35⟩ := p33
        · show RUN d_X9_readLine 45 [(0, .inr (.inr (.inl 96)))] [.inl x34] h11 _
          refine N_if_eq (a := x34.toInt) 52 rfl rfl rfl (fun c36 => ?_) (fun c36 => ?_)
          · refine R_aload_n (k := 0) rfl rfl rfl ?_
            refine R_getf_r (j := 14) rfl ft_9_31 sh_96 rfl ?_
            refine R_bipush 10 rfl rfl ?_
            refine R_dup2 rfl ?_
            refine R_iald rfl sh_102 (by decide) ?_
            show RUN d_X9_readLine 60 [(0, .inr (.inr (.inl 96)))] [.inl (h11.1 102 10), .inl 10, .inr (.inr (.inl 102))] h11 _
            refine R_iconst 1 rfl rfl ?_
            have b37 := i_rng (h11.1 102 10)
            refine R_iadd rfl ?_
            refine N_any (fun x38 => ?_)
            refine K_iast (a := 10) (lo := (-2147483648)) (hi' := 2147483647) rfl sh_102 (by decide) (by decide) hI (by decide) rfl (i_rng _) fr (by decide) (fun h39 g40 hI fr => ?_)
            have s41 : (h39.1 96 7).toInt = (h11.1 96 7).toInt := by rw [g40, wI_ne _ _ _ (by decide)]
            have s42 : (h39.1 96 5).toInt = (h11.1 96 5).toInt := by rw [g40, wI_ne _ _ _ (by decide)]
            have s43 : (h39.1 102 9).toInt = (h11.1 102 9).toInt := by rw [g40, show (10 : Int32).toNatClampNeg = 10 from rfl, wI_at (by decide)]
            have s44 : (h39.1 102 0).toInt = (h11.1 102 0).toInt := by rw [g40, show (10 : Int32).toNatClampNeg = 10 from rfl, wI_at (by decide)]
            have s45 : (h39.1 96 12).toInt = (h11.1 96 12).toInt := by rw [g40, wI_ne _ _ _ (by decide)]
            have s46 : (h39.1 96 8).toInt = (h11.1 96 8).toInt := by rw [g40, wI_ne _ _ _ (by decide)]
            have s47 : (h39.1 102 5).toInt = (h11.1 102 5).toInt := by rw [g40, show (10 : Int32).toNatClampNeg = 10 from rfl, wI_at (by decide)]
            have s48 : (h39.1 102 6).toInt = (h11.1 102 6).toInt := by rw [g40, show (10 : Int32).toNatClampNeg = 10 from rfl, wI_at (by decide)]
            have s49 : (h39.1 102 10).toInt = x38.toInt := by rw [g40, show (10 : Int32).toNatClampNeg = 10 from rfl, wI_is]
            exact R_vret rfl rfl ⟨hI, fr, ⟨by omega, by omega, by omega, by omega, by omega, by omega, trivial⟩, rfl⟩
          · exfalso; omega
        · exfalso; omega
      · exfalso; omega
    · show RUN d_X9_readLine 25 [(0, .inr (.inr (.inl 96)))] [.inl x28] h11 _
      refine N_if_eq (a := x28.toInt) 41 rfl rfl rfl (fun c50 => ?_) (fun c50 => ?_)
      · exfalso; omega
      · refine R_aload_n (k := 0) rfl rfl rfl ?_
        refine R_getf_i (j := 10) rfl ft_9_152 sh_96 rfl ?_
        refine R_iconst 3 rfl rfl ?_
        refine N_icmp_eq (a := (h11.1 96 10).toInt) (b := 3) 41 rfl rfl rfl (by decide) (fun c51 => ?_) (fun c51 => ?_)
        · refine R_aload_n (k := 0) rfl rfl rfl ?_
          refine R_callV (v := .inr (.inr (.inl 96))) (As := []) (rest := []) rfl mt_9_i176 pp_X9_good (by decide) rfl rfl rfl (Nat.le_of_ble_eq_true rfl) (Nat.le_of_ble_eq_true rfl) ((k_X9_good h11 hI).mono (fun r52 h53 p54 => ?_))
          obtain ⟨rfl, x55, rfl, q56 | q56⟩ := p54
          · exfalso; omega
          · show RUN d_X9_readLine 45 [(0, .inr (.inr (.inl 96)))] [.inl x55] h11 _
            refine N_if_eq (a := x55.toInt) 52 rfl rfl rfl (fun c57 => ?_) (fun c57 => ?_)
            · exfalso; omega
            · refine R_aload_n (k := 0) rfl rfl rfl ?_
              refine R_callV (v := .inr (.inr (.inl 96))) (As := []) (rest := []) rfl mt_9_i192 pp_X9_advance (by decide) rfl rfl rfl (Nat.le_of_ble_eq_true rfl) (Nat.le_of_ble_eq_true rfl) ((g_X9_advance h11 hI).mono (fun r58 h59 p60 => ?_))
              obtain ⟨hJ, fj, ⟨kp61, kp62, kp63, kp64, xq65, xq66, -⟩, rfl⟩ := p60
              have f67 := fj
              have fr := fr.trans fj (by decide)
              have hI := hJ
              have s68 : (h59.1 102 9).toInt = (h11.1 102 9).toInt := by rw [(f67 102 (by decide)).1]
              have s69 : (h59.1 102 10).toInt = (h11.1 102 10).toInt := by rw [(f67 102 (by decide)).1]
              have s70 : (h59.1 102 0).toInt = (h11.1 102 0).toInt := by rw [(f67 102 (by decide)).1]
              have s71 : (h59.1 102 5).toInt = (h11.1 102 5).toInt := by rw [(f67 102 (by decide)).1]
              have s72 : (h59.1 102 6).toInt = (h11.1 102 6).toInt := by rw [(f67 102 (by decide)).1]
              have b73 : (0 : Int) ≤ (h59.1 96 8).toInt ∧ (h59.1 96 8).toInt ≤ 500 := hI.1 96 8
              show RUN d_X9_readLine 52 [(0, .inr (.inr (.inl 96)))] [] h59 _
              refine R_aload_n (k := 0) rfl rfl rfl ?_
              refine R_getf_r (j := 14) rfl ft_9_31 sh_96 rfl ?_
              refine R_bipush 10 rfl rfl ?_
              refine R_dup2 rfl ?_
              refine R_iald rfl sh_102 (by decide) ?_
              show RUN d_X9_readLine 60 [(0, .inr (.inr (.inl 96)))] [.inl (h59.1 102 10), .inl 10, .inr (.inr (.inl 102))] h59 _
              refine R_iconst 1 rfl rfl ?_
              have b74 := i_rng (h59.1 102 10)
              refine R_iadd rfl ?_
              refine N_any (fun x75 => ?_)
              refine K_iast (a := 10) (lo := (-2147483648)) (hi' := 2147483647) rfl sh_102 (by decide) (by decide) hI (by decide) rfl (i_rng _) fr (by decide) (fun h76 g77 hI fr => ?_)
              have s78 : (h76.1 96 7).toInt = (h59.1 96 7).toInt := by rw [g77, wI_ne _ _ _ (by decide)]
              have s79 : (h76.1 96 5).toInt = (h59.1 96 5).toInt := by rw [g77, wI_ne _ _ _ (by decide)]
              have s80 : (h76.1 102 9).toInt = (h59.1 102 9).toInt := by rw [g77, show (10 : Int32).toNatClampNeg = 10 from rfl, wI_at (by decide)]
              have s81 : (h76.1 102 0).toInt = (h59.1 102 0).toInt := by rw [g77, show (10 : Int32).toNatClampNeg = 10 from rfl, wI_at (by decide)]
              have s82 : (h76.1 96 12).toInt = (h59.1 96 12).toInt := by rw [g77, wI_ne _ _ _ (by decide)]
              have s83 : (h76.1 102 5).toInt = (h59.1 102 5).toInt := by rw [g77, show (10 : Int32).toNatClampNeg = 10 from rfl, wI_at (by decide)]
              have s84 : (h76.1 102 6).toInt = (h59.1 102 6).toInt := by rw [g77, show (10 : Int32).toNatClampNeg = 10 from rfl, wI_at (by decide)]
              have s85 : (h76.1 96 8).toInt = (h59.1 96 8).toInt := by rw [g77, wI_ne _ _ _ (by decide)]
              have s86 : (h76.1 96 10).toInt = (h59.1 96 10).toInt := by rw [g77, wI_ne _ _ _ (by decide)]
              have s87 : (h76.1 102 10).toInt = x75.toInt := by rw [g77, show (10 : Int32).toNatClampNeg = 10 from rfl, wI_is]
              exact R_vret rfl rfl ⟨hI, fr, ⟨by omega, by omega, by omega, by omega, by omega, by omega, trivial⟩, rfl⟩
        · refine R_aload_n (k := 0) rfl rfl rfl ?_
          refine R_iconst 1 rfl rfl ?_
          have k88 : (1 : Int32).toInt = 1 := by decide
          refine R_callV (v := .inr (.inr (.inl 96))) (As := [.inl 1]) (rest := []) rfl mt_9_i198 pp_X9_errs (by decide) rfl rfl rfl (Nat.le_of_ble_eq_true rfl) (Nat.le_of_ble_eq_true rfl) ((g_X9_errs h11 hI (1 : Int32) (by decide)).mono (fun r89 h90 p91 => ?_))
          obtain ⟨hJ, fj, ⟨kp92, kp93, kp94, kp95, kp96, xq97, xq98, xq99, -⟩, rfl⟩ := p91
          have f100 := fj
          have fr := fr.trans fj (by decide)
          have hI := hJ
          have s101 : (h90.1 102 9).toInt = (h11.1 102 9).toInt := by rw [(f100 102 (by decide)).1]
          have s102 : (h90.1 102 10).toInt = (h11.1 102 10).toInt := by rw [(f100 102 (by decide)).1]
          have s103 : (h90.1 102 0).toInt = (h11.1 102 0).toInt := by rw [(f100 102 (by decide)).1]
          have s104 : (h90.1 102 5).toInt = (h11.1 102 5).toInt := by rw [(f100 102 (by decide)).1]
          have s105 : (h90.1 102 6).toInt = (h11.1 102 6).toInt := by rw [(f100 102 (by decide)).1]
          have b106 : (0 : Int) ≤ (h90.1 96 12).toInt ∧ (h90.1 96 12).toInt ≤ 3 := hI.1 96 12
          show RUN d_X9_readLine 41 [(0, .inr (.inr (.inl 96)))] [] h90 _
          refine R_aload_n (k := 0) rfl rfl rfl ?_
          refine R_callV (v := .inr (.inr (.inl 96))) (As := []) (rest := []) rfl mt_9_i176 pp_X9_good (by decide) rfl rfl rfl (Nat.le_of_ble_eq_true rfl) (Nat.le_of_ble_eq_true rfl) ((k_X9_good h90 hI).mono (fun r107 h108 p109 => ?_))
          obtain ⟨rfl, x110, rfl, q111 | q111⟩ := p109
          · show RUN d_X9_readLine 45 [(0, .inr (.inr (.inl 96)))] [.inl x110] h90 _
            refine N_if_eq (a := x110.toInt) 52 rfl rfl rfl (fun c112 => ?_) (fun c112 => ?_)
            · refine R_aload_n (k := 0) rfl rfl rfl ?_
              refine R_getf_r (j := 14) rfl ft_9_31 sh_96 rfl ?_
              refine R_bipush 10 rfl rfl ?_
              refine R_dup2 rfl ?_
              refine R_iald rfl sh_102 (by decide) ?_
              show RUN d_X9_readLine 60 [(0, .inr (.inr (.inl 96)))] [.inl (h90.1 102 10), .inl 10, .inr (.inr (.inl 102))] h90 _
              refine R_iconst 1 rfl rfl ?_
              have b113 := i_rng (h90.1 102 10)
              refine R_iadd rfl ?_
              refine N_any (fun x114 => ?_)
              refine K_iast (a := 10) (lo := (-2147483648)) (hi' := 2147483647) rfl sh_102 (by decide) (by decide) hI (by decide) rfl (i_rng _) fr (by decide) (fun h115 g116 hI fr => ?_)
              have s117 : (h115.1 96 7).toInt = (h90.1 96 7).toInt := by rw [g116, wI_ne _ _ _ (by decide)]
              have s118 : (h115.1 96 5).toInt = (h90.1 96 5).toInt := by rw [g116, wI_ne _ _ _ (by decide)]
              have s119 : (h115.1 102 9).toInt = (h90.1 102 9).toInt := by rw [g116, show (10 : Int32).toNatClampNeg = 10 from rfl, wI_at (by decide)]
              have s120 : (h115.1 102 0).toInt = (h90.1 102 0).toInt := by rw [g116, show (10 : Int32).toNatClampNeg = 10 from rfl, wI_at (by decide)]
              have s121 : (h115.1 96 8).toInt = (h90.1 96 8).toInt := by rw [g116, wI_ne _ _ _ (by decide)]
              have s122 : (h115.1 102 5).toInt = (h90.1 102 5).toInt := by rw [g116, show (10 : Int32).toNatClampNeg = 10 from rfl, wI_at (by decide)]
              have s123 : (h115.1 102 6).toInt = (h90.1 102 6).toInt := by rw [g116, show (10 : Int32).toNatClampNeg = 10 from rfl, wI_at (by decide)]
              have s124 : (h115.1 96 10).toInt = (h90.1 96 10).toInt := by rw [g116, wI_ne _ _ _ (by decide)]
              have s125 : (h115.1 96 12).toInt = (h90.1 96 12).toInt := by rw [g116, wI_ne _ _ _ (by decide)]
              have s126 : (h115.1 102 10).toInt = x114.toInt := by rw [g116, show (10 : Int32).toNatClampNeg = 10 from rfl, wI_is]
              exact R_vret rfl rfl ⟨hI, fr, ⟨by omega, by omega, by omega, by omega, by omega, by omega, trivial⟩, rfl⟩
            · exfalso; omega
          · exfalso; omega
  · refine R_aload_n (k := 0) rfl rfl rfl ?_
    refine R_callV (v := .inr (.inr (.inl 96))) (As := []) (rest := []) rfl mt_9_i244 pp_X9_readFirst (by decide) rfl rfl rfl (Nat.le_of_ble_eq_true rfl) (Nat.le_of_ble_eq_true rfl) ((g_X9_readFirst h hI).mono (fun r127 h128 p129 => ?_))
    obtain ⟨hJ, fj, ⟨kp130, kp131, kp132, kp133, xq134, xq135, xq136, -⟩, rfl⟩ := p129
    have f137 := fj
    have fr := fr.trans fj (by decide)
    have hI := hJ
    have b138 : (0 : Int) ≤ (h128.1 96 12).toInt ∧ (h128.1 96 12).toInt ≤ 3 := hI.1 96 12
    have b139 : (0 : Int) ≤ (h128.1 96 8).toInt ∧ (h128.1 96 8).toInt ≤ 500 := hI.1 96 8
    have b140 : (0 : Int) ≤ (h128.1 102 0).toInt ∧ (h128.1 102 0).toInt ≤ 60 := hI.1 102 0
    show RUN d_X9_readLine 14 [(0, .inr (.inr (.inl 96)))] [] h128 _
    refine R_goto 21 rfl rfl ?_
    refine R_aload_n (k := 0) rfl rfl rfl ?_
    refine R_callV (v := .inr (.inr (.inl 96))) (As := []) (rest := []) rfl mt_9_i176 pp_X9_good (by decide) rfl rfl rfl (Nat.le_of_ble_eq_true rfl) (Nat.le_of_ble_eq_true rfl) ((k_X9_good h128 hI).mono (fun r141 h142 p143 => ?_))
    obtain ⟨rfl, x144, rfl, q145 | q145⟩ := p143
    · show RUN d_X9_readLine 25 [(0, .inr (.inr (.inl 96)))] [.inl x144] h128 _
      refine N_if_eq (a := x144.toInt) 41 rfl rfl rfl (fun c146 => ?_) (fun c146 => ?_)
      · refine R_aload_n (k := 0) rfl rfl rfl ?_
        refine R_callV (v := .inr (.inr (.inl 96))) (As := []) (rest := []) rfl mt_9_i176 pp_X9_good (by decide) rfl rfl rfl (Nat.le_of_ble_eq_true rfl) (Nat.le_of_ble_eq_true rfl) ((k_X9_good h128 hI).mono (fun r147 h148 p149 => ?_))
        obtain ⟨rfl, x150, rfl, q151 | q151⟩ := p149
        · show RUN d_X9_readLine 45 [(0, .inr (.inr (.inl 96)))] [.inl x150] h128 _
          refine N_if_eq (a := x150.toInt) 52 rfl rfl rfl (fun c152 => ?_) (fun c152 => ?_)
          · refine R_aload_n (k := 0) rfl rfl rfl ?_
            refine R_getf_r (j := 14) rfl ft_9_31 sh_96 rfl ?_
            refine R_bipush 10 rfl rfl ?_
            refine R_dup2 rfl ?_
            refine R_iald rfl sh_102 (by decide) ?_
            show RUN d_X9_readLine 60 [(0, .inr (.inr (.inl 96)))] [.inl (h128.1 102 10), .inl 10, .inr (.inr (.inl 102))] h128 _
            refine R_iconst 1 rfl rfl ?_
            refine N_iadd (a := (h128.1 102 10).toInt) (b := 1) rfl rfl (by decide) (by omega) (fun x153 q154 => ?_)
            refine K_iast (a := 10) (lo := (-2147483648)) (hi' := 2147483647) rfl sh_102 (by decide) (by decide) hI (by decide) rfl (i_rng _) fr (by decide) (fun h155 g156 hI fr => ?_)
            have s157 : (h155.1 102 9).toInt = (h128.1 102 9).toInt := by rw [g156, show (10 : Int32).toNatClampNeg = 10 from rfl, wI_at (by decide)]
            have s158 : (h155.1 102 5).toInt = (h128.1 102 5).toInt := by rw [g156, show (10 : Int32).toNatClampNeg = 10 from rfl, wI_at (by decide)]
            have s159 : (h155.1 102 6).toInt = (h128.1 102 6).toInt := by rw [g156, show (10 : Int32).toNatClampNeg = 10 from rfl, wI_at (by decide)]
            have s160 : (h155.1 96 12).toInt = (h128.1 96 12).toInt := by rw [g156, wI_ne _ _ _ (by decide)]
            have s161 : (h155.1 96 8).toInt = (h128.1 96 8).toInt := by rw [g156, wI_ne _ _ _ (by decide)]
            have s162 : (h155.1 102 0).toInt = (h128.1 102 0).toInt := by rw [g156, show (10 : Int32).toNatClampNeg = 10 from rfl, wI_at (by decide)]
            have s163 : (h155.1 102 10).toInt = x153.toInt := by rw [g156, show (10 : Int32).toNatClampNeg = 10 from rfl, wI_is]
            exact R_vret rfl rfl ⟨hI, fr, ⟨by omega, by omega, by omega, by omega, by omega, by omega, trivial⟩, rfl⟩
          · exfalso; omega
        · exfalso; omega
      · exfalso; omega
    · show RUN d_X9_readLine 25 [(0, .inr (.inr (.inl 96)))] [.inl x144] h128 _
      refine N_if_eq (a := x144.toInt) 41 rfl rfl rfl (fun c164 => ?_) (fun c164 => ?_)
      · exfalso; omega
      · refine R_aload_n (k := 0) rfl rfl rfl ?_
        refine R_getf_i (j := 10) rfl ft_9_152 sh_96 rfl ?_
        refine R_iconst 3 rfl rfl ?_
        refine N_icmp_eq (a := (h128.1 96 10).toInt) (b := 3) 41 rfl rfl rfl (by decide) (fun c165 => ?_) (fun c165 => ?_)
        · refine R_aload_n (k := 0) rfl rfl rfl ?_
          refine R_callV (v := .inr (.inr (.inl 96))) (As := []) (rest := []) rfl mt_9_i176 pp_X9_good (by decide) rfl rfl rfl (Nat.le_of_ble_eq_true rfl) (Nat.le_of_ble_eq_true rfl) ((k_X9_good h128 hI).mono (fun r166 h167 p168 => ?_))
          obtain ⟨rfl, x169, rfl, q170 | q170⟩ := p168
          · exfalso; omega
          · show RUN d_X9_readLine 45 [(0, .inr (.inr (.inl 96)))] [.inl x169] h128 _
            refine N_if_eq (a := x169.toInt) 52 rfl rfl rfl (fun c171 => ?_) (fun c171 => ?_)
            · exfalso; omega
            · refine R_aload_n (k := 0) rfl rfl rfl ?_
              refine R_callV (v := .inr (.inr (.inl 96))) (As := []) (rest := []) rfl mt_9_i192 pp_X9_advance (by decide) rfl rfl rfl (Nat.le_of_ble_eq_true rfl) (Nat.le_of_ble_eq_true rfl) ((g_X9_advance h128 hI).mono (fun r172 h173 p174 => ?_))
              obtain ⟨hJ, fj, ⟨kp175, kp176, kp177, kp178, xq179, xq180, -⟩, rfl⟩ := p174
              have f181 := fj
              have fr := fr.trans fj (by decide)
              have hI := hJ
              have s182 : (h173.1 102 9).toInt = (h128.1 102 9).toInt := by rw [(f181 102 (by decide)).1]
              have s183 : (h173.1 102 10).toInt = (h128.1 102 10).toInt := by rw [(f181 102 (by decide)).1]
              have s184 : (h173.1 102 5).toInt = (h128.1 102 5).toInt := by rw [(f181 102 (by decide)).1]
              have s185 : (h173.1 102 6).toInt = (h128.1 102 6).toInt := by rw [(f181 102 (by decide)).1]
              have s186 : (h173.1 102 0).toInt = (h128.1 102 0).toInt := by rw [(f181 102 (by decide)).1]
              have b187 : (0 : Int) ≤ (h173.1 96 8).toInt ∧ (h173.1 96 8).toInt ≤ 500 := hI.1 96 8
              have b188 : (0 : Int) ≤ (h173.1 96 7).toInt ∧ (h173.1 96 7).toInt ≤ 500 := hI.1 96 7
              show RUN d_X9_readLine 52 [(0, .inr (.inr (.inl 96)))] [] h173 _
              refine R_aload_n (k := 0) rfl rfl rfl ?_
              refine R_getf_r (j := 14) rfl ft_9_31 sh_96 rfl ?_
              refine R_bipush 10 rfl rfl ?_
              refine R_dup2 rfl ?_
              refine R_iald rfl sh_102 (by decide) ?_
              show RUN d_X9_readLine 60 [(0, .inr (.inr (.inl 96)))] [.inl (h173.1 102 10), .inl 10, .inr (.inr (.inl 102))] h173 _
              refine R_iconst 1 rfl rfl ?_
              refine N_iadd (a := (h173.1 102 10).toInt) (b := 1) rfl rfl (by decide) (by omega) (fun x189 q190 => ?_)
              refine K_iast (a := 10) (lo := (-2147483648)) (hi' := 2147483647) rfl sh_102 (by decide) (by decide) hI (by decide) rfl (i_rng _) fr (by decide) (fun h191 g192 hI fr => ?_)
              have s193 : (h191.1 102 9).toInt = (h173.1 102 9).toInt := by rw [g192, show (10 : Int32).toNatClampNeg = 10 from rfl, wI_at (by decide)]
              have s194 : (h191.1 102 5).toInt = (h173.1 102 5).toInt := by rw [g192, show (10 : Int32).toNatClampNeg = 10 from rfl, wI_at (by decide)]
              have s195 : (h191.1 102 6).toInt = (h173.1 102 6).toInt := by rw [g192, show (10 : Int32).toNatClampNeg = 10 from rfl, wI_at (by decide)]
              have s196 : (h191.1 96 12).toInt = (h173.1 96 12).toInt := by rw [g192, wI_ne _ _ _ (by decide)]
              have s197 : (h191.1 102 0).toInt = (h173.1 102 0).toInt := by rw [g192, show (10 : Int32).toNatClampNeg = 10 from rfl, wI_at (by decide)]
              have s198 : (h191.1 96 8).toInt = (h173.1 96 8).toInt := by rw [g192, wI_ne _ _ _ (by decide)]
              have s199 : (h191.1 96 10).toInt = (h173.1 96 10).toInt := by rw [g192, wI_ne _ _ _ (by decide)]
              have s200 : (h191.1 96 7).toInt = (h173.1 96 7).toInt := by rw [g192, wI_ne _ _ _ (by decide)]
              have s201 : (h191.1 102 10).toInt = x189.toInt := by rw [g192, show (10 : Int32).toNatClampNeg = 10 from rfl, wI_is]
              exact R_vret rfl rfl ⟨hI, fr, ⟨by omega, by omega, by omega, by omega, by omega, by omega, trivial⟩, rfl⟩
        · refine R_aload_n (k := 0) rfl rfl rfl ?_
          refine R_iconst 1 rfl rfl ?_
          have k202 : (1 : Int32).toInt = 1 := by decide
          refine R_callV (v := .inr (.inr (.inl 96))) (As := [.inl 1]) (rest := []) rfl mt_9_i198 pp_X9_errs (by decide) rfl rfl rfl (Nat.le_of_ble_eq_true rfl) (Nat.le_of_ble_eq_true rfl) ((g_X9_errs h128 hI (1 : Int32) (by decide)).mono (fun r203 h204 p205 => ?_))
          obtain ⟨hJ, fj, ⟨kp206, kp207, kp208, kp209, kp210, xq211, xq212, xq213, -⟩, rfl⟩ := p205
          have f214 := fj
          have fr := fr.trans fj (by decide)
          have hI := hJ
          have s215 : (h204.1 102 9).toInt = (h128.1 102 9).toInt := by rw [(f214 102 (by decide)).1]
          have s216 : (h204.1 102 10).toInt = (h128.1 102 10).toInt := by rw [(f214 102 (by decide)).1]
          have s217 : (h204.1 102 5).toInt = (h128.1 102 5).toInt := by rw [(f214 102 (by decide)).1]
          have s218 : (h204.1 102 6).toInt = (h128.1 102 6).toInt := by rw [(f214 102 (by decide)).1]
          have s219 : (h204.1 102 0).toInt = (h128.1 102 0).toInt := by rw [(f214 102 (by decide)).1]
          have b220 : (0 : Int) ≤ (h204.1 96 12).toInt ∧ (h204.1 96 12).toInt ≤ 3 := hI.1 96 12
          show RUN d_X9_readLine 41 [(0, .inr (.inr (.inl 96)))] [] h204 _
          refine R_aload_n (k := 0) rfl rfl rfl ?_
          refine R_callV (v := .inr (.inr (.inl 96))) (As := []) (rest := []) rfl mt_9_i176 pp_X9_good (by decide) rfl rfl rfl (Nat.le_of_ble_eq_true rfl) (Nat.le_of_ble_eq_true rfl) ((k_X9_good h204 hI).mono (fun r221 h222 p223 => ?_))
          obtain ⟨rfl, x224, rfl, q225 | q225⟩ := p223
          · show RUN d_X9_readLine 45 [(0, .inr (.inr (.inl 96)))] [.inl x224] h204 _
            refine N_if_eq (a := x224.toInt) 52 rfl rfl rfl (fun c226 => ?_) (fun c226 => ?_)
            · refine R_aload_n (k := 0) rfl rfl rfl ?_
              refine R_getf_r (j := 14) rfl ft_9_31 sh_96 rfl ?_
              refine R_bipush 10 rfl rfl ?_
              refine R_dup2 rfl ?_
              refine R_iald rfl sh_102 (by decide) ?_
              show RUN d_X9_readLine 60 [(0, .inr (.inr (.inl 96)))] [.inl (h204.1 102 10), .inl 10, .inr (.inr (.inl 102))] h204 _
              refine R_iconst 1 rfl rfl ?_
              refine N_iadd (a := (h204.1 102 10).toInt) (b := 1) rfl rfl (by decide) (by omega) (fun x227 q228 => ?_)
              refine K_iast (a := 10) (lo := (-2147483648)) (hi' := 2147483647) rfl sh_102 (by decide) (by decide) hI (by decide) rfl (i_rng _) fr (by decide) (fun h229 g230 hI fr => ?_)
              have s231 : (h229.1 102 9).toInt = (h204.1 102 9).toInt := by rw [g230, show (10 : Int32).toNatClampNeg = 10 from rfl, wI_at (by decide)]
              have s232 : (h229.1 102 5).toInt = (h204.1 102 5).toInt := by rw [g230, show (10 : Int32).toNatClampNeg = 10 from rfl, wI_at (by decide)]
              have s233 : (h229.1 102 6).toInt = (h204.1 102 6).toInt := by rw [g230, show (10 : Int32).toNatClampNeg = 10 from rfl, wI_at (by decide)]
              have s234 : (h229.1 96 8).toInt = (h204.1 96 8).toInt := by rw [g230, wI_ne _ _ _ (by decide)]
              have s235 : (h229.1 102 0).toInt = (h204.1 102 0).toInt := by rw [g230, show (10 : Int32).toNatClampNeg = 10 from rfl, wI_at (by decide)]
              have s236 : (h229.1 96 10).toInt = (h204.1 96 10).toInt := by rw [g230, wI_ne _ _ _ (by decide)]
              have s237 : (h229.1 96 12).toInt = (h204.1 96 12).toInt := by rw [g230, wI_ne _ _ _ (by decide)]
              have s238 : (h229.1 102 10).toInt = x227.toInt := by rw [g230, show (10 : Int32).toNatClampNeg = 10 from rfl, wI_is]
              exact R_vret rfl rfl ⟨hI, fr, ⟨by omega, by omega, by omega, by omega, by omega, by omega, trivial⟩, rfl⟩
            · exfalso; omega
          · exfalso; omega

abbrev qg_X9_brigade (h : PH)  : Option PV → PH → Prop := fun r h' => INV h' ∧ FR [96, 97, 102] h h' ∧ (True) ∧ ∃ z : Int32, r = some (.inl z) ∧ ((True))
set_option maxHeartbeats 4000000 in
set_option maxRecDepth 100000 in
theorem g_X9_brigade (h : PH) (hI : INV h)  : CALL d_X9_brigade [.inr (.inr (.inl 96))] h (qg_X9_brigade h) := by
  show RUN d_X9_brigade 0 [(0, .inr (.inr (.inl 96)))] [] h _
  have fr : FR [96, 97, 102] h h := FR.rf _ _
  have b1 : (0 : Int) ≤ (h.1 96 8).toInt ∧ (h.1 96 8).toInt ≤ 500 := hI.1 96 8
  have b2 : (0 : Int) ≤ (h.1 96 12).toInt ∧ (h.1 96 12).toInt ≤ 3 := hI.1 96 12
  refine R_aload_n (k := 0) rfl rfl rfl ?_
  refine R_aload_n (k := 0) rfl rfl rfl ?_
  refine R_getf_i (j := 5) rfl ft_9_136 sh_96 rfl ?_
  have b3 : (0 : Int) ≤ (h.1 96 5).toInt ∧ (h.1 96 5).toInt ≤ 500 := hI.1 96 5
  refine K_putf (j := 7) (lo := 0) (hi' := 500) rfl ft_9_139 sh_96 rfl hI (by decide) rfl (by omega) fr (by decide) (fun h4 g5 hI fr => ?_)
  have s6 : (h4.1 96 8).toInt = (h.1 96 8).toInt := by rw [g5, wI_at (by decide)]
  have s7 : (h4.1 96 10).toInt = (h.1 96 10).toInt := by rw [g5, wI_at (by decide)]
  have s8 : (h4.1 96 12).toInt = (h.1 96 12).toInt := by rw [g5, wI_at (by decide)]
  have s9 : (h4.1 96 5).toInt = (h.1 96 5).toInt := by rw [g5, wI_at (by decide)]
  have s10 : (h4.1 96 7).toInt = (h.1 96 5).toInt := by rw [g5, wI_is]
  refine R_aload_n (k := 0) rfl rfl rfl ?_
  refine R_iconst 0 rfl rfl ?_
  refine K_putf (j := 5) (lo := 0) (hi' := 500) rfl ft_9_136 sh_96 rfl hI (by decide) rfl (by decide) fr (by decide) (fun h11 g12 hI fr => ?_)
  have s13 : (h11.1 96 8).toInt = (h4.1 96 8).toInt := by rw [g12, wI_at (by decide)]
  have s14 : (h11.1 96 10).toInt = (h4.1 96 10).toInt := by rw [g12, wI_at (by decide)]
  have s15 : (h11.1 96 12).toInt = (h4.1 96 12).toInt := by rw [g12, wI_at (by decide)]
  have s16 : (h11.1 96 7).toInt = (h4.1 96 7).toInt := by rw [g12, wI_at (by decide)]
  have s17 : (h11.1 96 5).toInt = 0 := by rw [g12, wI_is]; rfl
  refine R_aload_n (k := 0) rfl rfl rfl ?_
  refine R_iconst 0 rfl rfl ?_
  refine K_putf (j := 8) (lo := 0) (hi' := 500) rfl ft_9_142 sh_96 rfl hI (by decide) rfl (by decide) fr (by decide) (fun h18 g19 hI fr => ?_)
  have s20 : (h18.1 96 10).toInt = (h11.1 96 10).toInt := by rw [g19, wI_at (by decide)]
  have s21 : (h18.1 96 12).toInt = (h11.1 96 12).toInt := by rw [g19, wI_at (by decide)]
  have s22 : (h18.1 96 7).toInt = (h11.1 96 7).toInt := by rw [g19, wI_at (by decide)]
  have s23 : (h18.1 96 5).toInt = (h11.1 96 5).toInt := by rw [g19, wI_at (by decide)]
  have s24 : (h18.1 96 8).toInt = 0 := by rw [g19, wI_is]; rfl
  refine R_aload_n (k := 0) rfl rfl rfl ?_
  refine R_iconst 0 rfl rfl ?_
  refine K_putf (j := 12) (lo := 0) (hi' := 3) rfl ft_9_173 sh_96 rfl hI (by decide) rfl (by decide) fr (by decide) (fun h25 g26 hI fr => ?_)
  have s27 : (h25.1 96 10).toInt = (h18.1 96 10).toInt := by rw [g26, wI_at (by decide)]
  have s28 : (h25.1 96 7).toInt = (h18.1 96 7).toInt := by rw [g26, wI_at (by decide)]
  have s29 : (h25.1 96 5).toInt = (h18.1 96 5).toInt := by rw [g26, wI_at (by decide)]
  have s30 : (h25.1 96 8).toInt = (h18.1 96 8).toInt := by rw [g26, wI_at (by decide)]
  have s31 : (h25.1 96 12).toInt = 0 := by rw [g26, wI_is]; rfl
  refine R_aload_n (k := 0) rfl rfl rfl ?_
  refine R_iconst (-1) rfl rfl ?_
  refine K_putf (j := 13) (lo := (-2147483648)) (hi' := 2147483647) rfl ft_9_27 sh_96 rfl hI (by decide) rfl (by decide) fr (by decide) (fun h32 g33 hI fr => ?_)
  have s34 : (h32.1 96 10).toInt = (h25.1 96 10).toInt := by rw [g33, wI_at (by decide)]
  have s35 : (h32.1 96 7).toInt = (h25.1 96 7).toInt := by rw [g33, wI_at (by decide)]
  have s36 : (h32.1 96 5).toInt = (h25.1 96 5).toInt := by rw [g33, wI_at (by decide)]
  have s37 : (h32.1 96 8).toInt = (h25.1 96 8).toInt := by rw [g33, wI_at (by decide)]
  have s38 : (h32.1 96 12).toInt = (h25.1 96 12).toInt := by rw [g33, wI_at (by decide)]
  have s39 : (h32.1 96 13).toInt = (-1) := by rw [g33, wI_is]; rfl
  refine R_iconst 0 rfl rfl ?_
  refine R_istore_n (k := 1) rfl [(1, .inl 0), (0, .inr (.inr (.inl 96)))] rfl rfl (by decide) ?_
  have lp41 : ∀ (n40 : Nat) (h42 : PH) (x44 : Int32), INV h42 → FR [96, 97, 102] h h42 → FR [96, 102] h32 h42 → 0 ≤ x44.toInt ∧ x44.toInt ≤ 68 → True → 0 ≤ (h42.1 96 7).toInt ∧ (h42.1 96 7).toInt ≤ 500 → 0 ≤ (h42.1 96 5).toInt ∧ (h42.1 96 5).toInt ≤ 0 → 0 ≤ (h42.1 96 8).toInt ∧ (h42.1 96 8).toInt ≤ 0 → 0 ≤ (h42.1 96 12).toInt ∧ (h42.1 96 12).toInt ≤ 0 → (-1) ≤ (h42.1 96 13).toInt ∧ (h42.1 96 13).toInt ≤ (-1) → (∀ j : Nat, (j : Int) < x44.toInt → (h42.1 102 j).toInt = 0) → (68 - x44.toInt).toNat < n40 → RUN d_X9_brigade 30 [(1, .inl x44), (0, .inr (.inr (.inl 96)))] [] h42 (qg_X9_brigade h) := by
    intro n40
    induction n40 with
    | zero => intro h42 x44 m46 m47 m48 m49 m50 m51 m52 m53 m54 m55 m56 hz; exact absurd hz (Nat.not_lt_zero _)
    | succ n40 ih45 =>
      intro h42 x44 hI fr fl43 m49 m50 m51 m52 m53 m54 m55 m56 hz
      refine R_iload_n (k := 1) rfl rfl rfl ?_
      refine R_bipush 68 rfl rfl ?_
      refine N_icmp_ge (a := x44.toInt) (b := 68) 49 rfl rfl rfl (by decide) (fun c57 => ?_) (fun c57 => ?_)
      · have b58 : (0 : Int) ≤ (h42.1 102 9).toInt ∧ (h42.1 102 9).toInt ≤ 30 := hI.1 102 9
        have b59 : (0 : Int) ≤ (h42.1 102 5).toInt ∧ (h42.1 102 5).toInt ≤ 6 := hI.1 102 5
        have b60 : (0 : Int) ≤ (h42.1 102 0).toInt ∧ (h42.1 102 0).toInt ≤ 60 := hI.1 102 0
        have zz61 := m56 9 (by omega)
        have zz62 := m56 10 (by omega)
        have zz63 := m56 5 (by omega)
        have zz64 := m56 0 (by omega)
        refine R_aload_n (k := 0) rfl rfl rfl ?_
        refine R_callV (v := .inr (.inr (.inl 96))) (As := []) (rest := []) rfl mt_9_i192 pp_X9_advance (by decide) rfl rfl rfl (Nat.le_of_ble_eq_true rfl) (Nat.le_of_ble_eq_true rfl) ((g_X9_advance h42 hI).mono (fun r65 h66 p67 => ?_))
        obtain ⟨hJ, fj, ⟨kp68, kp69, kp70, kp71, xq72, xq73, -⟩, rfl⟩ := p67
        have f74 := fj
        have fr := fr.trans fj (by decide)
        have hI := hJ
        have fl43 : FR [96, 102] h32 h66 := fl43.trans fj (by decide)
        have s75 : (h66.1 102 9).toInt = (h42.1 102 9).toInt := by rw [(f74 102 (by decide)).1]
        have s76 : (h66.1 102 10).toInt = (h42.1 102 10).toInt := by rw [(f74 102 (by decide)).1]
        have s77 : (h66.1 102 5).toInt = (h42.1 102 5).toInt := by rw [(f74 102 (by decide)).1]
        have s78 : (h66.1 102 0).toInt = (h42.1 102 0).toInt := by rw [(f74 102 (by decide)).1]
        have b79 : (0 : Int) ≤ (h66.1 96 8).toInt ∧ (h66.1 96 8).toInt ≤ 500 := hI.1 96 8
        show RUN d_X9_brigade 53 [(1, .inl x44), (0, .inr (.inr (.inl 96)))] [] h66 _
        have b80 : (0 : Int) ≤ (h66.1 102 6).toInt ∧ (h66.1 102 6).toInt ≤ 5 := hI.1 102 6
        have lp82 : ∀ (n81 : Nat) (h83 : PH), INV h83 → FR [96, 97, 102] h h83 → FR [96, 102] h66 h83 → (h83.1 102 9).toInt = (h66.1 102 9).toInt → 0 ≤ (h83.1 96 12).toInt ∧ (h83.1 96 12).toInt ≤ 3 → True → 0 ≤ (h83.1 102 5).toInt ∧ (h83.1 102 5).toInt ≤ 6 → 0 ≤ (h83.1 102 0).toInt ∧ (h83.1 102 0).toInt ≤ 60 → 0 ≤ (h83.1 96 8).toInt ∧ (h83.1 96 8).toInt ≤ 500 → True → 0 ≤ (h83.1 102 6).toInt ∧ (h83.1 102 6).toInt ≤ 5 → ((h83.1 102 9).toInt = 0) → ((h83.1 96 12).toInt = 0 → ((h83.1 102 10).toInt = 0 ∧ (h83.1 102 5).toInt = 0) ∨ 1 ≤ (h83.1 102 0).toInt) → mbr (h83.1 96 12).toInt (h83.1 96 10).toInt (h83.1 96 8).toInt < n81 → RUN d_X9_brigade 53 [(1, .inl x44), (0, .inr (.inr (.inl 96)))] [] h83 (qg_X9_brigade h) := by
          intro n81
          induction n81 with
          | zero => intro h83 m86 m87 m88 m89 m90 m91 m92 m93 m94 m95 m96 m97 m98 hz; exact absurd hz (Nat.not_lt_zero _)
          | succ n81 ih85 =>
            intro h83 hI fr fl84 m89 m90 m91 m92 m93 m94 m95 m96 m97 m98 hz
            have fl43 : FR [96, 102] h32 h83 := fl43.trans fl84 (by decide)
            refine R_aload_n (k := 0) rfl rfl rfl ?_
            refine R_callV (v := .inr (.inr (.inl 96))) (As := []) (rest := []) rfl mt_9_i176 pp_X9_good (by decide) rfl rfl rfl (Nat.le_of_ble_eq_true rfl) (Nat.le_of_ble_eq_true rfl) ((k_X9_good h83 hI).mono (fun r99 h100 p101 => ?_))
            obtain ⟨rfl, x102, rfl, q103 | q103⟩ := p101
            · show RUN d_X9_brigade 57 [(1, .inl x44), (0, .inr (.inr (.inl 96)))] [.inl x102] h83 _
              refine N_if_eq (a := x102.toInt) 74 rfl rfl rfl (fun c104 => ?_) (fun c104 => ?_)
              · refine R_aload_n (k := 0) rfl rfl rfl ?_
                refine R_callV (v := .inr (.inr (.inl 96))) (As := []) (rest := []) rfl mt_9_i176 pp_X9_good (by decide) rfl rfl rfl (Nat.le_of_ble_eq_true rfl) (Nat.le_of_ble_eq_true rfl) ((k_X9_good h83 hI).mono (fun r105 h106 p107 => ?_))
                obtain ⟨rfl, x108, rfl, q109 | q109⟩ := p107
                · show RUN d_X9_brigade 78 [(1, .inl x44), (0, .inr (.inr (.inl 96)))] [.inl x108] h83 _
                  refine N_if_ne (a := x108.toInt) 84 rfl rfl rfl (fun c110 => ?_) (fun c110 => ?_)
                  · exfalso; omega
                  · refine R_bipush (-4) rfl rfl ?_
                    exact R_iret rfl rfl rfl ⟨hI, fr, trivial, _, rfl, trivial⟩
                · exfalso; omega
              · exfalso; omega
            · show RUN d_X9_brigade 57 [(1, .inl x44), (0, .inr (.inr (.inl 96)))] [.inl x102] h83 _
              refine N_if_eq (a := x102.toInt) 74 rfl rfl rfl (fun c111 => ?_) (fun c111 => ?_)
              · exfalso; omega
              · refine R_aload_n (k := 0) rfl rfl rfl ?_
                refine R_getf_i (j := 10) rfl ft_9_152 sh_96 rfl ?_
                refine N_if_eq (a := (h83.1 96 10).toInt) 74 rfl rfl rfl (fun c112 => ?_) (fun c112 => ?_)
                · refine R_aload_n (k := 0) rfl rfl rfl ?_
                  refine R_callV (v := .inr (.inr (.inl 96))) (As := []) (rest := []) rfl mt_9_i176 pp_X9_good (by decide) rfl rfl rfl (Nat.le_of_ble_eq_true rfl) (Nat.le_of_ble_eq_true rfl) ((k_X9_good h83 hI).mono (fun r113 h114 p115 => ?_))
                  obtain ⟨rfl, x116, rfl, q117 | q117⟩ := p115
                  · exfalso; omega
                  · show RUN d_X9_brigade 78 [(1, .inl x44), (0, .inr (.inr (.inl 96)))] [.inl x116] h83 _
                    refine N_if_ne (a := x116.toInt) 84 rfl rfl rfl (fun c118 => ?_) (fun c118 => ?_)
                    · exact brig_copy hI fr (by omega) (by omega)
                    · exfalso; omega
                · refine R_aload_n (k := 0) rfl rfl rfl ?_
                  refine R_callV (v := .inr (.inr (.inl 96))) (As := []) (rest := []) rfl mt_9_i250 pp_X9_readLine (by decide) rfl rfl rfl (Nat.le_of_ble_eq_true rfl) (Nat.le_of_ble_eq_true rfl) ((g_X9_readLine h83 hI).mono (fun r119 h120 p121 => ?_))
                  obtain ⟨hJ, fj, ⟨kp122, xq123, xq124, xq125, xq126, xq127, -⟩, rfl⟩ := p121
                  have f128 := fj
                  have fr := fr.trans fj (by decide)
                  have hI := hJ
                  have fl84 : FR [96, 102] h66 h120 := fl84.trans fj (by decide)
                  have fl43 : FR [96, 102] h32 h120 := fl43.trans fj (by decide)
                  have b129 : (0 : Int) ≤ (h120.1 96 12).toInt ∧ (h120.1 96 12).toInt ≤ 3 := hI.1 96 12
                  have b130 : (0 : Int) ≤ (h120.1 96 8).toInt ∧ (h120.1 96 8).toInt ≤ 500 := hI.1 96 8
                  have b131 : (0 : Int) ≤ (h120.1 102 0).toInt ∧ (h120.1 102 0).toInt ≤ 60 := hI.1 102 0
                  have b132 : (0 : Int) ≤ (h120.1 102 5).toInt ∧ (h120.1 102 5).toInt ≤ 6 := hI.1 102 5
                  have b133 : (0 : Int) ≤ (h120.1 102 6).toInt ∧ (h120.1 102 6).toInt ≤ 5 := hI.1 102 6
                  show RUN d_X9_brigade 71 [(1, .inl x44), (0, .inr (.inr (.inl 96)))] [] h120 _
                  refine R_goto 53 rfl rfl ?_
                  exact RUN_weak (psub_cons rfl (psub_cons rfl (psub_nil _))) (ih85 h120 hI fr fl84 (by omega) (by omega) trivial (by omega) (by omega) (by omega) trivial (by omega) (by omega) (by omega) (mbr_lt hz (by omega) (by omega) (by omega) (fun c => by omega)))
        exact lp82 _ h66 hI fr (FR.rf _ _) rfl (by omega) trivial (by omega) (by omega) (by omega) trivial (by omega) (by omega) (by omega) (Nat.lt_succ_self _)
      · refine R_aload_n (k := 0) rfl rfl rfl ?_
        refine R_getf_r (j := 14) rfl ft_9_31 sh_96 rfl ?_
        refine R_iload_n (k := 1) rfl rfl rfl ?_
        refine R_iconst 0 rfl rfl ?_
        refine K_iastz (a := x44.toInt) rfl sh_102 rfl ⟨by omega, by omega⟩ hI (by decide) (by decide) fr (by decide) (fun h134 g135 hI fr => ?_)
        have fl43 : FR [96, 102] h32 h134 := by rw [g135]; exact FR_wI _ _ fl43 (by decide)
        have s136 : (h134.1 96 10).toInt = (h42.1 96 10).toInt := by rw [g135, wI_ne _ _ _ (by decide)]
        have s137 : (h134.1 96 7).toInt = (h42.1 96 7).toInt := by rw [g135, wI_ne _ _ _ (by decide)]
        have s138 : (h134.1 96 5).toInt = (h42.1 96 5).toInt := by rw [g135, wI_ne _ _ _ (by decide)]
        have s139 : (h134.1 96 8).toInt = (h42.1 96 8).toInt := by rw [g135, wI_ne _ _ _ (by decide)]
        have s140 : (h134.1 96 12).toInt = (h42.1 96 12).toInt := by rw [g135, wI_ne _ _ _ (by decide)]
        have s141 : (h134.1 96 13).toInt = (h42.1 96 13).toInt := by rw [g135, wI_ne _ _ _ (by decide)]
        refine N_iinc (a := x44.toInt) (c := 1) (fun w => [(1, .inl w), (0, .inr (.inr (.inl 96)))]) rfl rfl (fun _ => rfl) (by decide) rfl (by decide) (by omega) (fun x142 q143 => ?_)
        refine R_goto 30 rfl rfl ?_
        exact RUN_weak (psub_cons rfl (psub_cons rfl (psub_nil _))) (ih45 h134 x142 hI fr fl43 (by omega) trivial (by omega) (by omega) (by omega) (by omega) (by omega) (by rw [g135, wI_self]; exact z0_step (x := x44) (x' := x142) m56 (by decide) (by omega) (by omega)) (by omega))
  have k144 : (0 : Int32).toInt = 0 := by decide
  exact lp41 _ h32 (0 : Int32) hI fr (FR.rf _ _) (by decide) trivial (by omega) (by omega) (by omega) (by omega) (by omega) (fun j hj => absurd hj (by omega)) (Nat.lt_succ_self _)
