abbrev qg_X9_told_4 (h : PH) (a1 : Int32) (a2 : Int32) : Option PV → PH → Prop := fun r h' => INV h' ∧ FR [96] h h' ∧ ((h'.1 96 7).toInt = (h.1 96 7).toInt ∧ (h'.1 96 5).toInt = (h.1 96 5).toInt ∧ ((h.1 96 12).toInt ≤ (h'.1 96 12).toInt) ∧ ((h.1 96 8).toInt ≤ (h'.1 96 8).toInt) ∧ True) ∧ ∃ z : Int32, r = some (.inl z) ∧ (((0 ≤ z.toInt ∧ z.toInt ≤ 999)) ∧ ((h'.1 96 12).toInt = 0 → a1.toInt ≤ z.toInt ∧ z.toInt ≤ a2.toInt) ∧ (z.toInt = 0 ∨ (a1.toInt ≤ z.toInt ∧ z.toInt ≤ a2.toInt)) ∧ True)
set_option maxHeartbeats 4000000 in
set_option maxRecDepth 100000 in
theorem g_X9_told_4 (h : PH) (hI : INV h) (a1 : Int32) (a2 : Int32) (h1a : 1 ≤ a1.toInt ∧ a1.toInt ≤ 1) (h2a : 60 ≤ a2.toInt ∧ a2.toInt ≤ 60) : CALL d_X9_told [.inr (.inr (.inl 96)), .inr (.inr (.inr 2)), .inl a1, .inl a2] h (qg_X9_told_4 h a1 a2) := by
  show RUN d_X9_told 0 [(0, .inr (.inr (.inl 96))), (1, .inr (.inr (.inr 2))), (2, .inl a1), (3, .inl a2)] [] h _
  have fr : FR [96] h h := FR.rf _ _
  have b1 : (0 : Int) ≤ (h.1 96 12).toInt ∧ (h.1 96 12).toInt ≤ 3 := hI.1 96 12
  have b2 : (0 : Int) ≤ (h.1 96 8).toInt ∧ (h.1 96 8).toInt ≤ 500 := hI.1 96 8
  have b3 : (0 : Int) ≤ (h.1 96 7).toInt ∧ (h.1 96 7).toInt ≤ 500 := hI.1 96 7
  have b4 : (0 : Int) ≤ (h.1 96 5).toInt ∧ (h.1 96 5).toInt ≤ 500 := hI.1 96 5
  refine R_aload_n (k := 0) rfl rfl rfl ?_
  refine R_aload_c (k := 1) rfl rfl rfl (by decide) ?_
  refine R_callV (v := .inr (.inr (.inl 96))) (As := [.inr (.inr (.inr 2))]) (rest := []) rfl mt_9_i202 pp_X9_needs (by decide) rfl rfl rfl (Nat.le_of_ble_eq_true rfl) (Nat.le_of_ble_eq_true rfl) ((g_X9_needs_5 h hI).mono (fun r5 h6 p7 => ?_))
  obtain ⟨hJ, fj, ⟨kp8, kp9, xq10, xq11, -⟩, rfl⟩ := p7
  have f12 := fj
  have fr := fr.trans fj (by decide)
  have hI := hJ
  have b13 : (0 : Int) ≤ (h6.1 96 12).toInt ∧ (h6.1 96 12).toInt ≤ 3 := hI.1 96 12
  have b14 : (0 : Int) ≤ (h6.1 96 8).toInt ∧ (h6.1 96 8).toInt ≤ 500 := hI.1 96 8
  show RUN d_X9_told 5 [(0, .inr (.inr (.inl 96))), (1, .inr (.inr (.inr 2))), (2, .inl a1), (3, .inl a2)] [] h6 _
  refine R_aload_n (k := 0) rfl rfl rfl ?_
  refine R_iload_n (k := 2) rfl rfl rfl ?_
  refine R_iload_n (k := 3) rfl rfl rfl ?_
  refine R_callV (v := .inr (.inr (.inl 96))) (As := [.inl a1, .inl a2]) (rest := []) rfl mt_9_i206 pp_X9_number (by decide) rfl rfl rfl (Nat.le_of_ble_eq_true rfl) (Nat.le_of_ble_eq_true rfl) ((g_X9_number h6 hI a1 a2 (by omega) (by omega)).mono (fun r15 h16 p17 => ?_))
  obtain ⟨hJ, fj, ⟨kp18, kp19, xq20, xq21, -⟩, x24, rfl, q25, zq22, zq23, -⟩ := p17
  have f26 := fj
  have fr := fr.trans fj (by decide)
  have hI := hJ
  have b27 : (0 : Int) ≤ (h16.1 96 12).toInt ∧ (h16.1 96 12).toInt ≤ 3 := hI.1 96 12
  have b28 : (0 : Int) ≤ (h16.1 96 8).toInt ∧ (h16.1 96 8).toInt ≤ 500 := hI.1 96 8
  show RUN d_X9_told 11 [(0, .inr (.inr (.inl 96))), (1, .inr (.inr (.inr 2))), (2, .inl a1), (3, .inl a2)] [.inl x24] h16 _
  exact R_iret rfl rfl rfl ⟨hI, fr, ⟨by omega, by omega, by omega, by omega, trivial⟩, _, rfl, ⟨by omega, by omega, by omega, trivial⟩⟩
abbrev qg_X9_is_10 (h : PH)  : Option PV → PH → Prop := fun r h' => h = h' ∧ ∃ z : Int32, r = some (.inl z) ∧ ((0 ≤ z.toInt ∧ z.toInt ≤ 1))
set_option maxHeartbeats 4000000 in
set_option maxRecDepth 100000 in
theorem g_X9_is_10 (h : PH) (hI : INV h)  : CALL d_X9_is [.inr (.inr (.inl 96)), .inr (.inr (.inr 3))] h (qg_X9_is_10 h) := by
  show RUN d_X9_is 0 [(0, .inr (.inr (.inl 96))), (1, .inr (.inr (.inr 3)))] [] h _
  refine R_aload_n (k := 0) rfl rfl rfl ?_
  have b1 : (0 : Int) ≤ (h.1 96 12).toInt ∧ (h.1 96 12).toInt ≤ 3 := hI.1 96 12
  refine R_callV (v := .inr (.inr (.inl 96))) (As := []) (rest := []) rfl mt_9_i176 pp_X9_good (by decide) rfl rfl rfl (Nat.le_of_ble_eq_true rfl) (Nat.le_of_ble_eq_true rfl) ((k_X9_good h hI).mono (fun r2 h3 p4 => ?_))
  obtain ⟨rfl, x5, rfl, q6 | q6⟩ := p4
  · show RUN d_X9_is 4 [(0, .inr (.inr (.inl 96))), (1, .inr (.inr (.inr 3)))] [.inl x5] h _
    refine N_if_eq (a := x5.toInt) 35 rfl rfl rfl (fun c7 => ?_) (fun c7 => ?_)
    · refine R_iconst 0 rfl rfl ?_
      refine R_istore_n (k := 2) rfl [(2, .inl 0), (0, .inr (.inr (.inl 96))), (1, .inr (.inr (.inr 3)))] rfl rfl (by decide) ?_
      refine R_iconst 0 rfl rfl ?_
      refine R_istore_n (k := 3) rfl [(3, .inl 0), (2, .inl 0), (0, .inr (.inr (.inl 96))), (1, .inr (.inr (.inr 3)))] rfl rfl (by decide) ?_
      have lp9 : ∀ (n8 : Nat) (x10 : Int32) (x11 : Int32), 0 ≤ x10.toInt ∧ x10.toInt ≤ 0 → 0 ≤ x11.toInt ∧ x11.toInt ≤ 0 → 0 < n8 → RUN d_X9_is 39 [(3, .inl x11), (2, .inl x10), (0, .inr (.inr (.inl 96))), (1, .inr (.inr (.inr 3)))] [] h (qg_X9_is_10 h) := by
        intro n8
        induction n8 with
        | zero => intro x10 x11 m13 m14 hz; exact absurd hz (Nat.not_lt_zero _)
        | succ n8 ih12 =>
          intro x10 x11 m13 m14 hz
          refine R_iload_n (k := 3) rfl rfl rfl ?_
          refine R_aload_c (k := 1) rfl rfl rfl (by decide) ?_
          refine R_callV (v := .inr (.inr (.inr 3))) (As := []) (rest := [.inl x11]) rfl mt_9_i180 pp_J0_length_8abf5 (by decide) rfl rfl rfl (Nat.le_of_ble_eq_true rfl) (Nat.le_of_ble_eq_true rfl) ((k_J0_length_8abf5_10 h hI).mono (fun r15 h16 p17 => ?_))
          obtain ⟨rfl, x18, rfl, q19⟩ := p17
          show RUN d_X9_is 44 [(3, .inl x11), (2, .inl x10), (0, .inr (.inr (.inl 96))), (1, .inr (.inr (.inr 3)))] [.inl x18, .inl x11] h _
          refine N_icmp_ge (a := x11.toInt) (b := x18.toInt) 82 rfl rfl rfl rfl (fun c20 => ?_) (fun c20 => ?_)
          · exfalso; omega
          · refine R_iload_n (k := 2) rfl rfl rfl ?_
            refine N_if_eq (a := x10.toInt) 82 rfl rfl rfl (fun c21 => ?_) (fun c21 => ?_)
            · refine R_iload_n (k := 2) rfl rfl rfl ?_
              exact R_iret rfl rfl (nar_z (by omega)) ⟨rfl, _, rfl, by omega⟩
            · exfalso; omega
      exact lp9 _ (0 : Int32) (0 : Int32) (by decide) (by decide) (Nat.lt_succ_self _)
    · exfalso; omega
  · show RUN d_X9_is 4 [(0, .inr (.inr (.inl 96))), (1, .inr (.inr (.inr 3)))] [.inl x5] h _
    refine N_if_eq (a := x5.toInt) 35 rfl rfl rfl (fun c22 => ?_) (fun c22 => ?_)
    · exfalso; omega
    · refine R_aload_n (k := 0) rfl rfl rfl ?_
      refine R_getf_i (j := 10) rfl ft_9_152 sh_96 rfl ?_
      refine R_iconst 1 rfl rfl ?_
      refine N_icmp_ne (a := (h.1 96 10).toInt) (b := 1) 35 rfl rfl rfl (by decide) (fun c23 => ?_) (fun c23 => ?_)
      · refine R_iconst 0 rfl rfl ?_
        refine R_istore_n (k := 2) rfl [(2, .inl 0), (0, .inr (.inr (.inl 96))), (1, .inr (.inr (.inr 3)))] rfl rfl (by decide) ?_
        refine R_iconst 0 rfl rfl ?_
        refine R_istore_n (k := 3) rfl [(3, .inl 0), (2, .inl 0), (0, .inr (.inr (.inl 96))), (1, .inr (.inr (.inr 3)))] rfl rfl (by decide) ?_
        have lp25 : ∀ (n24 : Nat) (x26 : Int32) (x27 : Int32), 0 ≤ x26.toInt ∧ x26.toInt ≤ 0 → 0 ≤ x27.toInt ∧ x27.toInt ≤ 0 → 0 < n24 → RUN d_X9_is 39 [(3, .inl x27), (2, .inl x26), (0, .inr (.inr (.inl 96))), (1, .inr (.inr (.inr 3)))] [] h (qg_X9_is_10 h) := by
          intro n24
          induction n24 with
          | zero => intro x26 x27 m29 m30 hz; exact absurd hz (Nat.not_lt_zero _)
          | succ n24 ih28 =>
            intro x26 x27 m29 m30 hz
            refine R_iload_n (k := 3) rfl rfl rfl ?_
            refine R_aload_c (k := 1) rfl rfl rfl (by decide) ?_
            refine R_callV (v := .inr (.inr (.inr 3))) (As := []) (rest := [.inl x27]) rfl mt_9_i180 pp_J0_length_8abf5 (by decide) rfl rfl rfl (Nat.le_of_ble_eq_true rfl) (Nat.le_of_ble_eq_true rfl) ((k_J0_length_8abf5_10 h hI).mono (fun r31 h32 p33 => ?_))
            obtain ⟨rfl, x34, rfl, q35⟩ := p33
            show RUN d_X9_is 44 [(3, .inl x27), (2, .inl x26), (0, .inr (.inr (.inl 96))), (1, .inr (.inr (.inr 3)))] [.inl x34, .inl x27] h _
            refine N_icmp_ge (a := x27.toInt) (b := x34.toInt) 82 rfl rfl rfl rfl (fun c36 => ?_) (fun c36 => ?_)
            · exfalso; omega
            · refine R_iload_n (k := 2) rfl rfl rfl ?_
              refine N_if_eq (a := x26.toInt) 82 rfl rfl rfl (fun c37 => ?_) (fun c37 => ?_)
              · refine R_iload_n (k := 2) rfl rfl rfl ?_
                exact R_iret rfl rfl (nar_z (by omega)) ⟨rfl, _, rfl, by omega⟩
              · exfalso; omega
        exact lp25 _ (0 : Int32) (0 : Int32) (by decide) (by decide) (Nat.lt_succ_self _)
      · refine R_aload_n (k := 0) rfl rfl rfl ?_
        refine R_getf_i (j := 8) rfl ft_9_142 sh_96 rfl ?_
        have b38 : (0 : Int) ≤ (h.1 96 8).toInt ∧ (h.1 96 8).toInt ≤ 500 := hI.1 96 8
        refine R_aload_n (k := 0) rfl rfl rfl ?_
        refine R_getf_i (j := 9) rfl ft_9_149 sh_96 rfl ?_
        have b39 : (0 : Int) ≤ (h.1 96 9).toInt ∧ (h.1 96 9).toInt ≤ 500 := hI.1 96 9
        refine N_isub (a := (h.1 96 8).toInt) (b := (h.1 96 9).toInt) rfl rfl rfl (by omega) (fun x40 q41 => ?_)
        refine R_aload_c (k := 1) rfl rfl rfl (by decide) ?_
        refine R_callV (v := .inr (.inr (.inr 3))) (As := []) (rest := [.inl x40]) rfl mt_9_i180 pp_J0_length_8abf5 (by decide) rfl rfl rfl (Nat.le_of_ble_eq_true rfl) (Nat.le_of_ble_eq_true rfl) ((k_J0_length_8abf5_10 h hI).mono (fun r42 h43 p44 => ?_))
        obtain ⟨rfl, x45, rfl, q46⟩ := p44
        show RUN d_X9_is 28 [(0, .inr (.inr (.inl 96))), (1, .inr (.inr (.inr 3)))] [.inl x45, .inl x40] h _
        refine N_icmp_ne (a := x40.toInt) (b := x45.toInt) 35 rfl rfl rfl rfl (fun c47 => ?_) (fun c47 => ?_)
        · refine R_iconst 0 rfl rfl ?_
          refine R_istore_n (k := 2) rfl [(2, .inl 0), (0, .inr (.inr (.inl 96))), (1, .inr (.inr (.inr 3)))] rfl rfl (by decide) ?_
          refine R_iconst 0 rfl rfl ?_
          refine R_istore_n (k := 3) rfl [(3, .inl 0), (2, .inl 0), (0, .inr (.inr (.inl 96))), (1, .inr (.inr (.inr 3)))] rfl rfl (by decide) ?_
          have lp49 : ∀ (n48 : Nat) (x50 : Int32) (x51 : Int32), 0 ≤ x50.toInt ∧ x50.toInt ≤ 0 → 0 ≤ x51.toInt ∧ x51.toInt ≤ 0 → 0 < n48 → RUN d_X9_is 39 [(3, .inl x51), (2, .inl x50), (0, .inr (.inr (.inl 96))), (1, .inr (.inr (.inr 3)))] [] h (qg_X9_is_10 h) := by
            intro n48
            induction n48 with
            | zero => intro x50 x51 m53 m54 hz; exact absurd hz (Nat.not_lt_zero _)
            | succ n48 ih52 =>
              intro x50 x51 m53 m54 hz
              refine R_iload_n (k := 3) rfl rfl rfl ?_
              refine R_aload_c (k := 1) rfl rfl rfl (by decide) ?_
              refine R_callV (v := .inr (.inr (.inr 3))) (As := []) (rest := [.inl x51]) rfl mt_9_i180 pp_J0_length_8abf5 (by decide) rfl rfl rfl (Nat.le_of_ble_eq_true rfl) (Nat.le_of_ble_eq_true rfl) ((k_J0_length_8abf5_10 h hI).mono (fun r55 h56 p57 => ?_))
              obtain ⟨rfl, x58, rfl, q59⟩ := p57
              show RUN d_X9_is 44 [(3, .inl x51), (2, .inl x50), (0, .inr (.inr (.inl 96))), (1, .inr (.inr (.inr 3)))] [.inl x58, .inl x51] h _
              refine N_icmp_ge (a := x51.toInt) (b := x58.toInt) 82 rfl rfl rfl rfl (fun c60 => ?_) (fun c60 => ?_)
              · exfalso; omega
              · refine R_iload_n (k := 2) rfl rfl rfl ?_
                refine N_if_eq (a := x50.toInt) 82 rfl rfl rfl (fun c61 => ?_) (fun c61 => ?_)
                · refine R_iload_n (k := 2) rfl rfl rfl ?_
                  exact R_iret rfl rfl (nar_z (by omega)) ⟨rfl, _, rfl, by omega⟩
                · exfalso; omega
          exact lp49 _ (0 : Int32) (0 : Int32) (by decide) (by decide) (Nat.lt_succ_self _)
        · refine R_iconst 1 rfl rfl ?_
          refine R_goto 36 rfl rfl ?_
          refine R_istore_n (k := 2) rfl [(2, .inl 1), (0, .inr (.inr (.inl 96))), (1, .inr (.inr (.inr 3)))] rfl rfl (by decide) ?_
          refine R_iconst 0 rfl rfl ?_
          refine R_istore_n (k := 3) rfl [(3, .inl 0), (2, .inl 1), (0, .inr (.inr (.inl 96))), (1, .inr (.inr (.inr 3)))] rfl rfl (by decide) ?_
          have lp63 : ∀ (n62 : Nat) (x64 : Int32) (x65 : Int32), 0 ≤ x64.toInt ∧ x64.toInt ≤ 1 → 0 ≤ x65.toInt ∧ x65.toInt ≤ 7 → (7 - x65.toInt).toNat < n62 → RUN d_X9_is 39 [(3, .inl x65), (2, .inl x64), (0, .inr (.inr (.inl 96))), (1, .inr (.inr (.inr 3)))] [] h (qg_X9_is_10 h) := by
            intro n62
            induction n62 with
            | zero => intro x64 x65 m67 m68 hz; exact absurd hz (Nat.not_lt_zero _)
            | succ n62 ih66 =>
              intro x64 x65 m67 m68 hz
              refine R_iload_n (k := 3) rfl rfl rfl ?_
              refine R_aload_c (k := 1) rfl rfl rfl (by decide) ?_
              refine R_callV (v := .inr (.inr (.inr 3))) (As := []) (rest := [.inl x65]) rfl mt_9_i180 pp_J0_length_8abf5 (by decide) rfl rfl rfl (Nat.le_of_ble_eq_true rfl) (Nat.le_of_ble_eq_true rfl) ((k_J0_length_8abf5_10 h hI).mono (fun r69 h70 p71 => ?_))
              obtain ⟨rfl, x72, rfl, q73⟩ := p71
              show RUN d_X9_is 44 [(3, .inl x65), (2, .inl x64), (0, .inr (.inr (.inl 96))), (1, .inr (.inr (.inr 3)))] [.inl x72, .inl x65] h _
              refine N_icmp_ge (a := x65.toInt) (b := x72.toInt) 82 rfl rfl rfl rfl (fun c74 => ?_) (fun c74 => ?_)
              · refine R_iload_n (k := 2) rfl rfl rfl ?_
                exact R_iret rfl rfl (nar_z (by omega)) ⟨rfl, _, rfl, by omega⟩
              · refine R_iload_n (k := 2) rfl rfl rfl ?_
                refine N_if_eq (a := x64.toInt) 82 rfl rfl rfl (fun c75 => ?_) (fun c75 => ?_)
                · refine R_iload_n (k := 2) rfl rfl rfl ?_
                  exact R_iret rfl rfl (nar_z (by omega)) ⟨rfl, _, rfl, by omega⟩
                · refine R_aload_n (k := 0) rfl rfl rfl ?_
                  refine R_getf_r (j := 4) rfl ft_9_20 sh_96 rfl ?_
                  refine R_aload_n (k := 0) rfl rfl rfl ?_
                  refine R_getf_i (j := 9) rfl ft_9_149 sh_96 rfl ?_
                  refine R_iload_n (k := 3) rfl rfl rfl ?_
                  refine N_iadd (a := (h.1 96 9).toInt) (b := x65.toInt) rfl rfl rfl (by omega) (fun x76 q77 => ?_)
                  refine R_bald rfl sh_100 ⟨by omega, by omega⟩ ?_
                  refine N_any (fun x78 => ?_)
                  refine R_aload_c (k := 1) rfl rfl rfl (by decide) ?_
                  refine R_iload_n (k := 3) rfl rfl rfl ?_
                  refine R_callV (v := .inr (.inr (.inr 3))) (As := [.inl x65]) (rest := [.inl x78]) rfl mt_9_i184 pp_J0_charAt_5068e (by decide) rfl rfl rfl (Nat.le_of_ble_eq_true rfl) (Nat.le_of_ble_eq_true rfl) ((k_J0_charAt_5068e_10 h hI x65 (by omega)).mono (fun r79 h80 p81 => ?_))
                  obtain ⟨rfl, x82, rfl, q83⟩ := p81
                  show RUN d_X9_is 67 [(3, .inl x65), (2, .inl x64), (0, .inr (.inr (.inl 96))), (1, .inr (.inr (.inr 3)))] [.inl x82, .inl x78] h _
                  refine N_icmp_ne (a := x78.toInt) (b := x82.toInt) 74 rfl rfl rfl rfl (fun c84 => ?_) (fun c84 => ?_)
                  · refine R_iconst 0 rfl rfl ?_
                    refine R_istore_n (k := 2) rfl [(2, .inl 0), (3, .inl x65), (0, .inr (.inr (.inl 96))), (1, .inr (.inr (.inr 3)))] rfl rfl (by decide) ?_
                    refine N_iinc (a := x65.toInt) (c := 1) (fun w => [(3, .inl w), (2, .inl 0), (0, .inr (.inr (.inl 96))), (1, .inr (.inr (.inr 3)))]) rfl rfl (fun _ => rfl) (by decide) rfl (by decide) (by omega) (fun x85 q86 => ?_)
                    refine R_goto 39 rfl rfl ?_
                    exact RUN_weak (psub_cons rfl (psub_cons rfl (psub_cons rfl (psub_cons rfl (psub_nil _))))) (ih66 (0 : Int32) x85 (by decide) (by omega) (by omega))
                  · refine R_iconst 1 rfl rfl ?_
                    refine R_goto 75 rfl rfl ?_
                    refine R_istore_n (k := 2) rfl [(2, .inl 1), (3, .inl x65), (0, .inr (.inr (.inl 96))), (1, .inr (.inr (.inr 3)))] rfl rfl (by decide) ?_
                    refine N_iinc (a := x65.toInt) (c := 1) (fun w => [(3, .inl w), (2, .inl 1), (0, .inr (.inr (.inl 96))), (1, .inr (.inr (.inr 3)))]) rfl rfl (fun _ => rfl) (by decide) rfl (by decide) (by omega) (fun x87 q88 => ?_)
                    refine R_goto 39 rfl rfl ?_
                    exact RUN_weak (psub_cons rfl (psub_cons rfl (psub_cons rfl (psub_cons rfl (psub_nil _))))) (ih66 (1 : Int32) x87 (by decide) (by omega) (by omega))
          exact lp63 _ (1 : Int32) (0 : Int32) (by decide) (by decide) (Nat.lt_succ_self _)
abbrev qg_X9_takes_9 (h : PH)  : Option PV → PH → Prop := fun r h' => INV h' ∧ FR [96] h h' ∧ ((h'.1 96 12).toInt = (h.1 96 12).toInt ∧ (h'.1 96 7).toInt = (h.1 96 7).toInt ∧ (h'.1 96 5).toInt = (h.1 96 5).toInt ∧ ((h.1 96 12).toInt ≤ (h'.1 96 12).toInt) ∧ ((h.1 96 8).toInt ≤ (h'.1 96 8).toInt) ∧ True) ∧ ∃ z : Int32, r = some (.inl z) ∧ (((0 ≤ z.toInt ∧ z.toInt ≤ 1)) ∧ (z = ansI d_X9_is [.inr (.inr (.inl 96)), .inr (.inr (.inr 3))] h) ∧ (z.toInt = 0 → h' = h) ∧ True)
set_option maxHeartbeats 4000000 in
set_option maxRecDepth 100000 in
theorem g_X9_takes_9 (h : PH) (hI : INV h)  : CALL d_X9_takes [.inr (.inr (.inl 96)), .inr (.inr (.inr 3))] h (qg_X9_takes_9 h) := by
  show RUN d_X9_takes 0 [(0, .inr (.inr (.inl 96))), (1, .inr (.inr (.inr 3)))] [] h _
  have fr : FR [96] h h := FR.rf _ _
  have b1 : (0 : Int) ≤ (h.1 96 12).toInt ∧ (h.1 96 12).toInt ≤ 3 := hI.1 96 12
  have b2 : (0 : Int) ≤ (h.1 96 8).toInt ∧ (h.1 96 8).toInt ≤ 500 := hI.1 96 8
  have b3 : (0 : Int) ≤ (h.1 96 7).toInt ∧ (h.1 96 7).toInt ≤ 500 := hI.1 96 7
  have b4 : (0 : Int) ≤ (h.1 96 5).toInt ∧ (h.1 96 5).toInt ≤ 500 := hI.1 96 5
  refine R_aload_n (k := 0) rfl rfl rfl ?_
  refine R_aload_c (k := 1) rfl rfl rfl (by decide) ?_
  refine R_callV (v := .inr (.inr (.inl 96))) (As := [.inr (.inr (.inr 3))]) (rest := []) rfl mt_9_i188 pp_X9_is (by decide) rfl rfl rfl (Nat.le_of_ble_eq_true rfl) (Nat.le_of_ble_eq_true rfl) ((CALL_ans (g_X9_is_10 h hI)).mono (fun r5 h6 p7 => ?_))
  obtain ⟨⟨rfl, x8, rfl, q9⟩, za10⟩ := p7
  have za10 := za10 _ rfl
  show RUN d_X9_takes 5 [(0, .inr (.inr (.inl 96))), (1, .inr (.inr (.inr 3)))] [.inl x8] h _
  refine R_istore_n (k := 2) rfl [(2, .inl x8), (0, .inr (.inr (.inl 96))), (1, .inr (.inr (.inr 3)))] rfl rfl (by decide) ?_
  refine R_iload_n (k := 2) rfl rfl rfl ?_
  refine N_if_eq (a := x8.toInt) 14 rfl rfl rfl (fun c11 => ?_) (fun c11 => ?_)
  · refine R_iload_n (k := 2) rfl rfl rfl ?_
    exact R_iret rfl rfl (nar_z (by omega)) ⟨hI, fr, ⟨by omega, by omega, by omega, by omega, by omega, trivial⟩, _, rfl, ⟨by omega, za10, (fun _ => rfl), trivial⟩⟩
  · refine R_aload_n (k := 0) rfl rfl rfl ?_
    refine R_callV (v := .inr (.inr (.inl 96))) (As := []) (rest := []) rfl mt_9_i192 pp_X9_advance (by decide) rfl rfl rfl (Nat.le_of_ble_eq_true rfl) (Nat.le_of_ble_eq_true rfl) ((g_X9_advance h hI).mono (fun r12 h13 p14 => ?_))
    obtain ⟨hJ, fj, ⟨kp15, kp16, kp17, kp18, xq19, xq20, -⟩, rfl⟩ := p14
    have f21 := fj
    have fr := fr.trans fj (by decide)
    have hI := hJ
    have b22 : (0 : Int) ≤ (h13.1 96 8).toInt ∧ (h13.1 96 8).toInt ≤ 500 := hI.1 96 8
    show RUN d_X9_takes 14 [(2, .inl x8), (0, .inr (.inr (.inl 96))), (1, .inr (.inr (.inr 3)))] [] h13 _
    refine R_iload_n (k := 2) rfl rfl rfl ?_
    exact R_iret rfl rfl (nar_z (by omega)) ⟨hI, fr, ⟨by omega, by omega, by omega, by omega, by omega, trivial⟩, _, rfl, ⟨by omega, za10, (fun hc => absurd hc (by omega)), trivial⟩⟩
abbrev qg_X9_needs_6 (h : PH)  : Option PV → PH → Prop := fun r h' => INV h' ∧ FR [96] h h' ∧ ((h'.1 96 7).toInt = (h.1 96 7).toInt ∧ (h'.1 96 5).toInt = (h.1 96 5).toInt ∧ ((h.1 96 12).toInt ≤ (h'.1 96 12).toInt) ∧ ((h.1 96 8).toInt ≤ (h'.1 96 8).toInt) ∧ True) ∧ r = none
set_option maxHeartbeats 4000000 in
set_option maxRecDepth 100000 in
theorem g_X9_needs_6 (h : PH) (hI : INV h)  : CALL d_X9_needs [.inr (.inr (.inl 96)), .inr (.inr (.inr 3))] h (qg_X9_needs_6 h) := by
  show RUN d_X9_needs 0 [(0, .inr (.inr (.inl 96))), (1, .inr (.inr (.inr 3)))] [] h _
  have fr : FR [96] h h := FR.rf _ _
  have b1 : (0 : Int) ≤ (h.1 96 12).toInt ∧ (h.1 96 12).toInt ≤ 3 := hI.1 96 12
  have b2 : (0 : Int) ≤ (h.1 96 8).toInt ∧ (h.1 96 8).toInt ≤ 500 := hI.1 96 8
  have b3 : (0 : Int) ≤ (h.1 96 7).toInt ∧ (h.1 96 7).toInt ≤ 500 := hI.1 96 7
  have b4 : (0 : Int) ≤ (h.1 96 5).toInt ∧ (h.1 96 5).toInt ≤ 500 := hI.1 96 5
  refine R_aload_n (k := 0) rfl rfl rfl ?_
  refine R_aload_c (k := 1) rfl rfl rfl (by decide) ?_
  refine R_callV (v := .inr (.inr (.inl 96))) (As := [.inr (.inr (.inr 3))]) (rest := []) rfl mt_9_i195 pp_X9_takes (by decide) rfl rfl rfl (Nat.le_of_ble_eq_true rfl) (Nat.le_of_ble_eq_true rfl) ((g_X9_takes_9 h hI).mono (fun r5 h6 p7 => ?_))
  obtain ⟨hJ, fj, ⟨kp8, kp9, kp10, xq11, xq12, -⟩, x15, rfl, q16, zq13, zq14, -⟩ := p7
  have f17 := fj
  have fr := fr.trans fj (by decide)
  have hI := hJ
  have b18 : (0 : Int) ≤ (h6.1 96 8).toInt ∧ (h6.1 96 8).toInt ≤ 500 := hI.1 96 8
  show RUN d_X9_needs 5 [(0, .inr (.inr (.inl 96))), (1, .inr (.inr (.inr 3)))] [.inl x15] h6 _
  refine N_if_ne (a := x15.toInt) 13 rfl rfl rfl (fun c19 => ?_) (fun c19 => ?_)
  · exact R_vret rfl rfl ⟨hI, fr, ⟨by omega, by omega, by omega, by omega, trivial⟩, rfl⟩
  · refine R_aload_n (k := 0) rfl rfl rfl ?_
    refine R_iconst 1 rfl rfl ?_
    have k20 : (1 : Int32).toInt = 1 := by decide
    refine R_callV (v := .inr (.inr (.inl 96))) (As := [.inl 1]) (rest := []) rfl mt_9_i198 pp_X9_errs (by decide) rfl rfl rfl (Nat.le_of_ble_eq_true rfl) (Nat.le_of_ble_eq_true rfl) ((g_X9_errs h6 hI (1 : Int32) (by decide)).mono (fun r21 h22 p23 => ?_))
    obtain ⟨hJ, fj, ⟨kp24, kp25, kp26, kp27, kp28, xq29, xq30, xq31, -⟩, rfl⟩ := p23
    have f32 := fj
    have fr := fr.trans fj (by decide)
    have hI := hJ
    have b33 : (0 : Int) ≤ (h22.1 96 12).toInt ∧ (h22.1 96 12).toInt ≤ 3 := hI.1 96 12
    show RUN d_X9_needs 13 [(0, .inr (.inr (.inl 96))), (1, .inr (.inr (.inr 3)))] [] h22 _
    exact R_vret rfl rfl ⟨hI, fr, ⟨by omega, by omega, by omega, by omega, trivial⟩, rfl⟩
abbrev qg_X9_told_5 (h : PH) (a1 : Int32) (a2 : Int32) : Option PV → PH → Prop := fun r h' => INV h' ∧ FR [96] h h' ∧ ((h'.1 96 7).toInt = (h.1 96 7).toInt ∧ (h'.1 96 5).toInt = (h.1 96 5).toInt ∧ ((h.1 96 12).toInt ≤ (h'.1 96 12).toInt) ∧ ((h.1 96 8).toInt ≤ (h'.1 96 8).toInt) ∧ True) ∧ ∃ z : Int32, r = some (.inl z) ∧ (((0 ≤ z.toInt ∧ z.toInt ≤ 999)) ∧ ((h'.1 96 12).toInt = 0 → a1.toInt ≤ z.toInt ∧ z.toInt ≤ a2.toInt) ∧ (z.toInt = 0 ∨ (a1.toInt ≤ z.toInt ∧ z.toInt ≤ a2.toInt)) ∧ True)
set_option maxHeartbeats 4000000 in
set_option maxRecDepth 100000 in
theorem g_X9_told_5 (h : PH) (hI : INV h) (a1 : Int32) (a2 : Int32) (h1a : 1 ≤ a1.toInt ∧ a1.toInt ≤ 1) (h2a : 8 ≤ a2.toInt ∧ a2.toInt ≤ 8) : CALL d_X9_told [.inr (.inr (.inl 96)), .inr (.inr (.inr 3)), .inl a1, .inl a2] h (qg_X9_told_5 h a1 a2) := by
  show RUN d_X9_told 0 [(0, .inr (.inr (.inl 96))), (1, .inr (.inr (.inr 3))), (2, .inl a1), (3, .inl a2)] [] h _
  have fr : FR [96] h h := FR.rf _ _
  have b1 : (0 : Int) ≤ (h.1 96 12).toInt ∧ (h.1 96 12).toInt ≤ 3 := hI.1 96 12
  have b2 : (0 : Int) ≤ (h.1 96 8).toInt ∧ (h.1 96 8).toInt ≤ 500 := hI.1 96 8
  have b3 : (0 : Int) ≤ (h.1 96 7).toInt ∧ (h.1 96 7).toInt ≤ 500 := hI.1 96 7
  have b4 : (0 : Int) ≤ (h.1 96 5).toInt ∧ (h.1 96 5).toInt ≤ 500 := hI.1 96 5
  refine R_aload_n (k := 0) rfl rfl rfl ?_
  refine R_aload_c (k := 1) rfl rfl rfl (by decide) ?_
  refine R_callV (v := .inr (.inr (.inl 96))) (As := [.inr (.inr (.inr 3))]) (rest := []) rfl mt_9_i202 pp_X9_needs (by decide) rfl rfl rfl (Nat.le_of_ble_eq_true rfl) (Nat.le_of_ble_eq_true rfl) ((g_X9_needs_6 h hI).mono (fun r5 h6 p7 => ?_))
  obtain ⟨hJ, fj, ⟨kp8, kp9, xq10, xq11, -⟩, rfl⟩ := p7
  have f12 := fj
  have fr := fr.trans fj (by decide)
  have hI := hJ
  have b13 : (0 : Int) ≤ (h6.1 96 12).toInt ∧ (h6.1 96 12).toInt ≤ 3 := hI.1 96 12
  have b14 : (0 : Int) ≤ (h6.1 96 8).toInt ∧ (h6.1 96 8).toInt ≤ 500 := hI.1 96 8
  show RUN d_X9_told 5 [(0, .inr (.inr (.inl 96))), (1, .inr (.inr (.inr 3))), (2, .inl a1), (3, .inl a2)] [] h6 _
  refine R_aload_n (k := 0) rfl rfl rfl ?_
  refine R_iload_n (k := 2) rfl rfl rfl ?_
  refine R_iload_n (k := 3) rfl rfl rfl ?_
  refine R_callV (v := .inr (.inr (.inl 96))) (As := [.inl a1, .inl a2]) (rest := []) rfl mt_9_i206 pp_X9_number (by decide) rfl rfl rfl (Nat.le_of_ble_eq_true rfl) (Nat.le_of_ble_eq_true rfl) ((g_X9_number h6 hI a1 a2 (by omega) (by omega)).mono (fun r15 h16 p17 => ?_))
  obtain ⟨hJ, fj, ⟨kp18, kp19, xq20, xq21, -⟩, x24, rfl, q25, zq22, zq23, -⟩ := p17
  have f26 := fj
  have fr := fr.trans fj (by decide)
  have hI := hJ
  have b27 : (0 : Int) ≤ (h16.1 96 12).toInt ∧ (h16.1 96 12).toInt ≤ 3 := hI.1 96 12
  have b28 : (0 : Int) ≤ (h16.1 96 8).toInt ∧ (h16.1 96 8).toInt ≤ 500 := hI.1 96 8
  show RUN d_X9_told 11 [(0, .inr (.inr (.inl 96))), (1, .inr (.inr (.inr 3))), (2, .inl a1), (3, .inl a2)] [.inl x24] h16 _
  exact R_iret rfl rfl rfl ⟨hI, fr, ⟨by omega, by omega, by omega, by omega, trivial⟩, _, rfl, ⟨by omega, by omega, by omega, trivial⟩⟩
abbrev qg_X9_is_11 (h : PH)  : Option PV → PH → Prop := fun r h' => h = h' ∧ ∃ z : Int32, r = some (.inl z) ∧ ((0 ≤ z.toInt ∧ z.toInt ≤ 1))
set_option maxHeartbeats 4000000 in
set_option maxRecDepth 100000 in
theorem g_X9_is_11 (h : PH) (hI : INV h)  : CALL d_X9_is [.inr (.inr (.inl 96)), .inr (.inr (.inr 4))] h (qg_X9_is_11 h) := by
  show RUN d_X9_is 0 [(0, .inr (.inr (.inl 96))), (1, .inr (.inr (.inr 4)))] [] h _
  refine R_aload_n (k := 0) rfl rfl rfl ?_
  have b1 : (0 : Int) ≤ (h.1 96 12).toInt ∧ (h.1 96 12).toInt ≤ 3 := hI.1 96 12
  refine R_callV (v := .inr (.inr (.inl 96))) (As := []) (rest := []) rfl mt_9_i176 pp_X9_good (by decide) rfl rfl rfl (Nat.le_of_ble_eq_true rfl) (Nat.le_of_ble_eq_true rfl) ((k_X9_good h hI).mono (fun r2 h3 p4 => ?_))
  obtain ⟨rfl, x5, rfl, q6 | q6⟩ := p4
  · show RUN d_X9_is 4 [(0, .inr (.inr (.inl 96))), (1, .inr (.inr (.inr 4)))] [.inl x5] h _
    refine N_if_eq (a := x5.toInt) 35 rfl rfl rfl (fun c7 => ?_) (fun c7 => ?_)
    · refine R_iconst 0 rfl rfl ?_
      refine R_istore_n (k := 2) rfl [(2, .inl 0), (0, .inr (.inr (.inl 96))), (1, .inr (.inr (.inr 4)))] rfl rfl (by decide) ?_
      refine R_iconst 0 rfl rfl ?_
      refine R_istore_n (k := 3) rfl [(3, .inl 0), (2, .inl 0), (0, .inr (.inr (.inl 96))), (1, .inr (.inr (.inr 4)))] rfl rfl (by decide) ?_
      have lp9 : ∀ (n8 : Nat) (x10 : Int32) (x11 : Int32), 0 ≤ x10.toInt ∧ x10.toInt ≤ 0 → 0 ≤ x11.toInt ∧ x11.toInt ≤ 0 → 0 < n8 → RUN d_X9_is 39 [(3, .inl x11), (2, .inl x10), (0, .inr (.inr (.inl 96))), (1, .inr (.inr (.inr 4)))] [] h (qg_X9_is_11 h) := by
        intro n8
        induction n8 with
        | zero => intro x10 x11 m13 m14 hz; exact absurd hz (Nat.not_lt_zero _)
        | succ n8 ih12 =>
          intro x10 x11 m13 m14 hz
          refine R_iload_n (k := 3) rfl rfl rfl ?_
          refine R_aload_c (k := 1) rfl rfl rfl (by decide) ?_
          refine R_callV (v := .inr (.inr (.inr 4))) (As := []) (rest := [.inl x11]) rfl mt_9_i180 pp_J0_length_8abf5 (by decide) rfl rfl rfl (Nat.le_of_ble_eq_true rfl) (Nat.le_of_ble_eq_true rfl) ((k_J0_length_8abf5_11 h hI).mono (fun r15 h16 p17 => ?_))
          obtain ⟨rfl, x18, rfl, q19⟩ := p17
          show RUN d_X9_is 44 [(3, .inl x11), (2, .inl x10), (0, .inr (.inr (.inl 96))), (1, .inr (.inr (.inr 4)))] [.inl x18, .inl x11] h _
          refine N_icmp_ge (a := x11.toInt) (b := x18.toInt) 82 rfl rfl rfl rfl (fun c20 => ?_) (fun c20 => ?_)
          · exfalso; omega
          · refine R_iload_n (k := 2) rfl rfl rfl ?_
            refine N_if_eq (a := x10.toInt) 82 rfl rfl rfl (fun c21 => ?_) (fun c21 => ?_)
            · refine R_iload_n (k := 2) rfl rfl rfl ?_
              exact R_iret rfl rfl (nar_z (by omega)) ⟨rfl, _, rfl, by omega⟩
            · exfalso; omega
      exact lp9 _ (0 : Int32) (0 : Int32) (by decide) (by decide) (Nat.lt_succ_self _)
    · exfalso; omega
  · show RUN d_X9_is 4 [(0, .inr (.inr (.inl 96))), (1, .inr (.inr (.inr 4)))] [.inl x5] h _
    refine N_if_eq (a := x5.toInt) 35 rfl rfl rfl (fun c22 => ?_) (fun c22 => ?_)
    · exfalso; omega
    · refine R_aload_n (k := 0) rfl rfl rfl ?_
      refine R_getf_i (j := 10) rfl ft_9_152 sh_96 rfl ?_
      refine R_iconst 1 rfl rfl ?_
      refine N_icmp_ne (a := (h.1 96 10).toInt) (b := 1) 35 rfl rfl rfl (by decide) (fun c23 => ?_) (fun c23 => ?_)
      · refine R_iconst 0 rfl rfl ?_
        refine R_istore_n (k := 2) rfl [(2, .inl 0), (0, .inr (.inr (.inl 96))), (1, .inr (.inr (.inr 4)))] rfl rfl (by decide) ?_
        refine R_iconst 0 rfl rfl ?_
        refine R_istore_n (k := 3) rfl [(3, .inl 0), (2, .inl 0), (0, .inr (.inr (.inl 96))), (1, .inr (.inr (.inr 4)))] rfl rfl (by decide) ?_
        have lp25 : ∀ (n24 : Nat) (x26 : Int32) (x27 : Int32), 0 ≤ x26.toInt ∧ x26.toInt ≤ 0 → 0 ≤ x27.toInt ∧ x27.toInt ≤ 0 → 0 < n24 → RUN d_X9_is 39 [(3, .inl x27), (2, .inl x26), (0, .inr (.inr (.inl 96))), (1, .inr (.inr (.inr 4)))] [] h (qg_X9_is_11 h) := by
          intro n24
          induction n24 with
          | zero => intro x26 x27 m29 m30 hz; exact absurd hz (Nat.not_lt_zero _)
          | succ n24 ih28 =>
            intro x26 x27 m29 m30 hz
            refine R_iload_n (k := 3) rfl rfl rfl ?_
            refine R_aload_c (k := 1) rfl rfl rfl (by decide) ?_
            refine R_callV (v := .inr (.inr (.inr 4))) (As := []) (rest := [.inl x27]) rfl mt_9_i180 pp_J0_length_8abf5 (by decide) rfl rfl rfl (Nat.le_of_ble_eq_true rfl) (Nat.le_of_ble_eq_true rfl) ((k_J0_length_8abf5_11 h hI).mono (fun r31 h32 p33 => ?_))
            obtain ⟨rfl, x34, rfl, q35⟩ := p33
            show RUN d_X9_is 44 [(3, .inl x27), (2, .inl x26), (0, .inr (.inr (.inl 96))), (1, .inr (.inr (.inr 4)))] [.inl x34, .inl x27] h _
            refine N_icmp_ge (a := x27.toInt) (b := x34.toInt) 82 rfl rfl rfl rfl (fun c36 => ?_) (fun c36 => ?_)
            · exfalso; omega
            · refine R_iload_n (k := 2) rfl rfl rfl ?_
              refine N_if_eq (a := x26.toInt) 82 rfl rfl rfl (fun c37 => ?_) (fun c37 => ?_)
              · refine R_iload_n (k := 2) rfl rfl rfl ?_
                exact R_iret rfl rfl (nar_z (by omega)) ⟨rfl, _, rfl, by omega⟩
              · exfalso; omega
        exact lp25 _ (0 : Int32) (0 : Int32) (by decide) (by decide) (Nat.lt_succ_self _)
      · refine R_aload_n (k := 0) rfl rfl rfl ?_
        refine R_getf_i (j := 8) rfl ft_9_142 sh_96 rfl ?_
        have b38 : (0 : Int) ≤ (h.1 96 8).toInt ∧ (h.1 96 8).toInt ≤ 500 := hI.1 96 8
        refine R_aload_n (k := 0) rfl rfl rfl ?_
        refine R_getf_i (j := 9) rfl ft_9_149 sh_96 rfl ?_
        have b39 : (0 : Int) ≤ (h.1 96 9).toInt ∧ (h.1 96 9).toInt ≤ 500 := hI.1 96 9
        refine N_isub (a := (h.1 96 8).toInt) (b := (h.1 96 9).toInt) rfl rfl rfl (by omega) (fun x40 q41 => ?_)
        refine R_aload_c (k := 1) rfl rfl rfl (by decide) ?_
        refine R_callV (v := .inr (.inr (.inr 4))) (As := []) (rest := [.inl x40]) rfl mt_9_i180 pp_J0_length_8abf5 (by decide) rfl rfl rfl (Nat.le_of_ble_eq_true rfl) (Nat.le_of_ble_eq_true rfl) ((k_J0_length_8abf5_11 h hI).mono (fun r42 h43 p44 => ?_))
        obtain ⟨rfl, x45, rfl, q46⟩ := p44
        show RUN d_X9_is 28 [(0, .inr (.inr (.inl 96))), (1, .inr (.inr (.inr 4)))] [.inl x45, .inl x40] h _
        refine N_icmp_ne (a := x40.toInt) (b := x45.toInt) 35 rfl rfl rfl rfl (fun c47 => ?_) (fun c47 => ?_)
        · refine R_iconst 0 rfl rfl ?_
          refine R_istore_n (k := 2) rfl [(2, .inl 0), (0, .inr (.inr (.inl 96))), (1, .inr (.inr (.inr 4)))] rfl rfl (by decide) ?_
          refine R_iconst 0 rfl rfl ?_
          refine R_istore_n (k := 3) rfl [(3, .inl 0), (2, .inl 0), (0, .inr (.inr (.inl 96))), (1, .inr (.inr (.inr 4)))] rfl rfl (by decide) ?_
          have lp49 : ∀ (n48 : Nat) (x50 : Int32) (x51 : Int32), 0 ≤ x50.toInt ∧ x50.toInt ≤ 0 → 0 ≤ x51.toInt ∧ x51.toInt ≤ 0 → 0 < n48 → RUN d_X9_is 39 [(3, .inl x51), (2, .inl x50), (0, .inr (.inr (.inl 96))), (1, .inr (.inr (.inr 4)))] [] h (qg_X9_is_11 h) := by
            intro n48
            induction n48 with
            | zero => intro x50 x51 m53 m54 hz; exact absurd hz (Nat.not_lt_zero _)
            | succ n48 ih52 =>
              intro x50 x51 m53 m54 hz
              refine R_iload_n (k := 3) rfl rfl rfl ?_
              refine R_aload_c (k := 1) rfl rfl rfl (by decide) ?_
              refine R_callV (v := .inr (.inr (.inr 4))) (As := []) (rest := [.inl x51]) rfl mt_9_i180 pp_J0_length_8abf5 (by decide) rfl rfl rfl (Nat.le_of_ble_eq_true rfl) (Nat.le_of_ble_eq_true rfl) ((k_J0_length_8abf5_11 h hI).mono (fun r55 h56 p57 => ?_))
              obtain ⟨rfl, x58, rfl, q59⟩ := p57
              show RUN d_X9_is 44 [(3, .inl x51), (2, .inl x50), (0, .inr (.inr (.inl 96))), (1, .inr (.inr (.inr 4)))] [.inl x58, .inl x51] h _
              refine N_icmp_ge (a := x51.toInt) (b := x58.toInt) 82 rfl rfl rfl rfl (fun c60 => ?_) (fun c60 => ?_)
              · exfalso; omega
              · refine R_iload_n (k := 2) rfl rfl rfl ?_
                refine N_if_eq (a := x50.toInt) 82 rfl rfl rfl (fun c61 => ?_) (fun c61 => ?_)
                · refine R_iload_n (k := 2) rfl rfl rfl ?_
                  exact R_iret rfl rfl (nar_z (by omega)) ⟨rfl, _, rfl, by omega⟩
                · exfalso; omega
          exact lp49 _ (0 : Int32) (0 : Int32) (by decide) (by decide) (Nat.lt_succ_self _)
        · refine R_iconst 1 rfl rfl ?_
          refine R_goto 36 rfl rfl ?_
          refine R_istore_n (k := 2) rfl [(2, .inl 1), (0, .inr (.inr (.inl 96))), (1, .inr (.inr (.inr 4)))] rfl rfl (by decide) ?_
          refine R_iconst 0 rfl rfl ?_
          refine R_istore_n (k := 3) rfl [(3, .inl 0), (2, .inl 1), (0, .inr (.inr (.inl 96))), (1, .inr (.inr (.inr 4)))] rfl rfl (by decide) ?_
          have lp63 : ∀ (n62 : Nat) (x64 : Int32) (x65 : Int32), 0 ≤ x64.toInt ∧ x64.toInt ≤ 1 → 0 ≤ x65.toInt ∧ x65.toInt ≤ 4 → (4 - x65.toInt).toNat < n62 → RUN d_X9_is 39 [(3, .inl x65), (2, .inl x64), (0, .inr (.inr (.inl 96))), (1, .inr (.inr (.inr 4)))] [] h (qg_X9_is_11 h) := by
            intro n62
            induction n62 with
            | zero => intro x64 x65 m67 m68 hz; exact absurd hz (Nat.not_lt_zero _)
            | succ n62 ih66 =>
              intro x64 x65 m67 m68 hz
              refine R_iload_n (k := 3) rfl rfl rfl ?_
              refine R_aload_c (k := 1) rfl rfl rfl (by decide) ?_
              refine R_callV (v := .inr (.inr (.inr 4))) (As := []) (rest := [.inl x65]) rfl mt_9_i180 pp_J0_length_8abf5 (by decide) rfl rfl rfl (Nat.le_of_ble_eq_true rfl) (Nat.le_of_ble_eq_true rfl) ((k_J0_length_8abf5_11 h hI).mono (fun r69 h70 p71 => ?_))
              obtain ⟨rfl, x72, rfl, q73⟩ := p71
              show RUN d_X9_is 44 [(3, .inl x65), (2, .inl x64), (0, .inr (.inr (.inl 96))), (1, .inr (.inr (.inr 4)))] [.inl x72, .inl x65] h _
              refine N_icmp_ge (a := x65.toInt) (b := x72.toInt) 82 rfl rfl rfl rfl (fun c74 => ?_) (fun c74 => ?_)
              · refine R_iload_n (k := 2) rfl rfl rfl ?_
                exact R_iret rfl rfl (nar_z (by omega)) ⟨rfl, _, rfl, by omega⟩
              · refine R_iload_n (k := 2) rfl rfl rfl ?_
                refine N_if_eq (a := x64.toInt) 82 rfl rfl rfl (fun c75 => ?_) (fun c75 => ?_)
                · refine R_iload_n (k := 2) rfl rfl rfl ?_
                  exact R_iret rfl rfl (nar_z (by omega)) ⟨rfl, _, rfl, by omega⟩
                · refine R_aload_n (k := 0) rfl rfl rfl ?_
                  refine R_getf_r (j := 4) rfl ft_9_20 sh_96 rfl ?_
                  refine R_aload_n (k := 0) rfl rfl rfl ?_
                  refine R_getf_i (j := 9) rfl ft_9_149 sh_96 rfl ?_
                  refine R_iload_n (k := 3) rfl rfl rfl ?_
                  refine N_iadd (a := (h.1 96 9).toInt) (b := x65.toInt) rfl rfl rfl (by omega) (fun x76 q77 => ?_)
                  refine R_bald rfl sh_100 ⟨by omega, by omega⟩ ?_
                  refine N_any (fun x78 => ?_)
                  refine R_aload_c (k := 1) rfl rfl rfl (by decide) ?_
                  refine R_iload_n (k := 3) rfl rfl rfl ?_
                  refine R_callV (v := .inr (.inr (.inr 4))) (As := [.inl x65]) (rest := [.inl x78]) rfl mt_9_i184 pp_J0_charAt_5068e (by decide) rfl rfl rfl (Nat.le_of_ble_eq_true rfl) (Nat.le_of_ble_eq_true rfl) ((k_J0_charAt_5068e_11 h hI x65 (by omega)).mono (fun r79 h80 p81 => ?_))
                  obtain ⟨rfl, x82, rfl, q83⟩ := p81
                  show RUN d_X9_is 67 [(3, .inl x65), (2, .inl x64), (0, .inr (.inr (.inl 96))), (1, .inr (.inr (.inr 4)))] [.inl x82, .inl x78] h _
                  refine N_icmp_ne (a := x78.toInt) (b := x82.toInt) 74 rfl rfl rfl rfl (fun c84 => ?_) (fun c84 => ?_)
                  · refine R_iconst 0 rfl rfl ?_
                    refine R_istore_n (k := 2) rfl [(2, .inl 0), (3, .inl x65), (0, .inr (.inr (.inl 96))), (1, .inr (.inr (.inr 4)))] rfl rfl (by decide) ?_
                    refine N_iinc (a := x65.toInt) (c := 1) (fun w => [(3, .inl w), (2, .inl 0), (0, .inr (.inr (.inl 96))), (1, .inr (.inr (.inr 4)))]) rfl rfl (fun _ => rfl) (by decide) rfl (by decide) (by omega) (fun x85 q86 => ?_)
                    refine R_goto 39 rfl rfl ?_
                    exact RUN_weak (psub_cons rfl (psub_cons rfl (psub_cons rfl (psub_cons rfl (psub_nil _))))) (ih66 (0 : Int32) x85 (by decide) (by omega) (by omega))
                  · refine R_iconst 1 rfl rfl ?_
                    refine R_goto 75 rfl rfl ?_
                    refine R_istore_n (k := 2) rfl [(2, .inl 1), (3, .inl x65), (0, .inr (.inr (.inl 96))), (1, .inr (.inr (.inr 4)))] rfl rfl (by decide) ?_
                    refine N_iinc (a := x65.toInt) (c := 1) (fun w => [(3, .inl w), (2, .inl 1), (0, .inr (.inr (.inl 96))), (1, .inr (.inr (.inr 4)))]) rfl rfl (fun _ => rfl) (by decide) rfl (by decide) (by omega) (fun x87 q88 => ?_)
                    refine R_goto 39 rfl rfl ?_
                    exact RUN_weak (psub_cons rfl (psub_cons rfl (psub_cons rfl (psub_cons rfl (psub_nil _))))) (ih66 (1 : Int32) x87 (by decide) (by omega) (by omega))
          exact lp63 _ (1 : Int32) (0 : Int32) (by decide) (by decide) (Nat.lt_succ_self _)
