abbrev q_X8_left (h : PH) (a0 : Int32) : Option PV → PH → Prop := fun r h' => INV h' ∧ FR [0, 70, 71, 72, 73, 74, 75, 76, 77, 78, 79, 80, 81, 82, 83, 84, 85, 86] h h' ∧ ∃ z : Int32, r = some (.inl z) ∧ ((True))
set_option maxHeartbeats 4000000 in
set_option maxRecDepth 100000 in
theorem k_X8_left (h : PH) (hI : INV h) (a0 : Int32) : CALL d_X8_left [.inr (.inr (.inl 0)), .inl a0] h (q_X8_left h a0) := by
  show RUN d_X8_left 0 [(0, .inr (.inr (.inl 0))), (1, .inl a0)] [] h _
  have b1 := i_rng a0
  have fr : FR [0, 70, 71, 72, 73, 74, 75, 76, 77, 78, 79, 80, 81, 82, 83, 84, 85, 86] h h := FR.rf _ _
  refine R_aload_n (k := 0) rfl rfl rfl ?_
  refine R_getf_r (j := 3) rfl ft_8_28 sh_0 rfl ?_
  refine R_iload_n (k := 1) rfl rfl rfl ?_
  refine R_callV (v := .inr (.inr (.inl 16))) (As := [.inl a0]) (rest := []) rfl mt_8_i150 pp_X1_hasSecond (by decide) rfl rfl rfl (Nat.le_of_ble_eq_true rfl) (Nat.le_of_ble_eq_true rfl) ((k_X1_hasSecond h hI a0).mono (fun r2 h3 p4 => ?_))
  obtain ⟨rfl, x5, rfl, q6 | q6 | q6⟩ := p4
  · show RUN d_X8_left 8 [(0, .inr (.inr (.inl 0))), (1, .inl a0)] [.inl x5] h _
    refine N_if_ne (a := x5.toInt) 14 rfl rfl rfl (fun c7 => ?_) (fun c7 => ?_)
    · exfalso; omega
    · refine R_bipush (-2) rfl rfl ?_
      exact R_iret rfl rfl rfl ⟨hI, fr, _, rfl, trivial⟩
  · have b8 : (0 : Int) ≤ (h.1 17 0).toInt ∧ (h.1 17 0).toInt ≤ 60 := hI.1 17 0
    show RUN d_X8_left 8 [(0, .inr (.inr (.inl 0))), (1, .inl a0)] [.inl x5] h _
    refine N_if_ne (a := x5.toInt) 14 rfl rfl rfl (fun c9 => ?_) (fun c9 => ?_)
    · exfalso; omega
    · refine R_bipush (-2) rfl rfl ?_
      exact R_iret rfl rfl rfl ⟨hI, fr, _, rfl, trivial⟩
  · have b10 : (0 : Int) ≤ (h.1 17 0).toInt ∧ (h.1 17 0).toInt ≤ 60 := hI.1 17 0
    show RUN d_X8_left 8 [(0, .inr (.inr (.inl 0))), (1, .inl a0)] [.inl x5] h _
    refine N_if_ne (a := x5.toInt) 14 rfl rfl rfl (fun c11 => ?_) (fun c11 => ?_)
    · refine R_aload_n (k := 0) rfl rfl rfl ?_
      refine R_callV (v := .inr (.inr (.inl 0))) (As := []) (rest := []) rfl mt_8_i153 pp_X8_told (by decide) rfl rfl rfl (Nat.le_of_ble_eq_true rfl) (Nat.le_of_ble_eq_true rfl) ((k_X8_told h hI).mono (fun r12 h13 p14 => ?_))
      obtain ⟨hJ, fj, rfl⟩ := p14
      have f15 := fj
      have fr := fr.trans fj (by decide)
      have hI := hJ
      have s16 : (h13.1 17 0).toInt = (h.1 17 0).toInt := by rw [(f15 17 (by decide)).1]
      show RUN d_X8_left 18 [(0, .inr (.inr (.inl 0))), (1, .inl a0)] [.inr (.inr (.inl 75))] h13 _
      refine R_getf_r (j := 1) rfl ft_8_157 sh_75 rfl ?_
      refine R_iload_n (k := 1) rfl rfl rfl ?_
      refine R_iald rfl sh_77 ⟨by omega, by omega⟩ ?_
      refine N_any (fun x17 => ?_)
      refine R_istore_n (k := 2) rfl [(2, .inl x17), (0, .inr (.inr (.inl 0))), (1, .inl a0)] rfl rfl (by decide) ?_
      refine R_iconst 0 rfl rfl ?_
      refine R_istore_n (k := 3) rfl [(3, .inl 0), (2, .inl x17), (0, .inr (.inr (.inl 0))), (1, .inl a0)] rfl rfl (by decide) ?_
      refine R_iconst 0 rfl rfl ?_
      refine R_istore (k := 4) [(4, .inl 0), (3, .inl 0), (2, .inl x17), (0, .inr (.inr (.inl 0))), (1, .inl a0)] rfl rfl (by decide) ?_
      have lp19 : ∀ (n18 : Nat) (x20 : Int32) (x21 : Int32), 0 ≤ x21.toInt ∧ x21.toInt ≤ 2147483647 → (2147483647 - x21.toInt).toNat < n18 → RUN d_X8_left 29 [(4, .inl x21), (3, .inl x20), (2, .inl x17), (0, .inr (.inr (.inl 0))), (1, .inl a0)] [] h13 (q_X8_left h a0) := by
        intro n18
        induction n18 with
        | zero => intro x20 x21 m23 hz; exact absurd hz (Nat.not_lt_zero _)
        | succ n18 ih22 =>
          intro x20 x21 m23 hz
          refine R_iload (k := 4) rfl rfl ?_
          refine R_aload_n (k := 0) rfl rfl rfl ?_
          refine R_getf_r (j := 3) rfl ft_8_28 sh_0 rfl ?_
          refine R_getf_r (j := 0) rfl ft_8_109 sh_16 rfl ?_
          refine R_iconst 5 rfl rfl ?_
          refine R_iald rfl sh_17 (by decide) ?_
          have b24 : (0 : Int) ≤ (h13.1 17 5).toInt ∧ (h13.1 17 5).toInt ≤ 6 := hI.1 17 5
          show RUN d_X8_left 40 [(4, .inl x21), (3, .inl x20), (2, .inl x17), (0, .inr (.inr (.inl 0))), (1, .inl a0)] [.inl (h13.1 17 5), .inl x21] h13 _
          refine N_icmp_ge (a := x21.toInt) (b := (h13.1 17 5).toInt) 72 rfl rfl rfl rfl (fun c25 => ?_) (fun c25 => ?_)
          · refine R_iload_n (k := 3) rfl rfl rfl ?_
            exact R_iret rfl rfl rfl ⟨hI, fr, _, rfl, trivial⟩
          · refine R_iload_n (k := 2) rfl rfl rfl ?_
            refine N_i2l rfl (fun w26 q27 => ?_)
            refine R_iload (k := 4) rfl rfl ?_
            refine R_callS (As := [.inr (.inl w26), .inl x21]) (rest := []) rfl mt_8_i160 (by decide) pp_X8_hasBit (by decide) rfl rfl (Nat.le_of_ble_eq_true rfl) (Nat.le_of_ble_eq_true rfl) ((k_X8_hasBit h13 hI w26 x21).mono (fun r28 h29 p30 => ?_))
            obtain ⟨rfl, x31, rfl, q32 | q32⟩ := p30
            · show RUN d_X8_left 50 [(4, .inl x21), (3, .inl x20), (2, .inl x17), (0, .inr (.inr (.inl 0))), (1, .inl a0)] [.inl x31] h13 _
              refine N_if_eq (a := x31.toInt) 66 rfl rfl rfl (fun c33 => ?_) (fun c33 => ?_)
              · refine N_iinc (a := x21.toInt) (c := 1) (fun w => [(4, .inl w), (3, .inl x20), (2, .inl x17), (0, .inr (.inr (.inl 0))), (1, .inl a0)]) rfl rfl (fun _ => rfl) (by decide) rfl (by decide) (by omega) (fun x34 q35 => ?_)
                refine R_goto 29 rfl rfl ?_
                exact RUN_weak (psub_cons rfl (psub_cons rfl (psub_cons rfl (psub_cons rfl (psub_cons rfl (psub_nil _)))))) (ih22 x20 x34 (by omega) (by omega))
              · exfalso; omega
            · show RUN d_X8_left 50 [(4, .inl x21), (3, .inl x20), (2, .inl x17), (0, .inr (.inr (.inl 0))), (1, .inl a0)] [.inl x31] h13 _
              refine N_if_eq (a := x31.toInt) 66 rfl rfl rfl (fun c36 => ?_) (fun c36 => ?_)
              · exfalso; omega
              · refine R_iload_n (k := 3) rfl rfl rfl ?_
                refine R_aload_n (k := 0) rfl rfl rfl ?_
                refine R_getf_r (j := 8) rfl ft_8_56 sh_0 rfl ?_
                refine R_getf_r (j := 10) rfl ft_8_164 sh_75 rfl ?_
                refine R_iload (k := 4) rfl rfl ?_
                refine R_iald rfl sh_86 ⟨by omega, by omega⟩ ?_
                refine N_any (fun x37 => ?_)
                have b38 := i_rng x20
                have b39 := i_rng x37
                refine R_iadd rfl ?_
                refine N_any (fun x40 => ?_)
                refine R_istore_n (k := 3) rfl [(3, .inl x40), (4, .inl x21), (2, .inl x17), (0, .inr (.inr (.inl 0))), (1, .inl a0)] rfl rfl (by decide) ?_
                refine N_iinc (a := x21.toInt) (c := 1) (fun w => [(4, .inl w), (3, .inl x40), (2, .inl x17), (0, .inr (.inr (.inl 0))), (1, .inl a0)]) rfl rfl (fun _ => rfl) (by decide) rfl (by decide) (by omega) (fun x41 q42 => ?_)
                refine R_goto 29 rfl rfl ?_
                exact RUN_weak (psub_cons rfl (psub_cons rfl (psub_cons rfl (psub_cons rfl (psub_cons rfl (psub_nil _)))))) (ih22 x40 x41 (by omega) (by omega))
      exact lp19 _ (0 : Int32) (0 : Int32) (by decide) (Nat.lt_succ_self _)
    · exfalso; omega
abbrev q_X8_full (h : PH)  : Option PV → PH → Prop := fun r h' => INV h' ∧ FR [0, 70, 71, 72, 73, 74, 75, 76, 77, 78, 79, 80, 81, 82, 83, 84, 85, 86] h h' ∧ ∃ z : Int32, r = some (.inl z) ∧ (((-2) ≤ z.toInt ∧ z.toInt ≤ 63))
set_option maxHeartbeats 4000000 in
set_option maxRecDepth 100000 in
theorem k_X8_full (h : PH) (hI : INV h)  : CALL d_X8_full [.inr (.inr (.inl 0))] h (q_X8_full h) := by
  show RUN d_X8_full 0 [(0, .inr (.inr (.inl 0)))] [] h _
  have fr : FR [0, 70, 71, 72, 73, 74, 75, 76, 77, 78, 79, 80, 81, 82, 83, 84, 85, 86] h h := FR.rf _ _
  refine R_aload_n (k := 0) rfl rfl rfl ?_
  refine R_getf_r (j := 3) rfl ft_8_28 sh_0 rfl ?_
  refine R_callV (v := .inr (.inr (.inl 16))) (As := []) (rest := []) rfl mt_8_i146 pp_X1_stands (by decide) rfl rfl rfl (Nat.le_of_ble_eq_true rfl) (Nat.le_of_ble_eq_true rfl) ((k_X1_stands h hI).mono (fun r1 h2 p3 => ?_))
  obtain ⟨rfl, x4, rfl, q5 | q5⟩ := p3
  · have b6 : (0 : Int) ≤ (h.1 17 0).toInt ∧ (h.1 17 0).toInt ≤ 60 := hI.1 17 0
    have e7 : 0 < (h.1 17 10).toInt → 1 ≤ (h.1 17 0).toInt := hI.2.1
    show RUN d_X8_full 7 [(0, .inr (.inr (.inl 0)))] [.inl x4] h _
    refine N_if_eq (a := x4.toInt) 17 rfl rfl rfl (fun c8 => ?_) (fun c8 => ?_)
    · refine R_bipush (-2) rfl rfl ?_
      exact R_iret rfl rfl rfl ⟨hI, fr, _, rfl, by rw [show ((-2) : Int32).toInt = (-2) from rfl]; omega⟩
    · exfalso; omega
  · have b9 : (0 : Int) ≤ (h.1 17 0).toInt ∧ (h.1 17 0).toInt ≤ 60 := hI.1 17 0
    have e10 : 0 < (h.1 17 10).toInt → 1 ≤ (h.1 17 0).toInt := hI.2.1
    show RUN d_X8_full 7 [(0, .inr (.inr (.inl 0)))] [.inl x4] h _
    refine N_if_eq (a := x4.toInt) 17 rfl rfl rfl (fun c11 => ?_) (fun c11 => ?_)
    · exfalso; omega
    · refine R_aload_n (k := 0) rfl rfl rfl ?_
      refine R_callV (v := .inr (.inr (.inl 0))) (As := []) (rest := []) rfl mt_8_i228 pp_X8_mostBusy (by decide) rfl rfl rfl (Nat.le_of_ble_eq_true rfl) (Nat.le_of_ble_eq_true rfl) ((k_X8_mostBusy h hI).mono (fun r12 h13 p14 => ?_))
      obtain ⟨hJ, fj, x15, rfl, q16⟩ := p14
      have f17 := fj
      have fr := fr.trans fj (by decide)
      have hI := hJ
      have s18 : (h13.1 17 0).toInt = (h.1 17 0).toInt := by rw [(f17 17 (by decide)).1]
      have s19 : (h13.1 17 10).toInt = (h.1 17 10).toInt := by rw [(f17 17 (by decide)).1]
      show RUN d_X8_full 14 [(0, .inr (.inr (.inl 0)))] [.inl x15] h13 _
      refine R_goto 19 rfl rfl ?_
      exact R_iret rfl rfl rfl ⟨hI, fr, _, rfl, by omega⟩
abbrev q_X8_starts (h : PH) (a0 : Int32) : Option PV → PH → Prop := fun r h' => INV h' ∧ FR [0, 70, 71, 72, 73, 74, 75, 76, 77, 78, 79, 80, 81, 82, 83, 84, 85, 86] h h' ∧ ∃ z : Int32, r = some (.inl z) ∧ (((-2) ≤ z.toInt ∧ z.toInt ≤ 59))
set_option maxHeartbeats 4000000 in
set_option maxRecDepth 100000 in
theorem k_X8_starts (h : PH) (hI : INV h) (a0 : Int32) : CALL d_X8_starts [.inr (.inr (.inl 0)), .inl a0] h (q_X8_starts h a0) := by
  show RUN d_X8_starts 0 [(0, .inr (.inr (.inl 0))), (1, .inl a0)] [] h _
  have b1 := i_rng a0
  have fr : FR [0, 70, 71, 72, 73, 74, 75, 76, 77, 78, 79, 80, 81, 82, 83, 84, 85, 86] h h := FR.rf _ _
  refine R_aload_n (k := 0) rfl rfl rfl ?_
  refine R_getf_r (j := 3) rfl ft_8_28 sh_0 rfl ?_
  refine R_iload_n (k := 1) rfl rfl rfl ?_
  refine R_callV (v := .inr (.inr (.inl 16))) (As := [.inl a0]) (rest := []) rfl mt_8_i119 pp_X1_hasHand (by decide) rfl rfl rfl (Nat.le_of_ble_eq_true rfl) (Nat.le_of_ble_eq_true rfl) ((k_X1_hasHand h hI a0).mono (fun r2 h3 p4 => ?_))
  obtain ⟨rfl, x5, rfl, q6 | q6 | q6⟩ := p4
  · show RUN d_X8_starts 8 [(0, .inr (.inr (.inl 0))), (1, .inl a0)] [.inl x5] h _
    refine N_if_ne (a := x5.toInt) 14 rfl rfl rfl (fun c7 => ?_) (fun c7 => ?_)
    · exfalso; omega
    · refine R_bipush (-2) rfl rfl ?_
      exact R_iret rfl rfl rfl ⟨hI, fr, _, rfl, by rw [show ((-2) : Int32).toInt = (-2) from rfl]; omega⟩
  · have b8 : (0 : Int) ≤ (h.1 17 5).toInt ∧ (h.1 17 5).toInt ≤ 6 := hI.1 17 5
    show RUN d_X8_starts 8 [(0, .inr (.inr (.inl 0))), (1, .inl a0)] [.inl x5] h _
    refine N_if_ne (a := x5.toInt) 14 rfl rfl rfl (fun c9 => ?_) (fun c9 => ?_)
    · exfalso; omega
    · refine R_bipush (-2) rfl rfl ?_
      exact R_iret rfl rfl rfl ⟨hI, fr, _, rfl, by rw [show ((-2) : Int32).toInt = (-2) from rfl]; omega⟩
  · have b10 : (0 : Int) ≤ (h.1 17 5).toInt ∧ (h.1 17 5).toInt ≤ 6 := hI.1 17 5
    show RUN d_X8_starts 8 [(0, .inr (.inr (.inl 0))), (1, .inl a0)] [.inl x5] h _
    refine N_if_ne (a := x5.toInt) 14 rfl rfl rfl (fun c11 => ?_) (fun c11 => ?_)
    · refine R_aload_n (k := 0) rfl rfl rfl ?_
      refine R_callV (v := .inr (.inr (.inl 0))) (As := []) (rest := []) rfl mt_8_i153 pp_X8_told (by decide) rfl rfl rfl (Nat.le_of_ble_eq_true rfl) (Nat.le_of_ble_eq_true rfl) ((k_X8_told h hI).mono (fun r12 h13 p14 => ?_))
      obtain ⟨hJ, fj, rfl⟩ := p14
      have f15 := fj
      have fr := fr.trans fj (by decide)
      have hI := hJ
      have s16 : (h13.1 17 5).toInt = (h.1 17 5).toInt := by rw [(f15 17 (by decide)).1]
      show RUN d_X8_starts 18 [(0, .inr (.inr (.inl 0))), (1, .inl a0)] [.inr (.inr (.inl 75))] h13 _
      refine R_getf_r (j := 1) rfl ft_8_157 sh_75 rfl ?_
      refine R_astore_n (k := 2) rfl [(2, .inr (.inr (.inl 77))), (0, .inr (.inr (.inl 0))), (1, .inl a0)] rfl rfl (by decide) ?_
      refine R_iconst 0 rfl rfl ?_
      refine R_istore_n (k := 3) rfl [(3, .inl 0), (2, .inr (.inr (.inl 77))), (0, .inr (.inr (.inl 0))), (1, .inl a0)] rfl rfl (by decide) ?_
      have lp18 : ∀ (n17 : Nat) (x19 : Int32), 0 ≤ x19.toInt ∧ x19.toInt ≤ 2147483647 → (2147483647 - x19.toInt).toNat < n17 → RUN d_X8_starts 24 [(3, .inl x19), (2, .inr (.inr (.inl 77))), (0, .inr (.inr (.inl 0))), (1, .inl a0)] [] h13 (q_X8_starts h a0) := by
        intro n17
        induction n17 with
        | zero => intro x19 m21 hz; exact absurd hz (Nat.not_lt_zero _)
        | succ n17 ih20 =>
          intro x19 m21 hz
          refine R_iload_n (k := 3) rfl rfl rfl ?_
          refine R_aload_n (k := 0) rfl rfl rfl ?_
          refine R_getf_r (j := 3) rfl ft_8_28 sh_0 rfl ?_
          refine R_getf_r (j := 0) rfl ft_8_109 sh_16 rfl ?_
          refine R_iconst 0 rfl rfl ?_
          refine R_iald rfl sh_17 (by decide) ?_
          have b22 : (0 : Int) ≤ (h13.1 17 0).toInt ∧ (h13.1 17 0).toInt ≤ 60 := hI.1 17 0
          show RUN d_X8_starts 34 [(3, .inl x19), (2, .inr (.inr (.inl 77))), (0, .inr (.inr (.inl 0))), (1, .inl a0)] [.inl (h13.1 17 0), .inl x19] h13 _
          refine N_icmp_ge (a := x19.toInt) (b := (h13.1 17 0).toInt) 56 rfl rfl rfl rfl (fun c23 => ?_) (fun c23 => ?_)
          · refine R_iconst (-1) rfl rfl ?_
            exact R_iret rfl rfl rfl ⟨hI, fr, _, rfl, by rw [show ((-1) : Int32).toInt = (-1) from rfl]; omega⟩
          · refine R_aload_n (k := 2) rfl rfl rfl ?_
            refine R_iload_n (k := 3) rfl rfl rfl ?_
            refine R_iald rfl sh_77 ⟨by omega, by omega⟩ ?_
            refine N_any (fun x24 => ?_)
            refine N_i2l rfl (fun w25 q26 => ?_)
            refine R_iload_n (k := 1) rfl rfl rfl ?_
            refine R_callS (As := [.inr (.inl w25), .inl a0]) (rest := []) rfl mt_8_i160 (by decide) pp_X8_hasBit (by decide) rfl rfl (Nat.le_of_ble_eq_true rfl) (Nat.le_of_ble_eq_true rfl) ((k_X8_hasBit h13 hI w25 a0).mono (fun r27 h28 p29 => ?_))
            obtain ⟨rfl, x30, rfl, q31 | q31⟩ := p29
            · show RUN d_X8_starts 45 [(3, .inl x19), (2, .inr (.inr (.inl 77))), (0, .inr (.inr (.inl 0))), (1, .inl a0)] [.inl x30] h13 _
              refine N_if_eq (a := x30.toInt) 50 rfl rfl rfl (fun c32 => ?_) (fun c32 => ?_)
              · refine N_iinc (a := x19.toInt) (c := 1) (fun w => [(3, .inl w), (2, .inr (.inr (.inl 77))), (0, .inr (.inr (.inl 0))), (1, .inl a0)]) rfl rfl (fun _ => rfl) (by decide) rfl (by decide) (by omega) (fun x33 q34 => ?_)
                refine R_goto 24 rfl rfl ?_
                exact RUN_weak (psub_cons rfl (psub_cons rfl (psub_cons rfl (psub_cons rfl (psub_nil _))))) (ih20 x33 (by omega) (by omega))
              · exfalso; omega
            · show RUN d_X8_starts 45 [(3, .inl x19), (2, .inr (.inr (.inl 77))), (0, .inr (.inr (.inl 0))), (1, .inl a0)] [.inl x30] h13 _
              refine N_if_eq (a := x30.toInt) 50 rfl rfl rfl (fun c35 => ?_) (fun c35 => ?_)
              · exfalso; omega
              · refine R_iload_n (k := 3) rfl rfl rfl ?_
                exact R_iret rfl rfl rfl ⟨hI, fr, _, rfl, by omega⟩
      exact lp18 _ (0 : Int32) (by decide) (Nat.lt_succ_self _)
    · exfalso; omega
abbrev q_X8_passes (h : PH) (a0 : Int32) : Option PV → PH → Prop := fun r h' => INV h' ∧ FR [0, 70, 71, 72, 73, 74, 75, 76, 77, 78, 79, 80, 81, 82, 83, 84, 85, 86] h h' ∧ ∃ z : Int32, r = some (.inl z) ∧ ((True))
set_option maxHeartbeats 4000000 in
set_option maxRecDepth 100000 in
theorem k_X8_passes (h : PH) (hI : INV h) (a0 : Int32) : CALL d_X8_passes [.inr (.inr (.inl 0)), .inl a0] h (q_X8_passes h a0) := by
  show RUN d_X8_passes 0 [(0, .inr (.inr (.inl 0))), (1, .inl a0)] [] h _
  have b1 := i_rng a0
  have fr : FR [0, 70, 71, 72, 73, 74, 75, 76, 77, 78, 79, 80, 81, 82, 83, 84, 85, 86] h h := FR.rf _ _
  refine R_aload_n (k := 0) rfl rfl rfl ?_
  refine R_getf_r (j := 3) rfl ft_8_28 sh_0 rfl ?_
  refine R_iload_n (k := 1) rfl rfl rfl ?_
  refine R_callV (v := .inr (.inr (.inl 16))) (As := [.inl a0]) (rest := []) rfl mt_8_i119 pp_X1_hasHand (by decide) rfl rfl rfl (Nat.le_of_ble_eq_true rfl) (Nat.le_of_ble_eq_true rfl) ((k_X1_hasHand h hI a0).mono (fun r2 h3 p4 => ?_))
  obtain ⟨rfl, x5, rfl, q6 | q6 | q6⟩ := p4
  · show RUN d_X8_passes 8 [(0, .inr (.inr (.inl 0))), (1, .inl a0)] [.inl x5] h _
    refine N_if_eq (a := x5.toInt) 26 rfl rfl rfl (fun c7 => ?_) (fun c7 => ?_)
    · refine R_bipush (-2) rfl rfl ?_
      exact R_iret rfl rfl rfl ⟨hI, fr, _, rfl, trivial⟩
    · exfalso; omega
  · have b8 : (0 : Int) ≤ (h.1 17 5).toInt ∧ (h.1 17 5).toInt ≤ 6 := hI.1 17 5
    show RUN d_X8_passes 8 [(0, .inr (.inr (.inl 0))), (1, .inl a0)] [.inl x5] h _
    refine N_if_eq (a := x5.toInt) 26 rfl rfl rfl (fun c9 => ?_) (fun c9 => ?_)
    · refine R_bipush (-2) rfl rfl ?_
      exact R_iret rfl rfl rfl ⟨hI, fr, _, rfl, trivial⟩
    · exfalso; omega
  · have b10 : (0 : Int) ≤ (h.1 17 5).toInt ∧ (h.1 17 5).toInt ≤ 6 := hI.1 17 5
    show RUN d_X8_passes 8 [(0, .inr (.inr (.inl 0))), (1, .inl a0)] [.inl x5] h _
    refine N_if_eq (a := x5.toInt) 26 rfl rfl rfl (fun c11 => ?_) (fun c11 => ?_)
    · exfalso; omega
    · refine R_aload_n (k := 0) rfl rfl rfl ?_
      refine R_aload_n (k := 0) rfl rfl rfl ?_
      refine R_callV (v := .inr (.inr (.inl 0))) (As := []) (rest := [.inr (.inr (.inl 0))]) rfl mt_8_i153 pp_X8_told (by decide) rfl rfl rfl (Nat.le_of_ble_eq_true rfl) (Nat.le_of_ble_eq_true rfl) ((k_X8_told h hI).mono (fun r12 h13 p14 => ?_))
      obtain ⟨hJ, fj, rfl⟩ := p14
      have f15 := fj
      have fr := fr.trans fj (by decide)
      have hI := hJ
      have s16 : (h13.1 17 5).toInt = (h.1 17 5).toInt := by rw [(f15 17 (by decide)).1]
      show RUN d_X8_passes 16 [(0, .inr (.inr (.inl 0))), (1, .inl a0)] [.inr (.inr (.inl 75)), .inr (.inr (.inl 0))] h13 _
      refine R_getf_r (j := 4) rfl ft_8_206 sh_75 rfl ?_
      refine R_iload_n (k := 1) rfl rfl rfl ?_
      refine R_callV (v := .inr (.inr (.inl 0))) (As := [.inr (.inr (.inl 80)), .inl a0]) (rest := []) rfl mt_8_i200 pp_X8_secondsWith (by decide) rfl rfl rfl (Nat.le_of_ble_eq_true rfl) (Nat.le_of_ble_eq_true rfl) ((k_X8_secondsWith_2 h13 hI a0 (by omega)).mono (fun r17 h18 p19 => ?_))
      obtain ⟨rfl, x20, rfl, q21⟩ := p19
      show RUN d_X8_passes 23 [(0, .inr (.inr (.inl 0))), (1, .inl a0)] [.inl x20] h13 _
      refine R_goto 28 rfl rfl ?_
      exact R_iret rfl rfl rfl ⟨hI, fr, _, rfl, trivial⟩
abbrev q_X8_loses (h : PH) (a0 : Int32) : Option PV → PH → Prop := fun r h' => INV h' ∧ FR [0, 70, 71, 72, 73, 74, 75, 76, 77, 78, 79, 80, 81, 82, 83, 84, 85, 86] h h' ∧ ∃ z : Int32, r = some (.inl z) ∧ ((True))
set_option maxHeartbeats 4000000 in
set_option maxRecDepth 100000 in
theorem k_X8_loses (h : PH) (hI : INV h) (a0 : Int32) : CALL d_X8_loses [.inr (.inr (.inl 0)), .inl a0] h (q_X8_loses h a0) := by
  show RUN d_X8_loses 0 [(0, .inr (.inr (.inl 0))), (1, .inl a0)] [] h _
  have b1 := i_rng a0
  have fr : FR [0, 70, 71, 72, 73, 74, 75, 76, 77, 78, 79, 80, 81, 82, 83, 84, 85, 86] h h := FR.rf _ _
  refine R_aload_n (k := 0) rfl rfl rfl ?_
  refine R_getf_r (j := 3) rfl ft_8_28 sh_0 rfl ?_
  refine R_iload_n (k := 1) rfl rfl rfl ?_
  refine R_callV (v := .inr (.inr (.inl 16))) (As := [.inl a0]) (rest := []) rfl mt_8_i119 pp_X1_hasHand (by decide) rfl rfl rfl (Nat.le_of_ble_eq_true rfl) (Nat.le_of_ble_eq_true rfl) ((k_X1_hasHand h hI a0).mono (fun r2 h3 p4 => ?_))
  obtain ⟨rfl, x5, rfl, q6 | q6 | q6⟩ := p4
  · show RUN d_X8_loses 8 [(0, .inr (.inr (.inl 0))), (1, .inl a0)] [.inl x5] h _
    refine N_if_eq (a := x5.toInt) 35 rfl rfl rfl (fun c7 => ?_) (fun c7 => ?_)
    · refine R_bipush (-2) rfl rfl ?_
      exact R_iret rfl rfl rfl ⟨hI, fr, _, rfl, trivial⟩
    · exfalso; omega
  · have b8 : (0 : Int) ≤ (h.1 17 5).toInt ∧ (h.1 17 5).toInt ≤ 6 := hI.1 17 5
    show RUN d_X8_loses 8 [(0, .inr (.inr (.inl 0))), (1, .inl a0)] [.inl x5] h _
    refine N_if_eq (a := x5.toInt) 35 rfl rfl rfl (fun c9 => ?_) (fun c9 => ?_)
    · refine R_bipush (-2) rfl rfl ?_
      exact R_iret rfl rfl rfl ⟨hI, fr, _, rfl, trivial⟩
    · exfalso; omega
  · have b10 : (0 : Int) ≤ (h.1 17 5).toInt ∧ (h.1 17 5).toInt ≤ 6 := hI.1 17 5
    show RUN d_X8_loses 8 [(0, .inr (.inr (.inl 0))), (1, .inl a0)] [.inl x5] h _
    refine N_if_eq (a := x5.toInt) 35 rfl rfl rfl (fun c11 => ?_) (fun c11 => ?_)
    · exfalso; omega
    · refine R_aload_n (k := 0) rfl rfl rfl ?_
      refine R_aload_n (k := 0) rfl rfl rfl ?_
      refine R_callV (v := .inr (.inr (.inl 0))) (As := []) (rest := [.inr (.inr (.inl 0))]) rfl mt_8_i153 pp_X8_told (by decide) rfl rfl rfl (Nat.le_of_ble_eq_true rfl) (Nat.le_of_ble_eq_true rfl) ((k_X8_told h hI).mono (fun r12 h13 p14 => ?_))
      obtain ⟨hJ, fj, rfl⟩ := p14
      have f15 := fj
      have fr := fr.trans fj (by decide)
      have hI := hJ
      have s16 : (h13.1 17 5).toInt = (h.1 17 5).toInt := by rw [(f15 17 (by decide)).1]
      show RUN d_X8_loses 16 [(0, .inr (.inr (.inl 0))), (1, .inl a0)] [.inr (.inr (.inl 75)), .inr (.inr (.inl 0))] h13 _
      refine R_getf_r (j := 4) rfl ft_8_206 sh_75 rfl ?_
      refine R_iload_n (k := 1) rfl rfl rfl ?_
      refine R_callV (v := .inr (.inr (.inl 0))) (As := [.inr (.inr (.inl 80)), .inl a0]) (rest := []) rfl mt_8_i200 pp_X8_secondsWith (by decide) rfl rfl rfl (Nat.le_of_ble_eq_true rfl) (Nat.le_of_ble_eq_true rfl) ((k_X8_secondsWith_2 h13 hI a0 (by omega)).mono (fun r17 h18 p19 => ?_))
      obtain ⟨rfl, x20, rfl, q21⟩ := p19
      show RUN d_X8_loses 23 [(0, .inr (.inr (.inl 0))), (1, .inl a0)] [.inl x20] h13 _
      refine R_aload_n (k := 0) rfl rfl rfl ?_
      refine R_getf_r (j := 8) rfl ft_8_56 sh_0 rfl ?_
      refine R_iload_n (k := 1) rfl rfl rfl ?_
      refine R_callV (v := .inr (.inr (.inl 75))) (As := [.inl a0]) (rest := [.inl x20]) rfl mt_8_i209 pp_X6_lossOf (by decide) rfl rfl rfl (Nat.le_of_ble_eq_true rfl) (Nat.le_of_ble_eq_true rfl) ((k_X6_lossOf h13 hI a0 (by omega)).mono (fun r22 h23 p24 => ?_))
      obtain ⟨rfl, x25, rfl, q26⟩ := p24
      show RUN d_X8_loses 31 [(0, .inr (.inr (.inl 0))), (1, .inl a0)] [.inl x25, .inl x20] h13 _
      have b27 := i_rng x20
      have b28 := i_rng x25
      refine R_imul rfl ?_
      refine N_any (fun x29 => ?_)
      refine R_goto 37 rfl rfl ?_
      exact R_iret rfl rfl rfl ⟨hI, fr, _, rfl, trivial⟩
abbrev q_X8_lazy (h : PH)  : Option PV → PH → Prop := fun r h' => INV h' ∧ FR [0, 70, 71, 72, 73, 74, 75, 76, 77, 78, 79, 80, 81, 82, 83, 84, 85, 86] h h' ∧ ∃ z : Int32, r = some (.inl z) ∧ (((-2) ≤ z.toInt ∧ z.toInt ≤ 2147483647))
set_option maxHeartbeats 4000000 in
set_option maxRecDepth 100000 in
theorem k_X8_lazy (h : PH) (hI : INV h)  : CALL d_X8_lazy [.inr (.inr (.inl 0))] h (q_X8_lazy h) := by
  show RUN d_X8_lazy 0 [(0, .inr (.inr (.inl 0)))] [] h _
  have fr : FR [0, 70, 71, 72, 73, 74, 75, 76, 77, 78, 79, 80, 81, 82, 83, 84, 85, 86] h h := FR.rf _ _
  refine R_aload_n (k := 0) rfl rfl rfl ?_
  refine R_getf_r (j := 3) rfl ft_8_28 sh_0 rfl ?_
  refine R_callV (v := .inr (.inr (.inl 16))) (As := []) (rest := []) rfl mt_8_i146 pp_X1_stands (by decide) rfl rfl rfl (Nat.le_of_ble_eq_true rfl) (Nat.le_of_ble_eq_true rfl) ((k_X1_stands h hI).mono (fun r1 h2 p3 => ?_))
  obtain ⟨rfl, x4, rfl, q5 | q5⟩ := p3
  · have b6 : (0 : Int) ≤ (h.1 17 0).toInt ∧ (h.1 17 0).toInt ≤ 60 := hI.1 17 0
    have e7 : 0 < (h.1 17 10).toInt → 1 ≤ (h.1 17 0).toInt := hI.2.1
    show RUN d_X8_lazy 7 [(0, .inr (.inr (.inl 0)))] [.inl x4] h _
    refine N_if_ne (a := x4.toInt) 13 rfl rfl rfl (fun c8 => ?_) (fun c8 => ?_)
    · exfalso; omega
    · refine R_bipush (-2) rfl rfl ?_
      exact R_iret rfl rfl rfl ⟨hI, fr, _, rfl, by rw [show ((-2) : Int32).toInt = (-2) from rfl]; omega⟩
  · have b9 : (0 : Int) ≤ (h.1 17 0).toInt ∧ (h.1 17 0).toInt ≤ 60 := hI.1 17 0
    have e10 : 0 < (h.1 17 10).toInt → 1 ≤ (h.1 17 0).toInt := hI.2.1
    show RUN d_X8_lazy 7 [(0, .inr (.inr (.inl 0)))] [.inl x4] h _
    refine N_if_ne (a := x4.toInt) 13 rfl rfl rfl (fun c11 => ?_) (fun c11 => ?_)
    · refine R_iconst 0 rfl rfl ?_
      refine R_istore_n (k := 1) rfl [(1, .inl 0), (0, .inr (.inr (.inl 0)))] rfl rfl (by decide) ?_
      refine R_iconst (-1) rfl rfl ?_
      refine R_istore_n (k := 2) rfl [(2, .inl (-1)), (1, .inl 0), (0, .inr (.inr (.inl 0)))] rfl rfl (by decide) ?_
      refine R_iconst 0 rfl rfl ?_
      refine R_istore_n (k := 3) rfl [(3, .inl 0), (2, .inl (-1)), (1, .inl 0), (0, .inr (.inr (.inl 0)))] rfl rfl (by decide) ?_
      have lp13 : ∀ (n12 : Nat) (h14 : PH) (x16 : Int32) (x17 : Int32) (x18 : Int32), INV h14 → FR [0, 70, 71, 72, 73, 74, 75, 76, 77, 78, 79, 80, 81, 82, 83, 84, 85, 86] h h14 → FR [0, 70, 71, 72, 73, 74, 75, 76, 77, 78, 79, 80, 81, 82, 83, 84, 85, 86] h h14 → 0 ≤ x16.toInt ∧ x16.toInt ≤ 2147483647 → (-1) ≤ x17.toInt ∧ x17.toInt ≤ 2147483647 → 0 ≤ x18.toInt ∧ x18.toInt ≤ 2147483647 → (2147483647 - x18.toInt).toNat < n12 → RUN d_X8_lazy 19 [(3, .inl x18), (2, .inl x17), (1, .inl x16), (0, .inr (.inr (.inl 0)))] [] h14 (q_X8_lazy h) := by
        intro n12
        induction n12 with
        | zero => intro h14 x16 x17 x18 m20 m21 m22 m23 m24 m25 hz; exact absurd hz (Nat.not_lt_zero _)
        | succ n12 ih19 =>
          intro h14 x16 x17 x18 hI fr fl15 m23 m24 m25 hz
          have s26 : (h14.1 17 0).toInt = (h.1 17 0).toInt := by rw [(fl15 17 (by decide)).1]
          have s27 : (h14.1 17 10).toInt = (h.1 17 10).toInt := by rw [(fl15 17 (by decide)).1]
          refine R_iload_n (k := 3) rfl rfl rfl ?_
          refine R_aload_n (k := 0) rfl rfl rfl ?_
          refine R_getf_r (j := 3) rfl ft_8_28 sh_0 rfl ?_
          refine R_getf_r (j := 0) rfl ft_8_109 sh_16 rfl ?_
          refine R_iconst 5 rfl rfl ?_
          refine R_iald rfl sh_17 (by decide) ?_
          have b28 : (0 : Int) ≤ (h14.1 17 5).toInt ∧ (h14.1 17 5).toInt ≤ 6 := hI.1 17 5
          show RUN d_X8_lazy 29 [(3, .inl x18), (2, .inl x17), (1, .inl x16), (0, .inr (.inr (.inl 0)))] [.inl (h14.1 17 5), .inl x18] h14 _
          refine N_icmp_ge (a := x18.toInt) (b := (h14.1 17 5).toInt) 56 rfl rfl rfl rfl (fun c29 => ?_) (fun c29 => ?_)
          · refine R_iload_n (k := 2) rfl rfl rfl ?_
            have b30 := i_rng x17
            exact R_iret rfl rfl rfl ⟨hI, fr, _, rfl, by omega⟩
          · refine R_aload_n (k := 0) rfl rfl rfl ?_
            refine R_iload_n (k := 3) rfl rfl rfl ?_
            refine R_callV (v := .inr (.inr (.inl 0))) (As := [.inl x18]) (rest := []) rfl mt_8_i203 pp_X8_secondsIdle (by decide) rfl rfl rfl (Nat.le_of_ble_eq_true rfl) (Nat.le_of_ble_eq_true rfl) ((k_X8_secondsIdle h14 hI x18 (by omega)).mono (fun r31 h32 p33 => ?_))
            obtain ⟨hJ, fj, x34, rfl, q35⟩ := p33
            have f36 := fj
            have fr := fr.trans fj (by decide)
            have hI := hJ
            have fl15 : FR [0, 70, 71, 72, 73, 74, 75, 76, 77, 78, 79, 80, 81, 82, 83, 84, 85, 86] h h32 := fl15.trans fj (by decide)
            have s37 : (h32.1 17 0).toInt = (h14.1 17 0).toInt := by rw [(f36 17 (by decide)).1]
            have s38 : (h32.1 17 10).toInt = (h14.1 17 10).toInt := by rw [(f36 17 (by decide)).1]
            have s39 : (h32.1 17 5).toInt = (h14.1 17 5).toInt := by rw [(f36 17 (by decide)).1]
            show RUN d_X8_lazy 37 [(3, .inl x18), (2, .inl x17), (1, .inl x16), (0, .inr (.inr (.inl 0)))] [.inl x34] h32 _
            refine R_istore (k := 4) [(4, .inl x34), (3, .inl x18), (2, .inl x17), (1, .inl x16), (0, .inr (.inr (.inl 0)))] rfl rfl (by decide) ?_
            refine R_iload (k := 4) rfl rfl ?_
            refine R_iload_n (k := 1) rfl rfl rfl ?_
            refine N_icmp_le (a := x34.toInt) (b := x16.toInt) 50 rfl rfl rfl rfl (fun c40 => ?_) (fun c40 => ?_)
            · refine N_iinc (a := x18.toInt) (c := 1) (fun w => [(3, .inl w), (4, .inl x34), (2, .inl x17), (1, .inl x16), (0, .inr (.inr (.inl 0)))]) rfl rfl (fun _ => rfl) (by decide) rfl (by decide) (by omega) (fun x41 q42 => ?_)
              refine R_goto 19 rfl rfl ?_
              have b43 := i_rng x16
              have b44 := i_rng x17
              exact RUN_weak (psub_cons rfl (psub_cons rfl (psub_cons rfl (psub_cons rfl (psub_nil _))))) (ih19 h32 x16 x17 x41 hI fr fl15 (by omega) (by omega) (by omega) (by omega))
            · refine R_iload (k := 4) rfl rfl ?_
              refine R_istore_n (k := 1) rfl [(1, .inl x34), (4, .inl x34), (3, .inl x18), (2, .inl x17), (0, .inr (.inr (.inl 0)))] rfl rfl (by decide) ?_
              refine R_iload_n (k := 3) rfl rfl rfl ?_
              refine R_istore_n (k := 2) rfl [(2, .inl x18), (1, .inl x34), (4, .inl x34), (3, .inl x18), (0, .inr (.inr (.inl 0)))] rfl rfl (by decide) ?_
              refine N_iinc (a := x18.toInt) (c := 1) (fun w => [(3, .inl w), (2, .inl x18), (1, .inl x34), (4, .inl x34), (0, .inr (.inr (.inl 0)))]) rfl rfl (fun _ => rfl) (by decide) rfl (by decide) (by omega) (fun x45 q46 => ?_)
              refine R_goto 19 rfl rfl ?_
              have b47 := i_rng x34
              exact RUN_weak (psub_cons rfl (psub_cons rfl (psub_cons rfl (psub_cons rfl (psub_nil _))))) (ih19 h32 x34 x18 x45 hI fr fl15 (by omega) (by omega) (by omega) (by omega))
      exact lp13 _ h (0 : Int32) ((-1) : Int32) (0 : Int32) hI fr (FR.rf _ _) (by decide) (by decide) (by decide) (Nat.lt_succ_self _)
    · exfalso; omega
abbrev q_X8_queue (h : PH)  : Option PV → PH → Prop := fun r h' => INV h' ∧ FR [0, 70, 71, 72, 73, 74, 75, 76, 77, 78, 79, 80, 81, 82, 83, 84, 85, 86] h h' ∧ ∃ z : Int32, r = some (.inl z) ∧ (((-2) ≤ z.toInt ∧ z.toInt ≤ 2147483647))
set_option maxHeartbeats 4000000 in
set_option maxRecDepth 100000 in
theorem k_X8_queue (h : PH) (hI : INV h)  : CALL d_X8_queue [.inr (.inr (.inl 0))] h (q_X8_queue h) := by
  show RUN d_X8_queue 0 [(0, .inr (.inr (.inl 0)))] [] h _
  have fr : FR [0, 70, 71, 72, 73, 74, 75, 76, 77, 78, 79, 80, 81, 82, 83, 84, 85, 86] h h := FR.rf _ _
  refine R_aload_n (k := 0) rfl rfl rfl ?_
  refine R_getf_r (j := 3) rfl ft_8_28 sh_0 rfl ?_
  refine R_callV (v := .inr (.inr (.inl 16))) (As := []) (rest := []) rfl mt_8_i146 pp_X1_stands (by decide) rfl rfl rfl (Nat.le_of_ble_eq_true rfl) (Nat.le_of_ble_eq_true rfl) ((k_X1_stands h hI).mono (fun r1 h2 p3 => ?_))
  obtain ⟨rfl, x4, rfl, q5 | q5⟩ := p3
  · have b6 : (0 : Int) ≤ (h.1 17 0).toInt ∧ (h.1 17 0).toInt ≤ 60 := hI.1 17 0
    have e7 : 0 < (h.1 17 10).toInt → 1 ≤ (h.1 17 0).toInt := hI.2.1
    show RUN d_X8_queue 7 [(0, .inr (.inr (.inl 0)))] [.inl x4] h _
    refine N_if_ne (a := x4.toInt) 13 rfl rfl rfl (fun c8 => ?_) (fun c8 => ?_)
    · exfalso; omega
    · refine R_bipush (-2) rfl rfl ?_
      exact R_iret rfl rfl rfl ⟨hI, fr, _, rfl, by rw [show ((-2) : Int32).toInt = (-2) from rfl]; omega⟩
  · have b9 : (0 : Int) ≤ (h.1 17 0).toInt ∧ (h.1 17 0).toInt ≤ 60 := hI.1 17 0
    have e10 : 0 < (h.1 17 10).toInt → 1 ≤ (h.1 17 0).toInt := hI.2.1
    show RUN d_X8_queue 7 [(0, .inr (.inr (.inl 0)))] [.inl x4] h _
    refine N_if_ne (a := x4.toInt) 13 rfl rfl rfl (fun c11 => ?_) (fun c11 => ?_)
    · refine R_iconst 0 rfl rfl ?_
      refine R_istore_n (k := 1) rfl [(1, .inl 0), (0, .inr (.inr (.inl 0)))] rfl rfl (by decide) ?_
      refine R_iconst (-1) rfl rfl ?_
      refine R_istore_n (k := 2) rfl [(2, .inl (-1)), (1, .inl 0), (0, .inr (.inr (.inl 0)))] rfl rfl (by decide) ?_
      refine R_iconst 0 rfl rfl ?_
      refine R_istore_n (k := 3) rfl [(3, .inl 0), (2, .inl (-1)), (1, .inl 0), (0, .inr (.inr (.inl 0)))] rfl rfl (by decide) ?_
      have lp13 : ∀ (n12 : Nat) (h14 : PH) (x16 : Int32) (x17 : Int32) (x18 : Int32), INV h14 → FR [0, 70, 71, 72, 73, 74, 75, 76, 77, 78, 79, 80, 81, 82, 83, 84, 85, 86] h h14 → FR [0, 70, 71, 72, 73, 74, 75, 76, 77, 78, 79, 80, 81, 82, 83, 84, 85, 86] h h14 → 0 ≤ x16.toInt ∧ x16.toInt ≤ 2147483647 → (-1) ≤ x17.toInt ∧ x17.toInt ≤ 2147483647 → 0 ≤ x18.toInt ∧ x18.toInt ≤ 2147483647 → (2147483647 - x18.toInt).toNat < n12 → RUN d_X8_queue 19 [(3, .inl x18), (2, .inl x17), (1, .inl x16), (0, .inr (.inr (.inl 0)))] [] h14 (q_X8_queue h) := by
        intro n12
        induction n12 with
        | zero => intro h14 x16 x17 x18 m20 m21 m22 m23 m24 m25 hz; exact absurd hz (Nat.not_lt_zero _)
        | succ n12 ih19 =>
          intro h14 x16 x17 x18 hI fr fl15 m23 m24 m25 hz
          have s26 : (h14.1 17 0).toInt = (h.1 17 0).toInt := by rw [(fl15 17 (by decide)).1]
          have s27 : (h14.1 17 10).toInt = (h.1 17 10).toInt := by rw [(fl15 17 (by decide)).1]
          refine R_iload_n (k := 3) rfl rfl rfl ?_
          refine R_aload_n (k := 0) rfl rfl rfl ?_
          refine R_getf_r (j := 3) rfl ft_8_28 sh_0 rfl ?_
          refine R_getf_r (j := 0) rfl ft_8_109 sh_16 rfl ?_
          refine R_iconst 5 rfl rfl ?_
          refine R_iald rfl sh_17 (by decide) ?_
          have b28 : (0 : Int) ≤ (h14.1 17 5).toInt ∧ (h14.1 17 5).toInt ≤ 6 := hI.1 17 5
          show RUN d_X8_queue 29 [(3, .inl x18), (2, .inl x17), (1, .inl x16), (0, .inr (.inr (.inl 0)))] [.inl (h14.1 17 5), .inl x18] h14 _
          refine N_icmp_ge (a := x18.toInt) (b := (h14.1 17 5).toInt) 63 rfl rfl rfl rfl (fun c29 => ?_) (fun c29 => ?_)
          · refine R_iload_n (k := 2) rfl rfl rfl ?_
            have b30 := i_rng x17
            exact R_iret rfl rfl rfl ⟨hI, fr, _, rfl, by omega⟩
          · refine R_aload_n (k := 0) rfl rfl rfl ?_
            refine R_aload_n (k := 0) rfl rfl rfl ?_
            refine R_callV (v := .inr (.inr (.inl 0))) (As := []) (rest := [.inr (.inr (.inl 0))]) rfl mt_8_i153 pp_X8_told (by decide) rfl rfl rfl (Nat.le_of_ble_eq_true rfl) (Nat.le_of_ble_eq_true rfl) ((k_X8_told h14 hI).mono (fun r31 h32 p33 => ?_))
            obtain ⟨hJ, fj, rfl⟩ := p33
            have f34 := fj
            have fr := fr.trans fj (by decide)
            have hI := hJ
            have fl15 : FR [0, 70, 71, 72, 73, 74, 75, 76, 77, 78, 79, 80, 81, 82, 83, 84, 85, 86] h h32 := fl15.trans fj (by decide)
            have s35 : (h32.1 17 0).toInt = (h14.1 17 0).toInt := by rw [(f34 17 (by decide)).1]
            have s36 : (h32.1 17 10).toInt = (h14.1 17 10).toInt := by rw [(f34 17 (by decide)).1]
            have s37 : (h32.1 17 5).toInt = (h14.1 17 5).toInt := by rw [(f34 17 (by decide)).1]
            show RUN d_X8_queue 37 [(3, .inl x18), (2, .inl x17), (1, .inl x16), (0, .inr (.inr (.inl 0)))] [.inr (.inr (.inl 75)), .inr (.inr (.inl 0))] h32 _
            refine R_getf_r (j := 2) rfl ft_8_175 sh_75 rfl ?_
            refine R_iload_n (k := 3) rfl rfl rfl ?_
            refine R_callV (v := .inr (.inr (.inl 0))) (As := [.inr (.inr (.inl 78)), .inl x18]) (rest := []) rfl mt_8_i200 pp_X8_secondsWith (by decide) rfl rfl rfl (Nat.le_of_ble_eq_true rfl) (Nat.le_of_ble_eq_true rfl) ((k_X8_secondsWith h32 hI x18 (by omega)).mono (fun r38 h39 p40 => ?_))
            obtain ⟨rfl, x41, rfl, q42⟩ := p40
            show RUN d_X8_queue 44 [(3, .inl x18), (2, .inl x17), (1, .inl x16), (0, .inr (.inr (.inl 0)))] [.inl x41] h32 _
            refine R_istore (k := 4) [(4, .inl x41), (3, .inl x18), (2, .inl x17), (1, .inl x16), (0, .inr (.inr (.inl 0)))] rfl rfl (by decide) ?_
            refine R_iload (k := 4) rfl rfl ?_
            refine R_iload_n (k := 1) rfl rfl rfl ?_
            refine N_icmp_le (a := x41.toInt) (b := x16.toInt) 57 rfl rfl rfl rfl (fun c43 => ?_) (fun c43 => ?_)
            · refine N_iinc (a := x18.toInt) (c := 1) (fun w => [(3, .inl w), (4, .inl x41), (2, .inl x17), (1, .inl x16), (0, .inr (.inr (.inl 0)))]) rfl rfl (fun _ => rfl) (by decide) rfl (by decide) (by omega) (fun x44 q45 => ?_)
              refine R_goto 19 rfl rfl ?_
              have b46 := i_rng x16
              have b47 := i_rng x17
              exact RUN_weak (psub_cons rfl (psub_cons rfl (psub_cons rfl (psub_cons rfl (psub_nil _))))) (ih19 h32 x16 x17 x44 hI fr fl15 (by omega) (by omega) (by omega) (by omega))
            · refine R_iload (k := 4) rfl rfl ?_
              refine R_istore_n (k := 1) rfl [(1, .inl x41), (4, .inl x41), (3, .inl x18), (2, .inl x17), (0, .inr (.inr (.inl 0)))] rfl rfl (by decide) ?_
              refine R_iload_n (k := 3) rfl rfl rfl ?_
              refine R_istore_n (k := 2) rfl [(2, .inl x18), (1, .inl x41), (4, .inl x41), (3, .inl x18), (0, .inr (.inr (.inl 0)))] rfl rfl (by decide) ?_
              refine N_iinc (a := x18.toInt) (c := 1) (fun w => [(3, .inl w), (2, .inl x18), (1, .inl x41), (4, .inl x41), (0, .inr (.inr (.inl 0)))]) rfl rfl (fun _ => rfl) (by decide) rfl (by decide) (by omega) (fun x48 q49 => ?_)
              refine R_goto 19 rfl rfl ?_
              have b50 := i_rng x41
              exact RUN_weak (psub_cons rfl (psub_cons rfl (psub_cons rfl (psub_cons rfl (psub_nil _))))) (ih19 h32 x41 x18 x48 hI fr fl15 (by omega) (by omega) (by omega) (by omega))
      exact lp13 _ h (0 : Int32) ((-1) : Int32) (0 : Int32) hI fr (FR.rf _ _) (by decide) (by decide) (by decide) (Nat.lt_succ_self _)
    · exfalso; omega
abbrev q_X8_kept (h : PH)  : Option PV → PH → Prop := fun r h' => h = h' ∧ ∃ z : Int32, r = some (.inl z) ∧ ((True))
set_option maxHeartbeats 4000000 in
set_option maxRecDepth 100000 in
theorem k_X8_kept (h : PH) (hI : INV h)  : CALL d_X8_kept [.inr (.inr (.inl 0))] h (q_X8_kept h) := by
  show RUN d_X8_kept 0 [(0, .inr (.inr (.inl 0)))] [] h _
  refine R_aload_n (k := 0) rfl rfl rfl ?_
  refine R_getf_r (j := 3) rfl ft_8_28 sh_0 rfl ?_
  refine R_callV (v := .inr (.inr (.inl 16))) (As := []) (rest := []) rfl mt_8_i146 pp_X1_stands (by decide) rfl rfl rfl (Nat.le_of_ble_eq_true rfl) (Nat.le_of_ble_eq_true rfl) ((k_X1_stands h hI).mono (fun r1 h2 p3 => ?_))
  obtain ⟨rfl, x4, rfl, q5 | q5⟩ := p3
  · have b6 : (0 : Int) ≤ (h.1 17 0).toInt ∧ (h.1 17 0).toInt ≤ 60 := hI.1 17 0
    have e7 : 0 < (h.1 17 10).toInt → 1 ≤ (h.1 17 0).toInt := hI.2.1
    show RUN d_X8_kept 7 [(0, .inr (.inr (.inl 0)))] [.inl x4] h _
    refine N_if_ne (a := x4.toInt) 13 rfl rfl rfl (fun c8 => ?_) (fun c8 => ?_)
    · exfalso; omega
    · refine R_bipush (-2) rfl rfl ?_
      exact R_iret rfl rfl rfl ⟨rfl, _, rfl, trivial⟩
  · have b9 : (0 : Int) ≤ (h.1 17 0).toInt ∧ (h.1 17 0).toInt ≤ 60 := hI.1 17 0
    have e10 : 0 < (h.1 17 10).toInt → 1 ≤ (h.1 17 0).toInt := hI.2.1
    show RUN d_X8_kept 7 [(0, .inr (.inr (.inl 0)))] [.inl x4] h _
    refine N_if_ne (a := x4.toInt) 13 rfl rfl rfl (fun c11 => ?_) (fun c11 => ?_)
    · refine R_iconst 0 rfl rfl ?_
      refine R_istore_n (k := 1) rfl [(1, .inl 0), (0, .inr (.inr (.inl 0)))] rfl rfl (by decide) ?_
      refine R_iconst 0 rfl rfl ?_
      refine R_istore_n (k := 2) rfl [(2, .inl 0), (1, .inl 0), (0, .inr (.inr (.inl 0)))] rfl rfl (by decide) ?_
      have lp13 : ∀ (n12 : Nat) (x14 : Int32) (x15 : Int32), 0 ≤ x15.toInt ∧ x15.toInt ≤ 5 → (5 - x15.toInt).toNat < n12 → RUN d_X8_kept 17 [(2, .inl x15), (1, .inl x14), (0, .inr (.inr (.inl 0)))] [] h (q_X8_kept h) := by
        intro n12
        induction n12 with
        | zero => intro x14 x15 m17 hz; exact absurd hz (Nat.not_lt_zero _)
        | succ n12 ih16 =>
          intro x14 x15 m17 hz
          refine R_iload_n (k := 2) rfl rfl rfl ?_
          refine R_aload_n (k := 0) rfl rfl rfl ?_
          refine R_getf_r (j := 3) rfl ft_8_28 sh_0 rfl ?_
          refine R_getf_r (j := 0) rfl ft_8_109 sh_16 rfl ?_
          refine R_bipush 6 rfl rfl ?_
          refine R_iald rfl sh_17 (by decide) ?_
          have b18 : (0 : Int) ≤ (h.1 17 6).toInt ∧ (h.1 17 6).toInt ≤ 5 := hI.1 17 6
          show RUN d_X8_kept 28 [(2, .inl x15), (1, .inl x14), (0, .inr (.inr (.inl 0)))] [.inl (h.1 17 6), .inl x15] h _
          refine N_icmp_ge (a := x15.toInt) (b := (h.1 17 6).toInt) 54 rfl rfl rfl rfl (fun c19 => ?_) (fun c19 => ?_)
          · refine R_iload_n (k := 1) rfl rfl rfl ?_
            exact R_iret rfl rfl rfl ⟨rfl, _, rfl, trivial⟩
          · refine R_aload_n (k := 0) rfl rfl rfl ?_
            refine R_getf_r (j := 3) rfl ft_8_28 sh_0 rfl ?_
            refine R_iload_n (k := 2) rfl rfl rfl ?_
            refine R_callV (v := .inr (.inr (.inl 16))) (As := [.inl x15]) (rest := []) rfl mt_8_i143 pp_X1_keptAsTold (by decide) rfl rfl rfl (Nat.le_of_ble_eq_true rfl) (Nat.le_of_ble_eq_true rfl) ((k_X1_keptAsTold h hI x15 (by omega)).mono (fun r20 h21 p22 => ?_))
            obtain ⟨rfl, x23, rfl, q24 | q24⟩ := p22
            · show RUN d_X8_kept 39 [(2, .inl x15), (1, .inl x14), (0, .inr (.inr (.inl 0)))] [.inl x23] h _
              refine N_if_eq (a := x23.toInt) 48 rfl rfl rfl (fun c25 => ?_) (fun c25 => ?_)
              · exfalso; omega
              · refine R_iload_n (k := 1) rfl rfl rfl ?_
                refine R_iconst 1 rfl rfl ?_
                refine R_iload_n (k := 2) rfl rfl rfl ?_
                refine N_ishl1 (b := x15.toInt) rfl rfl (by omega) (fun x26 q27 => ?_)
                refine R_ior rfl ?_
                refine N_any (fun x28 => ?_)
                refine R_istore_n (k := 1) rfl [(1, .inl x28), (2, .inl x15), (0, .inr (.inr (.inl 0)))] rfl rfl (by decide) ?_
                refine N_iinc (a := x15.toInt) (c := 1) (fun w => [(2, .inl w), (1, .inl x28), (0, .inr (.inr (.inl 0)))]) rfl rfl (fun _ => rfl) (by decide) rfl (by decide) (by omega) (fun x29 q30 => ?_)
                refine R_goto 17 rfl rfl ?_
                exact RUN_weak (psub_cons rfl (psub_cons rfl (psub_cons rfl (psub_nil _)))) (ih16 x28 x29 (by omega) (by omega))
            · show RUN d_X8_kept 39 [(2, .inl x15), (1, .inl x14), (0, .inr (.inr (.inl 0)))] [.inl x23] h _
              refine N_if_eq (a := x23.toInt) 48 rfl rfl rfl (fun c31 => ?_) (fun c31 => ?_)
              · refine N_iinc (a := x15.toInt) (c := 1) (fun w => [(2, .inl w), (1, .inl x14), (0, .inr (.inr (.inl 0)))]) rfl rfl (fun _ => rfl) (by decide) rfl (by decide) (by omega) (fun x32 q33 => ?_)
                refine R_goto 17 rfl rfl ?_
                exact RUN_weak (psub_cons rfl (psub_cons rfl (psub_cons rfl (psub_nil _)))) (ih16 x14 x32 (by omega) (by omega))
              · exfalso; omega
      exact lp13 _ (0 : Int32) (0 : Int32) (by decide) (Nat.lt_succ_self _)
    · exfalso; omega
abbrev q_X8_until (h : PH) (a0 : Int32) : Option PV → PH → Prop := fun r h' => INV h' ∧ FR [0, 70, 71, 72, 73, 74, 75, 76, 77, 78, 79, 80, 81, 82, 83, 84, 85, 86] h h' ∧ ∃ z : Int32, r = some (.inl z) ∧ (((-2) ≤ z.toInt ∧ z.toInt ≤ 59))
set_option maxHeartbeats 4000000 in
set_option maxRecDepth 100000 in
theorem k_X8_until (h : PH) (hI : INV h) (a0 : Int32) : CALL d_X8_until [.inr (.inr (.inl 0)), .inl a0] h (q_X8_until h a0) := by
  show RUN d_X8_until 0 [(0, .inr (.inr (.inl 0))), (1, .inl a0)] [] h _
  have b1 := i_rng a0
  have fr : FR [0, 70, 71, 72, 73, 74, 75, 76, 77, 78, 79, 80, 81, 82, 83, 84, 85, 86] h h := FR.rf _ _
  refine R_iload_n (k := 1) rfl rfl rfl ?_
  refine N_if_lt (a := a0.toInt) 14 rfl rfl rfl (fun c2 => ?_) (fun c2 => ?_)
  · refine R_bipush (-2) rfl rfl ?_
    exact R_iret rfl rfl rfl ⟨hI, fr, _, rfl, by rw [show ((-2) : Int32).toInt = (-2) from rfl]; omega⟩
  · refine R_aload_n (k := 0) rfl rfl rfl ?_
    refine R_getf_r (j := 3) rfl ft_8_28 sh_0 rfl ?_
    refine R_callV (v := .inr (.inr (.inl 16))) (As := []) (rest := []) rfl mt_8_i146 pp_X1_stands (by decide) rfl rfl rfl (Nat.le_of_ble_eq_true rfl) (Nat.le_of_ble_eq_true rfl) ((k_X1_stands h hI).mono (fun r3 h4 p5 => ?_))
    obtain ⟨rfl, x6, rfl, q7 | q7⟩ := p5
    · have b8 : (0 : Int) ≤ (h.1 17 0).toInt ∧ (h.1 17 0).toInt ≤ 60 := hI.1 17 0
      have e9 : 0 < (h.1 17 10).toInt → 1 ≤ (h.1 17 0).toInt := hI.2.1
      show RUN d_X8_until 11 [(0, .inr (.inr (.inl 0))), (1, .inl a0)] [.inl x6] h _
      refine N_if_ne (a := x6.toInt) 17 rfl rfl rfl (fun c10 => ?_) (fun c10 => ?_)
      · exfalso; omega
      · refine R_bipush (-2) rfl rfl ?_
        exact R_iret rfl rfl rfl ⟨hI, fr, _, rfl, by rw [show ((-2) : Int32).toInt = (-2) from rfl]; omega⟩
    · have b11 : (0 : Int) ≤ (h.1 17 0).toInt ∧ (h.1 17 0).toInt ≤ 60 := hI.1 17 0
      have e12 : 0 < (h.1 17 10).toInt → 1 ≤ (h.1 17 0).toInt := hI.2.1
      show RUN d_X8_until 11 [(0, .inr (.inr (.inl 0))), (1, .inl a0)] [.inl x6] h _
      refine N_if_ne (a := x6.toInt) 17 rfl rfl rfl (fun c13 => ?_) (fun c13 => ?_)
      · refine R_aload_n (k := 0) rfl rfl rfl ?_
        refine R_callV (v := .inr (.inr (.inl 0))) (As := []) (rest := []) rfl mt_8_i153 pp_X8_told (by decide) rfl rfl rfl (Nat.le_of_ble_eq_true rfl) (Nat.le_of_ble_eq_true rfl) ((k_X8_told h hI).mono (fun r14 h15 p16 => ?_))
        obtain ⟨hJ, fj, rfl⟩ := p16
        have f17 := fj
        have fr := fr.trans fj (by decide)
        have hI := hJ
        have s18 : (h15.1 17 0).toInt = (h.1 17 0).toInt := by rw [(f17 17 (by decide)).1]
        have s19 : (h15.1 17 10).toInt = (h.1 17 10).toInt := by rw [(f17 17 (by decide)).1]
        show RUN d_X8_until 21 [(0, .inr (.inr (.inl 0))), (1, .inl a0)] [.inr (.inr (.inl 75))] h15 _
        refine R_pop_r rfl ?_
        refine R_iconst 0 rfl rfl ?_
        refine R_istore_n (k := 2) rfl [(2, .inl 0), (0, .inr (.inr (.inl 0))), (1, .inl a0)] rfl rfl (by decide) ?_
        have lp21 : ∀ (n20 : Nat) (x22 : Int32), 0 ≤ x22.toInt ∧ x22.toInt ≤ 2147483647 → (2147483647 - x22.toInt).toNat < n20 → RUN d_X8_until 24 [(2, .inl x22), (0, .inr (.inr (.inl 0))), (1, .inl a0)] [] h15 (q_X8_until h a0) := by
          intro n20
          induction n20 with
          | zero => intro x22 m24 hz; exact absurd hz (Nat.not_lt_zero _)
          | succ n20 ih23 =>
            intro x22 m24 hz
            refine R_iload_n (k := 2) rfl rfl rfl ?_
            refine R_aload_n (k := 0) rfl rfl rfl ?_
            refine R_getf_r (j := 3) rfl ft_8_28 sh_0 rfl ?_
            refine R_getf_r (j := 0) rfl ft_8_109 sh_16 rfl ?_
            refine R_iconst 0 rfl rfl ?_
            refine R_iald rfl sh_17 (by decide) ?_
            show RUN d_X8_until 34 [(2, .inl x22), (0, .inr (.inr (.inl 0))), (1, .inl a0)] [.inl (h15.1 17 0), .inl x22] h15 _
            refine N_icmp_ge (a := x22.toInt) (b := (h15.1 17 0).toInt) 57 rfl rfl rfl rfl (fun c25 => ?_) (fun c25 => ?_)
            · refine R_iconst (-1) rfl rfl ?_
              exact R_iret rfl rfl rfl ⟨hI, fr, _, rfl, by rw [show ((-1) : Int32).toInt = (-1) from rfl]; omega⟩
            · refine R_aload_n (k := 0) rfl rfl rfl ?_
              refine R_getf_r (j := 8) rfl ft_8_56 sh_0 rfl ?_
              refine R_iload_n (k := 2) rfl rfl rfl ?_
              refine R_callV (v := .inr (.inr (.inl 75))) (As := [.inl x22]) (rest := []) rfl mt_8_i196 pp_X6_waterTo (by decide) rfl rfl rfl (Nat.le_of_ble_eq_true rfl) (Nat.le_of_ble_eq_true rfl) ((k_X6_waterTo h15 hI x22 (by omega)).mono (fun r26 h27 p28 => ?_))
              obtain ⟨rfl, x29, rfl, q30⟩ := p28
              show RUN d_X8_until 45 [(2, .inl x22), (0, .inr (.inr (.inl 0))), (1, .inl a0)] [.inl x29] h15 _
              refine R_iload_n (k := 1) rfl rfl rfl ?_
              refine N_icmp_lt (a := x29.toInt) (b := a0.toInt) 51 rfl rfl rfl rfl (fun c31 => ?_) (fun c31 => ?_)
              · refine N_iinc (a := x22.toInt) (c := 1) (fun w => [(2, .inl w), (0, .inr (.inr (.inl 0))), (1, .inl a0)]) rfl rfl (fun _ => rfl) (by decide) rfl (by decide) (by omega) (fun x32 q33 => ?_)
                refine R_goto 24 rfl rfl ?_
                exact RUN_weak (psub_cons rfl (psub_cons rfl (psub_cons rfl (psub_nil _)))) (ih23 x32 (by omega) (by omega))
              · refine R_iload_n (k := 2) rfl rfl rfl ?_
                exact R_iret rfl rfl rfl ⟨hI, fr, _, rfl, by omega⟩
        exact lp21 _ (0 : Int32) (by decide) (Nat.lt_succ_self _)
      · exfalso; omega
abbrev q_X2_play (h : PH) (a0 : Int32) (a1 : Int64) : Option PV → PH → Prop := fun r h' => INV h' ∧ FR [70, 74] h h' ∧ ∃ z : Int64, r = some (.inr (.inl z))
set_option maxHeartbeats 4000000 in
set_option maxRecDepth 100000 in
theorem k_X2_play (h : PH) (hI : INV h) (a0 : Int32) (a1 : Int64) (h0a : 0 ≤ a0.toInt ∧ a0.toInt ≤ 60) : CALL d_X2_play [.inr (.inr (.inl 70)), .inl a0, .inr (.inl a1)] h (q_X2_play h a0 a1) := by
  show RUN d_X2_play 0 [(0, .inr (.inr (.inl 70))), (1, .inl a0), (2, .inr (.inl a1))] [] h _
  have fr : FR [70, 74] h h := FR.rf _ _
  refine R_aload_n (k := 0) rfl rfl rfl ?_
  refine R_callV (v := .inr (.inr (.inl 70))) (As := []) (rest := []) rfl mt_2_i66 pp_X2_begin (by decide) rfl rfl rfl (Nat.le_of_ble_eq_true rfl) (Nat.le_of_ble_eq_true rfl) ((k_X2_begin h hI).mono (fun r1 h2 p3 => ?_))
  obtain ⟨hJ, fj, rfl⟩ := p3
  have f4 := fj
  have fr := fr.trans fj (by decide)
  have hI := hJ
  show RUN d_X2_play 4 [(0, .inr (.inr (.inl 70))), (1, .inl a0), (2, .inr (.inl a1))] [] h2 _
  refine R_lconst 0 rfl rfl ?_
  refine R_lstore (k := 4) [(4, .inr (.inl 0)), (0, .inr (.inr (.inl 70))), (1, .inl a0), (2, .inr (.inl a1))] rfl rfl (by decide) ?_
  refine R_iconst 0 rfl rfl ?_
  refine R_istore (k := 6) [(6, .inl 0), (4, .inr (.inl 0)), (0, .inr (.inr (.inl 70))), (1, .inl a0), (2, .inr (.inl a1))] rfl rfl (by decide) ?_
  have lp6 : ∀ (n5 : Nat) (h7 : PH) (w9 : Int64) (x10 : Int32), INV h7 → FR [70, 74] h h7 → FR [70, 74] h2 h7 → 0 ≤ x10.toInt ∧ x10.toInt ≤ 2147483647 → (2147483647 - x10.toInt).toNat < n5 → RUN d_X2_play 10 [(6, .inl x10), (4, .inr (.inl w9)), (0, .inr (.inr (.inl 70))), (1, .inl a0), (2, .inr (.inl a1))] [] h7 (q_X2_play h a0 a1) := by
    intro n5
    induction n5 with
    | zero => intro h7 w9 x10 m12 m13 m14 m15 hz; exact absurd hz (Nat.not_lt_zero _)
    | succ n5 ih11 =>
      intro h7 w9 x10 hI fr fl8 m15 hz
      refine R_iload (k := 6) rfl rfl ?_
      refine R_iload_n (k := 1) rfl rfl rfl ?_
      refine N_icmp_ge (a := x10.toInt) (b := a0.toInt) 57 rfl rfl rfl rfl (fun c16 => ?_) (fun c16 => ?_)
      · refine R_lload (k := 4) rfl rfl ?_
        exact R_lret rfl rfl ⟨hI, fr, _, rfl⟩
      · refine R_iload (k := 6) rfl rfl ?_
        refine R_bipush 60 rfl rfl ?_
        refine N_icmp_ge (a := x10.toInt) (b := 60) 57 rfl rfl rfl (by decide) (fun c17 => ?_) (fun c17 => ?_)
        · exfalso; omega
        · refine R_aload_n (k := 0) rfl rfl rfl ?_
          refine R_aload_n (k := 0) rfl rfl rfl ?_
          refine R_iload (k := 6) rfl rfl ?_
          refine R_lload_n (k := 2) rfl rfl rfl ?_
          refine R_iload (k := 6) rfl rfl ?_
          refine R_callS (As := [.inr (.inl a1), .inl x10]) (rest := [.inl x10, .inr (.inr (.inl 70)), .inr (.inr (.inl 70))]) rfl mt_2_i69 (by decide) pp_X8_hasBit (by decide) rfl rfl (Nat.le_of_ble_eq_true rfl) (Nat.le_of_ble_eq_true rfl) ((k_X8_hasBit h7 hI a1 x10).mono (fun r18 h19 p20 => ?_))
          obtain ⟨rfl, x21, rfl, q22 | q22⟩ := p20
          · show RUN d_X2_play 33 [(6, .inl x10), (4, .inr (.inl w9)), (0, .inr (.inr (.inl 70))), (1, .inl a0), (2, .inr (.inl a1))] [.inl x21, .inl x10, .inr (.inr (.inl 70)), .inr (.inr (.inl 70))] h7 _
            refine R_callV (v := .inr (.inr (.inl 70))) (As := [.inl x10, .inl x21]) (rest := [.inr (.inr (.inl 70))]) rfl mt_2_i73 pp_X2_step (by decide) rfl rfl rfl (Nat.le_of_ble_eq_true rfl) (Nat.le_of_ble_eq_true rfl) ((k_X2_step h7 hI x10 x21 (by omega) (by omega)).mono (fun r23 h24 p25 => ?_))
            obtain ⟨hJ, fj, x26, rfl, q27⟩ := p25
            have f28 := fj
            have fr := fr.trans fj (by decide)
            have hI := hJ
            have fl8 : FR [70, 74] h2 h24 := fl8.trans fj (by decide)
            show RUN d_X2_play 36 [(6, .inl x10), (4, .inr (.inl w9)), (0, .inr (.inr (.inl 70))), (1, .inl a0), (2, .inr (.inl a1))] [.inl x26, .inr (.inr (.inl 70))] h24 _
            refine R_callV (v := .inr (.inr (.inl 70))) (As := [.inl x26]) (rest := []) rfl mt_2_i77 pp_X2_isThrow (by decide) rfl rfl rfl (Nat.le_of_ble_eq_true rfl) (Nat.le_of_ble_eq_true rfl) ((k_X2_isThrow h24 hI x26).mono (fun r29 h30 p31 => ?_))
            obtain ⟨rfl, x32, rfl, q33 | q33 | q33⟩ := p31
            · have b34 : (0 : Int) ≤ (h24.1 70 4).toInt ∧ (h24.1 70 4).toInt ≤ 6 := hI.1 70 4
              show RUN d_X2_play 39 [(6, .inl x10), (4, .inr (.inl w9)), (0, .inr (.inr (.inl 70))), (1, .inl a0), (2, .inr (.inl a1))] [.inl x32] h24 _
              refine N_if_eq (a := x32.toInt) 51 rfl rfl rfl (fun c35 => ?_) (fun c35 => ?_)
              · refine N_iinc (a := x10.toInt) (c := 1) (fun w => [(6, .inl w), (4, .inr (.inl w9)), (0, .inr (.inr (.inl 70))), (1, .inl a0), (2, .inr (.inl a1))]) rfl rfl (fun _ => rfl) (by decide) rfl (by decide) (by omega) (fun x36 q37 => ?_)
                refine R_goto 10 rfl rfl ?_
                exact RUN_weak (psub_cons rfl (psub_cons rfl (psub_cons rfl (psub_cons rfl (psub_cons rfl (psub_nil _)))))) (ih11 h24 w9 x36 hI fr fl8 (by omega) (by omega))
              · exfalso; omega
            · have b38 : (0 : Int) ≤ (h24.1 70 4).toInt ∧ (h24.1 70 4).toInt ≤ 6 := hI.1 70 4
              show RUN d_X2_play 39 [(6, .inl x10), (4, .inr (.inl w9)), (0, .inr (.inr (.inl 70))), (1, .inl a0), (2, .inr (.inl a1))] [.inl x32] h24 _
              refine N_if_eq (a := x32.toInt) 51 rfl rfl rfl (fun c39 => ?_) (fun c39 => ?_)
              · refine N_iinc (a := x10.toInt) (c := 1) (fun w => [(6, .inl w), (4, .inr (.inl w9)), (0, .inr (.inr (.inl 70))), (1, .inl a0), (2, .inr (.inl a1))]) rfl rfl (fun _ => rfl) (by decide) rfl (by decide) (by omega) (fun x40 q41 => ?_)
                refine R_goto 10 rfl rfl ?_
                exact RUN_weak (psub_cons rfl (psub_cons rfl (psub_cons rfl (psub_cons rfl (psub_cons rfl (psub_nil _)))))) (ih11 h24 w9 x40 hI fr fl8 (by omega) (by omega))
              · exfalso; omega
            · have b42 : (0 : Int) ≤ (h24.1 70 4).toInt ∧ (h24.1 70 4).toInt ≤ 6 := hI.1 70 4
              show RUN d_X2_play 39 [(6, .inl x10), (4, .inr (.inl w9)), (0, .inr (.inr (.inl 70))), (1, .inl a0), (2, .inr (.inl a1))] [.inl x32] h24 _
              refine N_if_eq (a := x32.toInt) 51 rfl rfl rfl (fun c43 => ?_) (fun c43 => ?_)
              · exfalso; omega
              · refine R_lload (k := 4) rfl rfl ?_
                refine R_lconst 1 rfl rfl ?_
                refine R_iload (k := 6) rfl rfl ?_
                refine R_lshl rfl ?_
                refine N_anyL (fun w44 => ?_)
                refine R_lor rfl ?_
                refine N_anyL (fun w45 => ?_)
                refine R_lstore (k := 4) [(4, .inr (.inl w45)), (6, .inl x10), (0, .inr (.inr (.inl 70))), (1, .inl a0), (2, .inr (.inl a1))] rfl rfl (by decide) ?_
                refine N_iinc (a := x10.toInt) (c := 1) (fun w => [(6, .inl w), (4, .inr (.inl w45)), (0, .inr (.inr (.inl 70))), (1, .inl a0), (2, .inr (.inl a1))]) rfl rfl (fun _ => rfl) (by decide) rfl (by decide) (by omega) (fun x46 q47 => ?_)
                refine R_goto 10 rfl rfl ?_
                exact RUN_weak (psub_cons rfl (psub_cons rfl (psub_cons rfl (psub_cons rfl (psub_cons rfl (psub_nil _)))))) (ih11 h24 w45 x46 hI fr fl8 (by omega) (by omega))
          · show RUN d_X2_play 33 [(6, .inl x10), (4, .inr (.inl w9)), (0, .inr (.inr (.inl 70))), (1, .inl a0), (2, .inr (.inl a1))] [.inl x21, .inl x10, .inr (.inr (.inl 70)), .inr (.inr (.inl 70))] h7 _
            refine R_callV (v := .inr (.inr (.inl 70))) (As := [.inl x10, .inl x21]) (rest := [.inr (.inr (.inl 70))]) rfl mt_2_i73 pp_X2_step (by decide) rfl rfl rfl (Nat.le_of_ble_eq_true rfl) (Nat.le_of_ble_eq_true rfl) ((k_X2_step h7 hI x10 x21 (by omega) (by omega)).mono (fun r48 h49 p50 => ?_))
            obtain ⟨hJ, fj, x51, rfl, q52⟩ := p50
            have f53 := fj
            have fr := fr.trans fj (by decide)
            have hI := hJ
            have fl8 : FR [70, 74] h2 h49 := fl8.trans fj (by decide)
            show RUN d_X2_play 36 [(6, .inl x10), (4, .inr (.inl w9)), (0, .inr (.inr (.inl 70))), (1, .inl a0), (2, .inr (.inl a1))] [.inl x51, .inr (.inr (.inl 70))] h49 _
            refine R_callV (v := .inr (.inr (.inl 70))) (As := [.inl x51]) (rest := []) rfl mt_2_i77 pp_X2_isThrow (by decide) rfl rfl rfl (Nat.le_of_ble_eq_true rfl) (Nat.le_of_ble_eq_true rfl) ((k_X2_isThrow h49 hI x51).mono (fun r54 h55 p56 => ?_))
            obtain ⟨rfl, x57, rfl, q58 | q58 | q58⟩ := p56
            · have b59 : (0 : Int) ≤ (h49.1 70 4).toInt ∧ (h49.1 70 4).toInt ≤ 6 := hI.1 70 4
              show RUN d_X2_play 39 [(6, .inl x10), (4, .inr (.inl w9)), (0, .inr (.inr (.inl 70))), (1, .inl a0), (2, .inr (.inl a1))] [.inl x57] h49 _
              refine N_if_eq (a := x57.toInt) 51 rfl rfl rfl (fun c60 => ?_) (fun c60 => ?_)
              · refine N_iinc (a := x10.toInt) (c := 1) (fun w => [(6, .inl w), (4, .inr (.inl w9)), (0, .inr (.inr (.inl 70))), (1, .inl a0), (2, .inr (.inl a1))]) rfl rfl (fun _ => rfl) (by decide) rfl (by decide) (by omega) (fun x61 q62 => ?_)
                refine R_goto 10 rfl rfl ?_
                exact RUN_weak (psub_cons rfl (psub_cons rfl (psub_cons rfl (psub_cons rfl (psub_cons rfl (psub_nil _)))))) (ih11 h49 w9 x61 hI fr fl8 (by omega) (by omega))
              · exfalso; omega
            · have b63 : (0 : Int) ≤ (h49.1 70 4).toInt ∧ (h49.1 70 4).toInt ≤ 6 := hI.1 70 4
              show RUN d_X2_play 39 [(6, .inl x10), (4, .inr (.inl w9)), (0, .inr (.inr (.inl 70))), (1, .inl a0), (2, .inr (.inl a1))] [.inl x57] h49 _
              refine N_if_eq (a := x57.toInt) 51 rfl rfl rfl (fun c64 => ?_) (fun c64 => ?_)
              · refine N_iinc (a := x10.toInt) (c := 1) (fun w => [(6, .inl w), (4, .inr (.inl w9)), (0, .inr (.inr (.inl 70))), (1, .inl a0), (2, .inr (.inl a1))]) rfl rfl (fun _ => rfl) (by decide) rfl (by decide) (by omega) (fun x65 q66 => ?_)
                refine R_goto 10 rfl rfl ?_
                exact RUN_weak (psub_cons rfl (psub_cons rfl (psub_cons rfl (psub_cons rfl (psub_cons rfl (psub_nil _)))))) (ih11 h49 w9 x65 hI fr fl8 (by omega) (by omega))
              · exfalso; omega
            · have b67 : (0 : Int) ≤ (h49.1 70 4).toInt ∧ (h49.1 70 4).toInt ≤ 6 := hI.1 70 4
              show RUN d_X2_play 39 [(6, .inl x10), (4, .inr (.inl w9)), (0, .inr (.inr (.inl 70))), (1, .inl a0), (2, .inr (.inl a1))] [.inl x57] h49 _
              refine N_if_eq (a := x57.toInt) 51 rfl rfl rfl (fun c68 => ?_) (fun c68 => ?_)
              · exfalso; omega
              · refine R_lload (k := 4) rfl rfl ?_
                refine R_lconst 1 rfl rfl ?_
                refine R_iload (k := 6) rfl rfl ?_
                refine R_lshl rfl ?_
                refine N_anyL (fun w69 => ?_)
                refine R_lor rfl ?_
                refine N_anyL (fun w70 => ?_)
                refine R_lstore (k := 4) [(4, .inr (.inl w70)), (6, .inl x10), (0, .inr (.inr (.inl 70))), (1, .inl a0), (2, .inr (.inl a1))] rfl rfl (by decide) ?_
                refine N_iinc (a := x10.toInt) (c := 1) (fun w => [(6, .inl w), (4, .inr (.inl w70)), (0, .inr (.inr (.inl 70))), (1, .inl a0), (2, .inr (.inl a1))]) rfl rfl (fun _ => rfl) (by decide) rfl (by decide) (by omega) (fun x71 q72 => ?_)
                refine R_goto 10 rfl rfl ?_
                exact RUN_weak (psub_cons rfl (psub_cons rfl (psub_cons rfl (psub_cons rfl (psub_cons rfl (psub_nil _)))))) (ih11 h49 w70 x71 hI fr fl8 (by omega) (by omega))
  exact lp6 _ h2 (0 : Int64) (0 : Int32) hI fr (FR.rf _ _) (by decide) (Nat.lt_succ_self _)
abbrev q_X8_playLine (h : PH)  : Option PV → PH → Prop := fun r h' => INV h' ∧ FR [70, 74] h h' ∧ ∃ z : Int64, r = some (.inr (.inl z))
set_option maxHeartbeats 4000000 in
set_option maxRecDepth 100000 in
theorem k_X8_playLine (h : PH) (hI : INV h)  : CALL d_X8_playLine [.inr (.inr (.inl 0))] h (q_X8_playLine h) := by
  show RUN d_X8_playLine 0 [(0, .inr (.inr (.inl 0)))] [] h _
  have fr : FR [70, 74] h h := FR.rf _ _
  refine R_aload_n (k := 0) rfl rfl rfl ?_
  refine R_getf_r (j := 7) rfl ft_8_49 sh_0 rfl ?_
  refine R_aload_n (k := 0) rfl rfl rfl ?_
  refine R_getf_r (j := 3) rfl ft_8_28 sh_0 rfl ?_
  refine R_getf_r (j := 0) rfl ft_8_109 sh_16 rfl ?_
  refine R_iconst 0 rfl rfl ?_
  refine R_iald rfl sh_17 (by decide) ?_
  have b1 : (0 : Int) ≤ (h.1 17 0).toInt ∧ (h.1 17 0).toInt ≤ 60 := hI.1 17 0
  show RUN d_X8_playLine 13 [(0, .inr (.inr (.inl 0)))] [.inl (h.1 17 0), .inr (.inr (.inl 70))] h _
  refine R_lconst 0 rfl rfl ?_
  have k2 : (0 : Int64).toInt = 0 := by decide
  refine R_callV (v := .inr (.inr (.inl 70))) (As := [.inl (h.1 17 0), .inr (.inl 0)]) (rest := []) rfl mt_8_i347 pp_X2_play (by decide) rfl rfl rfl (Nat.le_of_ble_eq_true rfl) (Nat.le_of_ble_eq_true rfl) ((k_X2_play h hI (h.1 17 0) (0 : Int64) (by omega)).mono (fun r3 h4 p5 => ?_))
  obtain ⟨hJ, fj, w6, rfl⟩ := p5
  have f7 := fj
  have fr := fr.trans fj (by decide)
  have hI := hJ
  have s8 : (h4.1 17 0).toInt = (h.1 17 0).toInt := by rw [(f7 17 (by decide)).1]
  show RUN d_X8_playLine 17 [(0, .inr (.inr (.inl 0)))] [.inr (.inl w6)] h4 _
  exact R_lret rfl rfl ⟨hI, fr, _, rfl⟩
abbrev q_X8_with (h : PH) (a0 : Int32) : Option PV → PH → Prop := fun r h' => INV h' ∧ FR [70, 71, 72, 73, 74] h h' ∧ ∃ z : Int32, r = some (.inl z) ∧ (((-2) ≤ z.toInt ∧ z.toInt ≤ 59))
set_option maxHeartbeats 4000000 in
set_option maxRecDepth 100000 in
theorem k_X8_with (h : PH) (hI : INV h) (a0 : Int32) : CALL d_X8_with [.inr (.inr (.inl 0)), .inl a0] h (q_X8_with h a0) := by
  show RUN d_X8_with 0 [(0, .inr (.inr (.inl 0))), (1, .inl a0)] [] h _
  have b1 := i_rng a0
  have fr : FR [70, 71, 72, 73, 74] h h := FR.rf _ _
  refine R_iload_n (k := 1) rfl rfl rfl ?_
  refine R_iconst 1 rfl rfl ?_
  refine N_icmp_lt (a := a0.toInt) (b := 1) 21 rfl rfl rfl (by decide) (fun c2 => ?_) (fun c2 => ?_)
  · refine R_bipush (-2) rfl rfl ?_
    exact R_iret rfl rfl rfl ⟨hI, fr, _, rfl, by rw [show ((-2) : Int32).toInt = (-2) from rfl]; omega⟩
  · refine R_iload_n (k := 1) rfl rfl rfl ?_
    refine R_bipush 8 rfl rfl ?_
    refine N_icmp_gt (a := a0.toInt) (b := 8) 21 rfl rfl rfl (by decide) (fun c3 => ?_) (fun c3 => ?_)
    · refine R_bipush (-2) rfl rfl ?_
      exact R_iret rfl rfl rfl ⟨hI, fr, _, rfl, by rw [show ((-2) : Int32).toInt = (-2) from rfl]; omega⟩
    · refine R_aload_n (k := 0) rfl rfl rfl ?_
      refine R_getf_r (j := 3) rfl ft_8_28 sh_0 rfl ?_
      refine R_callV (v := .inr (.inr (.inl 16))) (As := []) (rest := []) rfl mt_8_i146 pp_X1_stands (by decide) rfl rfl rfl (Nat.le_of_ble_eq_true rfl) (Nat.le_of_ble_eq_true rfl) ((k_X1_stands h hI).mono (fun r4 h5 p6 => ?_))
      obtain ⟨rfl, x7, rfl, q8 | q8⟩ := p6
      · have b9 : (0 : Int) ≤ (h.1 17 0).toInt ∧ (h.1 17 0).toInt ≤ 60 := hI.1 17 0
        have e10 : 0 < (h.1 17 10).toInt → 1 ≤ (h.1 17 0).toInt := hI.2.1
        show RUN d_X8_with 18 [(0, .inr (.inr (.inl 0))), (1, .inl a0)] [.inl x7] h _
        refine N_if_ne (a := x7.toInt) 24 rfl rfl rfl (fun c11 => ?_) (fun c11 => ?_)
        · exfalso; omega
        · refine R_bipush (-2) rfl rfl ?_
          exact R_iret rfl rfl rfl ⟨hI, fr, _, rfl, by rw [show ((-2) : Int32).toInt = (-2) from rfl]; omega⟩
      · have b12 : (0 : Int) ≤ (h.1 17 0).toInt ∧ (h.1 17 0).toInt ≤ 60 := hI.1 17 0
        have e13 : 0 < (h.1 17 10).toInt → 1 ≤ (h.1 17 0).toInt := hI.2.1
        show RUN d_X8_with 18 [(0, .inr (.inr (.inl 0))), (1, .inl a0)] [.inl x7] h _
        refine N_if_ne (a := x7.toInt) 24 rfl rfl rfl (fun c14 => ?_) (fun c14 => ?_)
        · refine R_aload_n (k := 0) rfl rfl rfl ?_
          refine R_callV (v := .inr (.inr (.inl 0))) (As := []) (rest := []) rfl mt_8_i237 pp_X8_lineAsNow (by decide) rfl rfl rfl (Nat.le_of_ble_eq_true rfl) (Nat.le_of_ble_eq_true rfl) ((k_X8_lineAsNow h hI).mono (fun r15 h16 p17 => ?_))
          obtain ⟨hJ, fj, rfl⟩ := p17
          have f18 := fj
          have fr := fr.trans fj (by decide)
          have hI := hJ
          have s19 : (h16.1 17 0).toInt = (h.1 17 0).toInt := by rw [(f18 17 (by decide)).1]
          have s20 : (h16.1 17 10).toInt = (h.1 17 10).toInt := by rw [(f18 17 (by decide)).1]
          show RUN d_X8_with 28 [(0, .inr (.inr (.inl 0))), (1, .inl a0)] [] h16 _
          refine R_aload_n (k := 0) rfl rfl rfl ?_
          refine R_getf_r (j := 7) rfl ft_8_49 sh_0 rfl ?_
          refine R_iload_n (k := 1) rfl rfl rfl ?_
          refine K_putf (j := 5) (lo := (-2147483648)) (hi' := 2147483647) rfl ft_8_240 sh_70 rfl hI (by decide) rfl (i_rng _) fr (by decide) (fun h21 g22 hI fr => ?_)
          have s23 : (h21.1 17 0).toInt = (h16.1 17 0).toInt := by rw [g22, wI_ne _ _ _ (by decide)]
          have s24 : (h21.1 17 10).toInt = (h16.1 17 10).toInt := by rw [g22, wI_ne _ _ _ (by decide)]
          have s25 : (h21.1 70 5).toInt = a0.toInt := by rw [g22, wI_is]
          refine R_aload_n (k := 0) rfl rfl rfl ?_
          refine R_aload_n (k := 0) rfl rfl rfl ?_
          refine R_callV (v := .inr (.inr (.inl 0))) (As := []) (rest := [.inr (.inr (.inl 0))]) rfl mt_8_i243 pp_X8_playLine (by decide) rfl rfl rfl (Nat.le_of_ble_eq_true rfl) (Nat.le_of_ble_eq_true rfl) ((k_X8_playLine h21 hI).mono (fun r26 h27 p28 => ?_))
          obtain ⟨hJ, fj, w29, rfl⟩ := p28
          have f30 := fj
          have fr := fr.trans fj (by decide)
          have hI := hJ
          have s31 : (h27.1 17 0).toInt = (h21.1 17 0).toInt := by rw [(f30 17 (by decide)).1]
          have s32 : (h27.1 17 10).toInt = (h21.1 17 10).toInt := by rw [(f30 17 (by decide)).1]
          show RUN d_X8_with 41 [(0, .inr (.inr (.inl 0))), (1, .inl a0)] [.inr (.inl w29), .inr (.inr (.inl 0))] h27 _
          refine R_aload_n (k := 0) rfl rfl rfl ?_
          refine R_getf_r (j := 7) rfl ft_8_49 sh_0 rfl ?_
          refine R_callV (v := .inr (.inr (.inl 70))) (As := []) (rest := [.inr (.inl w29), .inr (.inr (.inl 0))]) rfl mt_8_i247 pp_X2_poured (by decide) rfl rfl rfl (Nat.le_of_ble_eq_true rfl) (Nat.le_of_ble_eq_true rfl) ((k_X2_poured h27 hI).mono (fun r33 h34 p35 => ?_))
          obtain ⟨rfl, x36, rfl, q37⟩ := p35
          show RUN d_X8_with 48 [(0, .inr (.inr (.inl 0))), (1, .inl a0)] [.inl x36, .inr (.inl w29), .inr (.inr (.inl 0))] h27 _
          refine R_callV (v := .inr (.inr (.inl 0))) (As := [.inr (.inl w29), .inl x36]) (rest := []) rfl mt_8_i219 pp_X8_outBy (by decide) rfl rfl rfl (Nat.le_of_ble_eq_true rfl) (Nat.le_of_ble_eq_true rfl) ((k_X8_outBy h27 hI w29 x36).mono (fun r38 h39 p40 => ?_))
          obtain ⟨rfl, x41, rfl, q42⟩ := p40
          show RUN d_X8_with 51 [(0, .inr (.inr (.inl 0))), (1, .inl a0)] [.inl x41] h27 _
          exact R_iret rfl rfl rfl ⟨hI, fr, _, rfl, by omega⟩
        · exfalso; omega
abbrev q_J13_bitCount_95d88 (h : PH) (a0 : Int64) : Option PV → PH → Prop := fun r h' => h = h' ∧ ∃ z : Int32, r = some (.inl z) ∧ ((0 ≤ z.toInt ∧ z.toInt ≤ 127))
set_option maxHeartbeats 4000000 in
set_option maxRecDepth 100000 in
theorem k_J13_bitCount_95d88 (h : PH) (hI : INV h) (a0 : Int64) : CALL d_J13_bitCount_95d88 [.inr (.inl a0)] h (q_J13_bitCount_95d88 h a0) := by
  show RUN d_J13_bitCount_95d88 0 [(0, .inr (.inl a0))] [] h _
  refine R_lload_n (k := 0) rfl rfl rfl ?_
  refine R_lload_n (k := 0) rfl rfl rfl ?_
  refine R_iconst 1 rfl rfl ?_
  refine R_lushr rfl ?_
  refine N_anyL (fun w1 => ?_)
  refine R_ldc2 (x := 6148914691236517205) rfl kt_11_314 ?_
  refine R_land rfl ?_
  refine N_anyL (fun w2 => ?_)
  refine R_lsub rfl ?_
  refine N_anyL (fun w3 => ?_)
  refine R_lstore_n (k := 0) rfl [(0, .inr (.inl w3))] rfl rfl (by decide) ?_
  refine R_lload_n (k := 0) rfl rfl rfl ?_
  refine R_ldc2 (x := 3689348814741910323) rfl kt_11_316 ?_
  refine R_land rfl ?_
  refine N_anyL (fun w4 => ?_)
  refine R_lload_n (k := 0) rfl rfl rfl ?_
  refine R_iconst 2 rfl rfl ?_
  refine R_lushr rfl ?_
  refine N_anyL (fun w5 => ?_)
  refine R_ldc2 (x := 3689348814741910323) rfl kt_11_316 ?_
  refine R_land rfl ?_
  refine N_anyL (fun w6 => ?_)
  refine R_ladd rfl ?_
  refine N_anyL (fun w7 => ?_)
  refine R_lstore_n (k := 0) rfl [(0, .inr (.inl w7))] rfl rfl (by decide) ?_
  refine R_lload_n (k := 0) rfl rfl rfl ?_
  refine R_lload_n (k := 0) rfl rfl rfl ?_
  refine R_iconst 4 rfl rfl ?_
  refine R_lushr rfl ?_
  refine N_anyL (fun w8 => ?_)
  refine R_ladd rfl ?_
  refine N_anyL (fun w9 => ?_)
  refine R_ldc2 (x := 1085102592571150095) rfl kt_11_318 ?_
  refine R_land rfl ?_
  refine N_anyL (fun w10 => ?_)
  refine R_lstore_n (k := 0) rfl [(0, .inr (.inl w10))] rfl rfl (by decide) ?_
  refine R_lload_n (k := 0) rfl rfl rfl ?_
  refine R_lload_n (k := 0) rfl rfl rfl ?_
  refine R_bipush 8 rfl rfl ?_
  refine R_lushr rfl ?_
  refine N_anyL (fun w11 => ?_)
  refine R_ladd rfl ?_
  refine N_anyL (fun w12 => ?_)
  refine R_lstore_n (k := 0) rfl [(0, .inr (.inl w12))] rfl rfl (by decide) ?_
  refine R_lload_n (k := 0) rfl rfl rfl ?_
  refine R_lload_n (k := 0) rfl rfl rfl ?_
  refine R_bipush 16 rfl rfl ?_
  refine R_lushr rfl ?_
  refine N_anyL (fun w13 => ?_)
  refine R_ladd rfl ?_
  refine N_anyL (fun w14 => ?_)
  refine R_lstore_n (k := 0) rfl [(0, .inr (.inl w14))] rfl rfl (by decide) ?_
  refine R_lload_n (k := 0) rfl rfl rfl ?_
  refine R_lload_n (k := 0) rfl rfl rfl ?_
  refine R_bipush 32 rfl rfl ?_
  refine R_lushr rfl ?_
  refine N_anyL (fun w15 => ?_)
  refine R_ladd rfl ?_
  refine N_anyL (fun w16 => ?_)
  refine R_lstore_n (k := 0) rfl [(0, .inr (.inl w16))] rfl rfl (by decide) ?_
  refine R_lload_n (k := 0) rfl rfl rfl ?_
  refine R_l2i rfl ?_
  refine N_any (fun x17 => ?_)
  refine R_bipush 127 rfl rfl ?_
  refine N_iand (b := 127) rfl (by decide) (by omega) (fun x18 q19 => ?_)
  exact R_iret rfl rfl rfl ⟨rfl, _, rfl, by omega⟩
abbrev q_X8_waterNow (h : PH)  : Option PV → PH → Prop := fun r h' => INV h' ∧ FR [0, 70, 71, 72, 73, 74, 75, 76, 77, 78, 79, 80, 81, 82, 83, 84, 85, 86] h h' ∧ ∃ z : Int32, r = some (.inl z) ∧ ((True))
set_option maxHeartbeats 4000000 in
set_option maxRecDepth 100000 in
theorem k_X8_waterNow (h : PH) (hI : INV h)  : CALL d_X8_waterNow [.inr (.inr (.inl 0))] h (q_X8_waterNow h) := by
  show RUN d_X8_waterNow 0 [(0, .inr (.inr (.inl 0)))] [] h _
  have fr : FR [0, 70, 71, 72, 73, 74, 75, 76, 77, 78, 79, 80, 81, 82, 83, 84, 85, 86] h h := FR.rf _ _
  refine R_aload_n (k := 0) rfl rfl rfl ?_
  refine R_callV (v := .inr (.inr (.inl 0))) (As := []) (rest := []) rfl mt_8_i153 pp_X8_told (by decide) rfl rfl rfl (Nat.le_of_ble_eq_true rfl) (Nat.le_of_ble_eq_true rfl) ((k_X8_told h hI).mono (fun r1 h2 p3 => ?_))
  obtain ⟨hJ, fj, rfl⟩ := p3
  have f4 := fj
  have fr := fr.trans fj (by decide)
  have hI := hJ
  show RUN d_X8_waterNow 4 [(0, .inr (.inr (.inl 0)))] [.inr (.inr (.inl 75))] h2 _
  refine R_getf_l (j := 11) rfl ft_8_212 sh_75 rfl ?_
  refine N_anyL (fun w5 => ?_)
  refine R_callS (As := [.inr (.inl w5)]) (rest := []) rfl mt_8_i351 (by decide) pp_J13_bitCount_95d88 (by decide) rfl rfl (Nat.le_of_ble_eq_true rfl) (Nat.le_of_ble_eq_true rfl) ((k_J13_bitCount_95d88 h2 hI w5).mono (fun r6 h7 p8 => ?_))
  obtain ⟨rfl, x9, rfl, q10⟩ := p8
  show RUN d_X8_waterNow 10 [(0, .inr (.inr (.inl 0)))] [.inl x9] h2 _
  refine R_aload_n (k := 0) rfl rfl rfl ?_
  refine R_getf_r (j := 8) rfl ft_8_56 sh_0 rfl ?_
  refine R_getf_i (j := 12) rfl ft_8_216 sh_75 rfl ?_
  have b11 := i_rng (h2.1 75 12)
  refine R_imul rfl ?_
  refine N_any (fun x12 => ?_)
  exact R_iret rfl rfl rfl ⟨hI, fr, _, rfl, trivial⟩
abbrev q_X8_waterOfLine (h : PH)  : Option PV → PH → Prop := fun r h' => INV h' ∧ FR [70, 74] h h' ∧ ∃ z : Int32, r = some (.inl z) ∧ ((True))
set_option maxHeartbeats 4000000 in
set_option maxRecDepth 100000 in
theorem k_X8_waterOfLine (h : PH) (hI : INV h)  : CALL d_X8_waterOfLine [.inr (.inr (.inl 0))] h (q_X8_waterOfLine h) := by
  show RUN d_X8_waterOfLine 0 [(0, .inr (.inr (.inl 0)))] [] h _
  have fr : FR [70, 74] h h := FR.rf _ _
  refine R_aload_n (k := 0) rfl rfl rfl ?_
  refine R_callV (v := .inr (.inr (.inl 0))) (As := []) (rest := []) rfl mt_8_i243 pp_X8_playLine (by decide) rfl rfl rfl (Nat.le_of_ble_eq_true rfl) (Nat.le_of_ble_eq_true rfl) ((k_X8_playLine h hI).mono (fun r1 h2 p3 => ?_))
  obtain ⟨hJ, fj, w4, rfl⟩ := p3
  have f5 := fj
  have fr := fr.trans fj (by decide)
  have hI := hJ
  show RUN d_X8_waterOfLine 4 [(0, .inr (.inr (.inl 0)))] [.inr (.inl w4)] h2 _
  refine R_callS (As := [.inr (.inl w4)]) (rest := []) rfl mt_8_i351 (by decide) pp_J13_bitCount_95d88 (by decide) rfl rfl (Nat.le_of_ble_eq_true rfl) (Nat.le_of_ble_eq_true rfl) ((k_J13_bitCount_95d88 h2 hI w4).mono (fun r6 h7 p8 => ?_))
  obtain ⟨rfl, x9, rfl, q10⟩ := p8
  show RUN d_X8_waterOfLine 7 [(0, .inr (.inr (.inl 0)))] [.inl x9] h2 _
  refine R_aload_n (k := 0) rfl rfl rfl ?_
  refine R_getf_r (j := 7) rfl ft_8_49 sh_0 rfl ?_
  refine R_callV (v := .inr (.inr (.inl 70))) (As := []) (rest := [.inl x9]) rfl mt_8_i247 pp_X2_poured (by decide) rfl rfl rfl (Nat.le_of_ble_eq_true rfl) (Nat.le_of_ble_eq_true rfl) ((k_X2_poured h2 hI).mono (fun r11 h12 p13 => ?_))
  obtain ⟨rfl, x14, rfl, q15⟩ := p13
  show RUN d_X8_waterOfLine 14 [(0, .inr (.inr (.inl 0)))] [.inl x14, .inl x9] h2 _
  have b16 := i_rng x14
  refine R_imul rfl ?_
  refine N_any (fun x17 => ?_)
  exact R_iret rfl rfl rfl ⟨hI, fr, _, rfl, trivial⟩
abbrev q_X8_waterByPace (h : PH) (a0 : Int32) (a1 : Int32) : Option PV → PH → Prop := fun r h' => INV h' ∧ FR [70, 71, 72, 73, 74] h h' ∧ ∃ z : Int32, r = some (.inl z) ∧ ((True))
set_option maxHeartbeats 4000000 in
set_option maxRecDepth 100000 in
theorem k_X8_waterByPace (h : PH) (hI : INV h) (a0 : Int32) (a1 : Int32) (h0a : 0 ≤ a0.toInt ∧ a0.toInt ≤ 5) (h1a : (-2147483648) ≤ a1.toInt ∧ a1.toInt ≤ 6) : CALL d_X8_waterByPace [.inr (.inr (.inl 0)), .inl a0, .inl a1] h (q_X8_waterByPace h a0 a1) := by
  show RUN d_X8_waterByPace 0 [(0, .inr (.inr (.inl 0))), (1, .inl a0), (2, .inl a1)] [] h _
  have fr : FR [70, 71, 72, 73, 74] h h := FR.rf _ _
  refine R_aload_n (k := 0) rfl rfl rfl ?_
  refine R_callV (v := .inr (.inr (.inl 0))) (As := []) (rest := []) rfl mt_8_i237 pp_X8_lineAsNow (by decide) rfl rfl rfl (Nat.le_of_ble_eq_true rfl) (Nat.le_of_ble_eq_true rfl) ((k_X8_lineAsNow h hI).mono (fun r1 h2 p3 => ?_))
  obtain ⟨hJ, fj, rfl⟩ := p3
  have f4 := fj
  have fr := fr.trans fj (by decide)
  have hI := hJ
  show RUN d_X8_waterByPace 4 [(0, .inr (.inr (.inl 0))), (1, .inl a0), (2, .inl a1)] [] h2 _
  refine R_aload_n (k := 0) rfl rfl rfl ?_
  refine R_getf_r (j := 7) rfl ft_8_49 sh_0 rfl ?_
  refine R_getf_r (j := 0) rfl ft_8_433 sh_70 rfl ?_
  refine R_iload_n (k := 1) rfl rfl rfl ?_
  refine R_iload_n (k := 2) rfl rfl rfl ?_
  refine K_iast (a := a0.toInt) (lo := (-2147483648)) (hi' := 2147483647) rfl sh_71 rfl ⟨by omega, by omega⟩ hI (by decide) rfl (i_rng _) fr (by decide) (fun h5 g6 hI fr => ?_)
  refine R_aload_n (k := 0) rfl rfl rfl ?_
  refine R_callV (v := .inr (.inr (.inl 0))) (As := []) (rest := []) rfl mt_8_i268 pp_X8_waterOfLine (by decide) rfl rfl rfl (Nat.le_of_ble_eq_true rfl) (Nat.le_of_ble_eq_true rfl) ((k_X8_waterOfLine h5 hI).mono (fun r7 h8 p9 => ?_))
  obtain ⟨hJ, fj, x10, rfl, q11⟩ := p9
  have f12 := fj
  have fr := fr.trans fj (by decide)
  have hI := hJ
  show RUN d_X8_waterByPace 18 [(0, .inr (.inr (.inl 0))), (1, .inl a0), (2, .inl a1)] [.inl x10] h8 _
  exact R_iret rfl rfl rfl ⟨hI, fr, _, rfl, trivial⟩
abbrev q_X8_ease (h : PH) (a0 : Int32) : Option PV → PH → Prop := fun r h' => INV h' ∧ FR [0, 70, 71, 72, 73, 74, 75, 76, 77, 78, 79, 80, 81, 82, 83, 84, 85, 86] h h' ∧ ∃ z : Int32, r = some (.inl z) ∧ ((True))
set_option maxHeartbeats 4000000 in
set_option maxRecDepth 100000 in
theorem k_X8_ease (h : PH) (hI : INV h) (a0 : Int32) : CALL d_X8_ease [.inr (.inr (.inl 0)), .inl a0] h (q_X8_ease h a0) := by
  show RUN d_X8_ease 0 [(0, .inr (.inr (.inl 0))), (1, .inl a0)] [] h _
  have b1 := i_rng a0
  have fr : FR [0, 70, 71, 72, 73, 74, 75, 76, 77, 78, 79, 80, 81, 82, 83, 84, 85, 86] h h := FR.rf _ _
  refine R_aload_n (k := 0) rfl rfl rfl ?_
  refine R_getf_r (j := 3) rfl ft_8_28 sh_0 rfl ?_
  refine R_iload_n (k := 1) rfl rfl rfl ?_
  refine R_callV (v := .inr (.inr (.inl 16))) (As := [.inl a0]) (rest := []) rfl mt_8_i119 pp_X1_hasHand (by decide) rfl rfl rfl (Nat.le_of_ble_eq_true rfl) (Nat.le_of_ble_eq_true rfl) ((k_X1_hasHand h hI a0).mono (fun r2 h3 p4 => ?_))
  obtain ⟨rfl, x5, rfl, q6 | q6 | q6⟩ := p4
  · show RUN d_X8_ease 8 [(0, .inr (.inr (.inl 0))), (1, .inl a0)] [.inl x5] h _
    refine N_if_ne (a := x5.toInt) 14 rfl rfl rfl (fun c7 => ?_) (fun c7 => ?_)
    · exfalso; omega
    · refine R_bipush (-2) rfl rfl ?_
      exact R_iret rfl rfl rfl ⟨hI, fr, _, rfl, trivial⟩
  · have b8 : (0 : Int) ≤ (h.1 17 5).toInt ∧ (h.1 17 5).toInt ≤ 6 := hI.1 17 5
    show RUN d_X8_ease 8 [(0, .inr (.inr (.inl 0))), (1, .inl a0)] [.inl x5] h _
    refine N_if_ne (a := x5.toInt) 14 rfl rfl rfl (fun c9 => ?_) (fun c9 => ?_)
    · exfalso; omega
    · refine R_bipush (-2) rfl rfl ?_
      exact R_iret rfl rfl rfl ⟨hI, fr, _, rfl, trivial⟩
  · have b10 : (0 : Int) ≤ (h.1 17 5).toInt ∧ (h.1 17 5).toInt ≤ 6 := hI.1 17 5
    show RUN d_X8_ease 8 [(0, .inr (.inr (.inl 0))), (1, .inl a0)] [.inl x5] h _
    refine N_if_ne (a := x5.toInt) 14 rfl rfl rfl (fun c11 => ?_) (fun c11 => ?_)
    · refine R_aload_n (k := 0) rfl rfl rfl ?_
      refine R_callV (v := .inr (.inr (.inl 0))) (As := []) (rest := []) rfl mt_8_i249 pp_X8_waterNow (by decide) rfl rfl rfl (Nat.le_of_ble_eq_true rfl) (Nat.le_of_ble_eq_true rfl) ((k_X8_waterNow h hI).mono (fun r12 h13 p14 => ?_))
      obtain ⟨hJ, fj, x15, rfl, q16⟩ := p14
      have f17 := fj
      have fr := fr.trans fj (by decide)
      have hI := hJ
      have s18 : (h13.1 17 5).toInt = (h.1 17 5).toInt := by rw [(f17 17 (by decide)).1]
      show RUN d_X8_ease 18 [(0, .inr (.inr (.inl 0))), (1, .inl a0)] [.inl x15] h13 _
      refine R_istore_n (k := 2) rfl [(2, .inl x15), (0, .inr (.inr (.inl 0))), (1, .inl a0)] rfl rfl (by decide) ?_
      refine R_aload_n (k := 0) rfl rfl rfl ?_
      refine R_getf_r (j := 3) rfl ft_8_28 sh_0 rfl ?_
      refine R_getf_r (j := 2) rfl ft_8_125 sh_16 rfl ?_
      refine R_iload_n (k := 1) rfl rfl rfl ?_
      refine R_iald rfl sh_19 ⟨by omega, by omega⟩ ?_
      refine N_any (fun x19 => ?_)
      refine R_istore_n (k := 3) rfl [(3, .inl x19), (2, .inl x15), (0, .inr (.inr (.inl 0))), (1, .inl a0)] rfl rfl (by decide) ?_
      refine R_bipush 6 rfl rfl ?_
      refine R_istore (k := 4) [(4, .inl 6), (3, .inl x19), (2, .inl x15), (0, .inr (.inr (.inl 0))), (1, .inl a0)] rfl rfl (by decide) ?_
      have lp21 : ∀ (n20 : Nat) (h22 : PH) (x24 : Int32), INV h22 → FR [0, 70, 71, 72, 73, 74, 75, 76, 77, 78, 79, 80, 81, 82, 83, 84, 85, 86] h h22 → FR [70, 71, 72, 73, 74] h13 h22 → (-2147483648) ≤ x24.toInt ∧ x24.toInt ≤ 6 → (x24.toInt - (-2147483648)).toNat < n20 → RUN d_X8_ease 33 [(4, .inl x24), (3, .inl x19), (2, .inl x15), (0, .inr (.inr (.inl 0))), (1, .inl a0)] [] h22 (q_X8_ease h a0) := by
        intro n20
        induction n20 with
        | zero => intro h22 x24 m26 m27 m28 m29 hz; exact absurd hz (Nat.not_lt_zero _)
        | succ n20 ih25 =>
          intro h22 x24 hI fr fl23 m29 hz
          have s30 : (h22.1 17 5).toInt = (h13.1 17 5).toInt := by rw [(fl23 17 (by decide)).1]
          refine R_iload (k := 4) rfl rfl ?_
          refine R_iload_n (k := 3) rfl rfl rfl ?_
          refine N_icmp_le (a := x24.toInt) (b := x19.toInt) 59 rfl rfl rfl rfl (fun c31 => ?_) (fun c31 => ?_)
          · refine R_iload_n (k := 3) rfl rfl rfl ?_
            exact R_iret rfl rfl rfl ⟨hI, fr, _, rfl, trivial⟩
          · refine R_aload_n (k := 0) rfl rfl rfl ?_
            refine R_iload_n (k := 1) rfl rfl rfl ?_
            refine R_iload (k := 4) rfl rfl ?_
            have b32 := i_rng x24
            refine R_callV (v := .inr (.inr (.inl 0))) (As := [.inl a0, .inl x24]) (rest := []) rfl mt_8_i252 pp_X8_waterByPace (by decide) rfl rfl rfl (Nat.le_of_ble_eq_true rfl) (Nat.le_of_ble_eq_true rfl) ((k_X8_waterByPace h22 hI a0 x24 (by omega) (by omega)).mono (fun r33 h34 p35 => ?_))
            obtain ⟨hJ, fj, x36, rfl, q37⟩ := p35
            have f38 := fj
            have fr := fr.trans fj (by decide)
            have hI := hJ
            have fl23 : FR [70, 71, 72, 73, 74] h13 h34 := fl23.trans fj (by decide)
            have s39 : (h34.1 17 5).toInt = (h22.1 17 5).toInt := by rw [(f38 17 (by decide)).1]
            show RUN d_X8_ease 46 [(4, .inl x24), (3, .inl x19), (2, .inl x15), (0, .inr (.inr (.inl 0))), (1, .inl a0)] [.inl x36] h34 _
            refine R_iload_n (k := 2) rfl rfl rfl ?_
            refine N_icmp_lt (a := x36.toInt) (b := x15.toInt) 53 rfl rfl rfl rfl (fun c40 => ?_) (fun c40 => ?_)
            · have b41 := i_rng x24
              have b43 := i_rng a0
              have b44 := i_rng x19
              have b45 := i_rng x36
              have b46 := i_rng x15
              refine N_iinc (a := x24.toInt) (c := (-1)) (fun w => [(4, .inl w), (3, .inl x19), (2, .inl x15), (0, .inr (.inr (.inl 0))), (1, .inl a0)]) rfl rfl (fun _ => rfl) (by decide) rfl (by decide) (by omega) (fun x42 q47 => ?_)
              refine R_goto 33 rfl rfl ?_
              have b48 := i_rng x42
              exact RUN_weak (psub_cons rfl (psub_cons rfl (psub_cons rfl (psub_cons rfl (psub_cons rfl (psub_nil _)))))) (ih25 h34 x42 hI fr fl23 (by omega) (by omega))
            · refine R_iload (k := 4) rfl rfl ?_
              exact R_iret rfl rfl rfl ⟨hI, fr, _, rfl, trivial⟩
      exact lp21 _ h13 (6 : Int32) hI fr (FR.rf _ _) (by decide) (Nat.lt_succ_self _)
    · exfalso; omega
abbrev q_X1_allHands (h : PH)  : Option PV → PH → Prop := fun r h' => h = h' ∧ ∃ z : Int32, r = some (.inl z) ∧ ((0 ≤ z.toInt ∧ z.toInt ≤ 63))
set_option maxHeartbeats 4000000 in
set_option maxRecDepth 100000 in
theorem k_X1_allHands (h : PH) (hI : INV h)  : CALL d_X1_allHands [.inr (.inr (.inl 16))] h (q_X1_allHands h) := by
  show RUN d_X1_allHands 0 [(0, .inr (.inr (.inl 16)))] [] h _
  refine R_iconst 1 rfl rfl ?_
  refine R_aload_n (k := 0) rfl rfl rfl ?_
  refine R_getf_r (j := 0) rfl ft_1_9 sh_16 rfl ?_
  refine R_iconst 5 rfl rfl ?_
  refine R_iald rfl sh_17 (by decide) ?_
  have b1 : (0 : Int) ≤ (h.1 17 5).toInt ∧ (h.1 17 5).toInt ≤ 6 := hI.1 17 5
  show RUN d_X1_allHands 7 [(0, .inr (.inr (.inl 16)))] [.inl (h.1 17 5), .inl 1] h _
  refine N_ishl1 (b := (h.1 17 5).toInt) rfl rfl (by omega) (fun x2 q3 => ?_)
  refine R_iconst 1 rfl rfl ?_
  refine N_isub (a := x2.toInt) (b := 1) rfl rfl (by decide) (by omega) (fun x4 q5 => ?_)
  exact R_iret rfl rfl rfl ⟨rfl, _, rfl, by omega⟩
abbrev q_X8_waterOfSet (h : PH) (a0 : Int32) : Option PV → PH → Prop := fun r h' => INV h' ∧ FR [70, 71, 72, 73, 74] h h' ∧ ∃ z : Int32, r = some (.inl z) ∧ ((True))
set_option maxHeartbeats 4000000 in
set_option maxRecDepth 100000 in
theorem k_X8_waterOfSet (h : PH) (hI : INV h) (a0 : Int32) : CALL d_X8_waterOfSet [.inr (.inr (.inl 0)), .inl a0] h (q_X8_waterOfSet h a0) := by
  show RUN d_X8_waterOfSet 0 [(0, .inr (.inr (.inl 0))), (1, .inl a0)] [] h _
  have b1 := i_rng a0
  have fr : FR [70, 71, 72, 73, 74] h h := FR.rf _ _
  refine R_aload_n (k := 0) rfl rfl rfl ?_
  refine R_getf_r (j := 7) rfl ft_8_49 sh_0 rfl ?_
  refine R_aload_n (k := 0) rfl rfl rfl ?_
  refine R_getf_r (j := 3) rfl ft_8_28 sh_0 rfl ?_
  refine R_callV (v := .inr (.inr (.inl 70))) (As := [.inr (.inr (.inl 16))]) (rest := []) rfl mt_8_i426 pp_X2_clearFor (by decide) rfl rfl rfl (Nat.le_of_ble_eq_true rfl) (Nat.le_of_ble_eq_true rfl) ((k_X2_clearFor h hI).mono (fun r2 h3 p4 => ?_))
  obtain ⟨hJ, fj, rfl⟩ := p4
  have f5 := fj
  have fr := fr.trans fj (by decide)
  have hI := hJ
  show RUN d_X8_waterOfSet 11 [(0, .inr (.inr (.inl 0))), (1, .inl a0)] [] h3 _
  refine R_iconst 0 rfl rfl ?_
  refine R_istore_n (k := 2) rfl [(2, .inl 0), (0, .inr (.inr (.inl 0))), (1, .inl a0)] rfl rfl (by decide) ?_
  have lp7 : ∀ (n6 : Nat) (h8 : PH) (x10 : Int32), INV h8 → FR [70, 71, 72, 73, 74] h h8 → FR [70, 71, 72, 73, 74] h3 h8 → 0 ≤ x10.toInt ∧ x10.toInt ≤ 2147483647 → (2147483647 - x10.toInt).toNat < n6 → RUN d_X8_waterOfSet 13 [(2, .inl x10), (0, .inr (.inr (.inl 0))), (1, .inl a0)] [] h8 (q_X8_waterOfSet h a0) := by
    intro n6
    induction n6 with
    | zero => intro h8 x10 m12 m13 m14 m15 hz; exact absurd hz (Nat.not_lt_zero _)
    | succ n6 ih11 =>
      intro h8 x10 hI fr fl9 m15 hz
      refine R_iload_n (k := 2) rfl rfl rfl ?_
      refine R_aload_n (k := 0) rfl rfl rfl ?_
      refine R_getf_r (j := 3) rfl ft_8_28 sh_0 rfl ?_
      refine R_getf_r (j := 0) rfl ft_8_109 sh_16 rfl ?_
      refine R_iconst 5 rfl rfl ?_
      refine R_iald rfl sh_17 (by decide) ?_
      have b16 : (0 : Int) ≤ (h8.1 17 5).toInt ∧ (h8.1 17 5).toInt ≤ 6 := hI.1 17 5
      show RUN d_X8_waterOfSet 23 [(2, .inl x10), (0, .inr (.inr (.inl 0))), (1, .inl a0)] [.inl (h8.1 17 5), .inl x10] h8 _
      refine N_icmp_ge (a := x10.toInt) (b := (h8.1 17 5).toInt) 53 rfl rfl rfl rfl (fun c17 => ?_) (fun c17 => ?_)
      · refine R_aload_n (k := 0) rfl rfl rfl ?_
        refine R_callV (v := .inr (.inr (.inl 0))) (As := []) (rest := []) rfl mt_8_i268 pp_X8_waterOfLine (by decide) rfl rfl rfl (Nat.le_of_ble_eq_true rfl) (Nat.le_of_ble_eq_true rfl) ((k_X8_waterOfLine h8 hI).mono (fun r18 h19 p20 => ?_))
        obtain ⟨hJ, fj, x21, rfl, q22⟩ := p20
        have f23 := fj
        have fr := fr.trans fj (by decide)
        have hI := hJ
        have fl9 : FR [70, 71, 72, 73, 74] h3 h19 := fl9.trans fj (by decide)
        have s24 : (h19.1 17 5).toInt = (h8.1 17 5).toInt := by rw [(f23 17 (by decide)).1]
        show RUN d_X8_waterOfSet 57 [(2, .inl x10), (0, .inr (.inr (.inl 0))), (1, .inl a0)] [.inl x21] h19 _
        exact R_iret rfl rfl rfl ⟨hI, fr, _, rfl, trivial⟩
      · refine R_iload_n (k := 1) rfl rfl rfl ?_
        refine N_i2l rfl (fun w25 q26 => ?_)
        refine R_iload_n (k := 2) rfl rfl rfl ?_
        refine R_callS (As := [.inr (.inl w25), .inl x10]) (rest := []) rfl mt_8_i160 (by decide) pp_X8_hasBit (by decide) rfl rfl (Nat.le_of_ble_eq_true rfl) (Nat.le_of_ble_eq_true rfl) ((k_X8_hasBit h8 hI w25 x10).mono (fun r27 h28 p29 => ?_))
        obtain ⟨rfl, x30, rfl, q31 | q31⟩ := p29
        · show RUN d_X8_waterOfSet 32 [(2, .inl x10), (0, .inr (.inr (.inl 0))), (1, .inl a0)] [.inl x30] h8 _
          refine N_if_eq (a := x30.toInt) 47 rfl rfl rfl (fun c32 => ?_) (fun c32 => ?_)
          · refine N_iinc (a := x10.toInt) (c := 1) (fun w => [(2, .inl w), (0, .inr (.inr (.inl 0))), (1, .inl a0)]) rfl rfl (fun _ => rfl) (by decide) rfl (by decide) (by omega) (fun x33 q34 => ?_)
            refine R_goto 13 rfl rfl ?_
            exact RUN_weak (psub_cons rfl (psub_cons rfl (psub_cons rfl (psub_nil _)))) (ih11 h8 x33 hI fr fl9 (by omega) (by omega))
          · exfalso; omega
        · show RUN d_X8_waterOfSet 32 [(2, .inl x10), (0, .inr (.inr (.inl 0))), (1, .inl a0)] [.inl x30] h8 _
          refine N_if_eq (a := x30.toInt) 47 rfl rfl rfl (fun c35 => ?_) (fun c35 => ?_)
          · exfalso; omega
          · refine R_aload_n (k := 0) rfl rfl rfl ?_
            refine R_getf_r (j := 7) rfl ft_8_49 sh_0 rfl ?_
            refine R_aload_n (k := 0) rfl rfl rfl ?_
            refine R_getf_r (j := 3) rfl ft_8_28 sh_0 rfl ?_
            refine R_iload_n (k := 2) rfl rfl rfl ?_
            refine R_callV (v := .inr (.inr (.inl 70))) (As := [.inr (.inr (.inl 16)), .inl x10]) (rest := []) rfl mt_8_i429 pp_X2_join (by decide) rfl rfl rfl (Nat.le_of_ble_eq_true rfl) (Nat.le_of_ble_eq_true rfl) ((k_X2_join h8 hI x10 (by omega)).mono (fun r36 h37 p38 => ?_))
            obtain ⟨hJ, fj, rfl⟩ := p38
            have f39 := fj
            have fr := fr.trans fj (by decide)
            have hI := hJ
            have fl9 : FR [70, 71, 72, 73, 74] h3 h37 := fl9.trans fj (by decide)
            have s40 : (h37.1 17 5).toInt = (h8.1 17 5).toInt := by rw [(f39 17 (by decide)).1]
            show RUN d_X8_waterOfSet 47 [(2, .inl x10), (0, .inr (.inr (.inl 0))), (1, .inl a0)] [] h37 _
            refine N_iinc (a := x10.toInt) (c := 1) (fun w => [(2, .inl w), (0, .inr (.inr (.inl 0))), (1, .inl a0)]) rfl rfl (fun _ => rfl) (by decide) rfl (by decide) (by omega) (fun x41 q42 => ?_)
            refine R_goto 13 rfl rfl ?_
            exact RUN_weak (psub_cons rfl (psub_cons rfl (psub_cons rfl (psub_nil _)))) (ih11 h37 x41 hI fr fl9 (by omega) (by omega))
  exact lp7 _ h3 (0 : Int32) hI fr (FR.rf _ _) (by decide) (Nat.lt_succ_self _)
abbrev q_X8_without (h : PH) (a0 : Int32) : Option PV → PH → Prop := fun r h' => INV h' ∧ FR [70, 71, 72, 73, 74] h h' ∧ ∃ z : Int32, r = some (.inl z) ∧ ((True))
set_option maxHeartbeats 4000000 in
set_option maxRecDepth 100000 in
theorem k_X8_without (h : PH) (hI : INV h) (a0 : Int32) : CALL d_X8_without [.inr (.inr (.inl 0)), .inl a0] h (q_X8_without h a0) := by
  show RUN d_X8_without 0 [(0, .inr (.inr (.inl 0))), (1, .inl a0)] [] h _
  have b1 := i_rng a0
  have fr : FR [70, 71, 72, 73, 74] h h := FR.rf _ _
  refine R_aload_n (k := 0) rfl rfl rfl ?_
  refine R_getf_r (j := 3) rfl ft_8_28 sh_0 rfl ?_
  refine R_iload_n (k := 1) rfl rfl rfl ?_
  refine R_callV (v := .inr (.inr (.inl 16))) (As := [.inl a0]) (rest := []) rfl mt_8_i119 pp_X1_hasHand (by decide) rfl rfl rfl (Nat.le_of_ble_eq_true rfl) (Nat.le_of_ble_eq_true rfl) ((k_X1_hasHand h hI a0).mono (fun r2 h3 p4 => ?_))
  obtain ⟨rfl, x5, rfl, q6 | q6 | q6⟩ := p4
  · show RUN d_X8_without 8 [(0, .inr (.inr (.inl 0))), (1, .inl a0)] [.inl x5] h _
    refine N_if_eq (a := x5.toInt) 31 rfl rfl rfl (fun c7 => ?_) (fun c7 => ?_)
    · refine R_bipush (-2) rfl rfl ?_
      exact R_iret rfl rfl rfl ⟨hI, fr, _, rfl, trivial⟩
    · exfalso; omega
  · have b8 : (0 : Int) ≤ (h.1 17 5).toInt ∧ (h.1 17 5).toInt ≤ 6 := hI.1 17 5
    show RUN d_X8_without 8 [(0, .inr (.inr (.inl 0))), (1, .inl a0)] [.inl x5] h _
    refine N_if_eq (a := x5.toInt) 31 rfl rfl rfl (fun c9 => ?_) (fun c9 => ?_)
    · refine R_bipush (-2) rfl rfl ?_
      exact R_iret rfl rfl rfl ⟨hI, fr, _, rfl, trivial⟩
    · exfalso; omega
  · have b10 : (0 : Int) ≤ (h.1 17 5).toInt ∧ (h.1 17 5).toInt ≤ 6 := hI.1 17 5
    show RUN d_X8_without 8 [(0, .inr (.inr (.inl 0))), (1, .inl a0)] [.inl x5] h _
    refine N_if_eq (a := x5.toInt) 31 rfl rfl rfl (fun c11 => ?_) (fun c11 => ?_)
    · exfalso; omega
    · refine R_aload_n (k := 0) rfl rfl rfl ?_
      refine R_aload_n (k := 0) rfl rfl rfl ?_
      refine R_getf_r (j := 3) rfl ft_8_28 sh_0 rfl ?_
      refine R_callV (v := .inr (.inr (.inl 16))) (As := []) (rest := [.inr (.inr (.inl 0))]) rfl mt_8_i329 pp_X1_allHands (by decide) rfl rfl rfl (Nat.le_of_ble_eq_true rfl) (Nat.le_of_ble_eq_true rfl) ((k_X1_allHands h hI).mono (fun r12 h13 p14 => ?_))
      obtain ⟨rfl, x15, rfl, q16⟩ := p14
      show RUN d_X8_without 19 [(0, .inr (.inr (.inl 0))), (1, .inl a0)] [.inl x15, .inr (.inr (.inl 0))] h _
      refine R_iconst 1 rfl rfl ?_
      refine R_iload_n (k := 1) rfl rfl rfl ?_
      refine N_ishl1 (b := a0.toInt) rfl rfl (by omega) (fun x17 q18 => ?_)
      refine R_iconst (-1) rfl rfl ?_
      refine R_ixor rfl ?_
      refine N_any (fun x19 => ?_)
      refine R_iand rfl ?_
      refine N_any (fun x20 => ?_)
      refine R_callV (v := .inr (.inr (.inl 0))) (As := [.inl x20]) (rest := []) rfl mt_8_i332 pp_X8_waterOfSet (by decide) rfl rfl rfl (Nat.le_of_ble_eq_true rfl) (Nat.le_of_ble_eq_true rfl) ((k_X8_waterOfSet h hI x20).mono (fun r21 h22 p23 => ?_))
      obtain ⟨hJ, fj, x24, rfl, q25⟩ := p23
      have f26 := fj
      have fr := fr.trans fj (by decide)
      have hI := hJ
      have s27 : (h22.1 17 5).toInt = (h.1 17 5).toInt := by rw [(f26 17 (by decide)).1]
      show RUN d_X8_without 28 [(0, .inr (.inr (.inl 0))), (1, .inl a0)] [.inl x24] h22 _
      refine R_goto 33 rfl rfl ?_
      exact R_iret rfl rfl rfl ⟨hI, fr, _, rfl, trivial⟩
abbrev q_X9_allHands (h : PH)  : Option PV → PH → Prop := fun r h' => h = h' ∧ ∃ z : Int32, r = some (.inl z) ∧ ((0 ≤ z.toInt ∧ z.toInt ≤ 63))
set_option maxHeartbeats 4000000 in
set_option maxRecDepth 100000 in
theorem k_X9_allHands (h : PH) (hI : INV h)  : CALL d_X9_allHands [.inr (.inr (.inl 96))] h (q_X9_allHands h) := by
  show RUN d_X9_allHands 0 [(0, .inr (.inr (.inl 96)))] [] h _
  refine R_iconst 1 rfl rfl ?_
  refine R_aload_n (k := 0) rfl rfl rfl ?_
  refine R_callV (v := .inr (.inr (.inl 96))) (As := []) (rest := [.inl 1]) rfl mt_9_i133 pp_X9_hands (by decide) rfl rfl rfl (Nat.le_of_ble_eq_true rfl) (Nat.le_of_ble_eq_true rfl) ((k_X9_hands h hI).mono (fun r1 h2 p3 => ?_))
  obtain ⟨rfl, x4, rfl, q5⟩ := p3
  show RUN d_X9_allHands 5 [(0, .inr (.inr (.inl 96)))] [.inl x4, .inl 1] h _
  refine N_ishl1 (b := x4.toInt) rfl rfl (by omega) (fun x6 q7 => ?_)
  refine R_iconst 1 rfl rfl ?_
  refine N_isub (a := x6.toInt) (b := 1) rfl rfl (by decide) (by omega) (fun x8 q9 => ?_)
  exact R_iret rfl rfl rfl ⟨rfl, _, rfl, by omega⟩
abbrev q_X2_wakeAll (h : PH)  : Option PV → PH → Prop := fun r h' => INV h' ∧ FR [73] h h' ∧ r = none
set_option maxHeartbeats 4000000 in
set_option maxRecDepth 100000 in
theorem k_X2_wakeAll (h : PH) (hI : INV h)  : CALL d_X2_wakeAll [.inr (.inr (.inl 70))] h (q_X2_wakeAll h) := by
  show RUN d_X2_wakeAll 0 [(0, .inr (.inr (.inl 70)))] [] h _
  have fr : FR [73] h h := FR.rf _ _
  refine R_iconst 0 rfl rfl ?_
  refine R_istore_n (k := 1) rfl [(1, .inl 0), (0, .inr (.inr (.inl 70)))] rfl rfl (by decide) ?_
  have lp2 : ∀ (n1 : Nat) (h3 : PH) (x5 : Int32), INV h3 → FR [73] h h3 → FR [73] h h3 → 0 ≤ x5.toInt ∧ x5.toInt ≤ 2147483647 → (2147483647 - x5.toInt).toNat < n1 → RUN d_X2_wakeAll 2 [(1, .inl x5), (0, .inr (.inr (.inl 70)))] [] h3 (q_X2_wakeAll h) := by
    intro n1
    induction n1 with
    | zero => intro h3 x5 m7 m8 m9 m10 hz; exact absurd hz (Nat.not_lt_zero _)
    | succ n1 ih6 =>
      intro h3 x5 hI fr fl4 m10 hz
      refine R_iload_n (k := 1) rfl rfl rfl ?_
      refine R_aload_n (k := 0) rfl rfl rfl ?_
      refine R_getf_i (j := 4) rfl ft_2_25 sh_70 rfl ?_
      have b11 : (0 : Int) ≤ (h3.1 70 4).toInt ∧ (h3.1 70 4).toInt ≤ 6 := hI.1 70 4
      refine N_icmp_ge (a := x5.toInt) (b := (h3.1 70 4).toInt) 23 rfl rfl rfl rfl (fun c12 => ?_) (fun c12 => ?_)
      · exact R_vret rfl rfl ⟨hI, fr, rfl⟩
      · refine R_aload_n (k := 0) rfl rfl rfl ?_
        refine R_getf_r (j := 2) rfl ft_2_18 sh_70 rfl ?_
        refine R_iload_n (k := 1) rfl rfl rfl ?_
        refine R_lconst 0 rfl rfl ?_
        refine K_last (a := x5.toInt) rfl sh_73 rfl ⟨by omega, by omega⟩ hI fr (by decide) (fun h13 g14 hI fr => ?_)
        have fl4 : FR [73] h h13 := by rw [g14]; exact FR_wL _ _ fl4 (by decide)
        have s15 : (h13.1 70 4).toInt = (h3.1 70 4).toInt := by rw [g14, wL_fst]
        refine N_iinc (a := x5.toInt) (c := 1) (fun w => [(1, .inl w), (0, .inr (.inr (.inl 70)))]) rfl rfl (fun _ => rfl) (by decide) rfl (by decide) (by omega) (fun x16 q17 => ?_)
        refine R_goto 2 rfl rfl ?_
        exact RUN_weak (psub_cons rfl (psub_cons rfl (psub_nil _))) (ih6 h13 x16 hI fr fl4 (by omega) (by omega))
  exact lp2 _ h (0 : Int32) hI fr (FR.rf _ _) (by decide) (Nat.lt_succ_self _)
abbrev q_X0_stateOf (h : PH)  : Option PV → PH → Prop := fun r h' => h = h' ∧ ∃ z : Int64, r = some (.inr (.inl z))
set_option maxHeartbeats 4000000 in
set_option maxRecDepth 100000 in
theorem k_X0_stateOf (h : PH) (hI : INV h)  : CALL d_X0_stateOf [.inr (.inr (.inl 70))] h (q_X0_stateOf h) := by
  show RUN d_X0_stateOf 0 [(0, .inr (.inr (.inl 70)))] [] h _
  refine R_lconst 0 rfl rfl ?_
  refine R_lstore_n (k := 1) rfl [(1, .inr (.inl 0)), (0, .inr (.inr (.inl 70)))] rfl rfl (by decide) ?_
  refine R_iconst 0 rfl rfl ?_
  refine R_istore_n (k := 3) rfl [(3, .inl 0), (1, .inr (.inl 0)), (0, .inr (.inr (.inl 70)))] rfl rfl (by decide) ?_
  have lp2 : ∀ (n1 : Nat) (w3 : Int64) (x4 : Int32), 0 ≤ x4.toInt ∧ x4.toInt ≤ 2147483647 → (2147483647 - x4.toInt).toNat < n1 → RUN d_X0_stateOf 4 [(3, .inl x4), (1, .inr (.inl w3)), (0, .inr (.inr (.inl 70)))] [] h (q_X0_stateOf h) := by
    intro n1
    induction n1 with
    | zero => intro w3 x4 m6 hz; exact absurd hz (Nat.not_lt_zero _)
    | succ n1 ih5 =>
      intro w3 x4 m6 hz
      refine R_iload_n (k := 3) rfl rfl rfl ?_
      refine R_aload_n (k := 0) rfl rfl rfl ?_
      refine R_getf_i (j := 4) rfl ft_0_46 sh_70 rfl ?_
      have b7 : (0 : Int) ≤ (h.1 70 4).toInt ∧ (h.1 70 4).toInt ≤ 6 := hI.1 70 4
      refine N_icmp_ge (a := x4.toInt) (b := (h.1 70 4).toInt) 30 rfl rfl rfl rfl (fun c8 => ?_) (fun c8 => ?_)
      · refine R_lload_n (k := 1) rfl rfl rfl ?_
        refine R_bipush 21 rfl rfl ?_
        refine R_lshl rfl ?_
        refine N_anyL (fun w9 => ?_)
        refine R_aload_n (k := 0) rfl rfl rfl ?_
        refine R_getf_i (j := 9) rfl ft_0_53 sh_70 rfl ?_
        refine N_i2l rfl (fun w10 q11 => ?_)
        refine R_lor rfl ?_
        refine N_anyL (fun w12 => ?_)
        exact R_lret rfl rfl ⟨rfl, _, rfl⟩
      · refine R_lload_n (k := 1) rfl rfl rfl ?_
        refine R_iconst 3 rfl rfl ?_
        refine R_lshl rfl ?_
        refine N_anyL (fun w13 => ?_)
        refine R_aload_n (k := 0) rfl rfl rfl ?_
        refine R_getf_r (j := 3) rfl ft_0_49 sh_70 rfl ?_
        refine R_iload_n (k := 3) rfl rfl rfl ?_
        refine R_iald rfl sh_74 ⟨by omega, by omega⟩ ?_
        refine N_any (fun x14 => ?_)
        refine N_i2l rfl (fun w15 q16 => ?_)
        refine R_lor rfl ?_
        refine N_anyL (fun w17 => ?_)
        refine R_lstore_n (k := 1) rfl [(1, .inr (.inl w17)), (3, .inl x4), (0, .inr (.inr (.inl 70)))] rfl rfl (by decide) ?_
        refine N_iinc (a := x4.toInt) (c := 1) (fun w => [(3, .inl w), (1, .inr (.inl w17)), (0, .inr (.inr (.inl 70)))]) rfl rfl (fun _ => rfl) (by decide) rfl (by decide) (by omega) (fun x18 q19 => ?_)
        refine R_goto 4 rfl rfl ?_
        exact RUN_weak (psub_cons rfl (psub_cons rfl (psub_cons rfl (psub_nil _)))) (ih5 w17 x18 (by omega) (by omega))
  exact lp2 _ (0 : Int64) (0 : Int32) (by decide) (Nat.lt_succ_self _)
abbrev q_X0_earlierOf (h : PH) (a0 : Int32) : Option PV → PH → Prop := fun r h' => h = h' ∧ ∃ z : Int32, r = some (.inl z) ∧ (((-1) ≤ z.toInt ∧ z.toInt ≤ 254))
set_option maxHeartbeats 4000000 in
set_option maxRecDepth 100000 in
theorem k_X0_earlierOf (h : PH) (hI : INV h) (a0 : Int32) (h0a : 0 ≤ a0.toInt ∧ a0.toInt ≤ 255) : CALL d_X0_earlierOf [.inr (.inr (.inl 94)), .inl a0] h (q_X0_earlierOf h a0) := by
  show RUN d_X0_earlierOf 0 [(0, .inr (.inr (.inl 94))), (1, .inl a0)] [] h _
  refine R_iconst 0 rfl rfl ?_
  refine R_istore_n (k := 2) rfl [(2, .inl 0), (0, .inr (.inr (.inl 94))), (1, .inl a0)] rfl rfl (by decide) ?_
  have lp2 : ∀ (n1 : Nat) (x3 : Int32), 0 ≤ x3.toInt ∧ x3.toInt ≤ 2147483647 → (2147483647 - x3.toInt).toNat < n1 → RUN d_X0_earlierOf 2 [(2, .inl x3), (0, .inr (.inr (.inl 94))), (1, .inl a0)] [] h (q_X0_earlierOf h a0) := by
    intro n1
    induction n1 with
    | zero => intro x3 m5 hz; exact absurd hz (Nat.not_lt_zero _)
    | succ n1 ih4 =>
      intro x3 m5 hz
      refine R_iload_n (k := 2) rfl rfl rfl ?_
      refine R_iload_n (k := 1) rfl rfl rfl ?_
      refine N_icmp_ge (a := x3.toInt) (b := a0.toInt) 31 rfl rfl rfl rfl (fun c6 => ?_) (fun c6 => ?_)
      · refine R_iconst (-1) rfl rfl ?_
        exact R_iret rfl rfl rfl ⟨rfl, _, rfl, by rw [show ((-1) : Int32).toInt = (-1) from rfl]; omega⟩
      · refine R_aload_n (k := 0) rfl rfl rfl ?_
        refine R_getf_r (j := 0) rfl ft_0_11 sh_94 rfl ?_
        refine R_iload_n (k := 2) rfl rfl rfl ?_
        refine R_lald rfl sh_95 ⟨by omega, by omega⟩ ?_
        refine N_anyL (fun w7 => ?_)
        refine R_aload_n (k := 0) rfl rfl rfl ?_
        refine R_getf_r (j := 0) rfl ft_0_11 sh_94 rfl ?_
        refine R_iload_n (k := 1) rfl rfl rfl ?_
        refine R_lald rfl sh_95 ⟨by omega, by omega⟩ ?_
        refine N_anyL (fun w8 => ?_)
        refine N_lcmp (a := w7.toInt) (b := w8.toInt) rfl rfl rfl (fun x9 q10 => ?_)
        refine N_if_ne (a := x9.toInt) 25 rfl rfl rfl (fun c11 => ?_) (fun c11 => ?_)
        · refine N_iinc (a := x3.toInt) (c := 1) (fun w => [(2, .inl w), (0, .inr (.inr (.inl 94))), (1, .inl a0)]) rfl rfl (fun _ => rfl) (by decide) rfl (by decide) (by omega) (fun x12 q13 => ?_)
          refine R_goto 2 rfl rfl ?_
          exact RUN_weak (psub_cons rfl (psub_cons rfl (psub_cons rfl (psub_nil _)))) (ih4 x12 (by omega) (by omega))
        · refine R_iload_n (k := 2) rfl rfl rfl ?_
          exact R_iret rfl rfl rfl ⟨rfl, _, rfl, by omega⟩
  exact lp2 _ (0 : Int32) (by decide) (Nat.lt_succ_self _)
abbrev q_X0_goRound (h : PH)  : Option PV → PH → Prop := fun r h' => INV h' ∧ FR [70, 73, 74, 94, 95] h h' ∧ r = none
set_option maxHeartbeats 4000000 in
set_option maxRecDepth 100000 in
theorem k_X0_goRound (h : PH) (hI : INV h)  : CALL d_X0_goRound [.inr (.inr (.inl 94)), .inr (.inr (.inl 70))] h (q_X0_goRound h) := by
  show RUN d_X0_goRound 0 [(0, .inr (.inr (.inl 94))), (1, .inr (.inr (.inl 70)))] [] h _
  have fr : FR [70, 73, 74, 94, 95] h h := FR.rf _ _
  refine R_aload_n (k := 1) rfl rfl rfl ?_
  refine R_callV (v := .inr (.inr (.inl 70))) (As := []) (rest := []) rfl mt_0_i22 pp_X2_wakeAll (by decide) rfl rfl rfl (Nat.le_of_ble_eq_true rfl) (Nat.le_of_ble_eq_true rfl) ((k_X2_wakeAll h hI).mono (fun r1 h2 p3 => ?_))
  obtain ⟨hJ, fj, rfl⟩ := p3
  have f4 := fj
  have fr := fr.trans fj (by decide)
  have hI := hJ
  show RUN d_X0_goRound 4 [(0, .inr (.inr (.inl 94))), (1, .inr (.inr (.inl 70)))] [] h2 _
  refine R_aload_n (k := 1) rfl rfl rfl ?_
  refine R_callV (v := .inr (.inr (.inl 70))) (As := []) (rest := []) rfl mt_0_i27 pp_X2_begin (by decide) rfl rfl rfl (Nat.le_of_ble_eq_true rfl) (Nat.le_of_ble_eq_true rfl) ((k_X2_begin h2 hI).mono (fun r5 h6 p7 => ?_))
  obtain ⟨hJ, fj, rfl⟩ := p7
  have f8 := fj
  have fr := fr.trans fj (by decide)
  have hI := hJ
  show RUN d_X0_goRound 8 [(0, .inr (.inr (.inl 94))), (1, .inr (.inr (.inl 70)))] [] h6 _
  refine R_aload_n (k := 0) rfl rfl rfl ?_
  refine R_iconst 0 rfl rfl ?_
  refine K_putf (j := 1) (lo := 0) (hi' := 255) rfl ft_0_15 sh_94 rfl hI (by decide) rfl (by decide) fr (by decide) (fun h9 g10 hI fr => ?_)
  have s11 : (h9.1 94 1).toInt = 0 := by rw [g10, wI_is]; rfl
  refine R_aload_n (k := 0) rfl rfl rfl ?_
  refine R_iconst 0 rfl rfl ?_
  refine K_putf (j := 2) (lo := 0) (hi' := 255) rfl ft_0_19 sh_94 rfl hI (by decide) rfl (by decide) fr (by decide) (fun h12 g13 hI fr => ?_)
  have s14 : (h12.1 94 1).toInt = (h9.1 94 1).toInt := by rw [g13, wI_at (by decide)]
  have s15 : (h12.1 94 2).toInt = 0 := by rw [g13, wI_is]; rfl
  refine R_iconst 0 rfl rfl ?_
  refine R_istore_n (k := 2) rfl [(2, .inl 0), (0, .inr (.inr (.inl 94))), (1, .inr (.inr (.inl 70)))] rfl rfl (by decide) ?_
  have lp17 : ∀ (n16 : Nat) (h18 : PH) (x20 : Int32), INV h18 → FR [70, 73, 74, 94, 95] h h18 → FR [70, 74, 94, 95] h12 h18 → 0 ≤ x20.toInt ∧ x20.toInt ≤ 2147483647 → (2147483647 - x20.toInt).toNat < n16 → RUN d_X0_goRound 20 [(2, .inl x20), (0, .inr (.inr (.inl 94))), (1, .inr (.inr (.inl 70)))] [] h18 (q_X0_goRound h) := by
    intro n16
    induction n16 with
    | zero => intro h18 x20 m22 m23 m24 m25 hz; exact absurd hz (Nat.not_lt_zero _)
    | succ n16 ih21 =>
      intro h18 x20 hI fr fl19 m25 hz
      refine R_iload_n (k := 2) rfl rfl rfl ?_
      refine R_sipush 256 rfl rfl ?_
      refine N_icmp_ge (a := x20.toInt) (b := 256) 72 rfl rfl rfl (by decide) (fun c26 => ?_) (fun c26 => ?_)
      · exact R_vret rfl rfl ⟨hI, fr, rfl⟩
      · refine R_aload_n (k := 1) rfl rfl rfl ?_
        refine R_iconst 0 rfl rfl ?_
        refine R_iconst 0 rfl rfl ?_
        have k27 : (0 : Int32).toInt = 0 := by decide
        have k28 : (0 : Int32).toInt = 0 := by decide
        refine R_callV (v := .inr (.inr (.inl 70))) (As := [.inl 0, .inl 0]) (rest := []) rfl mt_0_i30 pp_X2_step (by decide) rfl rfl rfl (Nat.le_of_ble_eq_true rfl) (Nat.le_of_ble_eq_true rfl) ((k_X2_step h18 hI (0 : Int32) (0 : Int32) (by decide) (by decide)).mono (fun r29 h30 p31 => ?_))
        obtain ⟨hJ, fj, x32, rfl, q33⟩ := p31
        have f34 := fj
        have fr := fr.trans fj (by decide)
        have hI := hJ
        have fl19 : FR [70, 74, 94, 95] h12 h30 := fl19.trans fj (by decide)
        show RUN d_X0_goRound 33 [(2, .inl x20), (0, .inr (.inr (.inl 94))), (1, .inr (.inr (.inl 70)))] [.inl x32] h30 _
        refine R_pop_i rfl ?_
        refine R_aload_n (k := 0) rfl rfl rfl ?_
        refine R_getf_r (j := 0) rfl ft_0_11 sh_94 rfl ?_
        refine R_iload_n (k := 2) rfl rfl rfl ?_
        refine R_aload_n (k := 1) rfl rfl rfl ?_
        refine R_callS (As := [.inr (.inr (.inl 70))]) (rest := [.inl x20, .inr (.inr (.inl 95))]) rfl mt_0_i34 (by decide) pp_X0_stateOf (by decide) rfl rfl (Nat.le_of_ble_eq_true rfl) (Nat.le_of_ble_eq_true rfl) ((k_X0_stateOf h30 hI).mono (fun r35 h36 p37 => ?_))
        obtain ⟨rfl, w38, rfl⟩ := p37
        show RUN d_X0_goRound 43 [(2, .inl x20), (0, .inr (.inr (.inl 94))), (1, .inr (.inr (.inl 70)))] [.inr (.inl w38), .inl x20, .inr (.inr (.inl 95))] h30 _
        refine K_last (a := x20.toInt) rfl sh_95 rfl ⟨by omega, by omega⟩ hI fr (by decide) (fun h39 g40 hI fr => ?_)
        have fl19 : FR [70, 74, 94, 95] h12 h39 := by rw [g40]; exact FR_wL _ _ fl19 (by decide)
        refine R_aload_n (k := 0) rfl rfl rfl ?_
        refine R_iload_n (k := 2) rfl rfl rfl ?_
        refine R_callV (v := .inr (.inr (.inl 94))) (As := [.inl x20]) (rest := []) rfl mt_0_i38 pp_X0_earlierOf (by decide) rfl rfl rfl (Nat.le_of_ble_eq_true rfl) (Nat.le_of_ble_eq_true rfl) ((k_X0_earlierOf h39 hI x20 (by omega)).mono (fun r41 h42 p43 => ?_))
        obtain ⟨rfl, x44, rfl, q45⟩ := p43
        show RUN d_X0_goRound 49 [(2, .inl x20), (0, .inr (.inr (.inl 94))), (1, .inr (.inr (.inl 70)))] [.inl x44] h39 _
        refine R_istore_n (k := 3) rfl [(3, .inl x44), (2, .inl x20), (0, .inr (.inr (.inl 94))), (1, .inr (.inr (.inl 70)))] rfl rfl (by decide) ?_
        refine R_iload_n (k := 3) rfl rfl rfl ?_
        refine R_iconst (-1) rfl rfl ?_
        refine N_icmp_eq (a := x44.toInt) (b := (-1)) 66 rfl rfl rfl (by decide) (fun c46 => ?_) (fun c46 => ?_)
        · refine N_iinc (a := x20.toInt) (c := 1) (fun w => [(2, .inl w), (3, .inl x44), (0, .inr (.inr (.inl 94))), (1, .inr (.inr (.inl 70)))]) rfl rfl (fun _ => rfl) (by decide) rfl (by decide) (by omega) (fun x47 q48 => ?_)
          refine R_goto 20 rfl rfl ?_
          exact RUN_weak (psub_cons rfl (psub_cons rfl (psub_cons rfl (psub_nil _)))) (ih21 h39 x47 hI fr fl19 (by omega) (by omega))
        · refine R_aload_n (k := 0) rfl rfl rfl ?_
          refine R_iload_n (k := 3) rfl rfl rfl ?_
          refine K_putf (j := 1) (lo := 0) (hi' := 255) rfl ft_0_15 sh_94 rfl hI (by decide) rfl (by omega) fr (by decide) (fun h49 g50 hI fr => ?_)
          have fl19 : FR [70, 74, 94, 95] h12 h49 := by rw [g50]; exact FR_wI _ _ fl19 (by decide)
          have s51 : (h49.1 94 1).toInt = x44.toInt := by rw [g50, wI_is]
          refine R_aload_n (k := 0) rfl rfl rfl ?_
          refine R_iload_n (k := 2) rfl rfl rfl ?_
          refine K_putf (j := 2) (lo := 0) (hi' := 255) rfl ft_0_19 sh_94 rfl hI (by decide) rfl (by omega) fr (by decide) (fun h52 g53 hI fr => ?_)
          have fl19 : FR [70, 74, 94, 95] h12 h52 := by rw [g53]; exact FR_wI _ _ fl19 (by decide)
          have s54 : (h52.1 94 1).toInt = (h49.1 94 1).toInt := by rw [g53, wI_at (by decide)]
          have s55 : (h52.1 94 2).toInt = x20.toInt := by rw [g53, wI_is]
          exact R_vret rfl rfl ⟨hI, fr, rfl⟩
  exact lp17 _ h12 (0 : Int32) hI fr (FR.rf _ _) (by decide) (Nat.lt_succ_self _)
abbrev q_X8_roundRefusal (h : PH)  : Option PV → PH → Prop := fun r h' => INV h' ∧ FR [70, 71, 72, 73, 74, 94, 95] h h' ∧ ∃ z : Int32, r = some (.inl z) ∧ (((-2) ≤ z.toInt ∧ z.toInt ≤ 0))
set_option maxHeartbeats 4000000 in
set_option maxRecDepth 100000 in
theorem k_X8_roundRefusal (h : PH) (hI : INV h)  : CALL d_X8_roundRefusal [.inr (.inr (.inl 0))] h (q_X8_roundRefusal h) := by
  show RUN d_X8_roundRefusal 0 [(0, .inr (.inr (.inl 0)))] [] h _
  have fr : FR [70, 71, 72, 73, 74, 94, 95] h h := FR.rf _ _
  refine R_aload_n (k := 0) rfl rfl rfl ?_
  refine R_getf_r (j := 3) rfl ft_8_28 sh_0 rfl ?_
  refine R_callV (v := .inr (.inr (.inl 16))) (As := []) (rest := []) rfl mt_8_i146 pp_X1_stands (by decide) rfl rfl rfl (Nat.le_of_ble_eq_true rfl) (Nat.le_of_ble_eq_true rfl) ((k_X1_stands h hI).mono (fun r1 h2 p3 => ?_))
  obtain ⟨rfl, x4, rfl, q5 | q5⟩ := p3
  · have b6 : (0 : Int) ≤ (h.1 17 0).toInt ∧ (h.1 17 0).toInt ≤ 60 := hI.1 17 0
    have e7 : 0 < (h.1 17 10).toInt → 1 ≤ (h.1 17 0).toInt := hI.2.1
    show RUN d_X8_roundRefusal 7 [(0, .inr (.inr (.inl 0)))] [.inl x4] h _
    refine N_if_ne (a := x4.toInt) 13 rfl rfl rfl (fun c8 => ?_) (fun c8 => ?_)
    · exfalso; omega
    · refine R_bipush (-2) rfl rfl ?_
      exact R_iret rfl rfl rfl ⟨hI, fr, _, rfl, by rw [show ((-2) : Int32).toInt = (-2) from rfl]; omega⟩
  · have b9 : (0 : Int) ≤ (h.1 17 0).toInt ∧ (h.1 17 0).toInt ≤ 60 := hI.1 17 0
    have e10 : 0 < (h.1 17 10).toInt → 1 ≤ (h.1 17 0).toInt := hI.2.1
    show RUN d_X8_roundRefusal 7 [(0, .inr (.inr (.inl 0)))] [.inl x4] h _
    refine N_if_ne (a := x4.toInt) 13 rfl rfl rfl (fun c11 => ?_) (fun c11 => ?_)
    · refine R_aload_n (k := 0) rfl rfl rfl ?_
      refine R_getf_r (j := 3) rfl ft_8_28 sh_0 rfl ?_
      refine R_getf_r (j := 0) rfl ft_8_109 sh_16 rfl ?_
      refine R_iconst 5 rfl rfl ?_
      refine R_iald rfl sh_17 (by decide) ?_
      have b12 : (0 : Int) ≤ (h.1 17 5).toInt ∧ (h.1 17 5).toInt ≤ 6 := hI.1 17 5
      show RUN d_X8_roundRefusal 22 [(0, .inr (.inr (.inl 0)))] [.inl (h.1 17 5)] h _
      refine N_if_ne (a := (h.1 17 5).toInt) 27 rfl rfl rfl (fun c13 => ?_) (fun c13 => ?_)
      · refine R_aload_n (k := 0) rfl rfl rfl ?_
        refine R_callV (v := .inr (.inr (.inl 0))) (As := []) (rest := []) rfl mt_8_i237 pp_X8_lineAsNow (by decide) rfl rfl rfl (Nat.le_of_ble_eq_true rfl) (Nat.le_of_ble_eq_true rfl) ((k_X8_lineAsNow h hI).mono (fun r14 h15 p16 => ?_))
        obtain ⟨hJ, fj, rfl⟩ := p16
        have f17 := fj
        have fr := fr.trans fj (by decide)
        have hI := hJ
        have s18 : (h15.1 17 0).toInt = (h.1 17 0).toInt := by rw [(f17 17 (by decide)).1]
        have s19 : (h15.1 17 10).toInt = (h.1 17 10).toInt := by rw [(f17 17 (by decide)).1]
        have s20 : (h15.1 17 5).toInt = (h.1 17 5).toInt := by rw [(f17 17 (by decide)).1]
        show RUN d_X8_roundRefusal 31 [(0, .inr (.inr (.inl 0)))] [] h15 _
        refine R_aload_n (k := 0) rfl rfl rfl ?_
        refine R_getf_r (j := 10) rfl ft_8_70 sh_0 rfl ?_
        refine R_aload_n (k := 0) rfl rfl rfl ?_
        refine R_getf_r (j := 7) rfl ft_8_49 sh_0 rfl ?_
        refine R_callV (v := .inr (.inr (.inl 94))) (As := [.inr (.inr (.inl 70))]) (rest := []) rfl mt_8_i434 pp_X0_goRound (by decide) rfl rfl rfl (Nat.le_of_ble_eq_true rfl) (Nat.le_of_ble_eq_true rfl) ((k_X0_goRound h15 hI).mono (fun r21 h22 p23 => ?_))
        obtain ⟨hJ, fj, rfl⟩ := p23
        have f24 := fj
        have fr := fr.trans fj (by decide)
        have hI := hJ
        have s25 : (h22.1 17 0).toInt = (h15.1 17 0).toInt := by rw [(f24 17 (by decide)).1]
        have s26 : (h22.1 17 10).toInt = (h15.1 17 10).toInt := by rw [(f24 17 (by decide)).1]
        have s27 : (h22.1 17 5).toInt = (h15.1 17 5).toInt := by rw [(f24 17 (by decide)).1]
        show RUN d_X8_roundRefusal 42 [(0, .inr (.inr (.inl 0)))] [] h22 _
        refine R_iconst 0 rfl rfl ?_
        exact R_iret rfl rfl rfl ⟨hI, fr, _, rfl, by rw [show (0 : Int32).toInt = 0 from rfl]; omega⟩
      · refine R_iconst (-1) rfl rfl ?_
        exact R_iret rfl rfl rfl ⟨hI, fr, _, rfl, by rw [show ((-1) : Int32).toInt = (-1) from rfl]; omega⟩
    · exfalso; omega
abbrev q_X8_settles (h : PH)  : Option PV → PH → Prop := fun r h' => INV h' ∧ FR [70, 71, 72, 73, 74, 94, 95] h h' ∧ ∃ z : Int32, r = some (.inl z) ∧ (((-2) ≤ z.toInt ∧ z.toInt ≤ 255))
set_option maxHeartbeats 4000000 in
set_option maxRecDepth 100000 in
theorem k_X8_settles (h : PH) (hI : INV h)  : CALL d_X8_settles [.inr (.inr (.inl 0))] h (q_X8_settles h) := by
  show RUN d_X8_settles 0 [(0, .inr (.inr (.inl 0)))] [] h _
  have fr : FR [70, 71, 72, 73, 74, 94, 95] h h := FR.rf _ _
  refine R_aload_n (k := 0) rfl rfl rfl ?_
  refine R_callV (v := .inr (.inr (.inl 0))) (As := []) (rest := []) rfl mt_8_i271 pp_X8_roundRefusal (by decide) rfl rfl rfl (Nat.le_of_ble_eq_true rfl) (Nat.le_of_ble_eq_true rfl) ((k_X8_roundRefusal h hI).mono (fun r1 h2 p3 => ?_))
  obtain ⟨hJ, fj, x4, rfl, q5⟩ := p3
  have f6 := fj
  have fr := fr.trans fj (by decide)
  have hI := hJ
  show RUN d_X8_settles 4 [(0, .inr (.inr (.inl 0)))] [.inl x4] h2 _
  refine R_istore_n (k := 1) rfl [(1, .inl x4), (0, .inr (.inr (.inl 0)))] rfl rfl (by decide) ?_
  refine R_iload_n (k := 1) rfl rfl rfl ?_
  refine N_if_eq (a := x4.toInt) 13 rfl rfl rfl (fun c7 => ?_) (fun c7 => ?_)
  · refine R_aload_n (k := 0) rfl rfl rfl ?_
    refine R_getf_r (j := 10) rfl ft_8_70 sh_0 rfl ?_
    refine R_getf_i (j := 1) rfl ft_8_274 sh_94 rfl ?_
    have b8 : (0 : Int) ≤ (h2.1 94 1).toInt ∧ (h2.1 94 1).toInt ≤ 255 := hI.1 94 1
    exact R_iret rfl rfl rfl ⟨hI, fr, _, rfl, by omega⟩
  · refine R_iload_n (k := 1) rfl rfl rfl ?_
    refine R_goto 20 rfl rfl ?_
    exact R_iret rfl rfl rfl ⟨hI, fr, _, rfl, by omega⟩
abbrev q_X9_hasRound (h : PH)  : Option PV → PH → Prop := fun r h' => h = h' ∧ ∃ z : Int32, r = some (.inl z) ∧ ((z.toInt = 0 ∧ (h.1 97 10).toInt ≤ 0) ∨ (z.toInt = 0 ∧ 1 ≤ (h.1 97 0).toInt ∧ (h.1 97 0).toInt ≤ 60 ∧ 1 ≤ (h.1 97 10).toInt) ∨ (z.toInt = 1 ∧ 1 ≤ (h.1 97 0).toInt ∧ (h.1 97 0).toInt ≤ 60 ∧ 1 ≤ (h.1 97 10).toInt))
set_option maxHeartbeats 4000000 in
set_option maxRecDepth 100000 in
theorem k_X9_hasRound (h : PH) (hI : INV h)  : CALL d_X9_hasRound [.inr (.inr (.inl 96))] h (q_X9_hasRound h) := by
  show RUN d_X9_hasRound 0 [(0, .inr (.inr (.inl 96)))] [] h _
  refine R_aload_n (k := 0) rfl rfl rfl ?_
  refine R_callV (v := .inr (.inr (.inl 96))) (As := []) (rest := []) rfl mt_9_i301 pp_X9_isBrigade (by decide) rfl rfl rfl (Nat.le_of_ble_eq_true rfl) (Nat.le_of_ble_eq_true rfl) ((k_X9_isBrigade h hI).mono (fun r1 h2 p3 => ?_))
  obtain ⟨rfl, x4, rfl, q5 | q5⟩ := p3
  · have b6 : (0 : Int) ≤ (h.1 97 0).toInt ∧ (h.1 97 0).toInt ≤ 60 := hI.1 97 0
    have e7 : 0 < (h.1 97 10).toInt → 1 ≤ (h.1 97 0).toInt := hI.2.2.2.2.2.1.2
    show RUN d_X9_hasRound 4 [(0, .inr (.inr (.inl 96)))] [.inl x4] h _
    refine N_if_eq (a := x4.toInt) 18 rfl rfl rfl (fun c8 => ?_) (fun c8 => ?_)
    · refine R_iconst 0 rfl rfl ?_
      exact R_iret rfl rfl rfl ⟨rfl, _, rfl, by rw [show (0 : Int32).toInt = 0 from rfl]; omega⟩
    · exfalso; omega
  · have b9 : (0 : Int) ≤ (h.1 97 0).toInt ∧ (h.1 97 0).toInt ≤ 60 := hI.1 97 0
    have e10 : 0 < (h.1 97 10).toInt → 1 ≤ (h.1 97 0).toInt := hI.2.2.2.2.2.1.2
    show RUN d_X9_hasRound 4 [(0, .inr (.inr (.inl 96)))] [.inl x4] h _
    refine N_if_eq (a := x4.toInt) 18 rfl rfl rfl (fun c11 => ?_) (fun c11 => ?_)
    · exfalso; omega
    · refine R_aload_n (k := 0) rfl rfl rfl ?_
      refine R_callV (v := .inr (.inr (.inl 96))) (As := []) (rest := []) rfl mt_9_i133 pp_X9_hands (by decide) rfl rfl rfl (Nat.le_of_ble_eq_true rfl) (Nat.le_of_ble_eq_true rfl) ((k_X9_hands h hI).mono (fun r12 h13 p14 => ?_))
      obtain ⟨rfl, x15, rfl, q16⟩ := p14
      show RUN d_X9_hasRound 11 [(0, .inr (.inr (.inl 96)))] [.inl x15] h _
      refine N_if_le (a := x15.toInt) 18 rfl rfl rfl (fun c17 => ?_) (fun c17 => ?_)
      · refine R_iconst 0 rfl rfl ?_
        exact R_iret rfl rfl rfl ⟨rfl, _, rfl, by rw [show (0 : Int32).toInt = 0 from rfl]; omega⟩
      · refine R_iconst 1 rfl rfl ?_
        refine R_goto 19 rfl rfl ?_
        exact R_iret rfl rfl rfl ⟨rfl, _, rfl, by rw [show (1 : Int32).toInt = 1 from rfl]; omega⟩
