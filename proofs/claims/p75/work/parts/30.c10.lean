abbrev q_X8_ready (h : PH) (a0 : Int32) : Option PV → PH → Prop := fun r h' => INV h' ∧ FR [0, 70, 71, 72, 73, 74, 75, 76, 77, 78, 79, 80, 81, 82, 83, 84, 85, 86] h h' ∧ (True) ∧ ∃ z : Int32, r = some (.inl z) ∧ ((True))
set_option maxHeartbeats 4000000 in
set_option maxRecDepth 100000 in
theorem k_X8_ready (h : PH) (hI : INV h) (a0 : Int32) : CALL d_X8_ready [.inr (.inr (.inl 0)), .inl a0] h (q_X8_ready h a0) := by
  show RUN d_X8_ready 0 [(0, .inr (.inr (.inl 0))), (1, .inl a0)] [] h _
  have b1 := i_rng a0
  have fr : FR [0, 70, 71, 72, 73, 74, 75, 76, 77, 78, 79, 80, 81, 82, 83, 84, 85, 86] h h := FR.rf _ _
  refine R_aload_n (k := 0) rfl rfl rfl ?_
  refine R_aload_n (k := 0) rfl rfl rfl ?_
  refine R_callV (v := .inr (.inr (.inl 0))) (As := []) (rest := [.inr (.inr (.inl 0))]) rfl mt_8_i153 pp_X8_told (by decide) rfl rfl rfl (Nat.le_of_ble_eq_true rfl) (Nat.le_of_ble_eq_true rfl) ((k_X8_told h hI).mono (fun r2 h3 p4 => ?_))
  obtain ⟨hJ, fj, -, rfl⟩ := p4
  have f5 := fj
  have fr := fr.trans fj (by decide)
  have hI := hJ
  show RUN d_X8_ready 5 [(0, .inr (.inr (.inl 0))), (1, .inl a0)] [.inr (.inr (.inl 75)), .inr (.inr (.inl 0))] h3 _
  refine R_getf_r (j := 3) rfl ft_8_178 sh_75 rfl ?_
  refine R_iload_n (k := 1) rfl rfl rfl ?_
  refine R_callV (v := .inr (.inr (.inl 0))) (As := [.inr (.inr (.inl 79)), .inl a0]) (rest := []) rfl mt_8_i171 pp_X8_atSecond (by decide) rfl rfl rfl (Nat.le_of_ble_eq_true rfl) (Nat.le_of_ble_eq_true rfl) ((k_X8_atSecond_6 h3 hI a0).mono (fun r6 h7 p8 => ?_))
  obtain ⟨rfl, x9, rfl, q10⟩ := p8
  show RUN d_X8_ready 12 [(0, .inr (.inr (.inl 0))), (1, .inl a0)] [.inl x9] h3 _
  exact R_iret rfl rfl rfl ⟨hI, fr, trivial, _, rfl, trivial⟩
abbrev q_X9_ready (h : PH) (a0 : Int32) : Option PV → PH → Prop := fun r h' => INV h' ∧ FR [96, 103, 104, 105, 106, 107, 108, 109, 110, 111, 112, 113, 114, 115, 116, 117, 118, 119] h h' ∧ (True) ∧ ∃ z : Int32, r = some (.inl z) ∧ ((True))
set_option maxHeartbeats 4000000 in
set_option maxRecDepth 100000 in
theorem k_X9_ready (h : PH) (hI : INV h) (a0 : Int32) : CALL d_X9_ready [.inr (.inr (.inl 96)), .inl a0] h (q_X9_ready h a0) := by
  show RUN d_X9_ready 0 [(0, .inr (.inr (.inl 96))), (1, .inl a0)] [] h _
  have b1 := i_rng a0
  have fr : FR [96, 103, 104, 105, 106, 107, 108, 109, 110, 111, 112, 113, 114, 115, 116, 117, 118, 119] h h := FR.rf _ _
  refine R_aload_n (k := 0) rfl rfl rfl ?_
  refine R_iload_n (k := 1) rfl rfl rfl ?_
  have b2 : (0 : Int) ≤ (h.1 97 0).toInt ∧ (h.1 97 0).toInt ≤ 60 := hI.1 97 0
  have e3 : 0 < (h.1 97 10).toInt → 1 ≤ (h.1 97 0).toInt := hI.2.2.2.2.2.1.2.1
  refine R_callV (v := .inr (.inr (.inl 96))) (As := [.inl a0]) (rest := []) rfl mt_9_i318 pp_X9_asksSecond (by decide) rfl rfl rfl (Nat.le_of_ble_eq_true rfl) (Nat.le_of_ble_eq_true rfl) ((k_X9_asksSecond h hI a0).mono (fun r4 h5 p6 => ?_))
  obtain ⟨hJ, fj, -, x7, rfl, q8 | q8 | q8 | q8⟩ := p6
  · have f9 := fj
    have fr := fr.trans fj (by decide)
    have hI := hJ
    have s10 : (h5.1 97 10).toInt = (h.1 97 10).toInt := by rw [(f9 97 (by decide)).1]
    have s11 : (h5.1 97 0).toInt = (h.1 97 0).toInt := by rw [(f9 97 (by decide)).1]
    show RUN d_X9_ready 5 [(0, .inr (.inr (.inl 96))), (1, .inl a0)] [.inl x7] h5 _
    refine N_if_ne (a := x7.toInt) 11 rfl rfl rfl (fun c12 => ?_) (fun c12 => ?_)
    · exfalso; omega
    · refine R_bipush (-2) rfl rfl ?_
      exact R_iret rfl rfl rfl ⟨hI, fr, trivial, _, rfl, trivial⟩
  · have f13 := fj
    have fr := fr.trans fj (by decide)
    have hI := hJ
    have s14 : (h5.1 97 10).toInt = (h.1 97 10).toInt := by rw [(f13 97 (by decide)).1]
    have s15 : (h5.1 97 0).toInt = (h.1 97 0).toInt := by rw [(f13 97 (by decide)).1]
    show RUN d_X9_ready 5 [(0, .inr (.inr (.inl 96))), (1, .inl a0)] [.inl x7] h5 _
    refine N_if_ne (a := x7.toInt) 11 rfl rfl rfl (fun c16 => ?_) (fun c16 => ?_)
    · exfalso; omega
    · refine R_bipush (-2) rfl rfl ?_
      exact R_iret rfl rfl rfl ⟨hI, fr, trivial, _, rfl, trivial⟩
  · have f17 := fj
    have fr := fr.trans fj (by decide)
    have hI := hJ
    have s18 : (h5.1 97 10).toInt = (h.1 97 10).toInt := by rw [(f17 97 (by decide)).1]
    have s19 : (h5.1 97 0).toInt = (h.1 97 0).toInt := by rw [(f17 97 (by decide)).1]
    show RUN d_X9_ready 5 [(0, .inr (.inr (.inl 96))), (1, .inl a0)] [.inl x7] h5 _
    refine N_if_ne (a := x7.toInt) 11 rfl rfl rfl (fun c20 => ?_) (fun c20 => ?_)
    · exfalso; omega
    · refine R_bipush (-2) rfl rfl ?_
      exact R_iret rfl rfl rfl ⟨hI, fr, trivial, _, rfl, trivial⟩
  · have f21 := fj
    have fr := fr.trans fj (by decide)
    have hI := hJ
    have s22 : (h5.1 97 10).toInt = (h.1 97 10).toInt := by rw [(f21 97 (by decide)).1]
    have s23 : (h5.1 97 0).toInt = (h.1 97 0).toInt := by rw [(f21 97 (by decide)).1]
    show RUN d_X9_ready 5 [(0, .inr (.inr (.inl 96))), (1, .inl a0)] [.inl x7] h5 _
    refine N_if_ne (a := x7.toInt) 11 rfl rfl rfl (fun c24 => ?_) (fun c24 => ?_)
    · refine R_iconst 0 rfl rfl ?_
      refine R_istore_n (k := 2) rfl [(2, .inl 0), (0, .inr (.inr (.inl 96))), (1, .inl a0)] rfl rfl (by decide) ?_
      refine R_iconst 0 rfl rfl ?_
      refine R_istore_n (k := 3) rfl [(3, .inl 0), (2, .inl 0), (0, .inr (.inr (.inl 96))), (1, .inl a0)] rfl rfl (by decide) ?_
      have lp26 : ∀ (n25 : Nat) (x27 : Int32) (x28 : Int32), 0 ≤ x28.toInt ∧ x28.toInt ≤ 6 → (6 - x28.toInt).toNat < n25 → RUN d_X9_ready 15 [(3, .inl x28), (2, .inl x27), (0, .inr (.inr (.inl 96))), (1, .inl a0)] [] h5 (q_X9_ready h a0) := by
        intro n25
        induction n25 with
        | zero => intro x27 x28 m30 hz; exact absurd hz (Nat.not_lt_zero _)
        | succ n25 ih29 =>
          intro x27 x28 m30 hz
          refine R_iload_n (k := 3) rfl rfl rfl ?_
          refine R_aload_n (k := 0) rfl rfl rfl ?_
          have b31 : (0 : Int) ≤ (h5.1 97 5).toInt ∧ (h5.1 97 5).toInt ≤ 6 := hI.1 97 5
          have e32 : 0 < (h5.1 97 5).toInt → 1 ≤ (h5.1 97 0).toInt := hI.2.2.2.2.2.1.2.2
          refine R_callV (v := .inr (.inr (.inl 96))) (As := []) (rest := [.inl x28]) rfl mt_9_i133 pp_X9_hands (by decide) rfl rfl rfl (Nat.le_of_ble_eq_true rfl) (Nat.le_of_ble_eq_true rfl) ((k_X9_hands h5 hI).mono (fun r33 h34 p35 => ?_))
          obtain ⟨rfl, x36, rfl, q37⟩ := p35
          show RUN d_X9_ready 20 [(3, .inl x28), (2, .inl x27), (0, .inr (.inr (.inl 96))), (1, .inl a0)] [.inl x36, .inl x28] h5 _
          refine N_icmp_ge (a := x28.toInt) (b := x36.toInt) 54 rfl rfl rfl rfl (fun c38 => ?_) (fun c38 => ?_)
          · refine R_iload_n (k := 2) rfl rfl rfl ?_
            exact R_iret rfl rfl rfl ⟨hI, fr, trivial, _, rfl, trivial⟩
          · refine R_iload_n (k := 2) rfl rfl rfl ?_
            refine R_aload_n (k := 0) rfl rfl rfl ?_
            refine R_iload_n (k := 3) rfl rfl rfl ?_
            refine R_iload_n (k := 1) rfl rfl rfl ?_
            refine R_callV (v := .inr (.inr (.inl 96))) (As := [.inl x28, .inl a0]) (rest := [.inl x27]) rfl mt_9_i321 pp_X9_heldOf (by decide) rfl rfl rfl (Nat.le_of_ble_eq_true rfl) (Nat.le_of_ble_eq_true rfl) ((k_X9_heldOf h5 hI x28 a0 (by omega) (by omega)).mono (fun r39 h40 p41 => ?_))
            obtain ⟨rfl, x42, rfl, q43⟩ := p41
            show RUN d_X9_ready 30 [(3, .inl x28), (2, .inl x27), (0, .inr (.inr (.inl 96))), (1, .inl a0)] [.inl x42, .inl x27] h5 _
            refine R_aload_n (k := 0) rfl rfl rfl ?_
            refine R_getf_r (j := 15) rfl ft_9_34 sh_96 rfl ?_
            refine R_iload_n (k := 3) rfl rfl rfl ?_
            refine R_iald rfl sh_103 ⟨by omega, by omega⟩ ?_
            refine N_any (fun x44 => ?_)
            refine N_icmp_lt (a := x42.toInt) (b := x44.toInt) 45 rfl rfl rfl rfl (fun c45 => ?_) (fun c45 => ?_)
            · refine R_iconst 0 rfl rfl ?_
              refine R_ior rfl ?_
              refine N_any (fun x46 => ?_)
              refine R_istore_n (k := 2) rfl [(2, .inl x46), (3, .inl x28), (0, .inr (.inr (.inl 96))), (1, .inl a0)] rfl rfl (by decide) ?_
              refine N_iinc (a := x28.toInt) (c := 1) (fun w => [(3, .inl w), (2, .inl x46), (0, .inr (.inr (.inl 96))), (1, .inl a0)]) rfl rfl (fun _ => rfl) (by decide) rfl (by decide) (by omega) (fun x47 q48 => ?_)
              refine R_goto 15 rfl rfl ?_
              exact RUN_weak (psub_cons rfl (psub_cons rfl (psub_cons rfl (psub_cons rfl (psub_nil _))))) (ih29 x46 x47 (by omega) (by omega))
            · refine R_iconst 1 rfl rfl ?_
              refine R_iload_n (k := 3) rfl rfl rfl ?_
              refine N_ishl1 (b := x28.toInt) rfl rfl (by omega) (fun x49 q50 => ?_)
              refine R_goto 46 rfl rfl ?_
              refine R_ior rfl ?_
              refine N_any (fun x51 => ?_)
              refine R_istore_n (k := 2) rfl [(2, .inl x51), (3, .inl x28), (0, .inr (.inr (.inl 96))), (1, .inl a0)] rfl rfl (by decide) ?_
              refine N_iinc (a := x28.toInt) (c := 1) (fun w => [(3, .inl w), (2, .inl x51), (0, .inr (.inr (.inl 96))), (1, .inl a0)]) rfl rfl (fun _ => rfl) (by decide) rfl (by decide) (by omega) (fun x52 q53 => ?_)
              refine R_goto 15 rfl rfl ?_
              exact RUN_weak (psub_cons rfl (psub_cons rfl (psub_cons rfl (psub_cons rfl (psub_nil _))))) (ih29 x51 x52 (by omega) (by omega))
      exact lp26 _ (0 : Int32) (0 : Int32) (by decide) (Nat.lt_succ_self _)
    · exfalso; omega
abbrev q_X8_mostBusy (h : PH)  : Option PV → PH → Prop := fun r h' => INV h' ∧ FR [0, 70, 71, 72, 73, 74, 75, 76, 77, 78, 79, 80, 81, 82, 83, 84, 85, 86] h h' ∧ (True) ∧ ∃ z : Int32, r = some (.inl z) ∧ ((0 ≤ z.toInt ∧ z.toInt ≤ 63))
set_option maxHeartbeats 4000000 in
set_option maxRecDepth 100000 in
theorem k_X8_mostBusy (h : PH) (hI : INV h)  : CALL d_X8_mostBusy [.inr (.inr (.inl 0))] h (q_X8_mostBusy h) := by
  show RUN d_X8_mostBusy 0 [(0, .inr (.inr (.inl 0)))] [] h _
  have fr : FR [0, 70, 71, 72, 73, 74, 75, 76, 77, 78, 79, 80, 81, 82, 83, 84, 85, 86] h h := FR.rf _ _
  refine R_aload_n (k := 0) rfl rfl rfl ?_
  refine R_callV (v := .inr (.inr (.inl 0))) (As := []) (rest := []) rfl mt_8_i153 pp_X8_told (by decide) rfl rfl rfl (Nat.le_of_ble_eq_true rfl) (Nat.le_of_ble_eq_true rfl) ((k_X8_told h hI).mono (fun r1 h2 p3 => ?_))
  obtain ⟨hJ, fj, -, rfl⟩ := p3
  have f4 := fj
  have fr := fr.trans fj (by decide)
  have hI := hJ
  show RUN d_X8_mostBusy 4 [(0, .inr (.inr (.inl 0)))] [.inr (.inr (.inl 75))] h2 _
  refine R_getf_r (j := 1) rfl ft_8_157 sh_75 rfl ?_
  refine R_astore_n (k := 1) rfl [(1, .inr (.inr (.inl 77))), (0, .inr (.inr (.inl 0)))] rfl rfl (by decide) ?_
  refine R_iconst 0 rfl rfl ?_
  refine R_istore_n (k := 2) rfl [(2, .inl 0), (1, .inr (.inr (.inl 77))), (0, .inr (.inr (.inl 0)))] rfl rfl (by decide) ?_
  refine R_iconst 0 rfl rfl ?_
  refine R_istore_n (k := 3) rfl [(3, .inl 0), (2, .inl 0), (1, .inr (.inr (.inl 77))), (0, .inr (.inr (.inl 0)))] rfl rfl (by decide) ?_
  have lp6 : ∀ (n5 : Nat) (x7 : Int32) (x8 : Int32), 0 ≤ x7.toInt ∧ x7.toInt ≤ 63 → 0 ≤ x8.toInt ∧ x8.toInt ≤ 60 → (60 - x8.toInt).toNat < n5 → RUN d_X8_mostBusy 12 [(3, .inl x8), (2, .inl x7), (1, .inr (.inr (.inl 77))), (0, .inr (.inr (.inl 0)))] [] h2 (q_X8_mostBusy h) := by
    intro n5
    induction n5 with
    | zero => intro x7 x8 m10 m11 hz; exact absurd hz (Nat.not_lt_zero _)
    | succ n5 ih9 =>
      intro x7 x8 m10 m11 hz
      refine R_iload_n (k := 3) rfl rfl rfl ?_
      refine R_aload_n (k := 0) rfl rfl rfl ?_
      refine R_getf_r (j := 3) rfl ft_8_28 sh_0 rfl ?_
      refine R_getf_r (j := 0) rfl ft_8_109 sh_16 rfl ?_
      refine R_iconst 0 rfl rfl ?_
      refine R_iald rfl sh_17 (by decide) ?_
      have b12 : (0 : Int) ≤ (h2.1 17 0).toInt ∧ (h2.1 17 0).toInt ≤ 60 := hI.1 17 0
      show RUN d_X8_mostBusy 22 [(3, .inl x8), (2, .inl x7), (1, .inr (.inr (.inl 77))), (0, .inr (.inr (.inl 0)))] [.inl (h2.1 17 0), .inl x8] h2 _
      refine N_icmp_ge (a := x8.toInt) (b := (h2.1 17 0).toInt) 42 rfl rfl rfl rfl (fun c13 => ?_) (fun c13 => ?_)
      · refine R_iload_n (k := 2) rfl rfl rfl ?_
        exact R_iret rfl rfl rfl ⟨hI, fr, trivial, _, rfl, by omega⟩
      · refine R_iload_n (k := 2) rfl rfl rfl ?_
        refine R_aload_n (k := 1) rfl rfl rfl ?_
        refine R_iload_n (k := 3) rfl rfl rfl ?_
        refine R_iald rfl sh_77 ⟨by omega, by omega⟩ ?_
        refine N_any (fun x14 => ?_)
        refine R_callS (As := [.inl x14]) (rest := [.inl x7]) rfl mt_8_i232 (by decide) pp_J6_bitCount_0f7a4 (by decide) rfl rfl (Nat.le_of_ble_eq_true rfl) (Nat.le_of_ble_eq_true rfl) ((k_J6_bitCount_0f7a4 h2 hI x14).mono (fun r15 h16 p17 => ?_))
        obtain ⟨rfl, x18, rfl, q19⟩ := p17
        show RUN d_X8_mostBusy 32 [(3, .inl x8), (2, .inl x7), (1, .inr (.inr (.inl 77))), (0, .inr (.inr (.inl 0)))] [.inl x18, .inl x7] h2 _
        refine N_max (a := x7.toInt) (b := x18.toInt) rfl mt_8_i223 rfl rfl ⟨by decide, by decide, Nat.le_of_ble_eq_true rfl⟩ (fun x20 q21 => ?_)
        refine R_istore_n (k := 2) rfl [(2, .inl x20), (3, .inl x8), (1, .inr (.inr (.inl 77))), (0, .inr (.inr (.inl 0)))] rfl rfl (by decide) ?_
        refine N_iinc (a := x8.toInt) (c := 1) (fun w => [(3, .inl w), (2, .inl x20), (1, .inr (.inr (.inl 77))), (0, .inr (.inr (.inl 0)))]) rfl rfl (fun _ => rfl) (by decide) rfl (by decide) (by omega) (fun x22 q23 => ?_)
        refine R_goto 12 rfl rfl ?_
        exact RUN_weak (psub_cons rfl (psub_cons rfl (psub_cons rfl (psub_cons rfl (psub_nil _))))) (ih9 x20 x22 (by omega) (by omega) (by omega))
  exact lp6 _ (0 : Int32) (0 : Int32) (by decide) (by decide) (Nat.lt_succ_self _)
abbrev q_X8_crowded (h : PH)  : Option PV → PH → Prop := fun r h' => INV h' ∧ FR [0, 70, 71, 72, 73, 74, 75, 76, 77, 78, 79, 80, 81, 82, 83, 84, 85, 86] h h' ∧ (True) ∧ ∃ z : Int32, r = some (.inl z) ∧ (((-2) ≤ z.toInt ∧ z.toInt ≤ 59))
set_option maxHeartbeats 4000000 in
set_option maxRecDepth 100000 in
theorem k_X8_crowded (h : PH) (hI : INV h)  : CALL d_X8_crowded [.inr (.inr (.inl 0))] h (q_X8_crowded h) := by
  show RUN d_X8_crowded 0 [(0, .inr (.inr (.inl 0)))] [] h _
  have fr : FR [0, 70, 71, 72, 73, 74, 75, 76, 77, 78, 79, 80, 81, 82, 83, 84, 85, 86] h h := FR.rf _ _
  refine R_aload_n (k := 0) rfl rfl rfl ?_
  refine R_getf_r (j := 3) rfl ft_8_28 sh_0 rfl ?_
  have b1 : (0 : Int) ≤ (h.1 17 0).toInt ∧ (h.1 17 0).toInt ≤ 60 := hI.1 17 0
  have e2 : 0 < (h.1 17 10).toInt → 1 ≤ (h.1 17 0).toInt := hI.2.1
  refine R_callV (v := .inr (.inr (.inl 16))) (As := []) (rest := []) rfl mt_8_i146 pp_X1_stands (by decide) rfl rfl rfl (Nat.le_of_ble_eq_true rfl) (Nat.le_of_ble_eq_true rfl) ((k_X1_stands h hI).mono (fun r3 h4 p5 => ?_))
  obtain ⟨rfl, x6, rfl, q7 | q7⟩ := p5
  · show RUN d_X8_crowded 7 [(0, .inr (.inr (.inl 0)))] [.inl x6] h _
    refine N_if_ne (a := x6.toInt) 13 rfl rfl rfl (fun c8 => ?_) (fun c8 => ?_)
    · exfalso; omega
    · refine R_bipush (-2) rfl rfl ?_
      exact R_iret rfl rfl rfl ⟨hI, fr, trivial, _, rfl, by rw [show ((-2) : Int32).toInt = (-2) from rfl] <;> omega⟩
  · show RUN d_X8_crowded 7 [(0, .inr (.inr (.inl 0)))] [.inl x6] h _
    refine N_if_ne (a := x6.toInt) 13 rfl rfl rfl (fun c9 => ?_) (fun c9 => ?_)
    · refine R_aload_n (k := 0) rfl rfl rfl ?_
      refine R_callV (v := .inr (.inr (.inl 0))) (As := []) (rest := []) rfl mt_8_i228 pp_X8_mostBusy (by decide) rfl rfl rfl (Nat.le_of_ble_eq_true rfl) (Nat.le_of_ble_eq_true rfl) ((k_X8_mostBusy h hI).mono (fun r10 h11 p12 => ?_))
      obtain ⟨hJ, fj, -, x13, rfl, q14⟩ := p12
      have f15 := fj
      have fr := fr.trans fj (by decide)
      have hI := hJ
      have s16 : (h11.1 17 10).toInt = (h.1 17 10).toInt := by rw [(f15 17 (by decide)).1]
      have s17 : (h11.1 17 0).toInt = (h.1 17 0).toInt := by rw [(f15 17 (by decide)).1]
      show RUN d_X8_crowded 17 [(0, .inr (.inr (.inl 0)))] [.inl x13] h11 _
      refine R_istore_n (k := 1) rfl [(1, .inl x13), (0, .inr (.inr (.inl 0)))] rfl rfl (by decide) ?_
      refine R_iconst 0 rfl rfl ?_
      refine R_istore_n (k := 2) rfl [(2, .inl 0), (1, .inl x13), (0, .inr (.inr (.inl 0)))] rfl rfl (by decide) ?_
      have lp19 : ∀ (n18 : Nat) (x20 : Int32), 0 ≤ x20.toInt ∧ x20.toInt ≤ 59 → x20.toInt ≤ (h11.1 17 0).toInt + (-1) → (59 - x20.toInt).toNat < n18 → RUN d_X8_crowded 20 [(2, .inl x20), (1, .inl x13), (0, .inr (.inr (.inl 0)))] [] h11 (q_X8_crowded h) := by
        intro n18
        induction n18 with
        | zero => intro x20 m22 m23 hz; exact absurd hz (Nat.not_lt_zero _)
        | succ n18 ih21 =>
          intro x20 m22 m23 hz
          refine R_iload_n (k := 2) rfl rfl rfl ?_
          refine R_aload_n (k := 0) rfl rfl rfl ?_
          refine R_getf_r (j := 3) rfl ft_8_28 sh_0 rfl ?_
          refine R_getf_r (j := 0) rfl ft_8_109 sh_16 rfl ?_
          refine R_iconst 0 rfl rfl ?_
          refine R_iald rfl sh_17 (by decide) ?_
          show RUN d_X8_crowded 30 [(2, .inl x20), (1, .inl x13), (0, .inr (.inr (.inl 0)))] [.inl (h11.1 17 0), .inl x20] h11 _
          refine R_iconst 1 rfl rfl ?_
          refine N_isub (a := (h11.1 17 0).toInt) (b := 1) rfl rfl (by decide) (by omega) (fun x24 q25 => ?_)
          refine N_icmp_ge (a := x20.toInt) (b := x24.toInt) 57 rfl rfl rfl rfl (fun c26 => ?_) (fun c26 => ?_)
          · refine R_iload_n (k := 2) rfl rfl rfl ?_
            exact R_iret rfl rfl rfl ⟨hI, fr, trivial, _, rfl, by omega⟩
          · refine R_aload_n (k := 0) rfl rfl rfl ?_
            refine R_getf_r (j := 8) rfl ft_8_56 sh_0 rfl ?_
            refine R_getf_r (j := 1) rfl ft_8_157 sh_75 rfl ?_
            refine R_iload_n (k := 2) rfl rfl rfl ?_
            refine R_iald rfl sh_77 ⟨by omega, by omega⟩ ?_
            refine N_any (fun x27 => ?_)
            refine R_callS (As := [.inl x27]) (rest := []) rfl mt_8_i232 (by decide) pp_J6_bitCount_0f7a4 (by decide) rfl rfl (Nat.le_of_ble_eq_true rfl) (Nat.le_of_ble_eq_true rfl) ((k_J6_bitCount_0f7a4 h11 hI x27).mono (fun r28 h29 p30 => ?_))
            obtain ⟨rfl, x31, rfl, q32⟩ := p30
            show RUN d_X8_crowded 47 [(2, .inl x20), (1, .inl x13), (0, .inr (.inr (.inl 0)))] [.inl x31] h11 _
            refine R_iload_n (k := 1) rfl rfl rfl ?_
            refine N_icmp_eq (a := x31.toInt) (b := x13.toInt) 57 rfl rfl rfl rfl (fun c33 => ?_) (fun c33 => ?_)
            · refine R_iload_n (k := 2) rfl rfl rfl ?_
              exact R_iret rfl rfl rfl ⟨hI, fr, trivial, _, rfl, by omega⟩
            · refine N_iinc (a := x20.toInt) (c := 1) (fun w => [(2, .inl w), (1, .inl x13), (0, .inr (.inr (.inl 0)))]) rfl rfl (fun _ => rfl) (by decide) rfl (by decide) (by omega) (fun x34 q35 => ?_)
              refine R_goto 20 rfl rfl ?_
              exact RUN_weak (psub_cons rfl (psub_cons rfl (psub_cons rfl (psub_nil _)))) (ih21 x34 (by omega) (by omega) (by omega))
      have k36 : (0 : Int32).toInt = 0 := by decide
      exact lp19 _ (0 : Int32) (by decide) (by omega) (Nat.lt_succ_self _)
    · exfalso; omega
abbrev q_X9_bits (h : PH) (a0 : Int32) : Option PV → PH → Prop := fun r h' => h = h' ∧ ∃ z : Int32, r = some (.inl z) ∧ ((True))
set_option maxHeartbeats 4000000 in
set_option maxRecDepth 100000 in
theorem k_X9_bits (h : PH) (hI : INV h) (a0 : Int32) : CALL d_X9_bits [.inl a0] h (q_X9_bits h a0) := by
  show RUN d_X9_bits 0 [(0, .inl a0)] [] h _
  have b1 := i_rng a0
  refine R_iconst 0 rfl rfl ?_
  refine R_istore_n (k := 1) rfl [(1, .inl 0), (0, .inl a0)] rfl rfl (by decide) ?_
  refine R_iconst 0 rfl rfl ?_
  refine R_istore_n (k := 2) rfl [(2, .inl 0), (1, .inl 0), (0, .inl a0)] rfl rfl (by decide) ?_
  have lp3 : ∀ (n2 : Nat) (x4 : Int32) (x5 : Int32), 0 ≤ x5.toInt ∧ x5.toInt ≤ 6 → (6 - x5.toInt).toNat < n2 → RUN d_X9_bits 4 [(2, .inl x5), (1, .inl x4), (0, .inl a0)] [] h (q_X9_bits h a0) := by
    intro n2
    induction n2 with
    | zero => intro x4 x5 m7 hz; exact absurd hz (Nat.not_lt_zero _)
    | succ n2 ih6 =>
      intro x4 x5 m7 hz
      refine R_iload_n (k := 2) rfl rfl rfl ?_
      refine R_bipush 6 rfl rfl ?_
      refine N_icmp_ge (a := x5.toInt) (b := 6) 24 rfl rfl rfl (by decide) (fun c8 => ?_) (fun c8 => ?_)
      · refine R_iload_n (k := 1) rfl rfl rfl ?_
        exact R_iret rfl rfl rfl ⟨rfl, _, rfl, trivial⟩
      · refine R_iload_n (k := 1) rfl rfl rfl ?_
        refine R_iload_n (k := 0) rfl rfl rfl ?_
        refine R_iload_n (k := 2) rfl rfl rfl ?_
        refine R_ishr rfl ?_
        refine N_any (fun x9 => ?_)
        refine R_iconst 1 rfl rfl ?_
        refine N_iand (b := 1) rfl (by decide) (by omega) (fun x10 q11 => ?_)
        have b12 := i_rng x4
        refine R_iadd rfl ?_
        refine N_any (fun x13 => ?_)
        refine R_istore_n (k := 1) rfl [(1, .inl x13), (2, .inl x5), (0, .inl a0)] rfl rfl (by decide) ?_
        refine N_iinc (a := x5.toInt) (c := 1) (fun w => [(2, .inl w), (1, .inl x13), (0, .inl a0)]) rfl rfl (fun _ => rfl) (by decide) rfl (by decide) (by omega) (fun x14 q15 => ?_)
        refine R_goto 4 rfl rfl ?_
        exact RUN_weak (psub_cons rfl (psub_cons rfl (psub_cons rfl (psub_nil _)))) (ih6 x13 x14 (by omega) (by omega))
  exact lp3 _ (0 : Int32) (0 : Int32) (by decide) (Nat.lt_succ_self _)
abbrev q_X9_fullOf (h : PH)  : Option PV → PH → Prop := fun r h' => h = h' ∧ ∃ z : Int32, r = some (.inl z) ∧ ((0 ≤ z.toInt ∧ z.toInt ≤ 2147483647))
set_option maxHeartbeats 4000000 in
set_option maxRecDepth 100000 in
theorem k_X9_fullOf (h : PH) (hI : INV h)  : CALL d_X9_fullOf [.inr (.inr (.inl 96))] h (q_X9_fullOf h) := by
  show RUN d_X9_fullOf 0 [(0, .inr (.inr (.inl 96)))] [] h _
  refine R_iconst 0 rfl rfl ?_
  refine R_istore_n (k := 1) rfl [(1, .inl 0), (0, .inr (.inr (.inl 96)))] rfl rfl (by decide) ?_
  refine R_iconst 0 rfl rfl ?_
  refine R_istore_n (k := 2) rfl [(2, .inl 0), (1, .inl 0), (0, .inr (.inr (.inl 96)))] rfl rfl (by decide) ?_
  have lp2 : ∀ (n1 : Nat) (x3 : Int32) (x4 : Int32), 0 ≤ x3.toInt → 0 ≤ x4.toInt ∧ x4.toInt ≤ 60 → (60 - x4.toInt).toNat < n1 → RUN d_X9_fullOf 4 [(2, .inl x4), (1, .inl x3), (0, .inr (.inr (.inl 96)))] [] h (q_X9_fullOf h) := by
    intro n1
    induction n1 with
    | zero => intro x3 x4 m6 m7 hz; exact absurd hz (Nat.not_lt_zero _)
    | succ n1 ih5 =>
      intro x3 x4 m6 m7 hz
      refine R_iload_n (k := 2) rfl rfl rfl ?_
      refine R_aload_n (k := 0) rfl rfl rfl ?_
      have b8 : (0 : Int) ≤ (h.1 97 0).toInt ∧ (h.1 97 0).toInt ≤ 60 := hI.1 97 0
      refine R_callV (v := .inr (.inr (.inl 96))) (As := []) (rest := [.inl x4]) rfl mt_9_i129 pp_X9_last (by decide) rfl rfl rfl (Nat.le_of_ble_eq_true rfl) (Nat.le_of_ble_eq_true rfl) ((k_X9_last h hI).mono (fun r9 h10 p11 => ?_))
      obtain ⟨rfl, x12, rfl, q13⟩ := p11
      show RUN d_X9_fullOf 9 [(2, .inl x4), (1, .inl x3), (0, .inr (.inr (.inl 96)))] [.inl x12, .inl x4] h _
      refine N_icmp_gt (a := x4.toInt) (b := x12.toInt) 31 rfl rfl rfl rfl (fun c14 => ?_) (fun c14 => ?_)
      · refine R_iload_n (k := 1) rfl rfl rfl ?_
        have b15 := i_rng x3
        exact R_iret rfl rfl rfl ⟨rfl, _, rfl, by omega⟩
      · refine R_iload_n (k := 1) rfl rfl rfl ?_
        refine R_aload_n (k := 0) rfl rfl rfl ?_
        refine R_iload_n (k := 2) rfl rfl rfl ?_
        refine R_callV (v := .inr (.inr (.inl 96))) (As := [.inl x4]) (rest := [.inl x3]) rfl mt_9_i324 pp_X9_busyOf (by decide) rfl rfl rfl (Nat.le_of_ble_eq_true rfl) (Nat.le_of_ble_eq_true rfl) ((k_X9_busyOf h hI x4 (by omega)).mono (fun r16 h17 p18 => ?_))
        obtain ⟨rfl, x19, rfl, q20⟩ := p18
        show RUN d_X9_fullOf 18 [(2, .inl x4), (1, .inl x3), (0, .inr (.inr (.inl 96)))] [.inl x19, .inl x3] h _
        refine R_callS (As := [.inl x19]) (rest := [.inl x3]) rfl mt_9_i336 (by decide) pp_X9_bits (by decide) rfl rfl (Nat.le_of_ble_eq_true rfl) (Nat.le_of_ble_eq_true rfl) ((k_X9_bits h hI x19).mono (fun r21 h22 p23 => ?_))
        obtain ⟨rfl, x24, rfl, q25⟩ := p23
        show RUN d_X9_fullOf 21 [(2, .inl x4), (1, .inl x3), (0, .inr (.inr (.inl 96)))] [.inl x24, .inl x3] h _
        refine N_max (a := x3.toInt) (b := x24.toInt) rfl mt_9_i339 rfl rfl ⟨by decide, by decide, Nat.le_of_ble_eq_true rfl⟩ (fun x26 q27 => ?_)
        refine R_istore_n (k := 1) rfl [(1, .inl x26), (2, .inl x4), (0, .inr (.inr (.inl 96)))] rfl rfl (by decide) ?_
        refine N_iinc (a := x4.toInt) (c := 1) (fun w => [(2, .inl w), (1, .inl x26), (0, .inr (.inr (.inl 96)))]) rfl rfl (fun _ => rfl) (by decide) rfl (by decide) (by omega) (fun x28 q29 => ?_)
        refine R_goto 4 rfl rfl ?_
        have b30 := i_rng x26
        exact RUN_weak (psub_cons rfl (psub_cons rfl (psub_cons rfl (psub_nil _)))) (ih5 x26 x28 (by omega) (by omega) (by omega))
  exact lp2 _ (0 : Int32) (0 : Int32) (by decide) (by decide) (Nat.lt_succ_self _)
abbrev q_X8_road (h : PH) (a0 : Int32) : Option PV → PH → Prop := fun r h' => INV h' ∧ FR [0, 70, 71, 72, 73, 74, 75, 76, 77, 78, 79, 80, 81, 82, 83, 84, 85, 86] h h' ∧ (True) ∧ ∃ z : Int32, r = some (.inl z) ∧ ((True))
set_option maxHeartbeats 4000000 in
set_option maxRecDepth 100000 in
theorem k_X8_road (h : PH) (hI : INV h) (a0 : Int32) : CALL d_X8_road [.inr (.inr (.inl 0)), .inl a0] h (q_X8_road h a0) := by
  show RUN d_X8_road 0 [(0, .inr (.inr (.inl 0))), (1, .inl a0)] [] h _
  have b1 := i_rng a0
  have fr : FR [0, 70, 71, 72, 73, 74, 75, 76, 77, 78, 79, 80, 81, 82, 83, 84, 85, 86] h h := FR.rf _ _
  refine R_aload_n (k := 0) rfl rfl rfl ?_
  refine R_aload_n (k := 0) rfl rfl rfl ?_
  refine R_callV (v := .inr (.inr (.inl 0))) (As := []) (rest := [.inr (.inr (.inl 0))]) rfl mt_8_i153 pp_X8_told (by decide) rfl rfl rfl (Nat.le_of_ble_eq_true rfl) (Nat.le_of_ble_eq_true rfl) ((k_X8_told h hI).mono (fun r2 h3 p4 => ?_))
  obtain ⟨hJ, fj, -, rfl⟩ := p4
  have f5 := fj
  have fr := fr.trans fj (by decide)
  have hI := hJ
  show RUN d_X8_road 5 [(0, .inr (.inr (.inl 0))), (1, .inl a0)] [.inr (.inr (.inl 75)), .inr (.inr (.inl 0))] h3 _
  refine R_getf_r (j := 6) rfl ft_8_184 sh_75 rfl ?_
  refine R_iload_n (k := 1) rfl rfl rfl ?_
  refine R_callV (v := .inr (.inr (.inl 0))) (As := [.inr (.inr (.inl 82)), .inl a0]) (rest := []) rfl mt_8_i171 pp_X8_atSecond (by decide) rfl rfl rfl (Nat.le_of_ble_eq_true rfl) (Nat.le_of_ble_eq_true rfl) ((k_X8_atSecond_7 h3 hI a0).mono (fun r6 h7 p8 => ?_))
  obtain ⟨rfl, x9, rfl, q10⟩ := p8
  show RUN d_X8_road 12 [(0, .inr (.inr (.inl 0))), (1, .inl a0)] [.inl x9] h3 _
  exact R_iret rfl rfl rfl ⟨hI, fr, trivial, _, rfl, trivial⟩
abbrev q_X9_road (h : PH) (a0 : Int32) : Option PV → PH → Prop := fun r h' => INV h' ∧ FR [96, 103, 104, 105, 106, 107, 108, 109, 110, 111, 112, 113, 114, 115, 116, 117, 118, 119] h h' ∧ (True) ∧ ∃ z : Int32, r = some (.inl z) ∧ ((True))
set_option maxHeartbeats 4000000 in
set_option maxRecDepth 100000 in
theorem k_X9_road (h : PH) (hI : INV h) (a0 : Int32) : CALL d_X9_road [.inr (.inr (.inl 96)), .inl a0] h (q_X9_road h a0) := by
  show RUN d_X9_road 0 [(0, .inr (.inr (.inl 96))), (1, .inl a0)] [] h _
  have b1 := i_rng a0
  have fr : FR [96, 103, 104, 105, 106, 107, 108, 109, 110, 111, 112, 113, 114, 115, 116, 117, 118, 119] h h := FR.rf _ _
  refine R_aload_n (k := 0) rfl rfl rfl ?_
  refine R_iload_n (k := 1) rfl rfl rfl ?_
  have b2 : (0 : Int) ≤ (h.1 97 0).toInt ∧ (h.1 97 0).toInt ≤ 60 := hI.1 97 0
  have e3 : 0 < (h.1 97 10).toInt → 1 ≤ (h.1 97 0).toInt := hI.2.2.2.2.2.1.2.1
  refine R_callV (v := .inr (.inr (.inl 96))) (As := [.inl a0]) (rest := []) rfl mt_9_i318 pp_X9_asksSecond (by decide) rfl rfl rfl (Nat.le_of_ble_eq_true rfl) (Nat.le_of_ble_eq_true rfl) ((k_X9_asksSecond h hI a0).mono (fun r4 h5 p6 => ?_))
  obtain ⟨hJ, fj, -, x7, rfl, q8 | q8 | q8 | q8⟩ := p6
  · have f9 := fj
    have fr := fr.trans fj (by decide)
    have hI := hJ
    have s10 : (h5.1 97 10).toInt = (h.1 97 10).toInt := by rw [(f9 97 (by decide)).1]
    have s11 : (h5.1 97 0).toInt = (h.1 97 0).toInt := by rw [(f9 97 (by decide)).1]
    show RUN d_X9_road 5 [(0, .inr (.inr (.inl 96))), (1, .inl a0)] [.inl x7] h5 _
    refine N_if_eq (a := x7.toInt) 31 rfl rfl rfl (fun c12 => ?_) (fun c12 => ?_)
    · refine R_bipush (-2) rfl rfl ?_
      exact R_iret rfl rfl rfl ⟨hI, fr, trivial, _, rfl, trivial⟩
    · exfalso; omega
  · have f13 := fj
    have fr := fr.trans fj (by decide)
    have hI := hJ
    have s14 : (h5.1 97 10).toInt = (h.1 97 10).toInt := by rw [(f13 97 (by decide)).1]
    have s15 : (h5.1 97 0).toInt = (h.1 97 0).toInt := by rw [(f13 97 (by decide)).1]
    show RUN d_X9_road 5 [(0, .inr (.inr (.inl 96))), (1, .inl a0)] [.inl x7] h5 _
    refine N_if_eq (a := x7.toInt) 31 rfl rfl rfl (fun c16 => ?_) (fun c16 => ?_)
    · refine R_bipush (-2) rfl rfl ?_
      exact R_iret rfl rfl rfl ⟨hI, fr, trivial, _, rfl, trivial⟩
    · exfalso; omega
  · have f17 := fj
    have fr := fr.trans fj (by decide)
    have hI := hJ
    have s18 : (h5.1 97 10).toInt = (h.1 97 10).toInt := by rw [(f17 97 (by decide)).1]
    have s19 : (h5.1 97 0).toInt = (h.1 97 0).toInt := by rw [(f17 97 (by decide)).1]
    show RUN d_X9_road 5 [(0, .inr (.inr (.inl 96))), (1, .inl a0)] [.inl x7] h5 _
    refine N_if_eq (a := x7.toInt) 31 rfl rfl rfl (fun c20 => ?_) (fun c20 => ?_)
    · refine R_bipush (-2) rfl rfl ?_
      exact R_iret rfl rfl rfl ⟨hI, fr, trivial, _, rfl, trivial⟩
    · exfalso; omega
  · have f21 := fj
    have fr := fr.trans fj (by decide)
    have hI := hJ
    have s22 : (h5.1 97 10).toInt = (h.1 97 10).toInt := by rw [(f21 97 (by decide)).1]
    have s23 : (h5.1 97 0).toInt = (h.1 97 0).toInt := by rw [(f21 97 (by decide)).1]
    show RUN d_X9_road 5 [(0, .inr (.inr (.inl 96))), (1, .inl a0)] [.inl x7] h5 _
    refine N_if_eq (a := x7.toInt) 31 rfl rfl rfl (fun c24 => ?_) (fun c24 => ?_)
    · exfalso; omega
    · refine R_aload_n (k := 0) rfl rfl rfl ?_
      refine R_getf_i (j := 19) rfl ft_9_256 sh_96 rfl ?_
      refine R_aload_n (k := 0) rfl rfl rfl ?_
      refine R_getf_r (j := 27) rfl ft_9_61 sh_96 rfl ?_
      refine R_iload_n (k := 1) rfl rfl rfl ?_
      refine R_iald rfl sh_112 ⟨by omega, by omega⟩ ?_
      refine N_any (fun x25 => ?_)
      have b26 := i_rng (h5.1 96 19)
      have b27 := i_rng x25
      refine R_isub rfl ?_
      refine N_any (fun x28 => ?_)
      refine R_aload_n (k := 0) rfl rfl rfl ?_
      refine R_iload_n (k := 1) rfl rfl rfl ?_
      refine R_callV (v := .inr (.inr (.inl 96))) (As := [.inl a0]) (rest := [.inl x28]) rfl mt_9_i324 pp_X9_busyOf (by decide) rfl rfl rfl (Nat.le_of_ble_eq_true rfl) (Nat.le_of_ble_eq_true rfl) ((k_X9_busyOf h5 hI a0 (by omega)).mono (fun r29 h30 p31 => ?_))
      obtain ⟨rfl, x32, rfl, q33⟩ := p31
      show RUN d_X9_road 24 [(0, .inr (.inr (.inl 96))), (1, .inl a0)] [.inl x32, .inl x28] h5 _
      refine R_callS (As := [.inl x32]) (rest := [.inl x28]) rfl mt_9_i336 (by decide) pp_X9_bits (by decide) rfl rfl (Nat.le_of_ble_eq_true rfl) (Nat.le_of_ble_eq_true rfl) ((k_X9_bits h5 hI x32).mono (fun r34 h35 p36 => ?_))
      obtain ⟨rfl, x37, rfl, q38⟩ := p36
      show RUN d_X9_road 27 [(0, .inr (.inr (.inl 96))), (1, .inl a0)] [.inl x37, .inl x28] h5 _
      have b39 := i_rng x28
      have b40 := i_rng x37
      refine R_isub rfl ?_
      refine N_any (fun x41 => ?_)
      refine R_goto 33 rfl rfl ?_
      exact R_iret rfl rfl rfl ⟨hI, fr, trivial, _, rfl, trivial⟩
abbrev q_X8_left (h : PH) (a0 : Int32) : Option PV → PH → Prop := fun r h' => INV h' ∧ FR [0, 70, 71, 72, 73, 74, 75, 76, 77, 78, 79, 80, 81, 82, 83, 84, 85, 86] h h' ∧ (True) ∧ ∃ z : Int32, r = some (.inl z) ∧ ((True))
set_option maxHeartbeats 4000000 in
set_option maxRecDepth 100000 in
theorem k_X8_left (h : PH) (hI : INV h) (a0 : Int32) : CALL d_X8_left [.inr (.inr (.inl 0)), .inl a0] h (q_X8_left h a0) := by
  show RUN d_X8_left 0 [(0, .inr (.inr (.inl 0))), (1, .inl a0)] [] h _
  have b1 := i_rng a0
  have fr : FR [0, 70, 71, 72, 73, 74, 75, 76, 77, 78, 79, 80, 81, 82, 83, 84, 85, 86] h h := FR.rf _ _
  refine R_aload_n (k := 0) rfl rfl rfl ?_
  refine R_getf_r (j := 3) rfl ft_8_28 sh_0 rfl ?_
  refine R_iload_n (k := 1) rfl rfl rfl ?_
  have b2 : (0 : Int) ≤ (h.1 17 0).toInt ∧ (h.1 17 0).toInt ≤ 60 := hI.1 17 0
  refine R_callV (v := .inr (.inr (.inl 16))) (As := [.inl a0]) (rest := []) rfl mt_8_i150 pp_X1_hasSecond (by decide) rfl rfl rfl (Nat.le_of_ble_eq_true rfl) (Nat.le_of_ble_eq_true rfl) ((k_X1_hasSecond h hI a0).mono (fun r3 h4 p5 => ?_))
  obtain ⟨rfl, x6, rfl, q7 | q7 | q7⟩ := p5
  · show RUN d_X8_left 8 [(0, .inr (.inr (.inl 0))), (1, .inl a0)] [.inl x6] h _
    refine N_if_ne (a := x6.toInt) 14 rfl rfl rfl (fun c8 => ?_) (fun c8 => ?_)
    · exfalso; omega
    · refine R_bipush (-2) rfl rfl ?_
      exact R_iret rfl rfl rfl ⟨hI, fr, trivial, _, rfl, trivial⟩
  · show RUN d_X8_left 8 [(0, .inr (.inr (.inl 0))), (1, .inl a0)] [.inl x6] h _
    refine N_if_ne (a := x6.toInt) 14 rfl rfl rfl (fun c9 => ?_) (fun c9 => ?_)
    · exfalso; omega
    · refine R_bipush (-2) rfl rfl ?_
      exact R_iret rfl rfl rfl ⟨hI, fr, trivial, _, rfl, trivial⟩
  · show RUN d_X8_left 8 [(0, .inr (.inr (.inl 0))), (1, .inl a0)] [.inl x6] h _
    refine N_if_ne (a := x6.toInt) 14 rfl rfl rfl (fun c10 => ?_) (fun c10 => ?_)
    · refine R_aload_n (k := 0) rfl rfl rfl ?_
      refine R_callV (v := .inr (.inr (.inl 0))) (As := []) (rest := []) rfl mt_8_i153 pp_X8_told (by decide) rfl rfl rfl (Nat.le_of_ble_eq_true rfl) (Nat.le_of_ble_eq_true rfl) ((k_X8_told h hI).mono (fun r11 h12 p13 => ?_))
      obtain ⟨hJ, fj, -, rfl⟩ := p13
      have f14 := fj
      have fr := fr.trans fj (by decide)
      have hI := hJ
      have s15 : (h12.1 17 0).toInt = (h.1 17 0).toInt := by rw [(f14 17 (by decide)).1]
      show RUN d_X8_left 18 [(0, .inr (.inr (.inl 0))), (1, .inl a0)] [.inr (.inr (.inl 75))] h12 _
      refine R_getf_r (j := 1) rfl ft_8_157 sh_75 rfl ?_
      refine R_iload_n (k := 1) rfl rfl rfl ?_
      refine R_iald rfl sh_77 ⟨by omega, by omega⟩ ?_
      refine N_any (fun x16 => ?_)
      refine R_istore_n (k := 2) rfl [(2, .inl x16), (0, .inr (.inr (.inl 0))), (1, .inl a0)] rfl rfl (by decide) ?_
      refine R_iconst 0 rfl rfl ?_
      refine R_istore_n (k := 3) rfl [(3, .inl 0), (2, .inl x16), (0, .inr (.inr (.inl 0))), (1, .inl a0)] rfl rfl (by decide) ?_
      refine R_iconst 0 rfl rfl ?_
      refine R_istore (k := 4) [(4, .inl 0), (3, .inl 0), (2, .inl x16), (0, .inr (.inr (.inl 0))), (1, .inl a0)] rfl rfl (by decide) ?_
      have lp18 : ∀ (n17 : Nat) (x19 : Int32) (x20 : Int32), 0 ≤ x20.toInt ∧ x20.toInt ≤ 6 → (6 - x20.toInt).toNat < n17 → RUN d_X8_left 29 [(4, .inl x20), (3, .inl x19), (2, .inl x16), (0, .inr (.inr (.inl 0))), (1, .inl a0)] [] h12 (q_X8_left h a0) := by
        intro n17
        induction n17 with
        | zero => intro x19 x20 m22 hz; exact absurd hz (Nat.not_lt_zero _)
        | succ n17 ih21 =>
          intro x19 x20 m22 hz
          refine R_iload (k := 4) rfl rfl ?_
          refine R_aload_n (k := 0) rfl rfl rfl ?_
          refine R_getf_r (j := 3) rfl ft_8_28 sh_0 rfl ?_
          refine R_getf_r (j := 0) rfl ft_8_109 sh_16 rfl ?_
          refine R_iconst 5 rfl rfl ?_
          refine R_iald rfl sh_17 (by decide) ?_
          have b23 : (0 : Int) ≤ (h12.1 17 5).toInt ∧ (h12.1 17 5).toInt ≤ 6 := hI.1 17 5
          show RUN d_X8_left 40 [(4, .inl x20), (3, .inl x19), (2, .inl x16), (0, .inr (.inr (.inl 0))), (1, .inl a0)] [.inl (h12.1 17 5), .inl x20] h12 _
          refine N_icmp_ge (a := x20.toInt) (b := (h12.1 17 5).toInt) 72 rfl rfl rfl rfl (fun c24 => ?_) (fun c24 => ?_)
          · refine R_iload_n (k := 3) rfl rfl rfl ?_
            exact R_iret rfl rfl rfl ⟨hI, fr, trivial, _, rfl, trivial⟩
          · refine R_iload_n (k := 2) rfl rfl rfl ?_
            refine N_i2l rfl (fun w25 q26 => ?_)
            refine R_iload (k := 4) rfl rfl ?_
            refine R_callS (As := [.inr (.inl w25), .inl x20]) (rest := []) rfl mt_8_i160 (by decide) pp_X8_hasBit (by decide) rfl rfl (Nat.le_of_ble_eq_true rfl) (Nat.le_of_ble_eq_true rfl) ((k_X8_hasBit h12 hI w25 x20).mono (fun r27 h28 p29 => ?_))
            obtain ⟨rfl, x30, rfl, q31 | q31⟩ := p29
            · show RUN d_X8_left 50 [(4, .inl x20), (3, .inl x19), (2, .inl x16), (0, .inr (.inr (.inl 0))), (1, .inl a0)] [.inl x30] h12 _
              refine N_if_eq (a := x30.toInt) 66 rfl rfl rfl (fun c32 => ?_) (fun c32 => ?_)
              · refine N_iinc (a := x20.toInt) (c := 1) (fun w => [(4, .inl w), (3, .inl x19), (2, .inl x16), (0, .inr (.inr (.inl 0))), (1, .inl a0)]) rfl rfl (fun _ => rfl) (by decide) rfl (by decide) (by omega) (fun x33 q34 => ?_)
                refine R_goto 29 rfl rfl ?_
                exact RUN_weak (psub_cons rfl (psub_cons rfl (psub_cons rfl (psub_cons rfl (psub_cons rfl (psub_nil _)))))) (ih21 x19 x33 (by omega) (by omega))
              · exfalso; omega
            · show RUN d_X8_left 50 [(4, .inl x20), (3, .inl x19), (2, .inl x16), (0, .inr (.inr (.inl 0))), (1, .inl a0)] [.inl x30] h12 _
              refine N_if_eq (a := x30.toInt) 66 rfl rfl rfl (fun c35 => ?_) (fun c35 => ?_)
              · exfalso; omega
              · refine R_iload_n (k := 3) rfl rfl rfl ?_
                refine R_aload_n (k := 0) rfl rfl rfl ?_
                refine R_getf_r (j := 8) rfl ft_8_56 sh_0 rfl ?_
                refine R_getf_r (j := 10) rfl ft_8_164 sh_75 rfl ?_
                refine R_iload (k := 4) rfl rfl ?_
                refine R_iald rfl sh_86 ⟨by omega, by omega⟩ ?_
                refine N_any (fun x36 => ?_)
                have b37 := i_rng x19
                have b38 := i_rng x36
                refine R_iadd rfl ?_
                refine N_any (fun x39 => ?_)
                refine R_istore_n (k := 3) rfl [(3, .inl x39), (4, .inl x20), (2, .inl x16), (0, .inr (.inr (.inl 0))), (1, .inl a0)] rfl rfl (by decide) ?_
                refine N_iinc (a := x20.toInt) (c := 1) (fun w => [(4, .inl w), (3, .inl x39), (2, .inl x16), (0, .inr (.inr (.inl 0))), (1, .inl a0)]) rfl rfl (fun _ => rfl) (by decide) rfl (by decide) (by omega) (fun x40 q41 => ?_)
                refine R_goto 29 rfl rfl ?_
                exact RUN_weak (psub_cons rfl (psub_cons rfl (psub_cons rfl (psub_cons rfl (psub_cons rfl (psub_nil _)))))) (ih21 x39 x40 (by omega) (by omega))
      exact lp18 _ (0 : Int32) (0 : Int32) (by decide) (Nat.lt_succ_self _)
    · exfalso; omega
abbrev q_X9_left (h : PH) (a0 : Int32) : Option PV → PH → Prop := fun r h' => INV h' ∧ FR [96, 103, 104, 105, 106, 107, 108, 109, 110, 111, 112, 113, 114, 115, 116, 117, 118, 119] h h' ∧ (True) ∧ ∃ z : Int32, r = some (.inl z) ∧ ((True))
set_option maxHeartbeats 4000000 in
set_option maxRecDepth 100000 in
theorem k_X9_left (h : PH) (hI : INV h) (a0 : Int32) : CALL d_X9_left [.inr (.inr (.inl 96)), .inl a0] h (q_X9_left h a0) := by
  show RUN d_X9_left 0 [(0, .inr (.inr (.inl 96))), (1, .inl a0)] [] h _
  have b1 := i_rng a0
  have fr : FR [96, 103, 104, 105, 106, 107, 108, 109, 110, 111, 112, 113, 114, 115, 116, 117, 118, 119] h h := FR.rf _ _
  refine R_aload_n (k := 0) rfl rfl rfl ?_
  refine R_iload_n (k := 1) rfl rfl rfl ?_
  have b2 : (0 : Int) ≤ (h.1 97 0).toInt ∧ (h.1 97 0).toInt ≤ 60 := hI.1 97 0
  have e3 : 0 < (h.1 97 10).toInt → 1 ≤ (h.1 97 0).toInt := hI.2.2.2.2.2.1.2.1
  refine R_callV (v := .inr (.inr (.inl 96))) (As := [.inl a0]) (rest := []) rfl mt_9_i318 pp_X9_asksSecond (by decide) rfl rfl rfl (Nat.le_of_ble_eq_true rfl) (Nat.le_of_ble_eq_true rfl) ((k_X9_asksSecond h hI a0).mono (fun r4 h5 p6 => ?_))
  obtain ⟨hJ, fj, -, x7, rfl, q8 | q8 | q8 | q8⟩ := p6
  · have f9 := fj
    have fr := fr.trans fj (by decide)
    have hI := hJ
    have s10 : (h5.1 97 10).toInt = (h.1 97 10).toInt := by rw [(f9 97 (by decide)).1]
    have s11 : (h5.1 97 0).toInt = (h.1 97 0).toInt := by rw [(f9 97 (by decide)).1]
    show RUN d_X9_left 5 [(0, .inr (.inr (.inl 96))), (1, .inl a0)] [.inl x7] h5 _
    refine N_if_ne (a := x7.toInt) 11 rfl rfl rfl (fun c12 => ?_) (fun c12 => ?_)
    · exfalso; omega
    · refine R_bipush (-2) rfl rfl ?_
      exact R_iret rfl rfl rfl ⟨hI, fr, trivial, _, rfl, trivial⟩
  · have f13 := fj
    have fr := fr.trans fj (by decide)
    have hI := hJ
    have s14 : (h5.1 97 10).toInt = (h.1 97 10).toInt := by rw [(f13 97 (by decide)).1]
    have s15 : (h5.1 97 0).toInt = (h.1 97 0).toInt := by rw [(f13 97 (by decide)).1]
    show RUN d_X9_left 5 [(0, .inr (.inr (.inl 96))), (1, .inl a0)] [.inl x7] h5 _
    refine N_if_ne (a := x7.toInt) 11 rfl rfl rfl (fun c16 => ?_) (fun c16 => ?_)
    · exfalso; omega
    · refine R_bipush (-2) rfl rfl ?_
      exact R_iret rfl rfl rfl ⟨hI, fr, trivial, _, rfl, trivial⟩
  · have f17 := fj
    have fr := fr.trans fj (by decide)
    have hI := hJ
    have s18 : (h5.1 97 10).toInt = (h.1 97 10).toInt := by rw [(f17 97 (by decide)).1]
    have s19 : (h5.1 97 0).toInt = (h.1 97 0).toInt := by rw [(f17 97 (by decide)).1]
    show RUN d_X9_left 5 [(0, .inr (.inr (.inl 96))), (1, .inl a0)] [.inl x7] h5 _
    refine N_if_ne (a := x7.toInt) 11 rfl rfl rfl (fun c20 => ?_) (fun c20 => ?_)
    · exfalso; omega
    · refine R_bipush (-2) rfl rfl ?_
      exact R_iret rfl rfl rfl ⟨hI, fr, trivial, _, rfl, trivial⟩
  · have f21 := fj
    have fr := fr.trans fj (by decide)
    have hI := hJ
    have s22 : (h5.1 97 10).toInt = (h.1 97 10).toInt := by rw [(f21 97 (by decide)).1]
    have s23 : (h5.1 97 0).toInt = (h.1 97 0).toInt := by rw [(f21 97 (by decide)).1]
    show RUN d_X9_left 5 [(0, .inr (.inr (.inl 96))), (1, .inl a0)] [.inl x7] h5 _
    refine N_if_ne (a := x7.toInt) 11 rfl rfl rfl (fun c24 => ?_) (fun c24 => ?_)
    · refine R_iconst 0 rfl rfl ?_
      refine R_istore_n (k := 2) rfl [(2, .inl 0), (0, .inr (.inr (.inl 96))), (1, .inl a0)] rfl rfl (by decide) ?_
      refine R_iconst 0 rfl rfl ?_
      refine R_istore_n (k := 3) rfl [(3, .inl 0), (2, .inl 0), (0, .inr (.inr (.inl 96))), (1, .inl a0)] rfl rfl (by decide) ?_
      have lp26 : ∀ (n25 : Nat) (x27 : Int32) (x28 : Int32), 0 ≤ x28.toInt ∧ x28.toInt ≤ 6 → (6 - x28.toInt).toNat < n25 → RUN d_X9_left 15 [(3, .inl x28), (2, .inl x27), (0, .inr (.inr (.inl 96))), (1, .inl a0)] [] h5 (q_X9_left h a0) := by
        intro n25
        induction n25 with
        | zero => intro x27 x28 m30 hz; exact absurd hz (Nat.not_lt_zero _)
        | succ n25 ih29 =>
          intro x27 x28 m30 hz
          refine R_iload_n (k := 3) rfl rfl rfl ?_
          refine R_aload_n (k := 0) rfl rfl rfl ?_
          have b31 : (0 : Int) ≤ (h5.1 97 5).toInt ∧ (h5.1 97 5).toInt ≤ 6 := hI.1 97 5
          have e32 : 0 < (h5.1 97 5).toInt → 1 ≤ (h5.1 97 0).toInt := hI.2.2.2.2.2.1.2.2
          refine R_callV (v := .inr (.inr (.inl 96))) (As := []) (rest := [.inl x28]) rfl mt_9_i133 pp_X9_hands (by decide) rfl rfl rfl (Nat.le_of_ble_eq_true rfl) (Nat.le_of_ble_eq_true rfl) ((k_X9_hands h5 hI).mono (fun r33 h34 p35 => ?_))
          obtain ⟨rfl, x36, rfl, q37⟩ := p35
          show RUN d_X9_left 20 [(3, .inl x28), (2, .inl x27), (0, .inr (.inr (.inl 96))), (1, .inl a0)] [.inl x36, .inl x28] h5 _
          refine N_icmp_ge (a := x28.toInt) (b := x36.toInt) 43 rfl rfl rfl rfl (fun c38 => ?_) (fun c38 => ?_)
          · refine R_iload_n (k := 2) rfl rfl rfl ?_
            exact R_iret rfl rfl rfl ⟨hI, fr, trivial, _, rfl, trivial⟩
          · refine R_iload_n (k := 2) rfl rfl rfl ?_
            refine R_aload_n (k := 0) rfl rfl rfl ?_
            refine R_getf_r (j := 26) rfl ft_9_58 sh_96 rfl ?_
            refine R_bipush 6 rfl rfl ?_
            refine R_iload_n (k := 1) rfl rfl rfl ?_
            refine N_imul (a := 6) (b := a0.toInt) rfl (by decide) rfl (by omega) (fun x39 q40 => ?_)
            refine R_iload_n (k := 3) rfl rfl rfl ?_
            refine N_iadd (a := x39.toInt) (b := x28.toInt) rfl rfl rfl (by omega) (fun x41 q42 => ?_)
            refine R_iald rfl sh_111 ⟨by omega, by omega⟩ ?_
            refine N_any (fun x43 => ?_)
            have b44 := i_rng x27
            have b45 := i_rng x43
            refine R_iadd rfl ?_
            refine N_any (fun x46 => ?_)
            refine R_istore_n (k := 2) rfl [(2, .inl x46), (3, .inl x28), (0, .inr (.inr (.inl 96))), (1, .inl a0)] rfl rfl (by decide) ?_
            refine N_iinc (a := x28.toInt) (c := 1) (fun w => [(3, .inl w), (2, .inl x46), (0, .inr (.inr (.inl 96))), (1, .inl a0)]) rfl rfl (fun _ => rfl) (by decide) rfl (by decide) (by omega) (fun x47 q48 => ?_)
            refine R_goto 15 rfl rfl ?_
            exact RUN_weak (psub_cons rfl (psub_cons rfl (psub_cons rfl (psub_cons rfl (psub_nil _))))) (ih29 x46 x47 (by omega) (by omega))
      exact lp26 _ (0 : Int32) (0 : Int32) (by decide) (Nat.lt_succ_self _)
    · exfalso; omega
abbrev q_X8_full (h : PH)  : Option PV → PH → Prop := fun r h' => INV h' ∧ FR [0, 70, 71, 72, 73, 74, 75, 76, 77, 78, 79, 80, 81, 82, 83, 84, 85, 86] h h' ∧ (True) ∧ ∃ z : Int32, r = some (.inl z) ∧ (((-2) ≤ z.toInt ∧ z.toInt ≤ 63))
set_option maxHeartbeats 4000000 in
set_option maxRecDepth 100000 in
theorem k_X8_full (h : PH) (hI : INV h)  : CALL d_X8_full [.inr (.inr (.inl 0))] h (q_X8_full h) := by
  show RUN d_X8_full 0 [(0, .inr (.inr (.inl 0)))] [] h _
  have fr : FR [0, 70, 71, 72, 73, 74, 75, 76, 77, 78, 79, 80, 81, 82, 83, 84, 85, 86] h h := FR.rf _ _
  refine R_aload_n (k := 0) rfl rfl rfl ?_
  refine R_getf_r (j := 3) rfl ft_8_28 sh_0 rfl ?_
  have b1 : (0 : Int) ≤ (h.1 17 0).toInt ∧ (h.1 17 0).toInt ≤ 60 := hI.1 17 0
  have e2 : 0 < (h.1 17 10).toInt → 1 ≤ (h.1 17 0).toInt := hI.2.1
  refine R_callV (v := .inr (.inr (.inl 16))) (As := []) (rest := []) rfl mt_8_i146 pp_X1_stands (by decide) rfl rfl rfl (Nat.le_of_ble_eq_true rfl) (Nat.le_of_ble_eq_true rfl) ((k_X1_stands h hI).mono (fun r3 h4 p5 => ?_))
  obtain ⟨rfl, x6, rfl, q7 | q7⟩ := p5
  · show RUN d_X8_full 7 [(0, .inr (.inr (.inl 0)))] [.inl x6] h _
    refine N_if_eq (a := x6.toInt) 17 rfl rfl rfl (fun c8 => ?_) (fun c8 => ?_)
    · refine R_bipush (-2) rfl rfl ?_
      exact R_iret rfl rfl rfl ⟨hI, fr, trivial, _, rfl, by rw [show ((-2) : Int32).toInt = (-2) from rfl] <;> omega⟩
    · exfalso; omega
  · show RUN d_X8_full 7 [(0, .inr (.inr (.inl 0)))] [.inl x6] h _
    refine N_if_eq (a := x6.toInt) 17 rfl rfl rfl (fun c9 => ?_) (fun c9 => ?_)
    · exfalso; omega
    · refine R_aload_n (k := 0) rfl rfl rfl ?_
      refine R_callV (v := .inr (.inr (.inl 0))) (As := []) (rest := []) rfl mt_8_i228 pp_X8_mostBusy (by decide) rfl rfl rfl (Nat.le_of_ble_eq_true rfl) (Nat.le_of_ble_eq_true rfl) ((k_X8_mostBusy h hI).mono (fun r10 h11 p12 => ?_))
      obtain ⟨hJ, fj, -, x13, rfl, q14⟩ := p12
      have f15 := fj
      have fr := fr.trans fj (by decide)
      have hI := hJ
      have s16 : (h11.1 17 10).toInt = (h.1 17 10).toInt := by rw [(f15 17 (by decide)).1]
      have s17 : (h11.1 17 0).toInt = (h.1 17 0).toInt := by rw [(f15 17 (by decide)).1]
      show RUN d_X8_full 14 [(0, .inr (.inr (.inl 0)))] [.inl x13] h11 _
      refine R_goto 19 rfl rfl ?_
      exact R_iret rfl rfl rfl ⟨hI, fr, trivial, _, rfl, by omega⟩
abbrev q_X9_full (h : PH)  : Option PV → PH → Prop := fun r h' => INV h' ∧ FR [96, 103, 104, 105, 106, 107, 108, 109, 110, 111, 112, 113, 114, 115, 116, 117, 118, 119] h h' ∧ (True) ∧ ∃ z : Int32, r = some (.inl z) ∧ (((-2) ≤ z.toInt ∧ z.toInt ≤ 2147483647))
set_option maxHeartbeats 4000000 in
set_option maxRecDepth 100000 in
theorem k_X9_full (h : PH) (hI : INV h)  : CALL d_X9_full [.inr (.inr (.inl 96))] h (q_X9_full h) := by
  show RUN d_X9_full 0 [(0, .inr (.inr (.inl 96)))] [] h _
  have fr : FR [96, 103, 104, 105, 106, 107, 108, 109, 110, 111, 112, 113, 114, 115, 116, 117, 118, 119] h h := FR.rf _ _
  refine R_aload_n (k := 0) rfl rfl rfl ?_
  have b1 : (0 : Int) ≤ (h.1 97 0).toInt ∧ (h.1 97 0).toInt ≤ 60 := hI.1 97 0
  have e2 : 0 < (h.1 97 10).toInt → 1 ≤ (h.1 97 0).toInt := hI.2.2.2.2.2.1.2.1
  refine R_callV (v := .inr (.inr (.inl 96))) (As := []) (rest := []) rfl mt_9_i307 pp_X9_asksBrigade (by decide) rfl rfl rfl (Nat.le_of_ble_eq_true rfl) (Nat.le_of_ble_eq_true rfl) ((k_X9_asksBrigade h hI).mono (fun r3 h4 p5 => ?_))
  obtain ⟨hJ, fj, -, x6, rfl, q7 | q7⟩ := p5
  · have f8 := fj
    have fr := fr.trans fj (by decide)
    have hI := hJ
    have s9 : (h4.1 97 10).toInt = (h.1 97 10).toInt := by rw [(f8 97 (by decide)).1]
    have s10 : (h4.1 97 0).toInt = (h.1 97 0).toInt := by rw [(f8 97 (by decide)).1]
    show RUN d_X9_full 4 [(0, .inr (.inr (.inl 96)))] [.inl x6] h4 _
    refine N_if_eq (a := x6.toInt) 14 rfl rfl rfl (fun c11 => ?_) (fun c11 => ?_)
    · refine R_bipush (-2) rfl rfl ?_
      exact R_iret rfl rfl rfl ⟨hI, fr, trivial, _, rfl, by rw [show ((-2) : Int32).toInt = (-2) from rfl] <;> omega⟩
    · exfalso; omega
  · have f12 := fj
    have fr := fr.trans fj (by decide)
    have hI := hJ
    have s13 : (h4.1 97 10).toInt = (h.1 97 10).toInt := by rw [(f12 97 (by decide)).1]
    have s14 : (h4.1 97 0).toInt = (h.1 97 0).toInt := by rw [(f12 97 (by decide)).1]
    show RUN d_X9_full 4 [(0, .inr (.inr (.inl 96)))] [.inl x6] h4 _
    refine N_if_eq (a := x6.toInt) 14 rfl rfl rfl (fun c15 => ?_) (fun c15 => ?_)
    · exfalso; omega
    · refine R_aload_n (k := 0) rfl rfl rfl ?_
      refine R_callV (v := .inr (.inr (.inl 96))) (As := []) (rest := []) rfl mt_9_i342 pp_X9_fullOf (by decide) rfl rfl rfl (Nat.le_of_ble_eq_true rfl) (Nat.le_of_ble_eq_true rfl) ((k_X9_fullOf h4 hI).mono (fun r16 h17 p18 => ?_))
      obtain ⟨rfl, x19, rfl, q20⟩ := p18
      show RUN d_X9_full 11 [(0, .inr (.inr (.inl 96)))] [.inl x19] h4 _
      refine R_goto 16 rfl rfl ?_
      have b21 := i_rng x19
      exact R_iret rfl rfl rfl ⟨hI, fr, trivial, _, rfl, by omega⟩
abbrev q_X8_starts (h : PH) (a0 : Int32) : Option PV → PH → Prop := fun r h' => INV h' ∧ FR [0, 70, 71, 72, 73, 74, 75, 76, 77, 78, 79, 80, 81, 82, 83, 84, 85, 86] h h' ∧ (True) ∧ ∃ z : Int32, r = some (.inl z) ∧ (((-2) ≤ z.toInt ∧ z.toInt ≤ 59))
set_option maxHeartbeats 4000000 in
set_option maxRecDepth 100000 in
theorem k_X8_starts (h : PH) (hI : INV h) (a0 : Int32) : CALL d_X8_starts [.inr (.inr (.inl 0)), .inl a0] h (q_X8_starts h a0) := by
  show RUN d_X8_starts 0 [(0, .inr (.inr (.inl 0))), (1, .inl a0)] [] h _
  have b1 := i_rng a0
  have fr : FR [0, 70, 71, 72, 73, 74, 75, 76, 77, 78, 79, 80, 81, 82, 83, 84, 85, 86] h h := FR.rf _ _
  refine R_aload_n (k := 0) rfl rfl rfl ?_
  refine R_getf_r (j := 3) rfl ft_8_28 sh_0 rfl ?_
  refine R_iload_n (k := 1) rfl rfl rfl ?_
  have b2 : (0 : Int) ≤ (h.1 17 5).toInt ∧ (h.1 17 5).toInt ≤ 6 := hI.1 17 5
  refine R_callV (v := .inr (.inr (.inl 16))) (As := [.inl a0]) (rest := []) rfl mt_8_i119 pp_X1_hasHand (by decide) rfl rfl rfl (Nat.le_of_ble_eq_true rfl) (Nat.le_of_ble_eq_true rfl) ((k_X1_hasHand h hI a0).mono (fun r3 h4 p5 => ?_))
  obtain ⟨rfl, x6, rfl, q7 | q7 | q7⟩ := p5
  · show RUN d_X8_starts 8 [(0, .inr (.inr (.inl 0))), (1, .inl a0)] [.inl x6] h _
    refine N_if_ne (a := x6.toInt) 14 rfl rfl rfl (fun c8 => ?_) (fun c8 => ?_)
    · exfalso; omega
    · refine R_bipush (-2) rfl rfl ?_
      exact R_iret rfl rfl rfl ⟨hI, fr, trivial, _, rfl, by rw [show ((-2) : Int32).toInt = (-2) from rfl] <;> omega⟩
  · show RUN d_X8_starts 8 [(0, .inr (.inr (.inl 0))), (1, .inl a0)] [.inl x6] h _
    refine N_if_ne (a := x6.toInt) 14 rfl rfl rfl (fun c9 => ?_) (fun c9 => ?_)
    · exfalso; omega
    · refine R_bipush (-2) rfl rfl ?_
      exact R_iret rfl rfl rfl ⟨hI, fr, trivial, _, rfl, by rw [show ((-2) : Int32).toInt = (-2) from rfl] <;> omega⟩
  · show RUN d_X8_starts 8 [(0, .inr (.inr (.inl 0))), (1, .inl a0)] [.inl x6] h _
    refine N_if_ne (a := x6.toInt) 14 rfl rfl rfl (fun c10 => ?_) (fun c10 => ?_)
    · refine R_aload_n (k := 0) rfl rfl rfl ?_
      refine R_callV (v := .inr (.inr (.inl 0))) (As := []) (rest := []) rfl mt_8_i153 pp_X8_told (by decide) rfl rfl rfl (Nat.le_of_ble_eq_true rfl) (Nat.le_of_ble_eq_true rfl) ((k_X8_told h hI).mono (fun r11 h12 p13 => ?_))
      obtain ⟨hJ, fj, -, rfl⟩ := p13
      have f14 := fj
      have fr := fr.trans fj (by decide)
      have hI := hJ
      have s15 : (h12.1 17 5).toInt = (h.1 17 5).toInt := by rw [(f14 17 (by decide)).1]
      show RUN d_X8_starts 18 [(0, .inr (.inr (.inl 0))), (1, .inl a0)] [.inr (.inr (.inl 75))] h12 _
      refine R_getf_r (j := 1) rfl ft_8_157 sh_75 rfl ?_
      refine R_astore_n (k := 2) rfl [(2, .inr (.inr (.inl 77))), (0, .inr (.inr (.inl 0))), (1, .inl a0)] rfl rfl (by decide) ?_
      refine R_iconst 0 rfl rfl ?_
      refine R_istore_n (k := 3) rfl [(3, .inl 0), (2, .inr (.inr (.inl 77))), (0, .inr (.inr (.inl 0))), (1, .inl a0)] rfl rfl (by decide) ?_
      have lp17 : ∀ (n16 : Nat) (x18 : Int32), 0 ≤ x18.toInt ∧ x18.toInt ≤ 60 → (60 - x18.toInt).toNat < n16 → RUN d_X8_starts 24 [(3, .inl x18), (2, .inr (.inr (.inl 77))), (0, .inr (.inr (.inl 0))), (1, .inl a0)] [] h12 (q_X8_starts h a0) := by
        intro n16
        induction n16 with
        | zero => intro x18 m20 hz; exact absurd hz (Nat.not_lt_zero _)
        | succ n16 ih19 =>
          intro x18 m20 hz
          refine R_iload_n (k := 3) rfl rfl rfl ?_
          refine R_aload_n (k := 0) rfl rfl rfl ?_
          refine R_getf_r (j := 3) rfl ft_8_28 sh_0 rfl ?_
          refine R_getf_r (j := 0) rfl ft_8_109 sh_16 rfl ?_
          refine R_iconst 0 rfl rfl ?_
          refine R_iald rfl sh_17 (by decide) ?_
          have b21 : (0 : Int) ≤ (h12.1 17 0).toInt ∧ (h12.1 17 0).toInt ≤ 60 := hI.1 17 0
          show RUN d_X8_starts 34 [(3, .inl x18), (2, .inr (.inr (.inl 77))), (0, .inr (.inr (.inl 0))), (1, .inl a0)] [.inl (h12.1 17 0), .inl x18] h12 _
          refine N_icmp_ge (a := x18.toInt) (b := (h12.1 17 0).toInt) 56 rfl rfl rfl rfl (fun c22 => ?_) (fun c22 => ?_)
          · refine R_iconst (-1) rfl rfl ?_
            exact R_iret rfl rfl rfl ⟨hI, fr, trivial, _, rfl, by rw [show ((-1) : Int32).toInt = (-1) from rfl] <;> omega⟩
          · refine R_aload_n (k := 2) rfl rfl rfl ?_
            refine R_iload_n (k := 3) rfl rfl rfl ?_
            refine R_iald rfl sh_77 ⟨by omega, by omega⟩ ?_
            refine N_any (fun x23 => ?_)
            refine N_i2l rfl (fun w24 q25 => ?_)
            refine R_iload_n (k := 1) rfl rfl rfl ?_
            refine R_callS (As := [.inr (.inl w24), .inl a0]) (rest := []) rfl mt_8_i160 (by decide) pp_X8_hasBit (by decide) rfl rfl (Nat.le_of_ble_eq_true rfl) (Nat.le_of_ble_eq_true rfl) ((k_X8_hasBit h12 hI w24 a0).mono (fun r26 h27 p28 => ?_))
            obtain ⟨rfl, x29, rfl, q30 | q30⟩ := p28
            · show RUN d_X8_starts 45 [(3, .inl x18), (2, .inr (.inr (.inl 77))), (0, .inr (.inr (.inl 0))), (1, .inl a0)] [.inl x29] h12 _
              refine N_if_eq (a := x29.toInt) 50 rfl rfl rfl (fun c31 => ?_) (fun c31 => ?_)
              · refine N_iinc (a := x18.toInt) (c := 1) (fun w => [(3, .inl w), (2, .inr (.inr (.inl 77))), (0, .inr (.inr (.inl 0))), (1, .inl a0)]) rfl rfl (fun _ => rfl) (by decide) rfl (by decide) (by omega) (fun x32 q33 => ?_)
                refine R_goto 24 rfl rfl ?_
                exact RUN_weak (psub_cons rfl (psub_cons rfl (psub_cons rfl (psub_cons rfl (psub_nil _))))) (ih19 x32 (by omega) (by omega))
              · exfalso; omega
            · show RUN d_X8_starts 45 [(3, .inl x18), (2, .inr (.inr (.inl 77))), (0, .inr (.inr (.inl 0))), (1, .inl a0)] [.inl x29] h12 _
              refine N_if_eq (a := x29.toInt) 50 rfl rfl rfl (fun c34 => ?_) (fun c34 => ?_)
              · exfalso; omega
              · refine R_iload_n (k := 3) rfl rfl rfl ?_
                exact R_iret rfl rfl rfl ⟨hI, fr, trivial, _, rfl, by omega⟩
      exact lp17 _ (0 : Int32) (by decide) (Nat.lt_succ_self _)
    · exfalso; omega
abbrev q_X9_starts (h : PH) (a0 : Int32) : Option PV → PH → Prop := fun r h' => INV h' ∧ FR [96, 103, 104, 105, 106, 107, 108, 109, 110, 111, 112, 113, 114, 115, 116, 117, 118, 119] h h' ∧ (True) ∧ ∃ z : Int32, r = some (.inl z) ∧ (((-2) ≤ z.toInt ∧ z.toInt ≤ 59))
set_option maxHeartbeats 4000000 in
set_option maxRecDepth 100000 in
theorem k_X9_starts (h : PH) (hI : INV h) (a0 : Int32) : CALL d_X9_starts [.inr (.inr (.inl 96)), .inl a0] h (q_X9_starts h a0) := by
  show RUN d_X9_starts 0 [(0, .inr (.inr (.inl 96))), (1, .inl a0)] [] h _
  have b1 := i_rng a0
  have fr : FR [96, 103, 104, 105, 106, 107, 108, 109, 110, 111, 112, 113, 114, 115, 116, 117, 118, 119] h h := FR.rf _ _
  refine R_aload_n (k := 0) rfl rfl rfl ?_
  refine R_iload_n (k := 1) rfl rfl rfl ?_
  have b2 : (0 : Int) ≤ (h.1 97 0).toInt ∧ (h.1 97 0).toInt ≤ 60 := hI.1 97 0
  have e3 : 0 < (h.1 97 10).toInt → 1 ≤ (h.1 97 0).toInt := hI.2.2.2.2.2.1.2.1
  have b4 : (0 : Int) ≤ (h.1 97 5).toInt ∧ (h.1 97 5).toInt ≤ 6 := hI.1 97 5
  have e5 : 0 < (h.1 97 5).toInt → 1 ≤ (h.1 97 0).toInt := hI.2.2.2.2.2.1.2.2
  refine R_callV (v := .inr (.inr (.inl 96))) (As := [.inl a0]) (rest := []) rfl mt_9_i327 pp_X9_asksHand (by decide) rfl rfl rfl (Nat.le_of_ble_eq_true rfl) (Nat.le_of_ble_eq_true rfl) ((k_X9_asksHand h hI a0).mono (fun r6 h7 p8 => ?_))
  obtain ⟨hJ, fj, -, x9, rfl, q10 | q10 | q10 | q10⟩ := p8
  · have f11 := fj
    have fr := fr.trans fj (by decide)
    have hI := hJ
    have s12 : (h7.1 97 10).toInt = (h.1 97 10).toInt := by rw [(f11 97 (by decide)).1]
    have s13 : (h7.1 97 0).toInt = (h.1 97 0).toInt := by rw [(f11 97 (by decide)).1]
    have s14 : (h7.1 97 5).toInt = (h.1 97 5).toInt := by rw [(f11 97 (by decide)).1]
    show RUN d_X9_starts 5 [(0, .inr (.inr (.inl 96))), (1, .inl a0)] [.inl x9] h7 _
    refine N_if_ne (a := x9.toInt) 11 rfl rfl rfl (fun c15 => ?_) (fun c15 => ?_)
    · exfalso; omega
    · refine R_bipush (-2) rfl rfl ?_
      exact R_iret rfl rfl rfl ⟨hI, fr, trivial, _, rfl, by rw [show ((-2) : Int32).toInt = (-2) from rfl] <;> omega⟩
  · have f16 := fj
    have fr := fr.trans fj (by decide)
    have hI := hJ
    have s17 : (h7.1 97 10).toInt = (h.1 97 10).toInt := by rw [(f16 97 (by decide)).1]
    have s18 : (h7.1 97 0).toInt = (h.1 97 0).toInt := by rw [(f16 97 (by decide)).1]
    have s19 : (h7.1 97 5).toInt = (h.1 97 5).toInt := by rw [(f16 97 (by decide)).1]
    show RUN d_X9_starts 5 [(0, .inr (.inr (.inl 96))), (1, .inl a0)] [.inl x9] h7 _
    refine N_if_ne (a := x9.toInt) 11 rfl rfl rfl (fun c20 => ?_) (fun c20 => ?_)
    · exfalso; omega
    · refine R_bipush (-2) rfl rfl ?_
      exact R_iret rfl rfl rfl ⟨hI, fr, trivial, _, rfl, by rw [show ((-2) : Int32).toInt = (-2) from rfl] <;> omega⟩
  · have f21 := fj
    have fr := fr.trans fj (by decide)
    have hI := hJ
    have s22 : (h7.1 97 10).toInt = (h.1 97 10).toInt := by rw [(f21 97 (by decide)).1]
    have s23 : (h7.1 97 0).toInt = (h.1 97 0).toInt := by rw [(f21 97 (by decide)).1]
    have s24 : (h7.1 97 5).toInt = (h.1 97 5).toInt := by rw [(f21 97 (by decide)).1]
    show RUN d_X9_starts 5 [(0, .inr (.inr (.inl 96))), (1, .inl a0)] [.inl x9] h7 _
    refine N_if_ne (a := x9.toInt) 11 rfl rfl rfl (fun c25 => ?_) (fun c25 => ?_)
    · exfalso; omega
    · refine R_bipush (-2) rfl rfl ?_
      exact R_iret rfl rfl rfl ⟨hI, fr, trivial, _, rfl, by rw [show ((-2) : Int32).toInt = (-2) from rfl] <;> omega⟩
  · have f26 := fj
    have fr := fr.trans fj (by decide)
    have hI := hJ
    have s27 : (h7.1 97 10).toInt = (h.1 97 10).toInt := by rw [(f26 97 (by decide)).1]
    have s28 : (h7.1 97 0).toInt = (h.1 97 0).toInt := by rw [(f26 97 (by decide)).1]
    have s29 : (h7.1 97 5).toInt = (h.1 97 5).toInt := by rw [(f26 97 (by decide)).1]
    show RUN d_X9_starts 5 [(0, .inr (.inr (.inl 96))), (1, .inl a0)] [.inl x9] h7 _
    refine N_if_ne (a := x9.toInt) 11 rfl rfl rfl (fun c30 => ?_) (fun c30 => ?_)
    · refine R_iconst 0 rfl rfl ?_
      refine R_istore_n (k := 2) rfl [(2, .inl 0), (0, .inr (.inr (.inl 96))), (1, .inl a0)] rfl rfl (by decide) ?_
      have lp32 : ∀ (n31 : Nat) (x33 : Int32), 0 ≤ x33.toInt ∧ x33.toInt ≤ 60 → (60 - x33.toInt).toNat < n31 → RUN d_X9_starts 13 [(2, .inl x33), (0, .inr (.inr (.inl 96))), (1, .inl a0)] [] h7 (q_X9_starts h a0) := by
        intro n31
        induction n31 with
        | zero => intro x33 m35 hz; exact absurd hz (Nat.not_lt_zero _)
        | succ n31 ih34 =>
          intro x33 m35 hz
          refine R_iload_n (k := 2) rfl rfl rfl ?_
          refine R_aload_n (k := 0) rfl rfl rfl ?_
          refine R_callV (v := .inr (.inr (.inl 96))) (As := []) (rest := [.inl x33]) rfl mt_9_i129 pp_X9_last (by decide) rfl rfl rfl (Nat.le_of_ble_eq_true rfl) (Nat.le_of_ble_eq_true rfl) ((k_X9_last h7 hI).mono (fun r36 h37 p38 => ?_))
          obtain ⟨rfl, x39, rfl, q40⟩ := p38
          show RUN d_X9_starts 18 [(2, .inl x33), (0, .inr (.inr (.inl 96))), (1, .inl a0)] [.inl x39, .inl x33] h7 _
          refine N_icmp_gt (a := x33.toInt) (b := x39.toInt) 39 rfl rfl rfl rfl (fun c41 => ?_) (fun c41 => ?_)
          · refine R_iconst (-1) rfl rfl ?_
            exact R_iret rfl rfl rfl ⟨hI, fr, trivial, _, rfl, by rw [show ((-1) : Int32).toInt = (-1) from rfl] <;> omega⟩
          · refine R_aload_n (k := 0) rfl rfl rfl ?_
            refine R_iload_n (k := 1) rfl rfl rfl ?_
            refine R_iload_n (k := 2) rfl rfl rfl ?_
            refine R_callV (v := .inr (.inr (.inl 96))) (As := [.inl a0, .inl x33]) (rest := []) rfl mt_9_i321 pp_X9_heldOf (by decide) rfl rfl rfl (Nat.le_of_ble_eq_true rfl) (Nat.le_of_ble_eq_true rfl) ((k_X9_heldOf h7 hI a0 x33 (by omega) (by omega)).mono (fun r42 h43 p44 => ?_))
            obtain ⟨rfl, x45, rfl, q46⟩ := p44
            show RUN d_X9_starts 27 [(2, .inl x33), (0, .inr (.inr (.inl 96))), (1, .inl a0)] [.inl x45] h7 _
            refine R_iconst (-1) rfl rfl ?_
            refine N_icmp_eq (a := x45.toInt) (b := (-1)) 33 rfl rfl rfl (by decide) (fun c47 => ?_) (fun c47 => ?_)
            · refine N_iinc (a := x33.toInt) (c := 1) (fun w => [(2, .inl w), (0, .inr (.inr (.inl 96))), (1, .inl a0)]) rfl rfl (fun _ => rfl) (by decide) rfl (by decide) (by omega) (fun x48 q49 => ?_)
              refine R_goto 13 rfl rfl ?_
              exact RUN_weak (psub_cons rfl (psub_cons rfl (psub_cons rfl (psub_nil _)))) (ih34 x48 (by omega) (by omega))
            · refine R_iload_n (k := 2) rfl rfl rfl ?_
              exact R_iret rfl rfl rfl ⟨hI, fr, trivial, _, rfl, by omega⟩
      exact lp32 _ (0 : Int32) (by decide) (Nat.lt_succ_self _)
    · exfalso; omega
abbrev q_X8_passes (h : PH) (a0 : Int32) : Option PV → PH → Prop := fun r h' => INV h' ∧ FR [0, 70, 71, 72, 73, 74, 75, 76, 77, 78, 79, 80, 81, 82, 83, 84, 85, 86] h h' ∧ (True) ∧ ∃ z : Int32, r = some (.inl z) ∧ (((-5) ≤ z.toInt ∧ z.toInt ≤ 60))
set_option maxHeartbeats 4000000 in
set_option maxRecDepth 100000 in
theorem k_X8_passes (h : PH) (hI : INV h) (a0 : Int32) : CALL d_X8_passes [.inr (.inr (.inl 0)), .inl a0] h (q_X8_passes h a0) := by
  show RUN d_X8_passes 0 [(0, .inr (.inr (.inl 0))), (1, .inl a0)] [] h _
  have b1 := i_rng a0
  have fr : FR [0, 70, 71, 72, 73, 74, 75, 76, 77, 78, 79, 80, 81, 82, 83, 84, 85, 86] h h := FR.rf _ _
  refine R_aload_n (k := 0) rfl rfl rfl ?_
  refine R_getf_r (j := 3) rfl ft_8_28 sh_0 rfl ?_
  refine R_iload_n (k := 1) rfl rfl rfl ?_
  have b2 : (0 : Int) ≤ (h.1 17 5).toInt ∧ (h.1 17 5).toInt ≤ 6 := hI.1 17 5
  refine R_callV (v := .inr (.inr (.inl 16))) (As := [.inl a0]) (rest := []) rfl mt_8_i119 pp_X1_hasHand (by decide) rfl rfl rfl (Nat.le_of_ble_eq_true rfl) (Nat.le_of_ble_eq_true rfl) ((k_X1_hasHand h hI a0).mono (fun r3 h4 p5 => ?_))
  obtain ⟨rfl, x6, rfl, q7 | q7 | q7⟩ := p5
  · show RUN d_X8_passes 8 [(0, .inr (.inr (.inl 0))), (1, .inl a0)] [.inl x6] h _
    refine N_if_eq (a := x6.toInt) 26 rfl rfl rfl (fun c8 => ?_) (fun c8 => ?_)
    · refine R_bipush (-2) rfl rfl ?_
      exact R_iret rfl rfl rfl ⟨hI, fr, trivial, _, rfl, by rw [show ((-2) : Int32).toInt = (-2) from rfl] <;> omega⟩
    · exfalso; omega
  · show RUN d_X8_passes 8 [(0, .inr (.inr (.inl 0))), (1, .inl a0)] [.inl x6] h _
    refine N_if_eq (a := x6.toInt) 26 rfl rfl rfl (fun c9 => ?_) (fun c9 => ?_)
    · refine R_bipush (-2) rfl rfl ?_
      exact R_iret rfl rfl rfl ⟨hI, fr, trivial, _, rfl, by rw [show ((-2) : Int32).toInt = (-2) from rfl] <;> omega⟩
    · exfalso; omega
  · show RUN d_X8_passes 8 [(0, .inr (.inr (.inl 0))), (1, .inl a0)] [.inl x6] h _
    refine N_if_eq (a := x6.toInt) 26 rfl rfl rfl (fun c10 => ?_) (fun c10 => ?_)
    · exfalso; omega
    · refine R_aload_n (k := 0) rfl rfl rfl ?_
      refine R_aload_n (k := 0) rfl rfl rfl ?_
      refine R_callV (v := .inr (.inr (.inl 0))) (As := []) (rest := [.inr (.inr (.inl 0))]) rfl mt_8_i153 pp_X8_told (by decide) rfl rfl rfl (Nat.le_of_ble_eq_true rfl) (Nat.le_of_ble_eq_true rfl) ((k_X8_told h hI).mono (fun r11 h12 p13 => ?_))
      obtain ⟨hJ, fj, -, rfl⟩ := p13
      have f14 := fj
      have fr := fr.trans fj (by decide)
      have hI := hJ
      have s15 : (h12.1 17 5).toInt = (h.1 17 5).toInt := by rw [(f14 17 (by decide)).1]
      show RUN d_X8_passes 16 [(0, .inr (.inr (.inl 0))), (1, .inl a0)] [.inr (.inr (.inl 75)), .inr (.inr (.inl 0))] h12 _
      refine R_getf_r (j := 4) rfl ft_8_206 sh_75 rfl ?_
      refine R_iload_n (k := 1) rfl rfl rfl ?_
      refine R_callV (v := .inr (.inr (.inl 0))) (As := [.inr (.inr (.inl 80)), .inl a0]) (rest := []) rfl mt_8_i200 pp_X8_secondsWith (by decide) rfl rfl rfl (Nat.le_of_ble_eq_true rfl) (Nat.le_of_ble_eq_true rfl) ((k_X8_secondsWith_2 h12 hI a0 (by omega)).mono (fun r16 h17 p18 => ?_))
      obtain ⟨rfl, x19, rfl, q20⟩ := p18
      show RUN d_X8_passes 23 [(0, .inr (.inr (.inl 0))), (1, .inl a0)] [.inl x19] h12 _
      refine R_goto 28 rfl rfl ?_
      exact R_iret rfl rfl rfl ⟨hI, fr, trivial, _, rfl, by omega⟩
abbrev q_X9_passes (h : PH) (a0 : Int32) : Option PV → PH → Prop := fun r h' => INV h' ∧ FR [96, 103, 104, 105, 106, 107, 108, 109, 110, 111, 112, 113, 114, 115, 116, 117, 118, 119] h h' ∧ (True) ∧ ∃ z : Int32, r = some (.inl z) ∧ ((True))
set_option maxHeartbeats 4000000 in
set_option maxRecDepth 100000 in
theorem k_X9_passes (h : PH) (hI : INV h) (a0 : Int32) : CALL d_X9_passes [.inr (.inr (.inl 96)), .inl a0] h (q_X9_passes h a0) := by
  show RUN d_X9_passes 0 [(0, .inr (.inr (.inl 96))), (1, .inl a0)] [] h _
  have b1 := i_rng a0
  have fr : FR [96, 103, 104, 105, 106, 107, 108, 109, 110, 111, 112, 113, 114, 115, 116, 117, 118, 119] h h := FR.rf _ _
  refine R_aload_n (k := 0) rfl rfl rfl ?_
  refine R_iload_n (k := 1) rfl rfl rfl ?_
  have b2 : (0 : Int) ≤ (h.1 97 0).toInt ∧ (h.1 97 0).toInt ≤ 60 := hI.1 97 0
  have e3 : 0 < (h.1 97 10).toInt → 1 ≤ (h.1 97 0).toInt := hI.2.2.2.2.2.1.2.1
  have b4 : (0 : Int) ≤ (h.1 97 5).toInt ∧ (h.1 97 5).toInt ≤ 6 := hI.1 97 5
  have e5 : 0 < (h.1 97 5).toInt → 1 ≤ (h.1 97 0).toInt := hI.2.2.2.2.2.1.2.2
  refine R_callV (v := .inr (.inr (.inl 96))) (As := [.inl a0]) (rest := []) rfl mt_9_i327 pp_X9_asksHand (by decide) rfl rfl rfl (Nat.le_of_ble_eq_true rfl) (Nat.le_of_ble_eq_true rfl) ((k_X9_asksHand h hI a0).mono (fun r6 h7 p8 => ?_))
  obtain ⟨hJ, fj, -, x9, rfl, q10 | q10 | q10 | q10⟩ := p8
  · have f11 := fj
    have fr := fr.trans fj (by decide)
    have hI := hJ
    have s12 : (h7.1 97 10).toInt = (h.1 97 10).toInt := by rw [(f11 97 (by decide)).1]
    have s13 : (h7.1 97 0).toInt = (h.1 97 0).toInt := by rw [(f11 97 (by decide)).1]
    have s14 : (h7.1 97 5).toInt = (h.1 97 5).toInt := by rw [(f11 97 (by decide)).1]
    show RUN d_X9_passes 5 [(0, .inr (.inr (.inl 96))), (1, .inl a0)] [.inl x9] h7 _
    refine N_if_eq (a := x9.toInt) 17 rfl rfl rfl (fun c15 => ?_) (fun c15 => ?_)
    · refine R_bipush (-2) rfl rfl ?_
      exact R_iret rfl rfl rfl ⟨hI, fr, trivial, _, rfl, trivial⟩
    · exfalso; omega
  · have f16 := fj
    have fr := fr.trans fj (by decide)
    have hI := hJ
    have s17 : (h7.1 97 10).toInt = (h.1 97 10).toInt := by rw [(f16 97 (by decide)).1]
    have s18 : (h7.1 97 0).toInt = (h.1 97 0).toInt := by rw [(f16 97 (by decide)).1]
    have s19 : (h7.1 97 5).toInt = (h.1 97 5).toInt := by rw [(f16 97 (by decide)).1]
    show RUN d_X9_passes 5 [(0, .inr (.inr (.inl 96))), (1, .inl a0)] [.inl x9] h7 _
    refine N_if_eq (a := x9.toInt) 17 rfl rfl rfl (fun c20 => ?_) (fun c20 => ?_)
    · refine R_bipush (-2) rfl rfl ?_
      exact R_iret rfl rfl rfl ⟨hI, fr, trivial, _, rfl, trivial⟩
    · exfalso; omega
  · have f21 := fj
    have fr := fr.trans fj (by decide)
    have hI := hJ
    have s22 : (h7.1 97 10).toInt = (h.1 97 10).toInt := by rw [(f21 97 (by decide)).1]
    have s23 : (h7.1 97 0).toInt = (h.1 97 0).toInt := by rw [(f21 97 (by decide)).1]
    have s24 : (h7.1 97 5).toInt = (h.1 97 5).toInt := by rw [(f21 97 (by decide)).1]
    show RUN d_X9_passes 5 [(0, .inr (.inr (.inl 96))), (1, .inl a0)] [.inl x9] h7 _
    refine N_if_eq (a := x9.toInt) 17 rfl rfl rfl (fun c25 => ?_) (fun c25 => ?_)
    · refine R_bipush (-2) rfl rfl ?_
      exact R_iret rfl rfl rfl ⟨hI, fr, trivial, _, rfl, trivial⟩
    · exfalso; omega
  · have f26 := fj
    have fr := fr.trans fj (by decide)
    have hI := hJ
    have s27 : (h7.1 97 10).toInt = (h.1 97 10).toInt := by rw [(f26 97 (by decide)).1]
    have s28 : (h7.1 97 0).toInt = (h.1 97 0).toInt := by rw [(f26 97 (by decide)).1]
    have s29 : (h7.1 97 5).toInt = (h.1 97 5).toInt := by rw [(f26 97 (by decide)).1]
    show RUN d_X9_passes 5 [(0, .inr (.inr (.inl 96))), (1, .inl a0)] [.inl x9] h7 _
    refine N_if_eq (a := x9.toInt) 17 rfl rfl rfl (fun c30 => ?_) (fun c30 => ?_)
    · exfalso; omega
    · refine R_aload_n (k := 0) rfl rfl rfl ?_
      refine R_getf_r (j := 32) rfl ft_9_76 sh_96 rfl ?_
      refine R_iload_n (k := 1) rfl rfl rfl ?_
      refine R_iald rfl sh_117 ⟨by omega, by omega⟩ ?_
      refine N_any (fun x31 => ?_)
      refine R_goto 19 rfl rfl ?_
      exact R_iret rfl rfl rfl ⟨hI, fr, trivial, _, rfl, trivial⟩
abbrev q_X8_loses (h : PH) (a0 : Int32) : Option PV → PH → Prop := fun r h' => INV h' ∧ FR [0, 70, 71, 72, 73, 74, 75, 76, 77, 78, 79, 80, 81, 82, 83, 84, 85, 86] h h' ∧ (True) ∧ ∃ z : Int32, r = some (.inl z) ∧ ((True))
set_option maxHeartbeats 4000000 in
set_option maxRecDepth 100000 in
theorem k_X8_loses (h : PH) (hI : INV h) (a0 : Int32) : CALL d_X8_loses [.inr (.inr (.inl 0)), .inl a0] h (q_X8_loses h a0) := by
  show RUN d_X8_loses 0 [(0, .inr (.inr (.inl 0))), (1, .inl a0)] [] h _
  have b1 := i_rng a0
  have fr : FR [0, 70, 71, 72, 73, 74, 75, 76, 77, 78, 79, 80, 81, 82, 83, 84, 85, 86] h h := FR.rf _ _
  refine R_aload_n (k := 0) rfl rfl rfl ?_
  refine R_getf_r (j := 3) rfl ft_8_28 sh_0 rfl ?_
  refine R_iload_n (k := 1) rfl rfl rfl ?_
  have b2 : (0 : Int) ≤ (h.1 17 5).toInt ∧ (h.1 17 5).toInt ≤ 6 := hI.1 17 5
  refine R_callV (v := .inr (.inr (.inl 16))) (As := [.inl a0]) (rest := []) rfl mt_8_i119 pp_X1_hasHand (by decide) rfl rfl rfl (Nat.le_of_ble_eq_true rfl) (Nat.le_of_ble_eq_true rfl) ((k_X1_hasHand h hI a0).mono (fun r3 h4 p5 => ?_))
  obtain ⟨rfl, x6, rfl, q7 | q7 | q7⟩ := p5
  · show RUN d_X8_loses 8 [(0, .inr (.inr (.inl 0))), (1, .inl a0)] [.inl x6] h _
    refine N_if_eq (a := x6.toInt) 35 rfl rfl rfl (fun c8 => ?_) (fun c8 => ?_)
    · refine R_bipush (-2) rfl rfl ?_
      exact R_iret rfl rfl rfl ⟨hI, fr, trivial, _, rfl, trivial⟩
    · exfalso; omega
  · show RUN d_X8_loses 8 [(0, .inr (.inr (.inl 0))), (1, .inl a0)] [.inl x6] h _
    refine N_if_eq (a := x6.toInt) 35 rfl rfl rfl (fun c9 => ?_) (fun c9 => ?_)
    · refine R_bipush (-2) rfl rfl ?_
      exact R_iret rfl rfl rfl ⟨hI, fr, trivial, _, rfl, trivial⟩
    · exfalso; omega
  · show RUN d_X8_loses 8 [(0, .inr (.inr (.inl 0))), (1, .inl a0)] [.inl x6] h _
    refine N_if_eq (a := x6.toInt) 35 rfl rfl rfl (fun c10 => ?_) (fun c10 => ?_)
    · exfalso; omega
    · refine R_aload_n (k := 0) rfl rfl rfl ?_
      refine R_aload_n (k := 0) rfl rfl rfl ?_
      refine R_callV (v := .inr (.inr (.inl 0))) (As := []) (rest := [.inr (.inr (.inl 0))]) rfl mt_8_i153 pp_X8_told (by decide) rfl rfl rfl (Nat.le_of_ble_eq_true rfl) (Nat.le_of_ble_eq_true rfl) ((k_X8_told h hI).mono (fun r11 h12 p13 => ?_))
      obtain ⟨hJ, fj, -, rfl⟩ := p13
      have f14 := fj
      have fr := fr.trans fj (by decide)
      have hI := hJ
      have s15 : (h12.1 17 5).toInt = (h.1 17 5).toInt := by rw [(f14 17 (by decide)).1]
      show RUN d_X8_loses 16 [(0, .inr (.inr (.inl 0))), (1, .inl a0)] [.inr (.inr (.inl 75)), .inr (.inr (.inl 0))] h12 _
      refine R_getf_r (j := 4) rfl ft_8_206 sh_75 rfl ?_
      refine R_iload_n (k := 1) rfl rfl rfl ?_
      refine R_callV (v := .inr (.inr (.inl 0))) (As := [.inr (.inr (.inl 80)), .inl a0]) (rest := []) rfl mt_8_i200 pp_X8_secondsWith (by decide) rfl rfl rfl (Nat.le_of_ble_eq_true rfl) (Nat.le_of_ble_eq_true rfl) ((k_X8_secondsWith_2 h12 hI a0 (by omega)).mono (fun r16 h17 p18 => ?_))
      obtain ⟨rfl, x19, rfl, q20⟩ := p18
      show RUN d_X8_loses 23 [(0, .inr (.inr (.inl 0))), (1, .inl a0)] [.inl x19] h12 _
      refine R_aload_n (k := 0) rfl rfl rfl ?_
      refine R_getf_r (j := 8) rfl ft_8_56 sh_0 rfl ?_
      refine R_iload_n (k := 1) rfl rfl rfl ?_
      refine R_callV (v := .inr (.inr (.inl 75))) (As := [.inl a0]) (rest := [.inl x19]) rfl mt_8_i209 pp_X6_lossOf (by decide) rfl rfl rfl (Nat.le_of_ble_eq_true rfl) (Nat.le_of_ble_eq_true rfl) ((k_X6_lossOf h12 hI a0 (by omega)).mono (fun r21 h22 p23 => ?_))
      obtain ⟨rfl, x24, rfl, q25⟩ := p23
      show RUN d_X8_loses 31 [(0, .inr (.inr (.inl 0))), (1, .inl a0)] [.inl x24, .inl x19] h12 _
      have b26 := i_rng x24
      refine R_imul rfl ?_
      refine N_any (fun x27 => ?_)
      refine R_goto 37 rfl rfl ?_
      exact R_iret rfl rfl rfl ⟨hI, fr, trivial, _, rfl, trivial⟩
abbrev q_X9_loses (h : PH) (a0 : Int32) : Option PV → PH → Prop := fun r h' => INV h' ∧ FR [96, 103, 104, 105, 106, 107, 108, 109, 110, 111, 112, 113, 114, 115, 116, 117, 118, 119] h h' ∧ (True) ∧ ∃ z : Int32, r = some (.inl z) ∧ ((True))
set_option maxHeartbeats 4000000 in
set_option maxRecDepth 100000 in
theorem k_X9_loses (h : PH) (hI : INV h) (a0 : Int32) : CALL d_X9_loses [.inr (.inr (.inl 96)), .inl a0] h (q_X9_loses h a0) := by
  show RUN d_X9_loses 0 [(0, .inr (.inr (.inl 96))), (1, .inl a0)] [] h _
  have b1 := i_rng a0
  have fr : FR [96, 103, 104, 105, 106, 107, 108, 109, 110, 111, 112, 113, 114, 115, 116, 117, 118, 119] h h := FR.rf _ _
  refine R_aload_n (k := 0) rfl rfl rfl ?_
  refine R_iload_n (k := 1) rfl rfl rfl ?_
  have b2 : (0 : Int) ≤ (h.1 97 0).toInt ∧ (h.1 97 0).toInt ≤ 60 := hI.1 97 0
  have e3 : 0 < (h.1 97 10).toInt → 1 ≤ (h.1 97 0).toInt := hI.2.2.2.2.2.1.2.1
  have b4 : (0 : Int) ≤ (h.1 97 5).toInt ∧ (h.1 97 5).toInt ≤ 6 := hI.1 97 5
  have e5 : 0 < (h.1 97 5).toInt → 1 ≤ (h.1 97 0).toInt := hI.2.2.2.2.2.1.2.2
  refine R_callV (v := .inr (.inr (.inl 96))) (As := [.inl a0]) (rest := []) rfl mt_9_i327 pp_X9_asksHand (by decide) rfl rfl rfl (Nat.le_of_ble_eq_true rfl) (Nat.le_of_ble_eq_true rfl) ((k_X9_asksHand h hI a0).mono (fun r6 h7 p8 => ?_))
  obtain ⟨hJ, fj, -, x9, rfl, q10 | q10 | q10 | q10⟩ := p8
  · have f11 := fj
    have fr := fr.trans fj (by decide)
    have hI := hJ
    have s12 : (h7.1 97 10).toInt = (h.1 97 10).toInt := by rw [(f11 97 (by decide)).1]
    have s13 : (h7.1 97 0).toInt = (h.1 97 0).toInt := by rw [(f11 97 (by decide)).1]
    have s14 : (h7.1 97 5).toInt = (h.1 97 5).toInt := by rw [(f11 97 (by decide)).1]
    show RUN d_X9_loses 5 [(0, .inr (.inr (.inl 96))), (1, .inl a0)] [.inl x9] h7 _
    refine N_if_eq (a := x9.toInt) 17 rfl rfl rfl (fun c15 => ?_) (fun c15 => ?_)
    · refine R_bipush (-2) rfl rfl ?_
      exact R_iret rfl rfl rfl ⟨hI, fr, trivial, _, rfl, trivial⟩
    · exfalso; omega
  · have f16 := fj
    have fr := fr.trans fj (by decide)
    have hI := hJ
    have s17 : (h7.1 97 10).toInt = (h.1 97 10).toInt := by rw [(f16 97 (by decide)).1]
    have s18 : (h7.1 97 0).toInt = (h.1 97 0).toInt := by rw [(f16 97 (by decide)).1]
    have s19 : (h7.1 97 5).toInt = (h.1 97 5).toInt := by rw [(f16 97 (by decide)).1]
    show RUN d_X9_loses 5 [(0, .inr (.inr (.inl 96))), (1, .inl a0)] [.inl x9] h7 _
    refine N_if_eq (a := x9.toInt) 17 rfl rfl rfl (fun c20 => ?_) (fun c20 => ?_)
    · refine R_bipush (-2) rfl rfl ?_
      exact R_iret rfl rfl rfl ⟨hI, fr, trivial, _, rfl, trivial⟩
    · exfalso; omega
  · have f21 := fj
    have fr := fr.trans fj (by decide)
    have hI := hJ
    have s22 : (h7.1 97 10).toInt = (h.1 97 10).toInt := by rw [(f21 97 (by decide)).1]
    have s23 : (h7.1 97 0).toInt = (h.1 97 0).toInt := by rw [(f21 97 (by decide)).1]
    have s24 : (h7.1 97 5).toInt = (h.1 97 5).toInt := by rw [(f21 97 (by decide)).1]
    show RUN d_X9_loses 5 [(0, .inr (.inr (.inl 96))), (1, .inl a0)] [.inl x9] h7 _
    refine N_if_eq (a := x9.toInt) 17 rfl rfl rfl (fun c25 => ?_) (fun c25 => ?_)
    · refine R_bipush (-2) rfl rfl ?_
      exact R_iret rfl rfl rfl ⟨hI, fr, trivial, _, rfl, trivial⟩
    · exfalso; omega
  · have f26 := fj
    have fr := fr.trans fj (by decide)
    have hI := hJ
    have s27 : (h7.1 97 10).toInt = (h.1 97 10).toInt := by rw [(f26 97 (by decide)).1]
    have s28 : (h7.1 97 0).toInt = (h.1 97 0).toInt := by rw [(f26 97 (by decide)).1]
    have s29 : (h7.1 97 5).toInt = (h.1 97 5).toInt := by rw [(f26 97 (by decide)).1]
    show RUN d_X9_loses 5 [(0, .inr (.inr (.inl 96))), (1, .inl a0)] [.inl x9] h7 _
    refine N_if_eq (a := x9.toInt) 17 rfl rfl rfl (fun c30 => ?_) (fun c30 => ?_)
    · exfalso; omega
    · refine R_aload_n (k := 0) rfl rfl rfl ?_
      refine R_getf_r (j := 33) rfl ft_9_79 sh_96 rfl ?_
      refine R_iload_n (k := 1) rfl rfl rfl ?_
      refine R_iald rfl sh_118 ⟨by omega, by omega⟩ ?_
      refine N_any (fun x31 => ?_)
      refine R_goto 19 rfl rfl ?_
      exact R_iret rfl rfl rfl ⟨hI, fr, trivial, _, rfl, trivial⟩
abbrev q_X8_lazy (h : PH)  : Option PV → PH → Prop := fun r h' => INV h' ∧ FR [0, 70, 71, 72, 73, 74, 75, 76, 77, 78, 79, 80, 81, 82, 83, 84, 85, 86] h h' ∧ (True) ∧ ∃ z : Int32, r = some (.inl z) ∧ (((-2) ≤ z.toInt ∧ z.toInt ≤ 5))
set_option maxHeartbeats 4000000 in
set_option maxRecDepth 100000 in
theorem k_X8_lazy (h : PH) (hI : INV h)  : CALL d_X8_lazy [.inr (.inr (.inl 0))] h (q_X8_lazy h) := by
  show RUN d_X8_lazy 0 [(0, .inr (.inr (.inl 0)))] [] h _
  have fr : FR [0, 70, 71, 72, 73, 74, 75, 76, 77, 78, 79, 80, 81, 82, 83, 84, 85, 86] h h := FR.rf _ _
  refine R_aload_n (k := 0) rfl rfl rfl ?_
  refine R_getf_r (j := 3) rfl ft_8_28 sh_0 rfl ?_
  have b1 : (0 : Int) ≤ (h.1 17 0).toInt ∧ (h.1 17 0).toInt ≤ 60 := hI.1 17 0
  have e2 : 0 < (h.1 17 10).toInt → 1 ≤ (h.1 17 0).toInt := hI.2.1
  refine R_callV (v := .inr (.inr (.inl 16))) (As := []) (rest := []) rfl mt_8_i146 pp_X1_stands (by decide) rfl rfl rfl (Nat.le_of_ble_eq_true rfl) (Nat.le_of_ble_eq_true rfl) ((k_X1_stands h hI).mono (fun r3 h4 p5 => ?_))
  obtain ⟨rfl, x6, rfl, q7 | q7⟩ := p5
  · show RUN d_X8_lazy 7 [(0, .inr (.inr (.inl 0)))] [.inl x6] h _
    refine N_if_ne (a := x6.toInt) 13 rfl rfl rfl (fun c8 => ?_) (fun c8 => ?_)
    · exfalso; omega
    · refine R_bipush (-2) rfl rfl ?_
      exact R_iret rfl rfl rfl ⟨hI, fr, trivial, _, rfl, by rw [show ((-2) : Int32).toInt = (-2) from rfl] <;> omega⟩
  · show RUN d_X8_lazy 7 [(0, .inr (.inr (.inl 0)))] [.inl x6] h _
    refine N_if_ne (a := x6.toInt) 13 rfl rfl rfl (fun c9 => ?_) (fun c9 => ?_)
    · refine R_iconst 0 rfl rfl ?_
      refine R_istore_n (k := 1) rfl [(1, .inl 0), (0, .inr (.inr (.inl 0)))] rfl rfl (by decide) ?_
      refine R_iconst (-1) rfl rfl ?_
      refine R_istore_n (k := 2) rfl [(2, .inl (-1)), (1, .inl 0), (0, .inr (.inr (.inl 0)))] rfl rfl (by decide) ?_
      refine R_iconst 0 rfl rfl ?_
      refine R_istore_n (k := 3) rfl [(3, .inl 0), (2, .inl (-1)), (1, .inl 0), (0, .inr (.inr (.inl 0)))] rfl rfl (by decide) ?_
      have lp11 : ∀ (n10 : Nat) (h12 : PH) (x14 : Int32) (x15 : Int32) (x16 : Int32), INV h12 → FR [0, 70, 71, 72, 73, 74, 75, 76, 77, 78, 79, 80, 81, 82, 83, 84, 85, 86] h h12 → FR [0, 70, 71, 72, 73, 74, 75, 76, 77, 78, 79, 80, 81, 82, 83, 84, 85, 86] h h12 → 0 ≤ x14.toInt ∧ x14.toInt ≤ 65 → (-1) ≤ x15.toInt ∧ x15.toInt ≤ 5 → 0 ≤ x16.toInt ∧ x16.toInt ≤ 6 → x15.toInt ≤ x16.toInt + (-1) → (6 - x16.toInt).toNat < n10 → RUN d_X8_lazy 19 [(3, .inl x16), (2, .inl x15), (1, .inl x14), (0, .inr (.inr (.inl 0)))] [] h12 (q_X8_lazy h) := by
        intro n10
        induction n10 with
        | zero => intro h12 x14 x15 x16 m18 m19 m20 m21 m22 m23 m24 hz; exact absurd hz (Nat.not_lt_zero _)
        | succ n10 ih17 =>
          intro h12 x14 x15 x16 hI fr fl13 m21 m22 m23 m24 hz
          have s25 : (h12.1 17 10).toInt = (h.1 17 10).toInt := by rw [(fl13 17 (by decide)).1]
          have s26 : (h12.1 17 0).toInt = (h.1 17 0).toInt := by rw [(fl13 17 (by decide)).1]
          refine R_iload_n (k := 3) rfl rfl rfl ?_
          refine R_aload_n (k := 0) rfl rfl rfl ?_
          refine R_getf_r (j := 3) rfl ft_8_28 sh_0 rfl ?_
          refine R_getf_r (j := 0) rfl ft_8_109 sh_16 rfl ?_
          refine R_iconst 5 rfl rfl ?_
          refine R_iald rfl sh_17 (by decide) ?_
          have b27 : (0 : Int) ≤ (h12.1 17 5).toInt ∧ (h12.1 17 5).toInt ≤ 6 := hI.1 17 5
          show RUN d_X8_lazy 29 [(3, .inl x16), (2, .inl x15), (1, .inl x14), (0, .inr (.inr (.inl 0)))] [.inl (h12.1 17 5), .inl x16] h12 _
          refine N_icmp_ge (a := x16.toInt) (b := (h12.1 17 5).toInt) 56 rfl rfl rfl rfl (fun c28 => ?_) (fun c28 => ?_)
          · refine R_iload_n (k := 2) rfl rfl rfl ?_
            exact R_iret rfl rfl rfl ⟨hI, fr, trivial, _, rfl, by omega⟩
          · refine R_aload_n (k := 0) rfl rfl rfl ?_
            refine R_iload_n (k := 3) rfl rfl rfl ?_
            refine R_callV (v := .inr (.inr (.inl 0))) (As := [.inl x16]) (rest := []) rfl mt_8_i203 pp_X8_secondsIdle (by decide) rfl rfl rfl (Nat.le_of_ble_eq_true rfl) (Nat.le_of_ble_eq_true rfl) ((k_X8_secondsIdle h12 hI x16 (by omega)).mono (fun r29 h30 p31 => ?_))
            obtain ⟨hJ, fj, -, x32, rfl, q33⟩ := p31
            have f34 := fj
            have fr := fr.trans fj (by decide)
            have hI := hJ
            have fl13 : FR [0, 70, 71, 72, 73, 74, 75, 76, 77, 78, 79, 80, 81, 82, 83, 84, 85, 86] h h30 := fl13.trans fj (by decide)
            have s35 : (h30.1 17 10).toInt = (h12.1 17 10).toInt := by rw [(f34 17 (by decide)).1]
            have s36 : (h30.1 17 0).toInt = (h12.1 17 0).toInt := by rw [(f34 17 (by decide)).1]
            have s37 : (h30.1 17 5).toInt = (h12.1 17 5).toInt := by rw [(f34 17 (by decide)).1]
            show RUN d_X8_lazy 37 [(3, .inl x16), (2, .inl x15), (1, .inl x14), (0, .inr (.inr (.inl 0)))] [.inl x32] h30 _
            refine R_istore (k := 4) [(4, .inl x32), (3, .inl x16), (2, .inl x15), (1, .inl x14), (0, .inr (.inr (.inl 0)))] rfl rfl (by decide) ?_
            refine R_iload (k := 4) rfl rfl ?_
            refine R_iload_n (k := 1) rfl rfl rfl ?_
            refine N_icmp_le (a := x32.toInt) (b := x14.toInt) 50 rfl rfl rfl rfl (fun c38 => ?_) (fun c38 => ?_)
            · refine N_iinc (a := x16.toInt) (c := 1) (fun w => [(3, .inl w), (4, .inl x32), (2, .inl x15), (1, .inl x14), (0, .inr (.inr (.inl 0)))]) rfl rfl (fun _ => rfl) (by decide) rfl (by decide) (by omega) (fun x39 q40 => ?_)
              refine R_goto 19 rfl rfl ?_
              exact RUN_weak (psub_cons rfl (psub_cons rfl (psub_cons rfl (psub_cons rfl (psub_nil _))))) (ih17 h30 x14 x15 x39 hI fr fl13 (by omega) (by omega) (by omega) (by omega) (by omega))
            · refine R_iload (k := 4) rfl rfl ?_
              refine R_istore_n (k := 1) rfl [(1, .inl x32), (4, .inl x32), (3, .inl x16), (2, .inl x15), (0, .inr (.inr (.inl 0)))] rfl rfl (by decide) ?_
              refine R_iload_n (k := 3) rfl rfl rfl ?_
              refine R_istore_n (k := 2) rfl [(2, .inl x16), (1, .inl x32), (4, .inl x32), (3, .inl x16), (0, .inr (.inr (.inl 0)))] rfl rfl (by decide) ?_
              refine N_iinc (a := x16.toInt) (c := 1) (fun w => [(3, .inl w), (2, .inl x16), (1, .inl x32), (4, .inl x32), (0, .inr (.inr (.inl 0)))]) rfl rfl (fun _ => rfl) (by decide) rfl (by decide) (by omega) (fun x41 q42 => ?_)
              refine R_goto 19 rfl rfl ?_
              exact RUN_weak (psub_cons rfl (psub_cons rfl (psub_cons rfl (psub_cons rfl (psub_nil _))))) (ih17 h30 x32 x16 x41 hI fr fl13 (by omega) (by omega) (by omega) (by omega) (by omega))
      have k43 : (0 : Int32).toInt = 0 := by decide
      have k44 : ((-1) : Int32).toInt = (-1) := by decide
      have k45 : (0 : Int32).toInt = 0 := by decide
      exact lp11 _ h (0 : Int32) ((-1) : Int32) (0 : Int32) hI fr (FR.rf _ _) (by decide) (by decide) (by decide) (by omega) (Nat.lt_succ_self _)
    · exfalso; omega
abbrev q_X9_lazy (h : PH)  : Option PV → PH → Prop := fun r h' => INV h' ∧ FR [96, 103, 104, 105, 106, 107, 108, 109, 110, 111, 112, 113, 114, 115, 116, 117, 118, 119] h h' ∧ (True) ∧ ∃ z : Int32, r = some (.inl z) ∧ (((-2) ≤ z.toInt ∧ z.toInt ≤ 5))
set_option maxHeartbeats 4000000 in
set_option maxRecDepth 100000 in
theorem k_X9_lazy (h : PH) (hI : INV h)  : CALL d_X9_lazy [.inr (.inr (.inl 96))] h (q_X9_lazy h) := by
  show RUN d_X9_lazy 0 [(0, .inr (.inr (.inl 96)))] [] h _
  have fr : FR [96, 103, 104, 105, 106, 107, 108, 109, 110, 111, 112, 113, 114, 115, 116, 117, 118, 119] h h := FR.rf _ _
  refine R_aload_n (k := 0) rfl rfl rfl ?_
  have b1 : (0 : Int) ≤ (h.1 97 0).toInt ∧ (h.1 97 0).toInt ≤ 60 := hI.1 97 0
  have e2 : 0 < (h.1 97 10).toInt → 1 ≤ (h.1 97 0).toInt := hI.2.2.2.2.2.1.2.1
  refine R_callV (v := .inr (.inr (.inl 96))) (As := []) (rest := []) rfl mt_9_i307 pp_X9_asksBrigade (by decide) rfl rfl rfl (Nat.le_of_ble_eq_true rfl) (Nat.le_of_ble_eq_true rfl) ((k_X9_asksBrigade h hI).mono (fun r3 h4 p5 => ?_))
  obtain ⟨hJ, fj, -, x6, rfl, q7 | q7⟩ := p5
  · have f8 := fj
    have fr := fr.trans fj (by decide)
    have hI := hJ
    have s9 : (h4.1 97 10).toInt = (h.1 97 10).toInt := by rw [(f8 97 (by decide)).1]
    have s10 : (h4.1 97 0).toInt = (h.1 97 0).toInt := by rw [(f8 97 (by decide)).1]
    show RUN d_X9_lazy 4 [(0, .inr (.inr (.inl 96)))] [.inl x6] h4 _
    refine N_if_ne (a := x6.toInt) 10 rfl rfl rfl (fun c11 => ?_) (fun c11 => ?_)
    · exfalso; omega
    · refine R_bipush (-2) rfl rfl ?_
      exact R_iret rfl rfl rfl ⟨hI, fr, trivial, _, rfl, by rw [show ((-2) : Int32).toInt = (-2) from rfl] <;> omega⟩
  · have f12 := fj
    have fr := fr.trans fj (by decide)
    have hI := hJ
    have s13 : (h4.1 97 10).toInt = (h.1 97 10).toInt := by rw [(f12 97 (by decide)).1]
    have s14 : (h4.1 97 0).toInt = (h.1 97 0).toInt := by rw [(f12 97 (by decide)).1]
    show RUN d_X9_lazy 4 [(0, .inr (.inr (.inl 96)))] [.inl x6] h4 _
    refine N_if_ne (a := x6.toInt) 10 rfl rfl rfl (fun c15 => ?_) (fun c15 => ?_)
    · refine R_iconst (-1) rfl rfl ?_
      refine R_istore_n (k := 1) rfl [(1, .inl (-1)), (0, .inr (.inr (.inl 96)))] rfl rfl (by decide) ?_
      refine R_iconst 0 rfl rfl ?_
      refine R_istore_n (k := 2) rfl [(2, .inl 0), (1, .inl (-1)), (0, .inr (.inr (.inl 96)))] rfl rfl (by decide) ?_
      have lp17 : ∀ (n16 : Nat) (x18 : Int32) (x19 : Int32), (-1) ≤ x18.toInt ∧ x18.toInt ≤ 5 → 0 ≤ x19.toInt ∧ x19.toInt ≤ 6 → x18.toInt ≤ x19.toInt + (-1) → (6 - x19.toInt).toNat < n16 → RUN d_X9_lazy 14 [(2, .inl x19), (1, .inl x18), (0, .inr (.inr (.inl 96)))] [] h4 (q_X9_lazy h) := by
        intro n16
        induction n16 with
        | zero => intro x18 x19 m21 m22 m23 hz; exact absurd hz (Nat.not_lt_zero _)
        | succ n16 ih20 =>
          intro x18 x19 m21 m22 m23 hz
          refine R_iload_n (k := 2) rfl rfl rfl ?_
          refine R_aload_n (k := 0) rfl rfl rfl ?_
          have b24 : (0 : Int) ≤ (h4.1 97 5).toInt ∧ (h4.1 97 5).toInt ≤ 6 := hI.1 97 5
          have e25 : 0 < (h4.1 97 5).toInt → 1 ≤ (h4.1 97 0).toInt := hI.2.2.2.2.2.1.2.2
          refine R_callV (v := .inr (.inr (.inl 96))) (As := []) (rest := [.inl x19]) rfl mt_9_i133 pp_X9_hands (by decide) rfl rfl rfl (Nat.le_of_ble_eq_true rfl) (Nat.le_of_ble_eq_true rfl) ((k_X9_hands h4 hI).mono (fun r26 h27 p28 => ?_))
          obtain ⟨rfl, x29, rfl, q30⟩ := p28
          show RUN d_X9_lazy 19 [(2, .inl x19), (1, .inl x18), (0, .inr (.inr (.inl 96)))] [.inl x29, .inl x19] h4 _
          refine N_icmp_ge (a := x19.toInt) (b := x29.toInt) 52 rfl rfl rfl rfl (fun c31 => ?_) (fun c31 => ?_)
          · refine R_iload_n (k := 1) rfl rfl rfl ?_
            exact R_iret rfl rfl rfl ⟨hI, fr, trivial, _, rfl, by omega⟩
          · refine R_aload_n (k := 0) rfl rfl rfl ?_
            refine R_iload_n (k := 2) rfl rfl rfl ?_
            refine R_callV (v := .inr (.inr (.inl 96))) (As := [.inl x19]) (rest := []) rfl mt_9_i333 pp_X9_idleOf (by decide) rfl rfl rfl (Nat.le_of_ble_eq_true rfl) (Nat.le_of_ble_eq_true rfl) ((k_X9_idleOf h4 hI x19 (by omega)).mono (fun r32 h33 p34 => ?_))
            obtain ⟨rfl, x35, rfl, q36⟩ := p34
            show RUN d_X9_lazy 27 [(2, .inl x19), (1, .inl x18), (0, .inr (.inr (.inl 96)))] [.inl x35] h4 _
            refine R_iload_n (k := 1) rfl rfl rfl ?_
            refine R_iconst (-1) rfl rfl ?_
            refine N_icmp_ne (a := x18.toInt) (b := (-1)) 36 rfl rfl rfl (by decide) (fun c37 => ?_) (fun c37 => ?_)
            · refine R_aload_n (k := 0) rfl rfl rfl ?_
              refine R_iload_n (k := 1) rfl rfl rfl ?_
              refine R_callV (v := .inr (.inr (.inl 96))) (As := [.inl x18]) (rest := [.inl x35]) rfl mt_9_i333 pp_X9_idleOf (by decide) rfl rfl rfl (Nat.le_of_ble_eq_true rfl) (Nat.le_of_ble_eq_true rfl) ((k_X9_idleOf h4 hI x18 (by omega)).mono (fun r38 h39 p40 => ?_))
              obtain ⟨rfl, x41, rfl, q42⟩ := p40
              show RUN d_X9_lazy 41 [(2, .inl x19), (1, .inl x18), (0, .inr (.inr (.inl 96)))] [.inl x41, .inl x35] h4 _
              refine N_icmp_le (a := x35.toInt) (b := x41.toInt) 46 rfl rfl rfl rfl (fun c43 => ?_) (fun c43 => ?_)
              · refine N_iinc (a := x19.toInt) (c := 1) (fun w => [(2, .inl w), (1, .inl x18), (0, .inr (.inr (.inl 96)))]) rfl rfl (fun _ => rfl) (by decide) rfl (by decide) (by omega) (fun x44 q45 => ?_)
                refine R_goto 14 rfl rfl ?_
                exact RUN_weak (psub_cons rfl (psub_cons rfl (psub_cons rfl (psub_nil _)))) (ih20 x18 x44 (by omega) (by omega) (by omega) (by omega))
              · refine R_iload_n (k := 2) rfl rfl rfl ?_
                refine R_istore_n (k := 1) rfl [(1, .inl x19), (2, .inl x19), (0, .inr (.inr (.inl 96)))] rfl rfl (by decide) ?_
                refine N_iinc (a := x19.toInt) (c := 1) (fun w => [(2, .inl w), (1, .inl x19), (0, .inr (.inr (.inl 96)))]) rfl rfl (fun _ => rfl) (by decide) rfl (by decide) (by omega) (fun x46 q47 => ?_)
                refine R_goto 14 rfl rfl ?_
                exact RUN_weak (psub_cons rfl (psub_cons rfl (psub_cons rfl (psub_nil _)))) (ih20 x19 x46 (by omega) (by omega) (by omega) (by omega))
            · refine R_iconst 0 rfl rfl ?_
              refine R_goto 41 rfl rfl ?_
              refine N_icmp_le (a := x35.toInt) (b := 0) 46 rfl rfl rfl (by decide) (fun c48 => ?_) (fun c48 => ?_)
              · refine N_iinc (a := x19.toInt) (c := 1) (fun w => [(2, .inl w), (1, .inl x18), (0, .inr (.inr (.inl 96)))]) rfl rfl (fun _ => rfl) (by decide) rfl (by decide) (by omega) (fun x49 q50 => ?_)
                refine R_goto 14 rfl rfl ?_
                exact RUN_weak (psub_cons rfl (psub_cons rfl (psub_cons rfl (psub_nil _)))) (ih20 x18 x49 (by omega) (by omega) (by omega) (by omega))
              · refine R_iload_n (k := 2) rfl rfl rfl ?_
                refine R_istore_n (k := 1) rfl [(1, .inl x19), (2, .inl x19), (0, .inr (.inr (.inl 96)))] rfl rfl (by decide) ?_
                refine N_iinc (a := x19.toInt) (c := 1) (fun w => [(2, .inl w), (1, .inl x19), (0, .inr (.inr (.inl 96)))]) rfl rfl (fun _ => rfl) (by decide) rfl (by decide) (by omega) (fun x51 q52 => ?_)
                refine R_goto 14 rfl rfl ?_
                exact RUN_weak (psub_cons rfl (psub_cons rfl (psub_cons rfl (psub_nil _)))) (ih20 x19 x51 (by omega) (by omega) (by omega) (by omega))
      have k53 : ((-1) : Int32).toInt = (-1) := by decide
      have k54 : (0 : Int32).toInt = 0 := by decide
      exact lp17 _ ((-1) : Int32) (0 : Int32) (by decide) (by decide) (by omega) (Nat.lt_succ_self _)
    · exfalso; omega
abbrev q_X8_queue (h : PH)  : Option PV → PH → Prop := fun r h' => INV h' ∧ FR [0, 70, 71, 72, 73, 74, 75, 76, 77, 78, 79, 80, 81, 82, 83, 84, 85, 86] h h' ∧ (True) ∧ ∃ z : Int32, r = some (.inl z) ∧ (((-2) ≤ z.toInt ∧ z.toInt ≤ 5))
set_option maxHeartbeats 4000000 in
set_option maxRecDepth 100000 in
theorem k_X8_queue (h : PH) (hI : INV h)  : CALL d_X8_queue [.inr (.inr (.inl 0))] h (q_X8_queue h) := by
  show RUN d_X8_queue 0 [(0, .inr (.inr (.inl 0)))] [] h _
  have fr : FR [0, 70, 71, 72, 73, 74, 75, 76, 77, 78, 79, 80, 81, 82, 83, 84, 85, 86] h h := FR.rf _ _
  refine R_aload_n (k := 0) rfl rfl rfl ?_
  refine R_getf_r (j := 3) rfl ft_8_28 sh_0 rfl ?_
  have b1 : (0 : Int) ≤ (h.1 17 0).toInt ∧ (h.1 17 0).toInt ≤ 60 := hI.1 17 0
  have e2 : 0 < (h.1 17 10).toInt → 1 ≤ (h.1 17 0).toInt := hI.2.1
  refine R_callV (v := .inr (.inr (.inl 16))) (As := []) (rest := []) rfl mt_8_i146 pp_X1_stands (by decide) rfl rfl rfl (Nat.le_of_ble_eq_true rfl) (Nat.le_of_ble_eq_true rfl) ((k_X1_stands h hI).mono (fun r3 h4 p5 => ?_))
  obtain ⟨rfl, x6, rfl, q7 | q7⟩ := p5
  · show RUN d_X8_queue 7 [(0, .inr (.inr (.inl 0)))] [.inl x6] h _
    refine N_if_ne (a := x6.toInt) 13 rfl rfl rfl (fun c8 => ?_) (fun c8 => ?_)
    · exfalso; omega
    · refine R_bipush (-2) rfl rfl ?_
      exact R_iret rfl rfl rfl ⟨hI, fr, trivial, _, rfl, by rw [show ((-2) : Int32).toInt = (-2) from rfl] <;> omega⟩
  · show RUN d_X8_queue 7 [(0, .inr (.inr (.inl 0)))] [.inl x6] h _
    refine N_if_ne (a := x6.toInt) 13 rfl rfl rfl (fun c9 => ?_) (fun c9 => ?_)
    · refine R_iconst 0 rfl rfl ?_
      refine R_istore_n (k := 1) rfl [(1, .inl 0), (0, .inr (.inr (.inl 0)))] rfl rfl (by decide) ?_
      refine R_iconst (-1) rfl rfl ?_
      refine R_istore_n (k := 2) rfl [(2, .inl (-1)), (1, .inl 0), (0, .inr (.inr (.inl 0)))] rfl rfl (by decide) ?_
      refine R_iconst 0 rfl rfl ?_
      refine R_istore_n (k := 3) rfl [(3, .inl 0), (2, .inl (-1)), (1, .inl 0), (0, .inr (.inr (.inl 0)))] rfl rfl (by decide) ?_
      have lp11 : ∀ (n10 : Nat) (h12 : PH) (x14 : Int32) (x15 : Int32) (x16 : Int32), INV h12 → FR [0, 70, 71, 72, 73, 74, 75, 76, 77, 78, 79, 80, 81, 82, 83, 84, 85, 86] h h12 → FR [0, 70, 71, 72, 73, 74, 75, 76, 77, 78, 79, 80, 81, 82, 83, 84, 85, 86] h h12 → 0 ≤ x14.toInt ∧ x14.toInt ≤ 60 → (-1) ≤ x15.toInt ∧ x15.toInt ≤ 5 → 0 ≤ x16.toInt ∧ x16.toInt ≤ 6 → x15.toInt ≤ x16.toInt + (-1) → (6 - x16.toInt).toNat < n10 → RUN d_X8_queue 19 [(3, .inl x16), (2, .inl x15), (1, .inl x14), (0, .inr (.inr (.inl 0)))] [] h12 (q_X8_queue h) := by
        intro n10
        induction n10 with
        | zero => intro h12 x14 x15 x16 m18 m19 m20 m21 m22 m23 m24 hz; exact absurd hz (Nat.not_lt_zero _)
        | succ n10 ih17 =>
          intro h12 x14 x15 x16 hI fr fl13 m21 m22 m23 m24 hz
          have s25 : (h12.1 17 10).toInt = (h.1 17 10).toInt := by rw [(fl13 17 (by decide)).1]
          have s26 : (h12.1 17 0).toInt = (h.1 17 0).toInt := by rw [(fl13 17 (by decide)).1]
          refine R_iload_n (k := 3) rfl rfl rfl ?_
          refine R_aload_n (k := 0) rfl rfl rfl ?_
          refine R_getf_r (j := 3) rfl ft_8_28 sh_0 rfl ?_
          refine R_getf_r (j := 0) rfl ft_8_109 sh_16 rfl ?_
          refine R_iconst 5 rfl rfl ?_
          refine R_iald rfl sh_17 (by decide) ?_
          have b27 : (0 : Int) ≤ (h12.1 17 5).toInt ∧ (h12.1 17 5).toInt ≤ 6 := hI.1 17 5
          show RUN d_X8_queue 29 [(3, .inl x16), (2, .inl x15), (1, .inl x14), (0, .inr (.inr (.inl 0)))] [.inl (h12.1 17 5), .inl x16] h12 _
          refine N_icmp_ge (a := x16.toInt) (b := (h12.1 17 5).toInt) 63 rfl rfl rfl rfl (fun c28 => ?_) (fun c28 => ?_)
          · refine R_iload_n (k := 2) rfl rfl rfl ?_
            exact R_iret rfl rfl rfl ⟨hI, fr, trivial, _, rfl, by omega⟩
          · refine R_aload_n (k := 0) rfl rfl rfl ?_
            refine R_aload_n (k := 0) rfl rfl rfl ?_
            refine R_callV (v := .inr (.inr (.inl 0))) (As := []) (rest := [.inr (.inr (.inl 0))]) rfl mt_8_i153 pp_X8_told (by decide) rfl rfl rfl (Nat.le_of_ble_eq_true rfl) (Nat.le_of_ble_eq_true rfl) ((k_X8_told h12 hI).mono (fun r29 h30 p31 => ?_))
            obtain ⟨hJ, fj, -, rfl⟩ := p31
            have f32 := fj
            have fr := fr.trans fj (by decide)
            have hI := hJ
            have fl13 : FR [0, 70, 71, 72, 73, 74, 75, 76, 77, 78, 79, 80, 81, 82, 83, 84, 85, 86] h h30 := fl13.trans fj (by decide)
            have s33 : (h30.1 17 10).toInt = (h12.1 17 10).toInt := by rw [(f32 17 (by decide)).1]
            have s34 : (h30.1 17 0).toInt = (h12.1 17 0).toInt := by rw [(f32 17 (by decide)).1]
            have s35 : (h30.1 17 5).toInt = (h12.1 17 5).toInt := by rw [(f32 17 (by decide)).1]
            show RUN d_X8_queue 37 [(3, .inl x16), (2, .inl x15), (1, .inl x14), (0, .inr (.inr (.inl 0)))] [.inr (.inr (.inl 75)), .inr (.inr (.inl 0))] h30 _
            refine R_getf_r (j := 2) rfl ft_8_175 sh_75 rfl ?_
            refine R_iload_n (k := 3) rfl rfl rfl ?_
            refine R_callV (v := .inr (.inr (.inl 0))) (As := [.inr (.inr (.inl 78)), .inl x16]) (rest := []) rfl mt_8_i200 pp_X8_secondsWith (by decide) rfl rfl rfl (Nat.le_of_ble_eq_true rfl) (Nat.le_of_ble_eq_true rfl) ((k_X8_secondsWith h30 hI x16 (by omega)).mono (fun r36 h37 p38 => ?_))
            obtain ⟨rfl, x39, rfl, q40⟩ := p38
            show RUN d_X8_queue 44 [(3, .inl x16), (2, .inl x15), (1, .inl x14), (0, .inr (.inr (.inl 0)))] [.inl x39] h30 _
            refine R_istore (k := 4) [(4, .inl x39), (3, .inl x16), (2, .inl x15), (1, .inl x14), (0, .inr (.inr (.inl 0)))] rfl rfl (by decide) ?_
            refine R_iload (k := 4) rfl rfl ?_
            refine R_iload_n (k := 1) rfl rfl rfl ?_
            refine N_icmp_le (a := x39.toInt) (b := x14.toInt) 57 rfl rfl rfl rfl (fun c41 => ?_) (fun c41 => ?_)
            · refine N_iinc (a := x16.toInt) (c := 1) (fun w => [(3, .inl w), (4, .inl x39), (2, .inl x15), (1, .inl x14), (0, .inr (.inr (.inl 0)))]) rfl rfl (fun _ => rfl) (by decide) rfl (by decide) (by omega) (fun x42 q43 => ?_)
              refine R_goto 19 rfl rfl ?_
              exact RUN_weak (psub_cons rfl (psub_cons rfl (psub_cons rfl (psub_cons rfl (psub_nil _))))) (ih17 h30 x14 x15 x42 hI fr fl13 (by omega) (by omega) (by omega) (by omega) (by omega))
            · refine R_iload (k := 4) rfl rfl ?_
              refine R_istore_n (k := 1) rfl [(1, .inl x39), (4, .inl x39), (3, .inl x16), (2, .inl x15), (0, .inr (.inr (.inl 0)))] rfl rfl (by decide) ?_
              refine R_iload_n (k := 3) rfl rfl rfl ?_
              refine R_istore_n (k := 2) rfl [(2, .inl x16), (1, .inl x39), (4, .inl x39), (3, .inl x16), (0, .inr (.inr (.inl 0)))] rfl rfl (by decide) ?_
              refine N_iinc (a := x16.toInt) (c := 1) (fun w => [(3, .inl w), (2, .inl x16), (1, .inl x39), (4, .inl x39), (0, .inr (.inr (.inl 0)))]) rfl rfl (fun _ => rfl) (by decide) rfl (by decide) (by omega) (fun x44 q45 => ?_)
              refine R_goto 19 rfl rfl ?_
              exact RUN_weak (psub_cons rfl (psub_cons rfl (psub_cons rfl (psub_cons rfl (psub_nil _))))) (ih17 h30 x39 x16 x44 hI fr fl13 (by omega) (by omega) (by omega) (by omega) (by omega))
      have k46 : (0 : Int32).toInt = 0 := by decide
      have k47 : ((-1) : Int32).toInt = (-1) := by decide
      have k48 : (0 : Int32).toInt = 0 := by decide
      exact lp11 _ h (0 : Int32) ((-1) : Int32) (0 : Int32) hI fr (FR.rf _ _) (by decide) (by decide) (by decide) (by omega) (Nat.lt_succ_self _)
    · exfalso; omega
abbrev q_X9_queue (h : PH)  : Option PV → PH → Prop := fun r h' => INV h' ∧ FR [96, 103, 104, 105, 106, 107, 108, 109, 110, 111, 112, 113, 114, 115, 116, 117, 118, 119] h h' ∧ (True) ∧ ∃ z : Int32, r = some (.inl z) ∧ (((-2) ≤ z.toInt ∧ z.toInt ≤ 5))
set_option maxHeartbeats 4000000 in
set_option maxRecDepth 100000 in
theorem k_X9_queue (h : PH) (hI : INV h)  : CALL d_X9_queue [.inr (.inr (.inl 96))] h (q_X9_queue h) := by
  show RUN d_X9_queue 0 [(0, .inr (.inr (.inl 96)))] [] h _
  have fr : FR [96, 103, 104, 105, 106, 107, 108, 109, 110, 111, 112, 113, 114, 115, 116, 117, 118, 119] h h := FR.rf _ _
  refine R_aload_n (k := 0) rfl rfl rfl ?_
  have b1 : (0 : Int) ≤ (h.1 97 0).toInt ∧ (h.1 97 0).toInt ≤ 60 := hI.1 97 0
  have e2 : 0 < (h.1 97 10).toInt → 1 ≤ (h.1 97 0).toInt := hI.2.2.2.2.2.1.2.1
  refine R_callV (v := .inr (.inr (.inl 96))) (As := []) (rest := []) rfl mt_9_i307 pp_X9_asksBrigade (by decide) rfl rfl rfl (Nat.le_of_ble_eq_true rfl) (Nat.le_of_ble_eq_true rfl) ((k_X9_asksBrigade h hI).mono (fun r3 h4 p5 => ?_))
  obtain ⟨hJ, fj, -, x6, rfl, q7 | q7⟩ := p5
  · have f8 := fj
    have fr := fr.trans fj (by decide)
    have hI := hJ
    have s9 : (h4.1 97 10).toInt = (h.1 97 10).toInt := by rw [(f8 97 (by decide)).1]
    have s10 : (h4.1 97 0).toInt = (h.1 97 0).toInt := by rw [(f8 97 (by decide)).1]
    show RUN d_X9_queue 4 [(0, .inr (.inr (.inl 96)))] [.inl x6] h4 _
    refine N_if_ne (a := x6.toInt) 10 rfl rfl rfl (fun c11 => ?_) (fun c11 => ?_)
    · exfalso; omega
    · refine R_bipush (-2) rfl rfl ?_
      exact R_iret rfl rfl rfl ⟨hI, fr, trivial, _, rfl, by rw [show ((-2) : Int32).toInt = (-2) from rfl] <;> omega⟩
  · have f12 := fj
    have fr := fr.trans fj (by decide)
    have hI := hJ
    have s13 : (h4.1 97 10).toInt = (h.1 97 10).toInt := by rw [(f12 97 (by decide)).1]
    have s14 : (h4.1 97 0).toInt = (h.1 97 0).toInt := by rw [(f12 97 (by decide)).1]
    show RUN d_X9_queue 4 [(0, .inr (.inr (.inl 96)))] [.inl x6] h4 _
    refine N_if_ne (a := x6.toInt) 10 rfl rfl rfl (fun c15 => ?_) (fun c15 => ?_)
    · refine R_iconst (-1) rfl rfl ?_
      refine R_istore_n (k := 1) rfl [(1, .inl (-1)), (0, .inr (.inr (.inl 96)))] rfl rfl (by decide) ?_
      refine R_iconst 0 rfl rfl ?_
      refine R_istore_n (k := 2) rfl [(2, .inl 0), (1, .inl (-1)), (0, .inr (.inr (.inl 96)))] rfl rfl (by decide) ?_
      have lp17 : ∀ (n16 : Nat) (x18 : Int32) (x19 : Int32), (-1) ≤ x18.toInt ∧ x18.toInt ≤ 5 → 0 ≤ x19.toInt ∧ x19.toInt ≤ 6 → x18.toInt ≤ x19.toInt + (-1) → (6 - x19.toInt).toNat < n16 → RUN d_X9_queue 14 [(2, .inl x19), (1, .inl x18), (0, .inr (.inr (.inl 96)))] [] h4 (q_X9_queue h) := by
        intro n16
        induction n16 with
        | zero => intro x18 x19 m21 m22 m23 hz; exact absurd hz (Nat.not_lt_zero _)
        | succ n16 ih20 =>
          intro x18 x19 m21 m22 m23 hz
          refine R_iload_n (k := 2) rfl rfl rfl ?_
          refine R_aload_n (k := 0) rfl rfl rfl ?_
          have b24 : (0 : Int) ≤ (h4.1 97 5).toInt ∧ (h4.1 97 5).toInt ≤ 6 := hI.1 97 5
          have e25 : 0 < (h4.1 97 5).toInt → 1 ≤ (h4.1 97 0).toInt := hI.2.2.2.2.2.1.2.2
          refine R_callV (v := .inr (.inr (.inl 96))) (As := []) (rest := [.inl x19]) rfl mt_9_i133 pp_X9_hands (by decide) rfl rfl rfl (Nat.le_of_ble_eq_true rfl) (Nat.le_of_ble_eq_true rfl) ((k_X9_hands h4 hI).mono (fun r26 h27 p28 => ?_))
          obtain ⟨rfl, x29, rfl, q30⟩ := p28
          show RUN d_X9_queue 19 [(2, .inl x19), (1, .inl x18), (0, .inr (.inr (.inl 96)))] [.inl x29, .inl x19] h4 _
          refine N_icmp_ge (a := x19.toInt) (b := x29.toInt) 52 rfl rfl rfl rfl (fun c31 => ?_) (fun c31 => ?_)
          · refine R_iload_n (k := 1) rfl rfl rfl ?_
            exact R_iret rfl rfl rfl ⟨hI, fr, trivial, _, rfl, by omega⟩
          · refine R_aload_n (k := 0) rfl rfl rfl ?_
            refine R_iload_n (k := 2) rfl rfl rfl ?_
            refine R_callV (v := .inr (.inr (.inl 96))) (As := [.inl x19]) (rest := []) rfl mt_9_i330 pp_X9_staysOf (by decide) rfl rfl rfl (Nat.le_of_ble_eq_true rfl) (Nat.le_of_ble_eq_true rfl) ((k_X9_staysOf h4 hI x19 (by omega)).mono (fun r32 h33 p34 => ?_))
            obtain ⟨rfl, x35, rfl, q36⟩ := p34
            show RUN d_X9_queue 27 [(2, .inl x19), (1, .inl x18), (0, .inr (.inr (.inl 96)))] [.inl x35] h4 _
            refine R_iload_n (k := 1) rfl rfl rfl ?_
            refine R_iconst (-1) rfl rfl ?_
            refine N_icmp_ne (a := x18.toInt) (b := (-1)) 36 rfl rfl rfl (by decide) (fun c37 => ?_) (fun c37 => ?_)
            · refine R_aload_n (k := 0) rfl rfl rfl ?_
              refine R_iload_n (k := 1) rfl rfl rfl ?_
              refine R_callV (v := .inr (.inr (.inl 96))) (As := [.inl x18]) (rest := [.inl x35]) rfl mt_9_i330 pp_X9_staysOf (by decide) rfl rfl rfl (Nat.le_of_ble_eq_true rfl) (Nat.le_of_ble_eq_true rfl) ((k_X9_staysOf h4 hI x18 (by omega)).mono (fun r38 h39 p40 => ?_))
              obtain ⟨rfl, x41, rfl, q42⟩ := p40
              show RUN d_X9_queue 41 [(2, .inl x19), (1, .inl x18), (0, .inr (.inr (.inl 96)))] [.inl x41, .inl x35] h4 _
              refine N_icmp_le (a := x35.toInt) (b := x41.toInt) 46 rfl rfl rfl rfl (fun c43 => ?_) (fun c43 => ?_)
              · refine N_iinc (a := x19.toInt) (c := 1) (fun w => [(2, .inl w), (1, .inl x18), (0, .inr (.inr (.inl 96)))]) rfl rfl (fun _ => rfl) (by decide) rfl (by decide) (by omega) (fun x44 q45 => ?_)
                refine R_goto 14 rfl rfl ?_
                exact RUN_weak (psub_cons rfl (psub_cons rfl (psub_cons rfl (psub_nil _)))) (ih20 x18 x44 (by omega) (by omega) (by omega) (by omega))
              · refine R_iload_n (k := 2) rfl rfl rfl ?_
                refine R_istore_n (k := 1) rfl [(1, .inl x19), (2, .inl x19), (0, .inr (.inr (.inl 96)))] rfl rfl (by decide) ?_
                refine N_iinc (a := x19.toInt) (c := 1) (fun w => [(2, .inl w), (1, .inl x19), (0, .inr (.inr (.inl 96)))]) rfl rfl (fun _ => rfl) (by decide) rfl (by decide) (by omega) (fun x46 q47 => ?_)
                refine R_goto 14 rfl rfl ?_
                exact RUN_weak (psub_cons rfl (psub_cons rfl (psub_cons rfl (psub_nil _)))) (ih20 x19 x46 (by omega) (by omega) (by omega) (by omega))
            · refine R_iconst 0 rfl rfl ?_
              refine R_goto 41 rfl rfl ?_
              refine N_icmp_le (a := x35.toInt) (b := 0) 46 rfl rfl rfl (by decide) (fun c48 => ?_) (fun c48 => ?_)
              · refine N_iinc (a := x19.toInt) (c := 1) (fun w => [(2, .inl w), (1, .inl x18), (0, .inr (.inr (.inl 96)))]) rfl rfl (fun _ => rfl) (by decide) rfl (by decide) (by omega) (fun x49 q50 => ?_)
                refine R_goto 14 rfl rfl ?_
                exact RUN_weak (psub_cons rfl (psub_cons rfl (psub_cons rfl (psub_nil _)))) (ih20 x18 x49 (by omega) (by omega) (by omega) (by omega))
              · refine R_iload_n (k := 2) rfl rfl rfl ?_
                refine R_istore_n (k := 1) rfl [(1, .inl x19), (2, .inl x19), (0, .inr (.inr (.inl 96)))] rfl rfl (by decide) ?_
                refine N_iinc (a := x19.toInt) (c := 1) (fun w => [(2, .inl w), (1, .inl x19), (0, .inr (.inr (.inl 96)))]) rfl rfl (fun _ => rfl) (by decide) rfl (by decide) (by omega) (fun x51 q52 => ?_)
                refine R_goto 14 rfl rfl ?_
                exact RUN_weak (psub_cons rfl (psub_cons rfl (psub_cons rfl (psub_nil _)))) (ih20 x19 x51 (by omega) (by omega) (by omega) (by omega))
      have k53 : ((-1) : Int32).toInt = (-1) := by decide
      have k54 : (0 : Int32).toInt = 0 := by decide
      exact lp17 _ ((-1) : Int32) (0 : Int32) (by decide) (by decide) (by omega) (Nat.lt_succ_self _)
    · exfalso; omega
abbrev q_X8_kept (h : PH)  : Option PV → PH → Prop := fun r h' => h = h' ∧ ∃ z : Int32, r = some (.inl z) ∧ ((True))
set_option maxHeartbeats 4000000 in
set_option maxRecDepth 100000 in
theorem k_X8_kept (h : PH) (hI : INV h)  : CALL d_X8_kept [.inr (.inr (.inl 0))] h (q_X8_kept h) := by
  show RUN d_X8_kept 0 [(0, .inr (.inr (.inl 0)))] [] h _
  refine R_aload_n (k := 0) rfl rfl rfl ?_
  refine R_getf_r (j := 3) rfl ft_8_28 sh_0 rfl ?_
  have b1 : (0 : Int) ≤ (h.1 17 0).toInt ∧ (h.1 17 0).toInt ≤ 60 := hI.1 17 0
  have e2 : 0 < (h.1 17 10).toInt → 1 ≤ (h.1 17 0).toInt := hI.2.1
  refine R_callV (v := .inr (.inr (.inl 16))) (As := []) (rest := []) rfl mt_8_i146 pp_X1_stands (by decide) rfl rfl rfl (Nat.le_of_ble_eq_true rfl) (Nat.le_of_ble_eq_true rfl) ((k_X1_stands h hI).mono (fun r3 h4 p5 => ?_))
  obtain ⟨rfl, x6, rfl, q7 | q7⟩ := p5
  · show RUN d_X8_kept 7 [(0, .inr (.inr (.inl 0)))] [.inl x6] h _
    refine N_if_ne (a := x6.toInt) 13 rfl rfl rfl (fun c8 => ?_) (fun c8 => ?_)
    · exfalso; omega
    · refine R_bipush (-2) rfl rfl ?_
      exact R_iret rfl rfl rfl ⟨rfl, _, rfl, trivial⟩
  · show RUN d_X8_kept 7 [(0, .inr (.inr (.inl 0)))] [.inl x6] h _
    refine N_if_ne (a := x6.toInt) 13 rfl rfl rfl (fun c9 => ?_) (fun c9 => ?_)
    · refine R_iconst 0 rfl rfl ?_
      refine R_istore_n (k := 1) rfl [(1, .inl 0), (0, .inr (.inr (.inl 0)))] rfl rfl (by decide) ?_
      refine R_iconst 0 rfl rfl ?_
      refine R_istore_n (k := 2) rfl [(2, .inl 0), (1, .inl 0), (0, .inr (.inr (.inl 0)))] rfl rfl (by decide) ?_
      have lp11 : ∀ (n10 : Nat) (x12 : Int32) (x13 : Int32), 0 ≤ x13.toInt ∧ x13.toInt ≤ 5 → (5 - x13.toInt).toNat < n10 → RUN d_X8_kept 17 [(2, .inl x13), (1, .inl x12), (0, .inr (.inr (.inl 0)))] [] h (q_X8_kept h) := by
        intro n10
        induction n10 with
        | zero => intro x12 x13 m15 hz; exact absurd hz (Nat.not_lt_zero _)
        | succ n10 ih14 =>
          intro x12 x13 m15 hz
          refine R_iload_n (k := 2) rfl rfl rfl ?_
          refine R_aload_n (k := 0) rfl rfl rfl ?_
          refine R_getf_r (j := 3) rfl ft_8_28 sh_0 rfl ?_
          refine R_getf_r (j := 0) rfl ft_8_109 sh_16 rfl ?_
          refine R_bipush 6 rfl rfl ?_
          refine R_iald rfl sh_17 (by decide) ?_
          have b16 : (0 : Int) ≤ (h.1 17 6).toInt ∧ (h.1 17 6).toInt ≤ 5 := hI.1 17 6
          show RUN d_X8_kept 28 [(2, .inl x13), (1, .inl x12), (0, .inr (.inr (.inl 0)))] [.inl (h.1 17 6), .inl x13] h _
          refine N_icmp_ge (a := x13.toInt) (b := (h.1 17 6).toInt) 54 rfl rfl rfl rfl (fun c17 => ?_) (fun c17 => ?_)
          · refine R_iload_n (k := 1) rfl rfl rfl ?_
            exact R_iret rfl rfl rfl ⟨rfl, _, rfl, trivial⟩
          · refine R_aload_n (k := 0) rfl rfl rfl ?_
            refine R_getf_r (j := 3) rfl ft_8_28 sh_0 rfl ?_
            refine R_iload_n (k := 2) rfl rfl rfl ?_
            refine R_callV (v := .inr (.inr (.inl 16))) (As := [.inl x13]) (rest := []) rfl mt_8_i143 pp_X1_keptAsTold (by decide) rfl rfl rfl (Nat.le_of_ble_eq_true rfl) (Nat.le_of_ble_eq_true rfl) ((k_X1_keptAsTold h hI x13 (by omega)).mono (fun r18 h19 p20 => ?_))
            obtain ⟨rfl, x21, rfl, q22 | q22⟩ := p20
            · show RUN d_X8_kept 39 [(2, .inl x13), (1, .inl x12), (0, .inr (.inr (.inl 0)))] [.inl x21] h _
              refine N_if_eq (a := x21.toInt) 48 rfl rfl rfl (fun c23 => ?_) (fun c23 => ?_)
              · exfalso; omega
              · refine R_iload_n (k := 1) rfl rfl rfl ?_
                refine R_iconst 1 rfl rfl ?_
                refine R_iload_n (k := 2) rfl rfl rfl ?_
                refine N_ishl1 (b := x13.toInt) rfl rfl (by omega) (fun x24 q25 => ?_)
                refine R_ior rfl ?_
                refine N_any (fun x26 => ?_)
                refine R_istore_n (k := 1) rfl [(1, .inl x26), (2, .inl x13), (0, .inr (.inr (.inl 0)))] rfl rfl (by decide) ?_
                refine N_iinc (a := x13.toInt) (c := 1) (fun w => [(2, .inl w), (1, .inl x26), (0, .inr (.inr (.inl 0)))]) rfl rfl (fun _ => rfl) (by decide) rfl (by decide) (by omega) (fun x27 q28 => ?_)
                refine R_goto 17 rfl rfl ?_
                exact RUN_weak (psub_cons rfl (psub_cons rfl (psub_cons rfl (psub_nil _)))) (ih14 x26 x27 (by omega) (by omega))
            · show RUN d_X8_kept 39 [(2, .inl x13), (1, .inl x12), (0, .inr (.inr (.inl 0)))] [.inl x21] h _
              refine N_if_eq (a := x21.toInt) 48 rfl rfl rfl (fun c29 => ?_) (fun c29 => ?_)
              · refine N_iinc (a := x13.toInt) (c := 1) (fun w => [(2, .inl w), (1, .inl x12), (0, .inr (.inr (.inl 0)))]) rfl rfl (fun _ => rfl) (by decide) rfl (by decide) (by omega) (fun x30 q31 => ?_)
                refine R_goto 17 rfl rfl ?_
                exact RUN_weak (psub_cons rfl (psub_cons rfl (psub_cons rfl (psub_nil _)))) (ih14 x12 x30 (by omega) (by omega))
              · exfalso; omega
      exact lp11 _ (0 : Int32) (0 : Int32) (by decide) (Nat.lt_succ_self _)
    · exfalso; omega
abbrev q_X9_kept (h : PH)  : Option PV → PH → Prop := fun r h' => INV h' ∧ FR [96, 103, 104, 105, 106] h h' ∧ (True) ∧ ∃ z : Int32, r = some (.inl z) ∧ ((True))
set_option maxHeartbeats 4000000 in
set_option maxRecDepth 100000 in
theorem k_X9_kept (h : PH) (hI : INV h)  : CALL d_X9_kept [.inr (.inr (.inl 96))] h (q_X9_kept h) := by
  show RUN d_X9_kept 0 [(0, .inr (.inr (.inl 96)))] [] h _
  have fr : FR [96, 103, 104, 105, 106] h h := FR.rf _ _
  refine R_aload_n (k := 0) rfl rfl rfl ?_
  have b1 : (0 : Int) ≤ (h.1 97 0).toInt ∧ (h.1 97 0).toInt ≤ 60 := hI.1 97 0
  have e2 : 0 < (h.1 97 10).toInt → 1 ≤ (h.1 97 0).toInt := hI.2.2.2.2.2.1.2.1
  refine R_callV (v := .inr (.inr (.inl 96))) (As := []) (rest := []) rfl mt_9_i301 pp_X9_isBrigade (by decide) rfl rfl rfl (Nat.le_of_ble_eq_true rfl) (Nat.le_of_ble_eq_true rfl) ((k_X9_isBrigade h hI).mono (fun r3 h4 p5 => ?_))
  obtain ⟨rfl, x6, rfl, q7 | q7⟩ := p5
  · show RUN d_X9_kept 4 [(0, .inr (.inr (.inl 96)))] [.inl x6] h _
    refine N_if_ne (a := x6.toInt) 10 rfl rfl rfl (fun c8 => ?_) (fun c8 => ?_)
    · exfalso; omega
    · refine R_bipush (-2) rfl rfl ?_
      exact R_iret rfl rfl rfl ⟨hI, fr, trivial, _, rfl, trivial⟩
  · show RUN d_X9_kept 4 [(0, .inr (.inr (.inl 96)))] [.inl x6] h _
    refine N_if_ne (a := x6.toInt) 10 rfl rfl rfl (fun c9 => ?_) (fun c9 => ?_)
    · refine R_aload_n (k := 0) rfl rfl rfl ?_
      refine R_callV (v := .inr (.inr (.inl 96))) (As := []) (rest := []) rfl mt_9_i298 pp_X9_asItIs (by decide) rfl rfl rfl (Nat.le_of_ble_eq_true rfl) (Nat.le_of_ble_eq_true rfl) ((k_X9_asItIs h hI).mono (fun r10 h11 p12 => ?_))
      obtain ⟨hJ, fj, ⟨kp13, -⟩, rfl⟩ := p12
      have f14 := fj
      have fr := fr.trans fj (by decide)
      have hI := hJ
      have s15 : (h11.1 97 10).toInt = (h.1 97 10).toInt := by rw [(f14 97 (by decide)).1]
      have s16 : (h11.1 97 0).toInt = (h.1 97 0).toInt := by rw [(f14 97 (by decide)).1]
      show RUN d_X9_kept 14 [(0, .inr (.inr (.inl 96)))] [] h11 _
      refine R_iconst 0 rfl rfl ?_
      refine R_istore_n (k := 1) rfl [(1, .inl 0), (0, .inr (.inr (.inl 96)))] rfl rfl (by decide) ?_
      refine R_iconst 0 rfl rfl ?_
      refine R_istore_n (k := 2) rfl [(2, .inl 0), (1, .inl 0), (0, .inr (.inr (.inl 96)))] rfl rfl (by decide) ?_
      have lp18 : ∀ (n17 : Nat) (x19 : Int32) (x20 : Int32), 0 ≤ x20.toInt ∧ x20.toInt ≤ 5 → (5 - x20.toInt).toNat < n17 → RUN d_X9_kept 18 [(2, .inl x20), (1, .inl x19), (0, .inr (.inr (.inl 96)))] [] h11 (q_X9_kept h) := by
        intro n17
        induction n17 with
        | zero => intro x19 x20 m22 hz; exact absurd hz (Nat.not_lt_zero _)
        | succ n17 ih21 =>
          intro x19 x20 m22 hz
          refine R_iload_n (k := 2) rfl rfl rfl ?_
          refine R_aload_n (k := 0) rfl rfl rfl ?_
          refine R_getf_r (j := 1) rfl ft_9_9 sh_96 rfl ?_
          refine R_bipush 6 rfl rfl ?_
          refine R_iald rfl sh_97 (by decide) ?_
          have b23 : (0 : Int) ≤ (h11.1 97 6).toInt ∧ (h11.1 97 6).toInt ≤ 5 := hI.1 97 6
          show RUN d_X9_kept 26 [(2, .inl x20), (1, .inl x19), (0, .inr (.inr (.inl 96)))] [.inl (h11.1 97 6), .inl x20] h11 _
          refine N_icmp_ge (a := x20.toInt) (b := (h11.1 97 6).toInt) 53 rfl rfl rfl rfl (fun c24 => ?_) (fun c24 => ?_)
          · refine R_iload_n (k := 1) rfl rfl rfl ?_
            exact R_iret rfl rfl rfl ⟨hI, fr, trivial, _, rfl, trivial⟩
          · refine R_iload_n (k := 1) rfl rfl rfl ?_
            refine R_aload_n (k := 0) rfl rfl rfl ?_
            refine R_iload_n (k := 2) rfl rfl rfl ?_
            refine R_callV (v := .inr (.inr (.inl 96))) (As := [.inl x20]) (rest := [.inl x19]) rfl mt_9_i402 pp_X9_keepsPair (by decide) rfl rfl rfl (Nat.le_of_ble_eq_true rfl) (Nat.le_of_ble_eq_true rfl) ((k_X9_keepsPair h11 hI x20 (by omega)).mono (fun r25 h26 p27 => ?_))
            obtain ⟨rfl, x28, rfl, q29 | q29⟩ := p27
            · show RUN d_X9_kept 35 [(2, .inl x20), (1, .inl x19), (0, .inr (.inr (.inl 96)))] [.inl x28, .inl x19] h11 _
              refine N_if_eq (a := x28.toInt) 44 rfl rfl rfl (fun c30 => ?_) (fun c30 => ?_)
              · exfalso; omega
              · refine R_iconst 1 rfl rfl ?_
                refine R_iload_n (k := 2) rfl rfl rfl ?_
                refine N_ishl1 (b := x20.toInt) rfl rfl (by omega) (fun x31 q32 => ?_)
                refine R_goto 45 rfl rfl ?_
                refine R_ior rfl ?_
                refine N_any (fun x33 => ?_)
                refine R_istore_n (k := 1) rfl [(1, .inl x33), (2, .inl x20), (0, .inr (.inr (.inl 96)))] rfl rfl (by decide) ?_
                refine N_iinc (a := x20.toInt) (c := 1) (fun w => [(2, .inl w), (1, .inl x33), (0, .inr (.inr (.inl 96)))]) rfl rfl (fun _ => rfl) (by decide) rfl (by decide) (by omega) (fun x34 q35 => ?_)
                refine R_goto 18 rfl rfl ?_
                exact RUN_weak (psub_cons rfl (psub_cons rfl (psub_cons rfl (psub_nil _)))) (ih21 x33 x34 (by omega) (by omega))
            · show RUN d_X9_kept 35 [(2, .inl x20), (1, .inl x19), (0, .inr (.inr (.inl 96)))] [.inl x28, .inl x19] h11 _
              refine N_if_eq (a := x28.toInt) 44 rfl rfl rfl (fun c36 => ?_) (fun c36 => ?_)
              · refine R_iconst 0 rfl rfl ?_
                refine R_ior rfl ?_
                refine N_any (fun x37 => ?_)
                refine R_istore_n (k := 1) rfl [(1, .inl x37), (2, .inl x20), (0, .inr (.inr (.inl 96)))] rfl rfl (by decide) ?_
                refine N_iinc (a := x20.toInt) (c := 1) (fun w => [(2, .inl w), (1, .inl x37), (0, .inr (.inr (.inl 96)))]) rfl rfl (fun _ => rfl) (by decide) rfl (by decide) (by omega) (fun x38 q39 => ?_)
                refine R_goto 18 rfl rfl ?_
                exact RUN_weak (psub_cons rfl (psub_cons rfl (psub_cons rfl (psub_nil _)))) (ih21 x37 x38 (by omega) (by omega))
              · exfalso; omega
      exact lp18 _ (0 : Int32) (0 : Int32) (by decide) (Nat.lt_succ_self _)
    · exfalso; omega
