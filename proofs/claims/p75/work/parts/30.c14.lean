abbrev q_X8_brings (h : PH) (a0 : Int32) : Option PV → PH → Prop := fun r h' => INV h' ∧ FR [70, 71, 72, 73, 74] h h' ∧ (True) ∧ ∃ z : Int32, r = some (.inl z) ∧ ((True))
set_option maxHeartbeats 4000000 in
set_option maxRecDepth 100000 in
theorem k_X8_brings (h : PH) (hI : INV h) (a0 : Int32) : CALL d_X8_brings [.inr (.inr (.inl 0)), .inl a0] h (q_X8_brings h a0) := by
  show RUN d_X8_brings 0 [(0, .inr (.inr (.inl 0))), (1, .inl a0)] [] h _
  have b1 := i_rng a0
  have fr : FR [70, 71, 72, 73, 74] h h := FR.rf _ _
  refine R_aload_n (k := 0) rfl rfl rfl ?_
  refine R_getf_r (j := 3) rfl ft_8_28 sh_0 rfl ?_
  have b2 : (0 : Int) ≤ (h.1 17 0).toInt ∧ (h.1 17 0).toInt ≤ 60 := hI.1 17 0
  have e3 : 0 < (h.1 17 10).toInt → 1 ≤ (h.1 17 0).toInt := hI.2.1
  refine R_callV (v := .inr (.inr (.inl 16))) (As := []) (rest := []) rfl mt_8_i146 pp_X1_stands (by decide) rfl rfl rfl (Nat.le_of_ble_eq_true rfl) (Nat.le_of_ble_eq_true rfl) ((k_X1_stands h hI).mono (fun r4 h5 p6 => ?_))
  obtain ⟨rfl, x7, rfl, q8 | q8⟩ := p6
  · show RUN d_X8_brings 7 [(0, .inr (.inr (.inl 0))), (1, .inl a0)] [.inl x7] h _
    refine N_if_eq (a := x7.toInt) 25 rfl rfl rfl (fun c9 => ?_) (fun c9 => ?_)
    · refine R_bipush (-2) rfl rfl ?_
      exact R_iret rfl rfl rfl ⟨hI, fr, trivial, _, rfl, trivial⟩
    · exfalso; omega
  · show RUN d_X8_brings 7 [(0, .inr (.inr (.inl 0))), (1, .inl a0)] [.inl x7] h _
    refine N_if_eq (a := x7.toInt) 25 rfl rfl rfl (fun c10 => ?_) (fun c10 => ?_)
    · exfalso; omega
    · refine R_iload_n (k := 1) rfl rfl rfl ?_
      refine N_if_lt (a := a0.toInt) 25 rfl rfl rfl (fun c11 => ?_) (fun c11 => ?_)
      · refine R_bipush (-2) rfl rfl ?_
        exact R_iret rfl rfl rfl ⟨hI, fr, trivial, _, rfl, trivial⟩
      · refine R_iload_n (k := 1) rfl rfl rfl ?_
        refine R_aload_n (k := 0) rfl rfl rfl ?_
        refine R_getf_r (j := 3) rfl ft_8_28 sh_0 rfl ?_
        refine R_callV (v := .inr (.inr (.inl 16))) (As := []) (rest := [.inl a0]) rfl mt_8_i329 pp_X1_allHands (by decide) rfl rfl rfl (Nat.le_of_ble_eq_true rfl) (Nat.le_of_ble_eq_true rfl) ((k_X1_allHands h hI).mono (fun r12 h13 p14 => ?_))
        obtain ⟨rfl, x15, rfl, q16⟩ := p14
        show RUN d_X8_brings 22 [(0, .inr (.inr (.inl 0))), (1, .inl a0)] [.inl x15, .inl a0] h _
        refine N_icmp_le (a := a0.toInt) (b := x15.toInt) 28 rfl rfl rfl rfl (fun c17 => ?_) (fun c17 => ?_)
        · refine R_aload_n (k := 0) rfl rfl rfl ?_
          refine R_iload_n (k := 1) rfl rfl rfl ?_
          refine R_callV (v := .inr (.inr (.inl 0))) (As := [.inl a0]) (rest := []) rfl mt_8_i332 pp_X8_waterOfSet (by decide) rfl rfl rfl (Nat.le_of_ble_eq_true rfl) (Nat.le_of_ble_eq_true rfl) ((k_X8_waterOfSet h hI a0).mono (fun r18 h19 p20 => ?_))
          obtain ⟨hJ, fj, -, x21, rfl, q22⟩ := p20
          have f23 := fj
          have fr := fr.trans fj (by decide)
          have hI := hJ
          have s24 : (h19.1 17 10).toInt = (h.1 17 10).toInt := by rw [(f23 17 (by decide)).1]
          have s25 : (h19.1 17 0).toInt = (h.1 17 0).toInt := by rw [(f23 17 (by decide)).1]
          show RUN d_X8_brings 33 [(0, .inr (.inr (.inl 0))), (1, .inl a0)] [.inl x21] h19 _
          exact R_iret rfl rfl rfl ⟨hI, fr, trivial, _, rfl, trivial⟩
        · refine R_bipush (-2) rfl rfl ?_
          exact R_iret rfl rfl rfl ⟨hI, fr, trivial, _, rfl, trivial⟩
abbrev q_X9_isSet (h : PH) (a0 : Int32) : Option PV → PH → Prop := fun r h' => h = h' ∧ ∃ z : Int32, r = some (.inl z) ∧ ((z.toInt = 0 ∧ (h.1 97 10).toInt ≤ 0) ∨ (z.toInt = 0 ∧ a0.toInt ≤ (-1) ∧ 1 ≤ (h.1 97 0).toInt ∧ (h.1 97 0).toInt ≤ 60 ∧ 1 ≤ (h.1 97 10).toInt) ∨ (z.toInt = 0 ∧ 1 ≤ a0.toInt ∧ 1 ≤ (h.1 97 0).toInt ∧ (h.1 97 0).toInt ≤ 60 ∧ 1 ≤ (h.1 97 10).toInt) ∨ (z.toInt = 1 ∧ 0 ≤ a0.toInt ∧ a0.toInt ≤ 63 ∧ 1 ≤ (h.1 97 0).toInt ∧ (h.1 97 0).toInt ≤ 60 ∧ 1 ≤ (h.1 97 10).toInt))
set_option maxHeartbeats 4000000 in
set_option maxRecDepth 100000 in
theorem k_X9_isSet (h : PH) (hI : INV h) (a0 : Int32) : CALL d_X9_isSet [.inr (.inr (.inl 96)), .inl a0] h (q_X9_isSet h a0) := by
  show RUN d_X9_isSet 0 [(0, .inr (.inr (.inl 96))), (1, .inl a0)] [] h _
  have b1 := i_rng a0
  refine R_aload_n (k := 0) rfl rfl rfl ?_
  have b2 : (0 : Int) ≤ (h.1 97 0).toInt ∧ (h.1 97 0).toInt ≤ 60 := hI.1 97 0
  have e3 : 0 < (h.1 97 10).toInt → 1 ≤ (h.1 97 0).toInt := hI.2.2.2.2.2.1.2.1
  refine R_callV (v := .inr (.inr (.inl 96))) (As := []) (rest := []) rfl mt_9_i301 pp_X9_isBrigade (by decide) rfl rfl rfl (Nat.le_of_ble_eq_true rfl) (Nat.le_of_ble_eq_true rfl) ((k_X9_isBrigade h hI).mono (fun r4 h5 p6 => ?_))
  obtain ⟨rfl, x7, rfl, q8 | q8⟩ := p6
  · show RUN d_X9_isSet 4 [(0, .inr (.inr (.inl 96))), (1, .inl a0)] [.inl x7] h _
    refine N_if_eq (a := x7.toInt) 25 rfl rfl rfl (fun c9 => ?_) (fun c9 => ?_)
    · refine R_iconst 0 rfl rfl ?_
      exact R_iret rfl rfl rfl ⟨rfl, _, rfl, by rw [show (0 : Int32).toInt = 0 from rfl] <;> omega⟩
    · exfalso; omega
  · show RUN d_X9_isSet 4 [(0, .inr (.inr (.inl 96))), (1, .inl a0)] [.inl x7] h _
    refine N_if_eq (a := x7.toInt) 25 rfl rfl rfl (fun c10 => ?_) (fun c10 => ?_)
    · exfalso; omega
    · refine R_iload_n (k := 1) rfl rfl rfl ?_
      refine N_i2l rfl (fun w11 q12 => ?_)
      refine R_lconst 0 rfl rfl ?_
      refine R_aload_n (k := 0) rfl rfl rfl ?_
      refine R_callV (v := .inr (.inr (.inl 96))) (As := []) (rest := [.inr (.inl 0), .inr (.inl w11)]) rfl mt_9_i460 pp_X9_allHands (by decide) rfl rfl rfl (Nat.le_of_ble_eq_true rfl) (Nat.le_of_ble_eq_true rfl) ((k_X9_allHands h hI).mono (fun r13 h14 p15 => ?_))
      obtain ⟨rfl, x16, rfl, q17⟩ := p15
      show RUN d_X9_isSet 14 [(0, .inr (.inr (.inl 96))), (1, .inl a0)] [.inl x16, .inr (.inl 0), .inr (.inl w11)] h _
      refine N_i2l rfl (fun w18 q19 => ?_)
      have k20 : (0 : Int64).toInt = 0 := by decide
      refine R_callS (As := [.inr (.inl w11), .inr (.inl 0), .inr (.inl w18)]) (rest := []) rfl mt_9_i125 (by decide) pp_X9_in (by decide) rfl rfl (Nat.le_of_ble_eq_true rfl) (Nat.le_of_ble_eq_true rfl) ((k_X9_in h hI w11 (0 : Int64) w18).mono (fun r21 h22 p23 => ?_))
      obtain ⟨rfl, x24, rfl, q25 | q25 | q25⟩ := p23
      · show RUN d_X9_isSet 18 [(0, .inr (.inr (.inl 96))), (1, .inl a0)] [.inl x24] h _
        refine N_if_eq (a := x24.toInt) 25 rfl rfl rfl (fun c26 => ?_) (fun c26 => ?_)
        · refine R_iconst 0 rfl rfl ?_
          exact R_iret rfl rfl rfl ⟨rfl, _, rfl, by rw [show (0 : Int32).toInt = 0 from rfl] <;> omega⟩
        · exfalso; omega
      · show RUN d_X9_isSet 18 [(0, .inr (.inr (.inl 96))), (1, .inl a0)] [.inl x24] h _
        refine N_if_eq (a := x24.toInt) 25 rfl rfl rfl (fun c27 => ?_) (fun c27 => ?_)
        · refine R_iconst 0 rfl rfl ?_
          exact R_iret rfl rfl rfl ⟨rfl, _, rfl, by rw [show (0 : Int32).toInt = 0 from rfl] <;> omega⟩
        · exfalso; omega
      · show RUN d_X9_isSet 18 [(0, .inr (.inr (.inl 96))), (1, .inl a0)] [.inl x24] h _
        refine N_if_eq (a := x24.toInt) 25 rfl rfl rfl (fun c28 => ?_) (fun c28 => ?_)
        · exfalso; omega
        · refine R_iconst 1 rfl rfl ?_
          refine R_goto 26 rfl rfl ?_
          exact R_iret rfl rfl rfl ⟨rfl, _, rfl, by rw [show (1 : Int32).toInt = 1 from rfl] <;> omega⟩
abbrev q_X9_brings (h : PH) (a0 : Int32) : Option PV → PH → Prop := fun r h' => INV h' ∧ FR [96, 103, 104, 105, 106, 107, 108, 109, 110, 111, 112, 113, 114, 115, 116, 117, 118, 119] h h' ∧ (True) ∧ ∃ z : Int32, r = some (.inl z) ∧ ((True))
set_option maxHeartbeats 4000000 in
set_option maxRecDepth 100000 in
theorem k_X9_brings (h : PH) (hI : INV h) (a0 : Int32) : CALL d_X9_brings [.inr (.inr (.inl 96)), .inl a0] h (q_X9_brings h a0) := by
  show RUN d_X9_brings 0 [(0, .inr (.inr (.inl 96))), (1, .inl a0)] [] h _
  have b1 := i_rng a0
  have fr : FR [96, 103, 104, 105, 106, 107, 108, 109, 110, 111, 112, 113, 114, 115, 116, 117, 118, 119] h h := FR.rf _ _
  refine R_aload_n (k := 0) rfl rfl rfl ?_
  refine R_iload_n (k := 1) rfl rfl rfl ?_
  have b2 : (0 : Int) ≤ (h.1 97 0).toInt ∧ (h.1 97 0).toInt ≤ 60 := hI.1 97 0
  have e3 : 0 < (h.1 97 10).toInt → 1 ≤ (h.1 97 0).toInt := hI.2.2.2.2.2.1.2.1
  refine R_callV (v := .inr (.inr (.inl 96))) (As := [.inl a0]) (rest := []) rfl mt_9_i463 pp_X9_isSet (by decide) rfl rfl rfl (Nat.le_of_ble_eq_true rfl) (Nat.le_of_ble_eq_true rfl) ((k_X9_isSet h hI a0).mono (fun r4 h5 p6 => ?_))
  obtain ⟨rfl, x7, rfl, q8 | q8 | q8 | q8⟩ := p6
  · show RUN d_X9_brings 5 [(0, .inr (.inr (.inl 96))), (1, .inl a0)] [.inl x7] h _
    refine N_if_ne (a := x7.toInt) 11 rfl rfl rfl (fun c9 => ?_) (fun c9 => ?_)
    · exfalso; omega
    · refine R_bipush (-2) rfl rfl ?_
      exact R_iret rfl rfl rfl ⟨hI, fr, trivial, _, rfl, trivial⟩
  · show RUN d_X9_brings 5 [(0, .inr (.inr (.inl 96))), (1, .inl a0)] [.inl x7] h _
    refine N_if_ne (a := x7.toInt) 11 rfl rfl rfl (fun c10 => ?_) (fun c10 => ?_)
    · exfalso; omega
    · refine R_bipush (-2) rfl rfl ?_
      exact R_iret rfl rfl rfl ⟨hI, fr, trivial, _, rfl, trivial⟩
  · show RUN d_X9_brings 5 [(0, .inr (.inr (.inl 96))), (1, .inl a0)] [.inl x7] h _
    refine N_if_ne (a := x7.toInt) 11 rfl rfl rfl (fun c11 => ?_) (fun c11 => ?_)
    · exfalso; omega
    · refine R_bipush (-2) rfl rfl ?_
      exact R_iret rfl rfl rfl ⟨hI, fr, trivial, _, rfl, trivial⟩
  · show RUN d_X9_brings 5 [(0, .inr (.inr (.inl 96))), (1, .inl a0)] [.inl x7] h _
    refine N_if_ne (a := x7.toInt) 11 rfl rfl rfl (fun c12 => ?_) (fun c12 => ?_)
    · refine R_aload_n (k := 0) rfl rfl rfl ?_
      refine R_callV (v := .inr (.inr (.inl 96))) (As := []) (rest := []) rfl mt_9_i298 pp_X9_asItIs (by decide) rfl rfl rfl (Nat.le_of_ble_eq_true rfl) (Nat.le_of_ble_eq_true rfl) ((k_X9_asItIs h hI).mono (fun r13 h14 p15 => ?_))
      obtain ⟨hJ, fj, ⟨kp16, -⟩, rfl⟩ := p15
      have f17 := fj
      have fr := fr.trans fj (by decide)
      have hI := hJ
      have s18 : (h14.1 97 10).toInt = (h.1 97 10).toInt := by rw [(f17 97 (by decide)).1]
      have s19 : (h14.1 97 0).toInt = (h.1 97 0).toInt := by rw [(f17 97 (by decide)).1]
      show RUN d_X9_brings 15 [(0, .inr (.inr (.inl 96))), (1, .inl a0)] [] h14 _
      refine R_aload_n (k := 0) rfl rfl rfl ?_
      refine R_iload_n (k := 1) rfl rfl rfl ?_
      refine R_callV (v := .inr (.inr (.inl 96))) (As := [.inl a0]) (rest := []) rfl mt_9_i466 pp_X9_bringsOf (by decide) rfl rfl rfl (Nat.le_of_ble_eq_true rfl) (Nat.le_of_ble_eq_true rfl) ((k_X9_bringsOf h14 hI a0 (by omega)).mono (fun r20 h21 p22 => ?_))
      obtain ⟨hJ, fj, -, x23, rfl, q24⟩ := p22
      have f25 := fj
      have fr := fr.trans fj (by decide)
      have hI := hJ
      have s26 : (h21.1 97 10).toInt = (h14.1 97 10).toInt := by rw [(f25 97 (by decide)).1]
      have s27 : (h21.1 97 0).toInt = (h14.1 97 0).toInt := by rw [(f25 97 (by decide)).1]
      show RUN d_X9_brings 20 [(0, .inr (.inr (.inl 96))), (1, .inl a0)] [.inl x23] h21 _
      exact R_iret rfl rfl rfl ⟨hI, fr, trivial, _, rfl, trivial⟩
    · exfalso; omega
abbrev q_X9_factorial (h : PH) (a0 : Int32) : Option PV → PH → Prop := fun r h' => h = h' ∧ ∃ z : Int32, r = some (.inl z) ∧ ((True))
set_option maxHeartbeats 4000000 in
set_option maxRecDepth 100000 in
theorem k_X9_factorial (h : PH) (hI : INV h) (a0 : Int32) (h0a : 0 ≤ a0.toInt ∧ a0.toInt ≤ 6) : CALL d_X9_factorial [.inl a0] h (q_X9_factorial h a0) := by
  show RUN d_X9_factorial 0 [(0, .inl a0)] [] h _
  refine R_iconst 1 rfl rfl ?_
  refine R_istore_n (k := 1) rfl [(1, .inl 1), (0, .inl a0)] rfl rfl (by decide) ?_
  refine R_iconst 2 rfl rfl ?_
  refine R_istore_n (k := 2) rfl [(2, .inl 2), (1, .inl 1), (0, .inl a0)] rfl rfl (by decide) ?_
  have lp2 : ∀ (n1 : Nat) (x3 : Int32) (x4 : Int32), 2 ≤ x4.toInt ∧ x4.toInt ≤ 7 → x4.toInt ≤ a0.toInt + 2 → (7 - x4.toInt).toNat < n1 → RUN d_X9_factorial 4 [(2, .inl x4), (1, .inl x3), (0, .inl a0)] [] h (q_X9_factorial h a0) := by
    intro n1
    induction n1 with
    | zero => intro x3 x4 m6 m7 hz; exact absurd hz (Nat.not_lt_zero _)
    | succ n1 ih5 =>
      intro x3 x4 m6 m7 hz
      refine R_iload_n (k := 2) rfl rfl rfl ?_
      refine R_iload_n (k := 0) rfl rfl rfl ?_
      refine N_icmp_gt (a := x4.toInt) (b := a0.toInt) 19 rfl rfl rfl rfl (fun c8 => ?_) (fun c8 => ?_)
      · refine R_iload_n (k := 1) rfl rfl rfl ?_
        exact R_iret rfl rfl rfl ⟨rfl, _, rfl, trivial⟩
      · refine R_iload_n (k := 1) rfl rfl rfl ?_
        refine R_iload_n (k := 2) rfl rfl rfl ?_
        have b9 := i_rng x3
        refine R_imul rfl ?_
        refine N_any (fun x10 => ?_)
        refine R_istore_n (k := 1) rfl [(1, .inl x10), (2, .inl x4), (0, .inl a0)] rfl rfl (by decide) ?_
        refine N_iinc (a := x4.toInt) (c := 1) (fun w => [(2, .inl w), (1, .inl x10), (0, .inl a0)]) rfl rfl (fun _ => rfl) (by decide) rfl (by decide) (by omega) (fun x11 q12 => ?_)
        refine R_goto 4 rfl rfl ?_
        exact RUN_weak (psub_cons rfl (psub_cons rfl (psub_cons rfl (psub_nil _)))) (ih5 x10 x11 (by omega) (by omega) (by omega))
  have k13 : (1 : Int32).toInt = 1 := by decide
  have k14 : (2 : Int32).toInt = 2 := by decide
  exact lp2 _ (1 : Int32) (2 : Int32) (by decide) (by omega) (Nat.lt_succ_self _)
abbrev q_X8_getsBy (h : PH) (a0 : Int32) (a1 : Int32) (a2 : Int32) (a3 : Int32) : Option PV → PH → Prop := fun r h' => INV h' ∧ FR [70, 71, 72, 73, 74] h h' ∧ (True) ∧ ∃ z : Int32, r = some (.inl z) ∧ ((True))
set_option maxHeartbeats 4000000 in
set_option maxRecDepth 100000 in
theorem k_X8_getsBy (h : PH) (hI : INV h) (a0 : Int32) (a1 : Int32) (a2 : Int32) (a3 : Int32) (h0a : 0 ≤ a0.toInt ∧ a0.toInt ≤ 5) (h1a : 0 ≤ a1.toInt ∧ a1.toInt ≤ 5) : CALL d_X8_getsBy [.inr (.inr (.inl 0)), .inl a0, .inl a1, .inl a2, .inl a3] h (q_X8_getsBy h a0 a1 a2 a3) := by
  show RUN d_X8_getsBy 0 [(0, .inr (.inr (.inl 0))), (1, .inl a0), (2, .inl a1), (3, .inl a2), (4, .inl a3)] [] h _
  have b1 := i_rng a2
  have b2 := i_rng a3
  have fr : FR [70, 71, 72, 73, 74] h h := FR.rf _ _
  refine R_aload_n (k := 0) rfl rfl rfl ?_
  refine R_callV (v := .inr (.inr (.inl 0))) (As := []) (rest := []) rfl mt_8_i237 pp_X8_lineAsNow (by decide) rfl rfl rfl (Nat.le_of_ble_eq_true rfl) (Nat.le_of_ble_eq_true rfl) ((k_X8_lineAsNow h hI).mono (fun r3 h4 p5 => ?_))
  obtain ⟨hJ, fj, -, rfl⟩ := p5
  have f6 := fj
  have fr := fr.trans fj (by decide)
  have hI := hJ
  show RUN d_X8_getsBy 4 [(0, .inr (.inr (.inl 0))), (1, .inl a0), (2, .inl a1), (3, .inl a2), (4, .inl a3)] [] h4 _
  refine R_aload_n (k := 0) rfl rfl rfl ?_
  refine R_getf_r (j := 7) rfl ft_8_49 sh_0 rfl ?_
  refine R_getf_r (j := 0) rfl ft_8_433 sh_70 rfl ?_
  refine R_iload_n (k := 1) rfl rfl rfl ?_
  refine R_dup2 rfl ?_
  refine R_iald rfl sh_71 ⟨by omega, by omega⟩ ?_
  refine N_any (fun x7 => ?_)
  refine R_iload_n (k := 3) rfl rfl rfl ?_
  have b8 := i_rng x7
  have b9 := i_rng a2
  refine R_iadd rfl ?_
  refine N_any (fun x10 => ?_)
  refine K_iast (a := a0.toInt) (lo := (-2147483648)) (hi' := 2147483647) rfl sh_71 rfl ⟨by omega, by omega⟩ hI (by decide) rfl (i_rng _) fr (by decide) (fun h11 g12 hI fr => ?_)
  refine R_aload_n (k := 0) rfl rfl rfl ?_
  refine R_getf_r (j := 7) rfl ft_8_49 sh_0 rfl ?_
  refine R_getf_r (j := 0) rfl ft_8_433 sh_70 rfl ?_
  refine R_iload_n (k := 2) rfl rfl rfl ?_
  refine R_dup2 rfl ?_
  refine R_iald rfl sh_71 ⟨by omega, by omega⟩ ?_
  refine N_any (fun x13 => ?_)
  refine R_iload (k := 4) rfl rfl ?_
  have b14 := i_rng x13
  have b15 := i_rng a3
  refine R_iadd rfl ?_
  refine N_any (fun x16 => ?_)
  refine K_iast (a := a1.toInt) (lo := (-2147483648)) (hi' := 2147483647) rfl sh_71 rfl ⟨by omega, by omega⟩ hI (by decide) rfl (i_rng _) fr (by decide) (fun h17 g18 hI fr => ?_)
  refine R_iconst 2 rfl rfl ?_
  refine R_aload_n (k := 0) rfl rfl rfl ?_
  refine R_callV (v := .inr (.inr (.inl 0))) (As := []) (rest := [.inl 2]) rfl mt_8_i243 pp_X8_playLine (by decide) rfl rfl rfl (Nat.le_of_ble_eq_true rfl) (Nat.le_of_ble_eq_true rfl) ((k_X8_playLine h17 hI).mono (fun r19 h20 p21 => ?_))
  obtain ⟨hJ, fj, ⟨kp22, -⟩, w23, rfl⟩ := p21
  have f24 := fj
  have fr := fr.trans fj (by decide)
  have hI := hJ
  show RUN d_X8_getsBy 36 [(0, .inr (.inr (.inl 0))), (1, .inl a0), (2, .inl a1), (3, .inl a2), (4, .inl a3)] [.inr (.inl w23), .inl 2] h20 _
  refine R_callS (As := [.inr (.inl w23)]) (rest := [.inl 2]) rfl mt_8_i351 (by decide) pp_J13_bitCount_95d88 (by decide) rfl rfl (Nat.le_of_ble_eq_true rfl) (Nat.le_of_ble_eq_true rfl) ((k_J13_bitCount_95d88 h20 hI w23).mono (fun r25 h26 p27 => ?_))
  obtain ⟨rfl, x28, rfl, q29⟩ := p27
  show RUN d_X8_getsBy 39 [(0, .inr (.inr (.inl 0))), (1, .inl a0), (2, .inl a1), (3, .inl a2), (4, .inl a3)] [.inl x28, .inl 2] h20 _
  refine N_imul (a := 2) (b := x28.toInt) rfl (by decide) rfl (by omega) (fun x30 q31 => ?_)
  refine R_iconst 5 rfl rfl ?_
  refine R_iload_n (k := 3) rfl rfl rfl ?_
  have b32 := i_rng a2
  refine R_imul rfl ?_
  refine N_any (fun x33 => ?_)
  have b34 := i_rng x33
  refine R_iadd rfl ?_
  refine N_any (fun x35 => ?_)
  exact R_iret rfl rfl rfl ⟨hI, fr, trivial, _, rfl, trivial⟩
abbrev q_X8_rests (h : PH) (a0 : Int32) (a1 : Int32) : Option PV → PH → Prop := fun r h' => INV h' ∧ FR [70, 71, 72, 73, 74] h h' ∧ (True) ∧ ∃ z : Int32, r = some (.inl z) ∧ ((True))
set_option maxHeartbeats 4000000 in
set_option maxRecDepth 100000 in
theorem k_X8_rests (h : PH) (hI : INV h) (a0 : Int32) (a1 : Int32) : CALL d_X8_rests [.inr (.inr (.inl 0)), .inl a0, .inl a1] h (q_X8_rests h a0 a1) := by
  show RUN d_X8_rests 0 [(0, .inr (.inr (.inl 0))), (1, .inl a0), (2, .inl a1)] [] h _
  have b1 := i_rng a0
  have b2 := i_rng a1
  have fr : FR [70, 71, 72, 73, 74] h h := FR.rf _ _
  refine R_aload_n (k := 0) rfl rfl rfl ?_
  refine R_getf_r (j := 3) rfl ft_8_28 sh_0 rfl ?_
  refine R_iload_n (k := 1) rfl rfl rfl ?_
  have b3 : (0 : Int) ≤ (h.1 17 5).toInt ∧ (h.1 17 5).toInt ≤ 6 := hI.1 17 5
  refine R_callV (v := .inr (.inr (.inl 16))) (As := [.inl a0]) (rest := []) rfl mt_8_i119 pp_X1_hasHand (by decide) rfl rfl rfl (Nat.le_of_ble_eq_true rfl) (Nat.le_of_ble_eq_true rfl) ((k_X1_hasHand h hI a0).mono (fun r4 h5 p6 => ?_))
  obtain ⟨rfl, x7, rfl, q8 | q8 | q8⟩ := p6
  · show RUN d_X8_rests 8 [(0, .inr (.inr (.inl 0))), (1, .inl a0), (2, .inl a1)] [.inl x7] h _
    refine N_if_eq (a := x7.toInt) 27 rfl rfl rfl (fun c9 => ?_) (fun c9 => ?_)
    · refine R_bipush (-2) rfl rfl ?_
      exact R_iret rfl rfl rfl ⟨hI, fr, trivial, _, rfl, trivial⟩
    · exfalso; omega
  · show RUN d_X8_rests 8 [(0, .inr (.inr (.inl 0))), (1, .inl a0), (2, .inl a1)] [.inl x7] h _
    refine N_if_eq (a := x7.toInt) 27 rfl rfl rfl (fun c10 => ?_) (fun c10 => ?_)
    · refine R_bipush (-2) rfl rfl ?_
      exact R_iret rfl rfl rfl ⟨hI, fr, trivial, _, rfl, trivial⟩
    · exfalso; omega
  · show RUN d_X8_rests 8 [(0, .inr (.inr (.inl 0))), (1, .inl a0), (2, .inl a1)] [.inl x7] h _
    refine N_if_eq (a := x7.toInt) 27 rfl rfl rfl (fun c11 => ?_) (fun c11 => ?_)
    · exfalso; omega
    · refine R_aload_n (k := 0) rfl rfl rfl ?_
      refine R_getf_r (j := 3) rfl ft_8_28 sh_0 rfl ?_
      refine R_iload_n (k := 2) rfl rfl rfl ?_
      refine R_callV (v := .inr (.inr (.inl 16))) (As := [.inl a1]) (rest := []) rfl mt_8_i119 pp_X1_hasHand (by decide) rfl rfl rfl (Nat.le_of_ble_eq_true rfl) (Nat.le_of_ble_eq_true rfl) ((k_X1_hasHand h hI a1).mono (fun r12 h13 p14 => ?_))
      obtain ⟨rfl, x15, rfl, q16 | q16 | q16⟩ := p14
      · show RUN d_X8_rests 19 [(0, .inr (.inr (.inl 0))), (1, .inl a0), (2, .inl a1)] [.inl x15] h _
        refine N_if_eq (a := x15.toInt) 27 rfl rfl rfl (fun c17 => ?_) (fun c17 => ?_)
        · refine R_bipush (-2) rfl rfl ?_
          exact R_iret rfl rfl rfl ⟨hI, fr, trivial, _, rfl, trivial⟩
        · exfalso; omega
      · show RUN d_X8_rests 19 [(0, .inr (.inr (.inl 0))), (1, .inl a0), (2, .inl a1)] [.inl x15] h _
        refine N_if_eq (a := x15.toInt) 27 rfl rfl rfl (fun c18 => ?_) (fun c18 => ?_)
        · refine R_bipush (-2) rfl rfl ?_
          exact R_iret rfl rfl rfl ⟨hI, fr, trivial, _, rfl, trivial⟩
        · exfalso; omega
      · show RUN d_X8_rests 19 [(0, .inr (.inr (.inl 0))), (1, .inl a0), (2, .inl a1)] [.inl x15] h _
        refine N_if_eq (a := x15.toInt) 27 rfl rfl rfl (fun c19 => ?_) (fun c19 => ?_)
        · exfalso; omega
        · refine R_iload_n (k := 1) rfl rfl rfl ?_
          refine R_iload_n (k := 2) rfl rfl rfl ?_
          refine N_icmp_ne (a := a0.toInt) (b := a1.toInt) 30 rfl rfl rfl rfl (fun c20 => ?_) (fun c20 => ?_)
          · refine R_iconst 0 rfl rfl ?_
            refine R_istore_n (k := 3) rfl [(3, .inl 0), (0, .inr (.inr (.inl 0))), (1, .inl a0), (2, .inl a1)] rfl rfl (by decide) ?_
            refine R_iconst 0 rfl rfl ?_
            refine R_istore (k := 4) [(4, .inl 0), (3, .inl 0), (0, .inr (.inr (.inl 0))), (1, .inl a0), (2, .inl a1)] rfl rfl (by decide) ?_
            have lp22 : ∀ (n21 : Nat) (h23 : PH) (x25 : Int32) (x26 : Int32), INV h23 → FR [70, 71, 72, 73, 74] h h23 → FR [70, 71, 72, 73, 74] h h23 → 0 ≤ x26.toInt ∧ x26.toInt ≤ 4 → (4 - x26.toInt).toNat < n21 → RUN d_X8_rests 35 [(4, .inl x26), (3, .inl x25), (0, .inr (.inr (.inl 0))), (1, .inl a0), (2, .inl a1)] [] h23 (q_X8_rests h a0 a1) := by
              intro n21
              induction n21 with
              | zero => intro h23 x25 x26 m28 m29 m30 m31 hz; exact absurd hz (Nat.not_lt_zero _)
              | succ n21 ih27 =>
                intro h23 x25 x26 hI fr fl24 m31 hz
                have s32 : (h23.1 17 5).toInt = (h.1 17 5).toInt := by rw [(fl24 17 (by decide)).1]
                refine R_iload (k := 4) rfl rfl ?_
                refine R_iconst 4 rfl rfl ?_
                refine N_icmp_ge (a := x26.toInt) (b := 4) 128 rfl rfl rfl (by decide) (fun c33 => ?_) (fun c33 => ?_)
                · refine R_iload_n (k := 3) rfl rfl rfl ?_
                  exact R_iret rfl rfl rfl ⟨hI, fr, trivial, _, rfl, trivial⟩
                · refine R_iload (k := 4) rfl rfl ?_
                  refine R_iconst 1 rfl rfl ?_
                  refine N_iand (b := 1) rfl (by decide) (by omega) (fun x34 q35 => ?_)
                  refine R_istore (k := 5) [(5, .inl x34), (4, .inl x26), (3, .inl x25), (0, .inr (.inr (.inl 0))), (1, .inl a0), (2, .inl a1)] rfl rfl (by decide) ?_
                  refine R_iload (k := 4) rfl rfl ?_
                  refine R_iconst 1 rfl rfl ?_
                  refine R_ishr rfl ?_
                  refine N_any (fun x36 => ?_)
                  refine R_istore (k := 6) [(6, .inl x36), (5, .inl x34), (4, .inl x26), (3, .inl x25), (0, .inr (.inr (.inl 0))), (1, .inl a0), (2, .inl a1)] rfl rfl (by decide) ?_
                  refine R_aload_n (k := 0) rfl rfl rfl ?_
                  refine R_iload_n (k := 1) rfl rfl rfl ?_
                  refine R_iload_n (k := 2) rfl rfl rfl ?_
                  refine R_iload (k := 5) rfl rfl ?_
                  refine R_iload (k := 6) rfl rfl ?_
                  refine R_callV (v := .inr (.inr (.inl 0))) (As := [.inl a0, .inl a1, .inl x34, .inl x36]) (rest := []) rfl mt_8_i338 pp_X8_getsBy (by decide) rfl rfl rfl (Nat.le_of_ble_eq_true rfl) (Nat.le_of_ble_eq_true rfl) ((k_X8_getsBy h23 hI a0 a1 x34 x36 (by omega) (by omega)).mono (fun r37 h38 p39 => ?_))
                  obtain ⟨hJ, fj, -, x40, rfl, q41⟩ := p39
                  have f42 := fj
                  have fr := fr.trans fj (by decide)
                  have hI := hJ
                  have fl24 : FR [70, 71, 72, 73, 74] h h38 := fl24.trans fj (by decide)
                  have s43 : (h38.1 17 5).toInt = (h23.1 17 5).toInt := by rw [(f42 17 (by decide)).1]
                  show RUN d_X8_rests 63 [(6, .inl x36), (5, .inl x34), (4, .inl x26), (3, .inl x25), (0, .inr (.inr (.inl 0))), (1, .inl a0), (2, .inl a1)] [.inl x40] h38 _
                  refine R_aload_n (k := 0) rfl rfl rfl ?_
                  refine R_iload_n (k := 1) rfl rfl rfl ?_
                  refine R_iload_n (k := 2) rfl rfl rfl ?_
                  refine R_iconst 1 rfl rfl ?_
                  refine R_iload (k := 5) rfl rfl ?_
                  refine N_isub (a := 1) (b := x34.toInt) rfl (by decide) rfl (by omega) (fun x44 q45 => ?_)
                  refine R_iload (k := 6) rfl rfl ?_
                  refine R_callV (v := .inr (.inr (.inl 0))) (As := [.inl a0, .inl a1, .inl x44, .inl x36]) (rest := [.inl x40]) rfl mt_8_i338 pp_X8_getsBy (by decide) rfl rfl rfl (Nat.le_of_ble_eq_true rfl) (Nat.le_of_ble_eq_true rfl) ((k_X8_getsBy h38 hI a0 a1 x44 x36 (by omega) (by omega)).mono (fun r46 h47 p48 => ?_))
                  obtain ⟨hJ, fj, -, x49, rfl, q50⟩ := p48
                  have f51 := fj
                  have fr := fr.trans fj (by decide)
                  have hI := hJ
                  have fl24 : FR [70, 71, 72, 73, 74] h h47 := fl24.trans fj (by decide)
                  have s52 : (h47.1 17 5).toInt = (h38.1 17 5).toInt := by rw [(f51 17 (by decide)).1]
                  show RUN d_X8_rests 75 [(6, .inl x36), (5, .inl x34), (4, .inl x26), (3, .inl x25), (0, .inr (.inr (.inl 0))), (1, .inl a0), (2, .inl a1)] [.inl x49, .inl x40] h47 _
                  refine N_icmp_lt (a := x40.toInt) (b := x49.toInt) 107 rfl rfl rfl rfl (fun c53 => ?_) (fun c53 => ?_)
                  · refine R_iconst 0 rfl rfl ?_
                    refine R_istore (k := 7) [(7, .inl 0), (6, .inl x36), (5, .inl x34), (4, .inl x26), (3, .inl x25), (0, .inr (.inr (.inl 0))), (1, .inl a0), (2, .inl a1)] rfl rfl (by decide) ?_
                    refine R_iload (k := 7) rfl rfl ?_
                    refine N_if_eq (a := 0) 122 rfl rfl (by decide) (fun c54 => ?_) (fun c54 => ?_)
                    · refine N_iinc (a := x26.toInt) (c := 1) (fun w => [(4, .inl w), (7, .inl 0), (6, .inl x36), (5, .inl x34), (3, .inl x25), (0, .inr (.inr (.inl 0))), (1, .inl a0), (2, .inl a1)]) rfl rfl (fun _ => rfl) (by decide) rfl (by decide) (by omega) (fun x55 q56 => ?_)
                      refine R_goto 35 rfl rfl ?_
                      exact RUN_weak (psub_cons rfl (psub_cons rfl (psub_cons rfl (psub_cons rfl (psub_cons rfl (psub_nil _)))))) (ih27 h47 x25 x55 hI fr fl24 (by omega) (by omega))
                    · exfalso; omega
                  · refine R_aload_n (k := 0) rfl rfl rfl ?_
                    refine R_iload_n (k := 2) rfl rfl rfl ?_
                    refine R_iload_n (k := 1) rfl rfl rfl ?_
                    refine R_iload (k := 6) rfl rfl ?_
                    refine R_iload (k := 5) rfl rfl ?_
                    refine R_callV (v := .inr (.inr (.inl 0))) (As := [.inl a1, .inl a0, .inl x36, .inl x34]) (rest := []) rfl mt_8_i338 pp_X8_getsBy (by decide) rfl rfl rfl (Nat.le_of_ble_eq_true rfl) (Nat.le_of_ble_eq_true rfl) ((k_X8_getsBy h47 hI a1 a0 x36 x34 (by omega) (by omega)).mono (fun r57 h58 p59 => ?_))
                    obtain ⟨hJ, fj, -, x60, rfl, q61⟩ := p59
                    have f62 := fj
                    have fr := fr.trans fj (by decide)
                    have hI := hJ
                    have fl24 : FR [70, 71, 72, 73, 74] h h58 := fl24.trans fj (by decide)
                    have s63 : (h58.1 17 5).toInt = (h47.1 17 5).toInt := by rw [(f62 17 (by decide)).1]
                    show RUN d_X8_rests 88 [(6, .inl x36), (5, .inl x34), (4, .inl x26), (3, .inl x25), (0, .inr (.inr (.inl 0))), (1, .inl a0), (2, .inl a1)] [.inl x60] h58 _
                    refine R_aload_n (k := 0) rfl rfl rfl ?_
                    refine R_iload_n (k := 2) rfl rfl rfl ?_
                    refine R_iload_n (k := 1) rfl rfl rfl ?_
                    refine R_iconst 1 rfl rfl ?_
                    refine R_iload (k := 6) rfl rfl ?_
                    have b64 := i_rng x36
                    refine R_isub rfl ?_
                    refine N_any (fun x65 => ?_)
                    refine R_iload (k := 5) rfl rfl ?_
                    refine R_callV (v := .inr (.inr (.inl 0))) (As := [.inl a1, .inl a0, .inl x65, .inl x34]) (rest := [.inl x60]) rfl mt_8_i338 pp_X8_getsBy (by decide) rfl rfl rfl (Nat.le_of_ble_eq_true rfl) (Nat.le_of_ble_eq_true rfl) ((k_X8_getsBy h58 hI a1 a0 x65 x34 (by omega) (by omega)).mono (fun r66 h67 p68 => ?_))
                    obtain ⟨hJ, fj, -, x69, rfl, q70⟩ := p68
                    have f71 := fj
                    have fr := fr.trans fj (by decide)
                    have hI := hJ
                    have fl24 : FR [70, 71, 72, 73, 74] h h67 := fl24.trans fj (by decide)
                    have s72 : (h67.1 17 5).toInt = (h58.1 17 5).toInt := by rw [(f71 17 (by decide)).1]
                    show RUN d_X8_rests 100 [(6, .inl x36), (5, .inl x34), (4, .inl x26), (3, .inl x25), (0, .inr (.inr (.inl 0))), (1, .inl a0), (2, .inl a1)] [.inl x69, .inl x60] h67 _
                    refine N_icmp_lt (a := x60.toInt) (b := x69.toInt) 107 rfl rfl rfl rfl (fun c73 => ?_) (fun c73 => ?_)
                    · refine R_iconst 0 rfl rfl ?_
                      refine R_istore (k := 7) [(7, .inl 0), (6, .inl x36), (5, .inl x34), (4, .inl x26), (3, .inl x25), (0, .inr (.inr (.inl 0))), (1, .inl a0), (2, .inl a1)] rfl rfl (by decide) ?_
                      refine R_iload (k := 7) rfl rfl ?_
                      refine N_if_eq (a := 0) 122 rfl rfl (by decide) (fun c74 => ?_) (fun c74 => ?_)
                      · refine N_iinc (a := x26.toInt) (c := 1) (fun w => [(4, .inl w), (7, .inl 0), (6, .inl x36), (5, .inl x34), (3, .inl x25), (0, .inr (.inr (.inl 0))), (1, .inl a0), (2, .inl a1)]) rfl rfl (fun _ => rfl) (by decide) rfl (by decide) (by omega) (fun x75 q76 => ?_)
                        refine R_goto 35 rfl rfl ?_
                        exact RUN_weak (psub_cons rfl (psub_cons rfl (psub_cons rfl (psub_cons rfl (psub_cons rfl (psub_nil _)))))) (ih27 h67 x25 x75 hI fr fl24 (by omega) (by omega))
                      · exfalso; omega
                    · refine R_iconst 1 rfl rfl ?_
                      refine R_goto 108 rfl rfl ?_
                      refine R_istore (k := 7) [(7, .inl 1), (6, .inl x36), (5, .inl x34), (4, .inl x26), (3, .inl x25), (0, .inr (.inr (.inl 0))), (1, .inl a0), (2, .inl a1)] rfl rfl (by decide) ?_
                      refine R_iload (k := 7) rfl rfl ?_
                      refine N_if_eq (a := 1) 122 rfl rfl (by decide) (fun c77 => ?_) (fun c77 => ?_)
                      · exfalso; omega
                      · refine R_iload_n (k := 3) rfl rfl rfl ?_
                        refine R_iconst 1 rfl rfl ?_
                        refine R_iload (k := 4) rfl rfl ?_
                        refine N_ishl1 (b := x26.toInt) rfl rfl (by omega) (fun x78 q79 => ?_)
                        refine R_ior rfl ?_
                        refine N_any (fun x80 => ?_)
                        refine R_istore_n (k := 3) rfl [(3, .inl x80), (7, .inl 1), (6, .inl x36), (5, .inl x34), (4, .inl x26), (0, .inr (.inr (.inl 0))), (1, .inl a0), (2, .inl a1)] rfl rfl (by decide) ?_
                        refine N_iinc (a := x26.toInt) (c := 1) (fun w => [(4, .inl w), (3, .inl x80), (7, .inl 1), (6, .inl x36), (5, .inl x34), (0, .inr (.inr (.inl 0))), (1, .inl a0), (2, .inl a1)]) rfl rfl (fun _ => rfl) (by decide) rfl (by decide) (by omega) (fun x81 q82 => ?_)
                        refine R_goto 35 rfl rfl ?_
                        exact RUN_weak (psub_cons rfl (psub_cons rfl (psub_cons rfl (psub_cons rfl (psub_cons rfl (psub_nil _)))))) (ih27 h67 x80 x81 hI fr fl24 (by omega) (by omega))
            exact lp22 _ h (0 : Int32) (0 : Int32) hI fr (FR.rf _ _) (by decide) (Nat.lt_succ_self _)
          · refine R_bipush (-2) rfl rfl ?_
            exact R_iret rfl rfl rfl ⟨hI, fr, trivial, _, rfl, trivial⟩
abbrev q_X9_areTwo (h : PH) (a0 : Int32) (a1 : Int32) : Option PV → PH → Prop := fun r h' => h = h' ∧ ∃ z : Int32, r = some (.inl z) ∧ ((z.toInt = 0 ∧ a0.toInt ≤ (-1)) ∨ (z.toInt = 0 ∧ 0 ≤ a0.toInt ∧ (h.1 97 5).toInt ≤ a0.toInt + 0) ∨ (z.toInt = 0 ∧ 0 ≤ a0.toInt ∧ a0.toInt ≤ 5 ∧ a1.toInt ≤ (-1) ∧ 1 ≤ (h.1 97 0).toInt ∧ (h.1 97 0).toInt ≤ 60 ∧ 1 ≤ (h.1 97 5).toInt ∧ (h.1 97 5).toInt ≤ 6 ∧ a0.toInt ≤ (h.1 97 5).toInt + (-1)) ∨ (z.toInt = 0 ∧ 0 ≤ a0.toInt ∧ a0.toInt ≤ 5 ∧ 1 ≤ a1.toInt ∧ 1 ≤ (h.1 97 0).toInt ∧ (h.1 97 0).toInt ≤ 60 ∧ 1 ≤ (h.1 97 5).toInt ∧ (h.1 97 5).toInt ≤ 6 ∧ a0.toInt ≤ (h.1 97 5).toInt + (-1) ∧ (h.1 97 5).toInt ≤ a1.toInt + 0) ∨ (z.toInt = 0 ∧ 0 ≤ a0.toInt ∧ a0.toInt ≤ 5 ∧ 0 ≤ a1.toInt ∧ a1.toInt ≤ 5 ∧ 1 ≤ (h.1 97 0).toInt ∧ (h.1 97 0).toInt ≤ 60 ∧ 1 ≤ (h.1 97 5).toInt ∧ (h.1 97 5).toInt ≤ 6 ∧ a0.toInt ≤ (h.1 97 5).toInt + (-1) ∧ a1.toInt ≤ (h.1 97 5).toInt + (-1)) ∨ (z.toInt = 1 ∧ 0 ≤ a0.toInt ∧ a0.toInt ≤ 5 ∧ 0 ≤ a1.toInt ∧ a1.toInt ≤ 5 ∧ 1 ≤ (h.1 97 0).toInt ∧ (h.1 97 0).toInt ≤ 60 ∧ 1 ≤ (h.1 97 5).toInt ∧ (h.1 97 5).toInt ≤ 6 ∧ a0.toInt ≤ (h.1 97 5).toInt + (-1) ∧ a1.toInt ≤ (h.1 97 5).toInt + (-1)))
set_option maxHeartbeats 4000000 in
set_option maxRecDepth 100000 in
theorem k_X9_areTwo (h : PH) (hI : INV h) (a0 : Int32) (a1 : Int32) : CALL d_X9_areTwo [.inr (.inr (.inl 96)), .inl a0, .inl a1] h (q_X9_areTwo h a0 a1) := by
  show RUN d_X9_areTwo 0 [(0, .inr (.inr (.inl 96))), (1, .inl a0), (2, .inl a1)] [] h _
  have b1 := i_rng a0
  have b2 := i_rng a1
  refine R_aload_n (k := 0) rfl rfl rfl ?_
  refine R_iload_n (k := 1) rfl rfl rfl ?_
  have b3 : (0 : Int) ≤ (h.1 97 5).toInt ∧ (h.1 97 5).toInt ≤ 6 := hI.1 97 5
  have b4 : (0 : Int) ≤ (h.1 97 0).toInt ∧ (h.1 97 0).toInt ≤ 60 := hI.1 97 0
  have e5 : 0 < (h.1 97 5).toInt → 1 ≤ (h.1 97 0).toInt := hI.2.2.2.2.2.1.2.2
  refine R_callV (v := .inr (.inr (.inl 96))) (As := [.inl a0]) (rest := []) rfl mt_9_i314 pp_X9_isHand (by decide) rfl rfl rfl (Nat.le_of_ble_eq_true rfl) (Nat.le_of_ble_eq_true rfl) ((k_X9_isHand h hI a0).mono (fun r6 h7 p8 => ?_))
  obtain ⟨rfl, x9, rfl, q10 | q10 | q10⟩ := p8
  · show RUN d_X9_areTwo 5 [(0, .inr (.inr (.inl 96))), (1, .inl a0), (2, .inl a1)] [.inl x9] h _
    refine N_if_eq (a := x9.toInt) 25 rfl rfl rfl (fun c11 => ?_) (fun c11 => ?_)
    · refine R_iconst 0 rfl rfl ?_
      exact R_iret rfl rfl rfl ⟨rfl, _, rfl, by rw [show (0 : Int32).toInt = 0 from rfl] <;> omega⟩
    · exfalso; omega
  · show RUN d_X9_areTwo 5 [(0, .inr (.inr (.inl 96))), (1, .inl a0), (2, .inl a1)] [.inl x9] h _
    refine N_if_eq (a := x9.toInt) 25 rfl rfl rfl (fun c12 => ?_) (fun c12 => ?_)
    · refine R_iconst 0 rfl rfl ?_
      exact R_iret rfl rfl rfl ⟨rfl, _, rfl, by rw [show (0 : Int32).toInt = 0 from rfl] <;> omega⟩
    · exfalso; omega
  · show RUN d_X9_areTwo 5 [(0, .inr (.inr (.inl 96))), (1, .inl a0), (2, .inl a1)] [.inl x9] h _
    refine N_if_eq (a := x9.toInt) 25 rfl rfl rfl (fun c13 => ?_) (fun c13 => ?_)
    · exfalso; omega
    · refine R_aload_n (k := 0) rfl rfl rfl ?_
      refine R_iload_n (k := 2) rfl rfl rfl ?_
      refine R_callV (v := .inr (.inr (.inl 96))) (As := [.inl a1]) (rest := []) rfl mt_9_i314 pp_X9_isHand (by decide) rfl rfl rfl (Nat.le_of_ble_eq_true rfl) (Nat.le_of_ble_eq_true rfl) ((k_X9_isHand h hI a1).mono (fun r14 h15 p16 => ?_))
      obtain ⟨rfl, x17, rfl, q18 | q18 | q18⟩ := p16
      · show RUN d_X9_areTwo 13 [(0, .inr (.inr (.inl 96))), (1, .inl a0), (2, .inl a1)] [.inl x17] h _
        refine N_if_eq (a := x17.toInt) 25 rfl rfl rfl (fun c19 => ?_) (fun c19 => ?_)
        · refine R_iconst 0 rfl rfl ?_
          exact R_iret rfl rfl rfl ⟨rfl, _, rfl, by rw [show (0 : Int32).toInt = 0 from rfl] <;> omega⟩
        · exfalso; omega
      · show RUN d_X9_areTwo 13 [(0, .inr (.inr (.inl 96))), (1, .inl a0), (2, .inl a1)] [.inl x17] h _
        refine N_if_eq (a := x17.toInt) 25 rfl rfl rfl (fun c20 => ?_) (fun c20 => ?_)
        · refine R_iconst 0 rfl rfl ?_
          exact R_iret rfl rfl rfl ⟨rfl, _, rfl, by rw [show (0 : Int32).toInt = 0 from rfl] <;> omega⟩
        · exfalso; omega
      · show RUN d_X9_areTwo 13 [(0, .inr (.inr (.inl 96))), (1, .inl a0), (2, .inl a1)] [.inl x17] h _
        refine N_if_eq (a := x17.toInt) 25 rfl rfl rfl (fun c21 => ?_) (fun c21 => ?_)
        · exfalso; omega
        · refine R_iload_n (k := 1) rfl rfl rfl ?_
          refine R_iload_n (k := 2) rfl rfl rfl ?_
          refine N_icmp_eq (a := a0.toInt) (b := a1.toInt) 25 rfl rfl rfl rfl (fun c22 => ?_) (fun c22 => ?_)
          · refine R_iconst 0 rfl rfl ?_
            exact R_iret rfl rfl rfl ⟨rfl, _, rfl, by rw [show (0 : Int32).toInt = 0 from rfl] <;> omega⟩
          · refine R_iconst 1 rfl rfl ?_
            refine R_goto 26 rfl rfl ?_
            exact R_iret rfl rfl rfl ⟨rfl, _, rfl, by rw [show (1 : Int32).toInt = 1 from rfl] <;> omega⟩
abbrev q_X9_getsBy (h : PH) (a0 : Int32) (a1 : Int32) (a2 : Int32) (a3 : Int32) (a4 : Int32) : Option PV → PH → Prop := fun r h' => INV h' ∧ FR [96, 103, 104, 105, 106, 107, 108, 109, 110, 111, 112, 113, 114, 115, 116, 117, 118, 119] h h' ∧ (True) ∧ ∃ z : Int32, r = some (.inl z) ∧ ((True))
set_option maxHeartbeats 4000000 in
set_option maxRecDepth 100000 in
theorem k_X9_getsBy (h : PH) (hI : INV h) (a0 : Int32) (a1 : Int32) (a2 : Int32) (a3 : Int32) (a4 : Int32) (h0a : 0 ≤ a0.toInt ∧ a0.toInt ≤ 5) (h1a : 0 ≤ a1.toInt ∧ a1.toInt ≤ 5) (h2a : 0 ≤ a2.toInt ∧ a2.toInt ≤ 1) (h4a : 0 ≤ a4.toInt ∧ a4.toInt ≤ 1) (p97_0 : 1 ≤ (h.1 97 0).toInt ∧ (h.1 97 0).toInt ≤ 60) : CALL d_X9_getsBy [.inr (.inr (.inl 96)), .inl a0, .inl a1, .inl a2, .inl a3, .inl a4] h (q_X9_getsBy h a0 a1 a2 a3 a4) := by
  show RUN d_X9_getsBy 0 [(0, .inr (.inr (.inl 96))), (1, .inl a0), (2, .inl a1), (3, .inl a2), (4, .inl a3), (5, .inl a4)] [] h _
  have b1 := i_rng a3
  have fr : FR [96, 103, 104, 105, 106, 107, 108, 109, 110, 111, 112, 113, 114, 115, 116, 117, 118, 119] h h := FR.rf _ _
  have b2 : (0 : Int) ≤ (h.1 97 0).toInt ∧ (h.1 97 0).toInt ≤ 60 := hI.1 97 0
  refine R_aload_n (k := 0) rfl rfl rfl ?_
  refine R_callV (v := .inr (.inr (.inl 96))) (As := []) (rest := []) rfl mt_9_i298 pp_X9_asItIs (by decide) rfl rfl rfl (Nat.le_of_ble_eq_true rfl) (Nat.le_of_ble_eq_true rfl) ((k_X9_asItIs h hI).mono (fun r3 h4 p5 => ?_))
  obtain ⟨hJ, fj, ⟨kp6, -⟩, rfl⟩ := p5
  have f7 := fj
  have fr := fr.trans fj (by decide)
  have hI := hJ
  have s8 : (h4.1 97 0).toInt = (h.1 97 0).toInt := by rw [(f7 97 (by decide)).1]
  show RUN d_X9_getsBy 4 [(0, .inr (.inr (.inl 96))), (1, .inl a0), (2, .inl a1), (3, .inl a2), (4, .inl a3), (5, .inl a4)] [] h4 _
  refine R_aload_n (k := 0) rfl rfl rfl ?_
  refine R_getf_r (j := 15) rfl ft_9_34 sh_96 rfl ?_
  refine R_iload_n (k := 1) rfl rfl rfl ?_
  refine R_dup2 rfl ?_
  refine R_iald rfl sh_103 ⟨by omega, by omega⟩ ?_
  refine N_any (fun x9 => ?_)
  refine R_iload_n (k := 3) rfl rfl rfl ?_
  have b10 := i_rng x9
  refine R_iadd rfl ?_
  refine N_any (fun x11 => ?_)
  refine K_iast (a := a0.toInt) (lo := (-2147483648)) (hi' := 2147483647) rfl sh_103 rfl ⟨by omega, by omega⟩ hI (by decide) rfl (i_rng _) fr (by decide) (fun h12 g13 hI fr => ?_)
  have s14 : (h12.1 97 0).toInt = (h4.1 97 0).toInt := by rw [g13, wI_ne _ _ _ (by decide)]
  refine R_aload_n (k := 0) rfl rfl rfl ?_
  refine R_getf_r (j := 15) rfl ft_9_34 sh_96 rfl ?_
  refine R_iload_n (k := 2) rfl rfl rfl ?_
  refine R_dup2 rfl ?_
  refine R_iald rfl sh_103 ⟨by omega, by omega⟩ ?_
  refine N_any (fun x15 => ?_)
  refine R_iload (k := 4) rfl rfl ?_
  have b16 := i_rng x15
  have b17 := i_rng a3
  refine R_iadd rfl ?_
  refine N_any (fun x18 => ?_)
  refine K_iast (a := a1.toInt) (lo := (-2147483648)) (hi' := 2147483647) rfl sh_103 rfl ⟨by omega, by omega⟩ hI (by decide) rfl (i_rng _) fr (by decide) (fun h19 g20 hI fr => ?_)
  have s21 : (h19.1 97 0).toInt = (h12.1 97 0).toInt := by rw [g20, wI_ne _ _ _ (by decide)]
  refine R_aload_n (k := 0) rfl rfl rfl ?_
  refine R_aload_n (k := 0) rfl rfl rfl ?_
  refine R_callV (v := .inr (.inr (.inl 96))) (As := []) (rest := [.inr (.inr (.inl 96))]) rfl mt_9_i129 pp_X9_last (by decide) rfl rfl rfl (Nat.le_of_ble_eq_true rfl) (Nat.le_of_ble_eq_true rfl) ((k_X9_last h19 hI).mono (fun r22 h23 p24 => ?_))
  obtain ⟨rfl, x25, rfl, q26⟩ := p24
  show RUN d_X9_getsBy 30 [(0, .inr (.inr (.inl 96))), (1, .inl a0), (2, .inl a1), (3, .inl a2), (4, .inl a3), (5, .inl a4)] [.inl x25, .inr (.inr (.inl 96))] h19 _
  refine R_callV (v := .inr (.inr (.inl 96))) (As := [.inl x25]) (rest := []) rfl mt_9_i304 pp_X9_goAll (by decide) rfl rfl rfl (Nat.le_of_ble_eq_true rfl) (Nat.le_of_ble_eq_true rfl) ((k_X9_goAll h19 hI x25 (by omega)).mono (fun r27 h28 p29 => ?_))
  obtain ⟨hJ, fj, ⟨kp30, kp31, kp32, kp33, kp34, kp35, kp36, kp37, -⟩, rfl⟩ := p29
  have f38 := fj
  have fr := fr.trans fj (by decide)
  have hI := hJ
  have s39 : (h28.1 97 0).toInt = (h19.1 97 0).toInt := by rw [(f38 97 (by decide)).1]
  show RUN d_X9_getsBy 33 [(0, .inr (.inr (.inl 96))), (1, .inl a0), (2, .inl a1), (3, .inl a2), (4, .inl a3), (5, .inl a4)] [] h28 _
  refine R_iconst 2 rfl rfl ?_
  refine R_aload_n (k := 0) rfl rfl rfl ?_
  refine R_getf_r (j := 28) rfl ft_9_64 sh_96 rfl ?_
  refine R_aload_n (k := 0) rfl rfl rfl ?_
  refine R_callV (v := .inr (.inr (.inl 96))) (As := []) (rest := [.inr (.inr (.inl 113)), .inl 2]) rfl mt_9_i129 pp_X9_last (by decide) rfl rfl rfl (Nat.le_of_ble_eq_true rfl) (Nat.le_of_ble_eq_true rfl) ((k_X9_last h28 hI).mono (fun r40 h41 p42 => ?_))
  obtain ⟨rfl, x43, rfl, q44⟩ := p42
  show RUN d_X9_getsBy 42 [(0, .inr (.inr (.inl 96))), (1, .inl a0), (2, .inl a1), (3, .inl a2), (4, .inl a3), (5, .inl a4)] [.inl x43, .inr (.inr (.inl 113)), .inl 2] h28 _
  refine R_iald rfl sh_113 ⟨by omega, by omega⟩ ?_
  refine N_any (fun x45 => ?_)
  have b46 := i_rng x45
  refine R_imul rfl ?_
  refine N_any (fun x47 => ?_)
  refine R_iconst 5 rfl rfl ?_
  refine R_iload (k := 5) rfl rfl ?_
  refine N_if_ne (a := a4.toInt) 54 rfl rfl rfl (fun c48 => ?_) (fun c48 => ?_)
  · refine R_iload (k := 4) rfl rfl ?_
    have b49 := i_rng a3
    refine R_imul rfl ?_
    refine N_any (fun x50 => ?_)
    have b51 := i_rng x47
    have b52 := i_rng x50
    refine R_iadd rfl ?_
    refine N_any (fun x53 => ?_)
    exact R_iret rfl rfl rfl ⟨hI, fr, trivial, _, rfl, trivial⟩
  · refine R_iload_n (k := 3) rfl rfl rfl ?_
    refine R_goto 56 rfl rfl ?_
    refine N_imul (a := 5) (b := a2.toInt) rfl (by decide) rfl (by omega) (fun x54 q55 => ?_)
    have b56 := i_rng x47
    refine R_iadd rfl ?_
    refine N_any (fun x57 => ?_)
    exact R_iret rfl rfl rfl ⟨hI, fr, trivial, _, rfl, trivial⟩
abbrev q_X9_rests (h : PH) (a0 : Int32) (a1 : Int32) : Option PV → PH → Prop := fun r h' => INV h' ∧ FR [96, 103, 104, 105, 106, 107, 108, 109, 110, 111, 112, 113, 114, 115, 116, 117, 118, 119] h h' ∧ (True) ∧ ∃ z : Int32, r = some (.inl z) ∧ ((True))
set_option maxHeartbeats 4000000 in
set_option maxRecDepth 100000 in
theorem k_X9_rests (h : PH) (hI : INV h) (a0 : Int32) (a1 : Int32) : CALL d_X9_rests [.inr (.inr (.inl 96)), .inl a0, .inl a1] h (q_X9_rests h a0 a1) := by
  show RUN d_X9_rests 0 [(0, .inr (.inr (.inl 96))), (1, .inl a0), (2, .inl a1)] [] h _
  have b1 := i_rng a0
  have b2 := i_rng a1
  have fr : FR [96, 103, 104, 105, 106, 107, 108, 109, 110, 111, 112, 113, 114, 115, 116, 117, 118, 119] h h := FR.rf _ _
  refine R_aload_n (k := 0) rfl rfl rfl ?_
  refine R_iload_n (k := 1) rfl rfl rfl ?_
  refine R_iload_n (k := 2) rfl rfl rfl ?_
  have b3 : (0 : Int) ≤ (h.1 97 5).toInt ∧ (h.1 97 5).toInt ≤ 6 := hI.1 97 5
  have b4 : (0 : Int) ≤ (h.1 97 0).toInt ∧ (h.1 97 0).toInt ≤ 60 := hI.1 97 0
  have e5 : 0 < (h.1 97 5).toInt → 1 ≤ (h.1 97 0).toInt := hI.2.2.2.2.2.1.2.2
  refine R_callV (v := .inr (.inr (.inl 96))) (As := [.inl a0, .inl a1]) (rest := []) rfl mt_9_i472 pp_X9_areTwo (by decide) rfl rfl rfl (Nat.le_of_ble_eq_true rfl) (Nat.le_of_ble_eq_true rfl) ((k_X9_areTwo h hI a0 a1).mono (fun r6 h7 p8 => ?_))
  obtain ⟨rfl, x9, rfl, q10 | q10 | q10 | q10 | q10 | q10⟩ := p8
  · show RUN d_X9_rests 6 [(0, .inr (.inr (.inl 96))), (1, .inl a0), (2, .inl a1)] [.inl x9] h _
    refine N_if_ne (a := x9.toInt) 12 rfl rfl rfl (fun c11 => ?_) (fun c11 => ?_)
    · exfalso; omega
    · refine R_bipush (-2) rfl rfl ?_
      exact R_iret rfl rfl rfl ⟨hI, fr, trivial, _, rfl, trivial⟩
  · show RUN d_X9_rests 6 [(0, .inr (.inr (.inl 96))), (1, .inl a0), (2, .inl a1)] [.inl x9] h _
    refine N_if_ne (a := x9.toInt) 12 rfl rfl rfl (fun c12 => ?_) (fun c12 => ?_)
    · exfalso; omega
    · refine R_bipush (-2) rfl rfl ?_
      exact R_iret rfl rfl rfl ⟨hI, fr, trivial, _, rfl, trivial⟩
  · show RUN d_X9_rests 6 [(0, .inr (.inr (.inl 96))), (1, .inl a0), (2, .inl a1)] [.inl x9] h _
    refine N_if_ne (a := x9.toInt) 12 rfl rfl rfl (fun c13 => ?_) (fun c13 => ?_)
    · exfalso; omega
    · refine R_bipush (-2) rfl rfl ?_
      exact R_iret rfl rfl rfl ⟨hI, fr, trivial, _, rfl, trivial⟩
  · show RUN d_X9_rests 6 [(0, .inr (.inr (.inl 96))), (1, .inl a0), (2, .inl a1)] [.inl x9] h _
    refine N_if_ne (a := x9.toInt) 12 rfl rfl rfl (fun c14 => ?_) (fun c14 => ?_)
    · exfalso; omega
    · refine R_bipush (-2) rfl rfl ?_
      exact R_iret rfl rfl rfl ⟨hI, fr, trivial, _, rfl, trivial⟩
  · show RUN d_X9_rests 6 [(0, .inr (.inr (.inl 96))), (1, .inl a0), (2, .inl a1)] [.inl x9] h _
    refine N_if_ne (a := x9.toInt) 12 rfl rfl rfl (fun c15 => ?_) (fun c15 => ?_)
    · exfalso; omega
    · refine R_bipush (-2) rfl rfl ?_
      exact R_iret rfl rfl rfl ⟨hI, fr, trivial, _, rfl, trivial⟩
  · show RUN d_X9_rests 6 [(0, .inr (.inr (.inl 96))), (1, .inl a0), (2, .inl a1)] [.inl x9] h _
    refine N_if_ne (a := x9.toInt) 12 rfl rfl rfl (fun c16 => ?_) (fun c16 => ?_)
    · refine R_iconst 0 rfl rfl ?_
      refine R_istore_n (k := 3) rfl [(3, .inl 0), (0, .inr (.inr (.inl 96))), (1, .inl a0), (2, .inl a1)] rfl rfl (by decide) ?_
      refine R_iconst 0 rfl rfl ?_
      refine R_istore (k := 4) [(4, .inl 0), (3, .inl 0), (0, .inr (.inr (.inl 96))), (1, .inl a0), (2, .inl a1)] rfl rfl (by decide) ?_
      have lp18 : ∀ (n17 : Nat) (h19 : PH) (x21 : Int32) (x22 : Int32), INV h19 → FR [96, 103, 104, 105, 106, 107, 108, 109, 110, 111, 112, 113, 114, 115, 116, 117, 118, 119] h h19 → FR [96, 103, 104, 105, 106, 107, 108, 109, 110, 111, 112, 113, 114, 115, 116, 117, 118, 119] h h19 → 0 ≤ x22.toInt ∧ x22.toInt ≤ 4 → (4 - x22.toInt).toNat < n17 → RUN d_X9_rests 17 [(4, .inl x22), (3, .inl x21), (0, .inr (.inr (.inl 96))), (1, .inl a0), (2, .inl a1)] [] h19 (q_X9_rests h a0 a1) := by
        intro n17
        induction n17 with
        | zero => intro h19 x21 x22 m24 m25 m26 m27 hz; exact absurd hz (Nat.not_lt_zero _)
        | succ n17 ih23 =>
          intro h19 x21 x22 hI fr fl20 m27 hz
          have s28 : (h19.1 97 5).toInt = (h.1 97 5).toInt := by rw [(fl20 97 (by decide)).1]
          have s29 : (h19.1 97 0).toInt = (h.1 97 0).toInt := by rw [(fl20 97 (by decide)).1]
          refine R_iload (k := 4) rfl rfl ?_
          refine R_iconst 4 rfl rfl ?_
          refine N_icmp_ge (a := x22.toInt) (b := 4) 118 rfl rfl rfl (by decide) (fun c30 => ?_) (fun c30 => ?_)
          · refine R_iload_n (k := 3) rfl rfl rfl ?_
            exact R_iret rfl rfl rfl ⟨hI, fr, trivial, _, rfl, trivial⟩
          · refine R_iload (k := 4) rfl rfl ?_
            refine R_iconst 1 rfl rfl ?_
            refine N_iand (b := 1) rfl (by decide) (by omega) (fun x31 q32 => ?_)
            refine R_istore (k := 5) [(5, .inl x31), (4, .inl x22), (3, .inl x21), (0, .inr (.inr (.inl 96))), (1, .inl a0), (2, .inl a1)] rfl rfl (by decide) ?_
            refine R_iload (k := 4) rfl rfl ?_
            refine R_iconst 1 rfl rfl ?_
            refine R_ishr rfl ?_
            refine N_any (fun x33 => ?_)
            refine R_istore (k := 6) [(6, .inl x33), (5, .inl x31), (4, .inl x22), (3, .inl x21), (0, .inr (.inr (.inl 96))), (1, .inl a0), (2, .inl a1)] rfl rfl (by decide) ?_
            refine R_aload_n (k := 0) rfl rfl rfl ?_
            refine R_iload_n (k := 1) rfl rfl rfl ?_
            refine R_iload_n (k := 2) rfl rfl rfl ?_
            refine R_iload (k := 5) rfl rfl ?_
            refine R_iload (k := 6) rfl rfl ?_
            refine R_iconst 0 rfl rfl ?_
            have k34 : (0 : Int32).toInt = 0 := by decide
            refine R_callV (v := .inr (.inr (.inl 96))) (As := [.inl a0, .inl a1, .inl x31, .inl x33, .inl 0]) (rest := []) rfl mt_9_i475 pp_X9_getsBy (by decide) rfl rfl rfl (Nat.le_of_ble_eq_true rfl) (Nat.le_of_ble_eq_true rfl) ((k_X9_getsBy h19 hI a0 a1 x31 x33 (0 : Int32) (by omega) (by omega) (by omega) (by decide) (by omega)).mono (fun r35 h36 p37 => ?_))
            obtain ⟨hJ, fj, -, x38, rfl, q39⟩ := p37
            have f40 := fj
            have fr := fr.trans fj (by decide)
            have hI := hJ
            have fl20 : FR [96, 103, 104, 105, 106, 107, 108, 109, 110, 111, 112, 113, 114, 115, 116, 117, 118, 119] h h36 := fl20.trans fj (by decide)
            have s41 : (h36.1 97 5).toInt = (h19.1 97 5).toInt := by rw [(f40 97 (by decide)).1]
            have s42 : (h36.1 97 0).toInt = (h19.1 97 0).toInt := by rw [(f40 97 (by decide)).1]
            show RUN d_X9_rests 46 [(6, .inl x33), (5, .inl x31), (4, .inl x22), (3, .inl x21), (0, .inr (.inr (.inl 96))), (1, .inl a0), (2, .inl a1)] [.inl x38] h36 _
            refine R_aload_n (k := 0) rfl rfl rfl ?_
            refine R_iload_n (k := 1) rfl rfl rfl ?_
            refine R_iload_n (k := 2) rfl rfl rfl ?_
            refine R_iconst 1 rfl rfl ?_
            refine R_iload (k := 5) rfl rfl ?_
            refine N_isub (a := 1) (b := x31.toInt) rfl (by decide) rfl (by omega) (fun x43 q44 => ?_)
            refine R_iload (k := 6) rfl rfl ?_
            refine R_iconst 0 rfl rfl ?_
            have k45 : (0 : Int32).toInt = 0 := by decide
            refine R_callV (v := .inr (.inr (.inl 96))) (As := [.inl a0, .inl a1, .inl x43, .inl x33, .inl 0]) (rest := [.inl x38]) rfl mt_9_i475 pp_X9_getsBy (by decide) rfl rfl rfl (Nat.le_of_ble_eq_true rfl) (Nat.le_of_ble_eq_true rfl) ((k_X9_getsBy h36 hI a0 a1 x43 x33 (0 : Int32) (by omega) (by omega) (by omega) (by decide) (by omega)).mono (fun r46 h47 p48 => ?_))
            obtain ⟨hJ, fj, -, x49, rfl, q50⟩ := p48
            have f51 := fj
            have fr := fr.trans fj (by decide)
            have hI := hJ
            have fl20 : FR [96, 103, 104, 105, 106, 107, 108, 109, 110, 111, 112, 113, 114, 115, 116, 117, 118, 119] h h47 := fl20.trans fj (by decide)
            have s52 : (h47.1 97 5).toInt = (h36.1 97 5).toInt := by rw [(f51 97 (by decide)).1]
            have s53 : (h47.1 97 0).toInt = (h36.1 97 0).toInt := by rw [(f51 97 (by decide)).1]
            show RUN d_X9_rests 59 [(6, .inl x33), (5, .inl x31), (4, .inl x22), (3, .inl x21), (0, .inr (.inr (.inl 96))), (1, .inl a0), (2, .inl a1)] [.inl x49, .inl x38] h47 _
            refine N_icmp_lt (a := x38.toInt) (b := x49.toInt) 93 rfl rfl rfl rfl (fun c54 => ?_) (fun c54 => ?_)
            · refine R_iconst 0 rfl rfl ?_
              refine R_istore (k := 7) [(7, .inl 0), (6, .inl x33), (5, .inl x31), (4, .inl x22), (3, .inl x21), (0, .inr (.inr (.inl 96))), (1, .inl a0), (2, .inl a1)] rfl rfl (by decide) ?_
              refine R_iload_n (k := 3) rfl rfl rfl ?_
              refine R_iload (k := 7) rfl rfl ?_
              refine N_if_eq (a := 0) 109 rfl rfl (by decide) (fun c55 => ?_) (fun c55 => ?_)
              · refine R_iconst 0 rfl rfl ?_
                refine R_ior rfl ?_
                refine N_any (fun x56 => ?_)
                refine R_istore_n (k := 3) rfl [(3, .inl x56), (7, .inl 0), (6, .inl x33), (5, .inl x31), (4, .inl x22), (0, .inr (.inr (.inl 96))), (1, .inl a0), (2, .inl a1)] rfl rfl (by decide) ?_
                refine N_iinc (a := x22.toInt) (c := 1) (fun w => [(4, .inl w), (3, .inl x56), (7, .inl 0), (6, .inl x33), (5, .inl x31), (0, .inr (.inr (.inl 96))), (1, .inl a0), (2, .inl a1)]) rfl rfl (fun _ => rfl) (by decide) rfl (by decide) (by omega) (fun x57 q58 => ?_)
                refine R_goto 17 rfl rfl ?_
                exact RUN_weak (psub_cons rfl (psub_cons rfl (psub_cons rfl (psub_cons rfl (psub_cons rfl (psub_nil _)))))) (ih23 h47 x56 x57 hI fr fl20 (by omega) (by omega))
              · exfalso; omega
            · refine R_aload_n (k := 0) rfl rfl rfl ?_
              refine R_iload_n (k := 1) rfl rfl rfl ?_
              refine R_iload_n (k := 2) rfl rfl rfl ?_
              refine R_iload (k := 5) rfl rfl ?_
              refine R_iload (k := 6) rfl rfl ?_
              refine R_iconst 1 rfl rfl ?_
              have k59 : (1 : Int32).toInt = 1 := by decide
              refine R_callV (v := .inr (.inr (.inl 96))) (As := [.inl a0, .inl a1, .inl x31, .inl x33, .inl 1]) (rest := []) rfl mt_9_i475 pp_X9_getsBy (by decide) rfl rfl rfl (Nat.le_of_ble_eq_true rfl) (Nat.le_of_ble_eq_true rfl) ((k_X9_getsBy h47 hI a0 a1 x31 x33 (1 : Int32) (by omega) (by omega) (by omega) (by decide) (by omega)).mono (fun r60 h61 p62 => ?_))
              obtain ⟨hJ, fj, -, x63, rfl, q64⟩ := p62
              have f65 := fj
              have fr := fr.trans fj (by decide)
              have hI := hJ
              have fl20 : FR [96, 103, 104, 105, 106, 107, 108, 109, 110, 111, 112, 113, 114, 115, 116, 117, 118, 119] h h61 := fl20.trans fj (by decide)
              have s66 : (h61.1 97 5).toInt = (h47.1 97 5).toInt := by rw [(f65 97 (by decide)).1]
              have s67 : (h61.1 97 0).toInt = (h47.1 97 0).toInt := by rw [(f65 97 (by decide)).1]
              show RUN d_X9_rests 73 [(6, .inl x33), (5, .inl x31), (4, .inl x22), (3, .inl x21), (0, .inr (.inr (.inl 96))), (1, .inl a0), (2, .inl a1)] [.inl x63] h61 _
              refine R_aload_n (k := 0) rfl rfl rfl ?_
              refine R_iload_n (k := 1) rfl rfl rfl ?_
              refine R_iload_n (k := 2) rfl rfl rfl ?_
              refine R_iload (k := 5) rfl rfl ?_
              refine R_iconst 1 rfl rfl ?_
              refine R_iload (k := 6) rfl rfl ?_
              have b68 := i_rng x33
              refine R_isub rfl ?_
              refine N_any (fun x69 => ?_)
              refine R_iconst 1 rfl rfl ?_
              have k70 : (1 : Int32).toInt = 1 := by decide
              refine R_callV (v := .inr (.inr (.inl 96))) (As := [.inl a0, .inl a1, .inl x31, .inl x69, .inl 1]) (rest := [.inl x63]) rfl mt_9_i475 pp_X9_getsBy (by decide) rfl rfl rfl (Nat.le_of_ble_eq_true rfl) (Nat.le_of_ble_eq_true rfl) ((k_X9_getsBy h61 hI a0 a1 x31 x69 (1 : Int32) (by omega) (by omega) (by omega) (by decide) (by omega)).mono (fun r71 h72 p73 => ?_))
              obtain ⟨hJ, fj, -, x74, rfl, q75⟩ := p73
              have f76 := fj
              have fr := fr.trans fj (by decide)
              have hI := hJ
              have fl20 : FR [96, 103, 104, 105, 106, 107, 108, 109, 110, 111, 112, 113, 114, 115, 116, 117, 118, 119] h h72 := fl20.trans fj (by decide)
              have s77 : (h72.1 97 5).toInt = (h61.1 97 5).toInt := by rw [(f76 97 (by decide)).1]
              have s78 : (h72.1 97 0).toInt = (h61.1 97 0).toInt := by rw [(f76 97 (by decide)).1]
              show RUN d_X9_rests 86 [(6, .inl x33), (5, .inl x31), (4, .inl x22), (3, .inl x21), (0, .inr (.inr (.inl 96))), (1, .inl a0), (2, .inl a1)] [.inl x74, .inl x63] h72 _
              refine N_icmp_lt (a := x63.toInt) (b := x74.toInt) 93 rfl rfl rfl rfl (fun c79 => ?_) (fun c79 => ?_)
              · refine R_iconst 0 rfl rfl ?_
                refine R_istore (k := 7) [(7, .inl 0), (6, .inl x33), (5, .inl x31), (4, .inl x22), (3, .inl x21), (0, .inr (.inr (.inl 96))), (1, .inl a0), (2, .inl a1)] rfl rfl (by decide) ?_
                refine R_iload_n (k := 3) rfl rfl rfl ?_
                refine R_iload (k := 7) rfl rfl ?_
                refine N_if_eq (a := 0) 109 rfl rfl (by decide) (fun c80 => ?_) (fun c80 => ?_)
                · refine R_iconst 0 rfl rfl ?_
                  refine R_ior rfl ?_
                  refine N_any (fun x81 => ?_)
                  refine R_istore_n (k := 3) rfl [(3, .inl x81), (7, .inl 0), (6, .inl x33), (5, .inl x31), (4, .inl x22), (0, .inr (.inr (.inl 96))), (1, .inl a0), (2, .inl a1)] rfl rfl (by decide) ?_
                  refine N_iinc (a := x22.toInt) (c := 1) (fun w => [(4, .inl w), (3, .inl x81), (7, .inl 0), (6, .inl x33), (5, .inl x31), (0, .inr (.inr (.inl 96))), (1, .inl a0), (2, .inl a1)]) rfl rfl (fun _ => rfl) (by decide) rfl (by decide) (by omega) (fun x82 q83 => ?_)
                  refine R_goto 17 rfl rfl ?_
                  exact RUN_weak (psub_cons rfl (psub_cons rfl (psub_cons rfl (psub_cons rfl (psub_cons rfl (psub_nil _)))))) (ih23 h72 x81 x82 hI fr fl20 (by omega) (by omega))
                · exfalso; omega
              · refine R_iconst 1 rfl rfl ?_
                refine R_goto 94 rfl rfl ?_
                refine R_istore (k := 7) [(7, .inl 1), (6, .inl x33), (5, .inl x31), (4, .inl x22), (3, .inl x21), (0, .inr (.inr (.inl 96))), (1, .inl a0), (2, .inl a1)] rfl rfl (by decide) ?_
                refine R_iload_n (k := 3) rfl rfl rfl ?_
                refine R_iload (k := 7) rfl rfl ?_
                refine N_if_eq (a := 1) 109 rfl rfl (by decide) (fun c84 => ?_) (fun c84 => ?_)
                · exfalso; omega
                · refine R_iconst 1 rfl rfl ?_
                  refine R_iload (k := 4) rfl rfl ?_
                  refine N_ishl1 (b := x22.toInt) rfl rfl (by omega) (fun x85 q86 => ?_)
                  refine R_goto 110 rfl rfl ?_
                  refine R_ior rfl ?_
                  refine N_any (fun x87 => ?_)
                  refine R_istore_n (k := 3) rfl [(3, .inl x87), (7, .inl 1), (6, .inl x33), (5, .inl x31), (4, .inl x22), (0, .inr (.inr (.inl 96))), (1, .inl a0), (2, .inl a1)] rfl rfl (by decide) ?_
                  refine N_iinc (a := x22.toInt) (c := 1) (fun w => [(4, .inl w), (3, .inl x87), (7, .inl 1), (6, .inl x33), (5, .inl x31), (0, .inr (.inr (.inl 96))), (1, .inl a0), (2, .inl a1)]) rfl rfl (fun _ => rfl) (by decide) rfl (by decide) (by omega) (fun x88 q89 => ?_)
                  refine R_goto 17 rfl rfl ?_
                  exact RUN_weak (psub_cons rfl (psub_cons rfl (psub_cons rfl (psub_cons rfl (psub_cons rfl (psub_nil _)))))) (ih23 h72 x87 x88 hI fr fl20 (by omega) (by omega))
      exact lp18 _ h (0 : Int32) (0 : Int32) hI fr (FR.rf _ _) (by decide) (Nat.lt_succ_self _)
    · exfalso; omega
abbrev q_X8_gets (h : PH) (a0 : Int32) (a1 : Int32) (a2 : Int32) (a3 : Int32) : Option PV → PH → Prop := fun r h' => INV h' ∧ FR [70, 71, 72, 73, 74] h h' ∧ (True) ∧ ∃ z : Int32, r = some (.inl z) ∧ ((True))
set_option maxHeartbeats 4000000 in
set_option maxRecDepth 100000 in
theorem k_X8_gets (h : PH) (hI : INV h) (a0 : Int32) (a1 : Int32) (a2 : Int32) (a3 : Int32) : CALL d_X8_gets [.inr (.inr (.inl 0)), .inl a0, .inl a1, .inl a2, .inl a3] h (q_X8_gets h a0 a1 a2 a3) := by
  show RUN d_X8_gets 0 [(0, .inr (.inr (.inl 0))), (1, .inl a0), (2, .inl a1), (3, .inl a2), (4, .inl a3)] [] h _
  have b1 := i_rng a0
  have b2 := i_rng a1
  have b3 := i_rng a2
  have b4 := i_rng a3
  have fr : FR [70, 71, 72, 73, 74] h h := FR.rf _ _
  refine R_aload_n (k := 0) rfl rfl rfl ?_
  refine R_getf_r (j := 3) rfl ft_8_28 sh_0 rfl ?_
  refine R_iload_n (k := 1) rfl rfl rfl ?_
  have b5 : (0 : Int) ≤ (h.1 17 5).toInt ∧ (h.1 17 5).toInt ≤ 6 := hI.1 17 5
  refine R_callV (v := .inr (.inr (.inl 16))) (As := [.inl a0]) (rest := []) rfl mt_8_i119 pp_X1_hasHand (by decide) rfl rfl rfl (Nat.le_of_ble_eq_true rfl) (Nat.le_of_ble_eq_true rfl) ((k_X1_hasHand h hI a0).mono (fun r6 h7 p8 => ?_))
  obtain ⟨rfl, x9, rfl, q10 | q10 | q10⟩ := p8
  · show RUN d_X8_gets 8 [(0, .inr (.inr (.inl 0))), (1, .inl a0), (2, .inl a1), (3, .inl a2), (4, .inl a3)] [.inl x9] h _
    refine N_if_eq (a := x9.toInt) 42 rfl rfl rfl (fun c11 => ?_) (fun c11 => ?_)
    · refine R_sipush (-1000) rfl rfl ?_
      exact R_iret rfl rfl rfl ⟨hI, fr, trivial, _, rfl, trivial⟩
    · exfalso; omega
  · show RUN d_X8_gets 8 [(0, .inr (.inr (.inl 0))), (1, .inl a0), (2, .inl a1), (3, .inl a2), (4, .inl a3)] [.inl x9] h _
    refine N_if_eq (a := x9.toInt) 42 rfl rfl rfl (fun c12 => ?_) (fun c12 => ?_)
    · refine R_sipush (-1000) rfl rfl ?_
      exact R_iret rfl rfl rfl ⟨hI, fr, trivial, _, rfl, trivial⟩
    · exfalso; omega
  · show RUN d_X8_gets 8 [(0, .inr (.inr (.inl 0))), (1, .inl a0), (2, .inl a1), (3, .inl a2), (4, .inl a3)] [.inl x9] h _
    refine N_if_eq (a := x9.toInt) 42 rfl rfl rfl (fun c13 => ?_) (fun c13 => ?_)
    · exfalso; omega
    · refine R_aload_n (k := 0) rfl rfl rfl ?_
      refine R_getf_r (j := 3) rfl ft_8_28 sh_0 rfl ?_
      refine R_iload_n (k := 2) rfl rfl rfl ?_
      refine R_callV (v := .inr (.inr (.inl 16))) (As := [.inl a1]) (rest := []) rfl mt_8_i119 pp_X1_hasHand (by decide) rfl rfl rfl (Nat.le_of_ble_eq_true rfl) (Nat.le_of_ble_eq_true rfl) ((k_X1_hasHand h hI a1).mono (fun r14 h15 p16 => ?_))
      obtain ⟨rfl, x17, rfl, q18 | q18 | q18⟩ := p16
      · show RUN d_X8_gets 19 [(0, .inr (.inr (.inl 0))), (1, .inl a0), (2, .inl a1), (3, .inl a2), (4, .inl a3)] [.inl x17] h _
        refine N_if_eq (a := x17.toInt) 42 rfl rfl rfl (fun c19 => ?_) (fun c19 => ?_)
        · refine R_sipush (-1000) rfl rfl ?_
          exact R_iret rfl rfl rfl ⟨hI, fr, trivial, _, rfl, trivial⟩
        · exfalso; omega
      · show RUN d_X8_gets 19 [(0, .inr (.inr (.inl 0))), (1, .inl a0), (2, .inl a1), (3, .inl a2), (4, .inl a3)] [.inl x17] h _
        refine N_if_eq (a := x17.toInt) 42 rfl rfl rfl (fun c20 => ?_) (fun c20 => ?_)
        · refine R_sipush (-1000) rfl rfl ?_
          exact R_iret rfl rfl rfl ⟨hI, fr, trivial, _, rfl, trivial⟩
        · exfalso; omega
      · show RUN d_X8_gets 19 [(0, .inr (.inr (.inl 0))), (1, .inl a0), (2, .inl a1), (3, .inl a2), (4, .inl a3)] [.inl x17] h _
        refine N_if_eq (a := x17.toInt) 42 rfl rfl rfl (fun c21 => ?_) (fun c21 => ?_)
        · exfalso; omega
        · refine R_iload_n (k := 1) rfl rfl rfl ?_
          refine R_iload_n (k := 2) rfl rfl rfl ?_
          refine N_icmp_eq (a := a0.toInt) (b := a1.toInt) 42 rfl rfl rfl rfl (fun c22 => ?_) (fun c22 => ?_)
          · refine R_sipush (-1000) rfl rfl ?_
            exact R_iret rfl rfl rfl ⟨hI, fr, trivial, _, rfl, trivial⟩
          · refine R_iload_n (k := 3) rfl rfl rfl ?_
            refine R_callS (As := [.inl a2]) (rest := []) rfl mt_8_i122 (by decide) pp_X8_isEither (by decide) rfl rfl (Nat.le_of_ble_eq_true rfl) (Nat.le_of_ble_eq_true rfl) ((k_X8_isEither h hI a2).mono (fun r23 h24 p25 => ?_))
            obtain ⟨rfl, x26, rfl, q27 | q27 | q27⟩ := p25
            · show RUN d_X8_gets 31 [(0, .inr (.inr (.inl 0))), (1, .inl a0), (2, .inl a1), (3, .inl a2), (4, .inl a3)] [.inl x26] h _
              refine N_if_eq (a := x26.toInt) 42 rfl rfl rfl (fun c28 => ?_) (fun c28 => ?_)
              · exfalso; omega
              · refine R_iload (k := 4) rfl rfl ?_
                refine R_callS (As := [.inl a3]) (rest := []) rfl mt_8_i122 (by decide) pp_X8_isEither (by decide) rfl rfl (Nat.le_of_ble_eq_true rfl) (Nat.le_of_ble_eq_true rfl) ((k_X8_isEither h hI a3).mono (fun r29 h30 p31 => ?_))
                obtain ⟨rfl, x32, rfl, q33 | q33 | q33⟩ := p31
                · show RUN d_X8_gets 39 [(0, .inr (.inr (.inl 0))), (1, .inl a0), (2, .inl a1), (3, .inl a2), (4, .inl a3)] [.inl x32] h _
                  refine N_if_ne (a := x32.toInt) 46 rfl rfl rfl (fun c34 => ?_) (fun c34 => ?_)
                  · refine R_aload_n (k := 0) rfl rfl rfl ?_
                    refine R_iload_n (k := 1) rfl rfl rfl ?_
                    refine R_iload_n (k := 2) rfl rfl rfl ?_
                    refine R_iload_n (k := 3) rfl rfl rfl ?_
                    refine R_iload (k := 4) rfl rfl ?_
                    refine R_callV (v := .inr (.inr (.inl 0))) (As := [.inl a0, .inl a1, .inl a2, .inl a3]) (rest := []) rfl mt_8_i338 pp_X8_getsBy (by decide) rfl rfl rfl (Nat.le_of_ble_eq_true rfl) (Nat.le_of_ble_eq_true rfl) ((k_X8_getsBy h hI a0 a1 a2 a3 (by omega) (by omega)).mono (fun r35 h36 p37 => ?_))
                    obtain ⟨hJ, fj, -, x38, rfl, q39⟩ := p37
                    have f40 := fj
                    have fr := fr.trans fj (by decide)
                    have hI := hJ
                    have s41 : (h36.1 17 5).toInt = (h.1 17 5).toInt := by rw [(f40 17 (by decide)).1]
                    show RUN d_X8_gets 55 [(0, .inr (.inr (.inl 0))), (1, .inl a0), (2, .inl a1), (3, .inl a2), (4, .inl a3)] [.inl x38] h36 _
                    exact R_iret rfl rfl rfl ⟨hI, fr, trivial, _, rfl, trivial⟩
                  · exfalso; omega
                · show RUN d_X8_gets 39 [(0, .inr (.inr (.inl 0))), (1, .inl a0), (2, .inl a1), (3, .inl a2), (4, .inl a3)] [.inl x32] h _
                  refine N_if_ne (a := x32.toInt) 46 rfl rfl rfl (fun c42 => ?_) (fun c42 => ?_)
                  · exfalso; omega
                  · refine R_sipush (-1000) rfl rfl ?_
                    exact R_iret rfl rfl rfl ⟨hI, fr, trivial, _, rfl, trivial⟩
                · show RUN d_X8_gets 39 [(0, .inr (.inr (.inl 0))), (1, .inl a0), (2, .inl a1), (3, .inl a2), (4, .inl a3)] [.inl x32] h _
                  refine N_if_ne (a := x32.toInt) 46 rfl rfl rfl (fun c43 => ?_) (fun c43 => ?_)
                  · refine R_aload_n (k := 0) rfl rfl rfl ?_
                    refine R_iload_n (k := 1) rfl rfl rfl ?_
                    refine R_iload_n (k := 2) rfl rfl rfl ?_
                    refine R_iload_n (k := 3) rfl rfl rfl ?_
                    refine R_iload (k := 4) rfl rfl ?_
                    refine R_callV (v := .inr (.inr (.inl 0))) (As := [.inl a0, .inl a1, .inl a2, .inl a3]) (rest := []) rfl mt_8_i338 pp_X8_getsBy (by decide) rfl rfl rfl (Nat.le_of_ble_eq_true rfl) (Nat.le_of_ble_eq_true rfl) ((k_X8_getsBy h hI a0 a1 a2 a3 (by omega) (by omega)).mono (fun r44 h45 p46 => ?_))
                    obtain ⟨hJ, fj, -, x47, rfl, q48⟩ := p46
                    have f49 := fj
                    have fr := fr.trans fj (by decide)
                    have hI := hJ
                    have s50 : (h45.1 17 5).toInt = (h.1 17 5).toInt := by rw [(f49 17 (by decide)).1]
                    show RUN d_X8_gets 55 [(0, .inr (.inr (.inl 0))), (1, .inl a0), (2, .inl a1), (3, .inl a2), (4, .inl a3)] [.inl x47] h45 _
                    exact R_iret rfl rfl rfl ⟨hI, fr, trivial, _, rfl, trivial⟩
                  · exfalso; omega
            · show RUN d_X8_gets 31 [(0, .inr (.inr (.inl 0))), (1, .inl a0), (2, .inl a1), (3, .inl a2), (4, .inl a3)] [.inl x26] h _
              refine N_if_eq (a := x26.toInt) 42 rfl rfl rfl (fun c51 => ?_) (fun c51 => ?_)
              · refine R_sipush (-1000) rfl rfl ?_
                exact R_iret rfl rfl rfl ⟨hI, fr, trivial, _, rfl, trivial⟩
              · exfalso; omega
            · show RUN d_X8_gets 31 [(0, .inr (.inr (.inl 0))), (1, .inl a0), (2, .inl a1), (3, .inl a2), (4, .inl a3)] [.inl x26] h _
              refine N_if_eq (a := x26.toInt) 42 rfl rfl rfl (fun c52 => ?_) (fun c52 => ?_)
              · exfalso; omega
              · refine R_iload (k := 4) rfl rfl ?_
                refine R_callS (As := [.inl a3]) (rest := []) rfl mt_8_i122 (by decide) pp_X8_isEither (by decide) rfl rfl (Nat.le_of_ble_eq_true rfl) (Nat.le_of_ble_eq_true rfl) ((k_X8_isEither h hI a3).mono (fun r53 h54 p55 => ?_))
                obtain ⟨rfl, x56, rfl, q57 | q57 | q57⟩ := p55
                · show RUN d_X8_gets 39 [(0, .inr (.inr (.inl 0))), (1, .inl a0), (2, .inl a1), (3, .inl a2), (4, .inl a3)] [.inl x56] h _
                  refine N_if_ne (a := x56.toInt) 46 rfl rfl rfl (fun c58 => ?_) (fun c58 => ?_)
                  · refine R_aload_n (k := 0) rfl rfl rfl ?_
                    refine R_iload_n (k := 1) rfl rfl rfl ?_
                    refine R_iload_n (k := 2) rfl rfl rfl ?_
                    refine R_iload_n (k := 3) rfl rfl rfl ?_
                    refine R_iload (k := 4) rfl rfl ?_
                    refine R_callV (v := .inr (.inr (.inl 0))) (As := [.inl a0, .inl a1, .inl a2, .inl a3]) (rest := []) rfl mt_8_i338 pp_X8_getsBy (by decide) rfl rfl rfl (Nat.le_of_ble_eq_true rfl) (Nat.le_of_ble_eq_true rfl) ((k_X8_getsBy h hI a0 a1 a2 a3 (by omega) (by omega)).mono (fun r59 h60 p61 => ?_))
                    obtain ⟨hJ, fj, -, x62, rfl, q63⟩ := p61
                    have f64 := fj
                    have fr := fr.trans fj (by decide)
                    have hI := hJ
                    have s65 : (h60.1 17 5).toInt = (h.1 17 5).toInt := by rw [(f64 17 (by decide)).1]
                    show RUN d_X8_gets 55 [(0, .inr (.inr (.inl 0))), (1, .inl a0), (2, .inl a1), (3, .inl a2), (4, .inl a3)] [.inl x62] h60 _
                    exact R_iret rfl rfl rfl ⟨hI, fr, trivial, _, rfl, trivial⟩
                  · exfalso; omega
                · show RUN d_X8_gets 39 [(0, .inr (.inr (.inl 0))), (1, .inl a0), (2, .inl a1), (3, .inl a2), (4, .inl a3)] [.inl x56] h _
                  refine N_if_ne (a := x56.toInt) 46 rfl rfl rfl (fun c66 => ?_) (fun c66 => ?_)
                  · exfalso; omega
                  · refine R_sipush (-1000) rfl rfl ?_
                    exact R_iret rfl rfl rfl ⟨hI, fr, trivial, _, rfl, trivial⟩
                · show RUN d_X8_gets 39 [(0, .inr (.inr (.inl 0))), (1, .inl a0), (2, .inl a1), (3, .inl a2), (4, .inl a3)] [.inl x56] h _
                  refine N_if_ne (a := x56.toInt) 46 rfl rfl rfl (fun c67 => ?_) (fun c67 => ?_)
                  · refine R_aload_n (k := 0) rfl rfl rfl ?_
                    refine R_iload_n (k := 1) rfl rfl rfl ?_
                    refine R_iload_n (k := 2) rfl rfl rfl ?_
                    refine R_iload_n (k := 3) rfl rfl rfl ?_
                    refine R_iload (k := 4) rfl rfl ?_
                    refine R_callV (v := .inr (.inr (.inl 0))) (As := [.inl a0, .inl a1, .inl a2, .inl a3]) (rest := []) rfl mt_8_i338 pp_X8_getsBy (by decide) rfl rfl rfl (Nat.le_of_ble_eq_true rfl) (Nat.le_of_ble_eq_true rfl) ((k_X8_getsBy h hI a0 a1 a2 a3 (by omega) (by omega)).mono (fun r68 h69 p70 => ?_))
                    obtain ⟨hJ, fj, -, x71, rfl, q72⟩ := p70
                    have f73 := fj
                    have fr := fr.trans fj (by decide)
                    have hI := hJ
                    have s74 : (h69.1 17 5).toInt = (h.1 17 5).toInt := by rw [(f73 17 (by decide)).1]
                    show RUN d_X8_gets 55 [(0, .inr (.inr (.inl 0))), (1, .inl a0), (2, .inl a1), (3, .inl a2), (4, .inl a3)] [.inl x71] h69 _
                    exact R_iret rfl rfl rfl ⟨hI, fr, trivial, _, rfl, trivial⟩
                  · exfalso; omega
abbrev q_X9_gets (h : PH) (a0 : Int32) (a1 : Int32) (a2 : Int32) (a3 : Int32) : Option PV → PH → Prop := fun r h' => INV h' ∧ FR [96, 103, 104, 105, 106, 107, 108, 109, 110, 111, 112, 113, 114, 115, 116, 117, 118, 119] h h' ∧ (True) ∧ ∃ z : Int32, r = some (.inl z) ∧ ((True))
set_option maxHeartbeats 4000000 in
set_option maxRecDepth 100000 in
theorem k_X9_gets (h : PH) (hI : INV h) (a0 : Int32) (a1 : Int32) (a2 : Int32) (a3 : Int32) : CALL d_X9_gets [.inr (.inr (.inl 96)), .inl a0, .inl a1, .inl a2, .inl a3] h (q_X9_gets h a0 a1 a2 a3) := by
  show RUN d_X9_gets 0 [(0, .inr (.inr (.inl 96))), (1, .inl a0), (2, .inl a1), (3, .inl a2), (4, .inl a3)] [] h _
  have b1 := i_rng a0
  have b2 := i_rng a1
  have b3 := i_rng a2
  have b4 := i_rng a3
  have fr : FR [96, 103, 104, 105, 106, 107, 108, 109, 110, 111, 112, 113, 114, 115, 116, 117, 118, 119] h h := FR.rf _ _
  refine R_aload_n (k := 0) rfl rfl rfl ?_
  refine R_iload_n (k := 1) rfl rfl rfl ?_
  refine R_iload_n (k := 2) rfl rfl rfl ?_
  have b5 : (0 : Int) ≤ (h.1 97 5).toInt ∧ (h.1 97 5).toInt ≤ 6 := hI.1 97 5
  have b6 : (0 : Int) ≤ (h.1 97 0).toInt ∧ (h.1 97 0).toInt ≤ 60 := hI.1 97 0
  have e7 : 0 < (h.1 97 5).toInt → 1 ≤ (h.1 97 0).toInt := hI.2.2.2.2.2.1.2.2
  refine R_callV (v := .inr (.inr (.inl 96))) (As := [.inl a0, .inl a1]) (rest := []) rfl mt_9_i472 pp_X9_areTwo (by decide) rfl rfl rfl (Nat.le_of_ble_eq_true rfl) (Nat.le_of_ble_eq_true rfl) ((k_X9_areTwo h hI a0 a1).mono (fun r8 h9 p10 => ?_))
  obtain ⟨rfl, x11, rfl, q12 | q12 | q12 | q12 | q12 | q12⟩ := p10
  · show RUN d_X9_gets 6 [(0, .inr (.inr (.inl 96))), (1, .inl a0), (2, .inl a1), (3, .inl a2), (4, .inl a3)] [.inl x11] h _
    refine N_if_eq (a := x11.toInt) 43 rfl rfl rfl (fun c13 => ?_) (fun c13 => ?_)
    · refine R_sipush (-1000) rfl rfl ?_
      exact R_iret rfl rfl rfl ⟨hI, fr, trivial, _, rfl, trivial⟩
    · exfalso; omega
  · show RUN d_X9_gets 6 [(0, .inr (.inr (.inl 96))), (1, .inl a0), (2, .inl a1), (3, .inl a2), (4, .inl a3)] [.inl x11] h _
    refine N_if_eq (a := x11.toInt) 43 rfl rfl rfl (fun c14 => ?_) (fun c14 => ?_)
    · refine R_sipush (-1000) rfl rfl ?_
      exact R_iret rfl rfl rfl ⟨hI, fr, trivial, _, rfl, trivial⟩
    · exfalso; omega
  · show RUN d_X9_gets 6 [(0, .inr (.inr (.inl 96))), (1, .inl a0), (2, .inl a1), (3, .inl a2), (4, .inl a3)] [.inl x11] h _
    refine N_if_eq (a := x11.toInt) 43 rfl rfl rfl (fun c15 => ?_) (fun c15 => ?_)
    · refine R_sipush (-1000) rfl rfl ?_
      exact R_iret rfl rfl rfl ⟨hI, fr, trivial, _, rfl, trivial⟩
    · exfalso; omega
  · show RUN d_X9_gets 6 [(0, .inr (.inr (.inl 96))), (1, .inl a0), (2, .inl a1), (3, .inl a2), (4, .inl a3)] [.inl x11] h _
    refine N_if_eq (a := x11.toInt) 43 rfl rfl rfl (fun c16 => ?_) (fun c16 => ?_)
    · refine R_sipush (-1000) rfl rfl ?_
      exact R_iret rfl rfl rfl ⟨hI, fr, trivial, _, rfl, trivial⟩
    · exfalso; omega
  · show RUN d_X9_gets 6 [(0, .inr (.inr (.inl 96))), (1, .inl a0), (2, .inl a1), (3, .inl a2), (4, .inl a3)] [.inl x11] h _
    refine N_if_eq (a := x11.toInt) 43 rfl rfl rfl (fun c17 => ?_) (fun c17 => ?_)
    · refine R_sipush (-1000) rfl rfl ?_
      exact R_iret rfl rfl rfl ⟨hI, fr, trivial, _, rfl, trivial⟩
    · exfalso; omega
  · show RUN d_X9_gets 6 [(0, .inr (.inr (.inl 96))), (1, .inl a0), (2, .inl a1), (3, .inl a2), (4, .inl a3)] [.inl x11] h _
    refine N_if_eq (a := x11.toInt) 43 rfl rfl rfl (fun c18 => ?_) (fun c18 => ?_)
    · exfalso; omega
    · refine R_iload_n (k := 3) rfl rfl rfl ?_
      refine N_i2l rfl (fun w19 q20 => ?_)
      refine R_lconst 0 rfl rfl ?_
      refine R_lconst 1 rfl rfl ?_
      have k21 : (0 : Int64).toInt = 0 := by decide
      have k22 : (1 : Int64).toInt = 1 := by decide
      refine R_callS (As := [.inr (.inl w19), .inr (.inl 0), .inr (.inl 1)]) (rest := []) rfl mt_9_i125 (by decide) pp_X9_in (by decide) rfl rfl (Nat.le_of_ble_eq_true rfl) (Nat.le_of_ble_eq_true rfl) ((k_X9_in h hI w19 (0 : Int64) (1 : Int64)).mono (fun r23 h24 p25 => ?_))
      obtain ⟨rfl, x26, rfl, q27 | q27 | q27⟩ := p25
      · show RUN d_X9_gets 16 [(0, .inr (.inr (.inl 96))), (1, .inl a0), (2, .inl a1), (3, .inl a2), (4, .inl a3)] [.inl x26] h _
        refine N_if_eq (a := x26.toInt) 43 rfl rfl rfl (fun c28 => ?_) (fun c28 => ?_)
        · refine R_sipush (-1000) rfl rfl ?_
          exact R_iret rfl rfl rfl ⟨hI, fr, trivial, _, rfl, trivial⟩
        · exfalso; omega
      · show RUN d_X9_gets 16 [(0, .inr (.inr (.inl 96))), (1, .inl a0), (2, .inl a1), (3, .inl a2), (4, .inl a3)] [.inl x26] h _
        refine N_if_eq (a := x26.toInt) 43 rfl rfl rfl (fun c29 => ?_) (fun c29 => ?_)
        · refine R_sipush (-1000) rfl rfl ?_
          exact R_iret rfl rfl rfl ⟨hI, fr, trivial, _, rfl, trivial⟩
        · exfalso; omega
      · show RUN d_X9_gets 16 [(0, .inr (.inr (.inl 96))), (1, .inl a0), (2, .inl a1), (3, .inl a2), (4, .inl a3)] [.inl x26] h _
        refine N_if_eq (a := x26.toInt) 43 rfl rfl rfl (fun c30 => ?_) (fun c30 => ?_)
        · exfalso; omega
        · refine R_iload (k := 4) rfl rfl ?_
          refine N_i2l rfl (fun w31 q32 => ?_)
          refine R_lconst 0 rfl rfl ?_
          refine R_lconst 1 rfl rfl ?_
          have k33 : (0 : Int64).toInt = 0 := by decide
          have k34 : (1 : Int64).toInt = 1 := by decide
          refine R_callS (As := [.inr (.inl w31), .inr (.inl 0), .inr (.inl 1)]) (rest := []) rfl mt_9_i125 (by decide) pp_X9_in (by decide) rfl rfl (Nat.le_of_ble_eq_true rfl) (Nat.le_of_ble_eq_true rfl) ((k_X9_in h hI w31 (0 : Int64) (1 : Int64)).mono (fun r35 h36 p37 => ?_))
          obtain ⟨rfl, x38, rfl, q39 | q39 | q39⟩ := p37
          · show RUN d_X9_gets 27 [(0, .inr (.inr (.inl 96))), (1, .inl a0), (2, .inl a1), (3, .inl a2), (4, .inl a3)] [.inl x38] h _
            refine N_if_eq (a := x38.toInt) 43 rfl rfl rfl (fun c40 => ?_) (fun c40 => ?_)
            · refine R_sipush (-1000) rfl rfl ?_
              exact R_iret rfl rfl rfl ⟨hI, fr, trivial, _, rfl, trivial⟩
            · exfalso; omega
          · show RUN d_X9_gets 27 [(0, .inr (.inr (.inl 96))), (1, .inl a0), (2, .inl a1), (3, .inl a2), (4, .inl a3)] [.inl x38] h _
            refine N_if_eq (a := x38.toInt) 43 rfl rfl rfl (fun c41 => ?_) (fun c41 => ?_)
            · refine R_sipush (-1000) rfl rfl ?_
              exact R_iret rfl rfl rfl ⟨hI, fr, trivial, _, rfl, trivial⟩
            · exfalso; omega
          · show RUN d_X9_gets 27 [(0, .inr (.inr (.inl 96))), (1, .inl a0), (2, .inl a1), (3, .inl a2), (4, .inl a3)] [.inl x38] h _
            refine N_if_eq (a := x38.toInt) 43 rfl rfl rfl (fun c42 => ?_) (fun c42 => ?_)
            · exfalso; omega
            · refine R_aload_n (k := 0) rfl rfl rfl ?_
              refine R_iload_n (k := 1) rfl rfl rfl ?_
              refine R_iload_n (k := 2) rfl rfl rfl ?_
              refine R_iload_n (k := 3) rfl rfl rfl ?_
              refine R_iload (k := 4) rfl rfl ?_
              refine R_iconst 0 rfl rfl ?_
              have k43 : (0 : Int32).toInt = 0 := by decide
              refine R_callV (v := .inr (.inr (.inl 96))) (As := [.inl a0, .inl a1, .inl a2, .inl a3, .inl 0]) (rest := []) rfl mt_9_i475 pp_X9_getsBy (by decide) rfl rfl rfl (Nat.le_of_ble_eq_true rfl) (Nat.le_of_ble_eq_true rfl) ((k_X9_getsBy h hI a0 a1 a2 a3 (0 : Int32) (by omega) (by omega) (by omega) (by decide) (by omega)).mono (fun r44 h45 p46 => ?_))
              obtain ⟨hJ, fj, -, x47, rfl, q48⟩ := p46
              have f49 := fj
              have fr := fr.trans fj (by decide)
              have hI := hJ
              have s50 : (h45.1 97 5).toInt = (h.1 97 5).toInt := by rw [(f49 97 (by decide)).1]
              have s51 : (h45.1 97 0).toInt = (h.1 97 0).toInt := by rw [(f49 97 (by decide)).1]
              show RUN d_X9_gets 40 [(0, .inr (.inr (.inl 96))), (1, .inl a0), (2, .inl a1), (3, .inl a2), (4, .inl a3)] [.inl x47] h45 _
              refine R_goto 46 rfl rfl ?_
              exact R_iret rfl rfl rfl ⟨hI, fr, trivial, _, rfl, trivial⟩
abbrev q_X8_isSlipSecond (h : PH) (a0 : Int32) : Option PV → PH → Prop := fun r h' => h = h' ∧ ∃ z : Int32, r = some (.inl z) ∧ ((z.toInt = 0 ∧ a0.toInt ≤ (-1)) ∨ (z.toInt = 0 ∧ 0 ≤ a0.toInt ∧ (h.1 17 0).toInt ≤ a0.toInt + 0) ∨ (z.toInt = 0 ∧ 8 ≤ a0.toInt ∧ a0.toInt ≤ 59 ∧ 9 ≤ (h.1 17 0).toInt ∧ (h.1 17 0).toInt ≤ 60 ∧ a0.toInt ≤ (h.1 17 0).toInt + (-1)) ∨ (z.toInt = 1 ∧ 0 ≤ a0.toInt ∧ a0.toInt ≤ 7 ∧ 1 ≤ (h.1 17 0).toInt ∧ (h.1 17 0).toInt ≤ 60 ∧ a0.toInt ≤ (h.1 17 0).toInt + (-1)))
set_option maxHeartbeats 4000000 in
set_option maxRecDepth 100000 in
theorem k_X8_isSlipSecond (h : PH) (hI : INV h) (a0 : Int32) : CALL d_X8_isSlipSecond [.inr (.inr (.inl 0)), .inl a0] h (q_X8_isSlipSecond h a0) := by
  show RUN d_X8_isSlipSecond 0 [(0, .inr (.inr (.inl 0))), (1, .inl a0)] [] h _
  have b1 := i_rng a0
  refine R_aload_n (k := 0) rfl rfl rfl ?_
  refine R_getf_r (j := 3) rfl ft_8_28 sh_0 rfl ?_
  refine R_iload_n (k := 1) rfl rfl rfl ?_
  have b2 : (0 : Int) ≤ (h.1 17 0).toInt ∧ (h.1 17 0).toInt ≤ 60 := hI.1 17 0
  refine R_callV (v := .inr (.inr (.inl 16))) (As := [.inl a0]) (rest := []) rfl mt_8_i150 pp_X1_hasSecond (by decide) rfl rfl rfl (Nat.le_of_ble_eq_true rfl) (Nat.le_of_ble_eq_true rfl) ((k_X1_hasSecond h hI a0).mono (fun r3 h4 p5 => ?_))
  obtain ⟨rfl, x6, rfl, q7 | q7 | q7⟩ := p5
  · show RUN d_X8_isSlipSecond 8 [(0, .inr (.inr (.inl 0))), (1, .inl a0)] [.inl x6] h _
    refine N_if_eq (a := x6.toInt) 21 rfl rfl rfl (fun c8 => ?_) (fun c8 => ?_)
    · refine R_iconst 0 rfl rfl ?_
      exact R_iret rfl rfl rfl ⟨rfl, _, rfl, by rw [show (0 : Int32).toInt = 0 from rfl] <;> omega⟩
    · exfalso; omega
  · show RUN d_X8_isSlipSecond 8 [(0, .inr (.inr (.inl 0))), (1, .inl a0)] [.inl x6] h _
    refine N_if_eq (a := x6.toInt) 21 rfl rfl rfl (fun c9 => ?_) (fun c9 => ?_)
    · refine R_iconst 0 rfl rfl ?_
      exact R_iret rfl rfl rfl ⟨rfl, _, rfl, by rw [show (0 : Int32).toInt = 0 from rfl] <;> omega⟩
    · exfalso; omega
  · show RUN d_X8_isSlipSecond 8 [(0, .inr (.inr (.inl 0))), (1, .inl a0)] [.inl x6] h _
    refine N_if_eq (a := x6.toInt) 21 rfl rfl rfl (fun c10 => ?_) (fun c10 => ?_)
    · exfalso; omega
    · refine R_iload_n (k := 1) rfl rfl rfl ?_
      refine R_bipush 7 rfl rfl ?_
      refine N_icmp_gt (a := a0.toInt) (b := 7) 21 rfl rfl rfl (by decide) (fun c11 => ?_) (fun c11 => ?_)
      · refine R_iconst 0 rfl rfl ?_
        exact R_iret rfl rfl rfl ⟨rfl, _, rfl, by rw [show (0 : Int32).toInt = 0 from rfl] <;> omega⟩
      · refine R_iconst 1 rfl rfl ?_
        refine R_goto 22 rfl rfl ?_
        exact R_iret rfl rfl rfl ⟨rfl, _, rfl, by rw [show (1 : Int32).toInt = 1 from rfl] <;> omega⟩
abbrev q_X8_power (h : PH) (a0 : Int64) (a1 : Int32) : Option PV → PH → Prop := fun r h' => h = h' ∧ ∃ z : Int64, r = some (.inr (.inl z))
set_option maxHeartbeats 4000000 in
set_option maxRecDepth 100000 in
theorem k_X8_power (h : PH) (hI : INV h) (a0 : Int64) (a1 : Int32) (h1a : (-62) ≤ a1.toInt ∧ a1.toInt ≤ 63) : CALL d_X8_power [.inr (.inl a0), .inl a1] h (q_X8_power h a0 a1) := by
  show RUN d_X8_power 0 [(0, .inr (.inl a0)), (2, .inl a1)] [] h _
  refine R_lconst 1 rfl rfl ?_
  refine R_lstore_n (k := 3) rfl [(3, .inr (.inl 1)), (0, .inr (.inl a0)), (2, .inl a1)] rfl rfl (by decide) ?_
  refine R_iconst 0 rfl rfl ?_
  refine R_istore (k := 5) [(5, .inl 0), (3, .inr (.inl 1)), (0, .inr (.inl a0)), (2, .inl a1)] rfl rfl (by decide) ?_
  have lp2 : ∀ (n1 : Nat) (w3 : Int64) (x4 : Int32), 0 ≤ x4.toInt ∧ x4.toInt ≤ 63 → x4.toInt ≤ a1.toInt + 62 → (63 - x4.toInt).toNat < n1 → RUN d_X8_power 5 [(5, .inl x4), (3, .inr (.inl w3)), (0, .inr (.inl a0)), (2, .inl a1)] [] h (q_X8_power h a0 a1) := by
    intro n1
    induction n1 with
    | zero => intro w3 x4 m6 m7 hz; exact absurd hz (Nat.not_lt_zero _)
    | succ n1 ih5 =>
      intro w3 x4 m6 m7 hz
      refine R_iload (k := 5) rfl rfl ?_
      refine R_iload_n (k := 2) rfl rfl rfl ?_
      refine N_icmp_ge (a := x4.toInt) (b := a1.toInt) 21 rfl rfl rfl rfl (fun c8 => ?_) (fun c8 => ?_)
      · refine R_lload_n (k := 3) rfl rfl rfl ?_
        exact R_lret rfl rfl ⟨rfl, _, rfl⟩
      · refine R_lload_n (k := 3) rfl rfl rfl ?_
        refine R_lload_n (k := 0) rfl rfl rfl ?_
        refine R_lmul rfl ?_
        refine N_anyL (fun w9 => ?_)
        refine R_lstore_n (k := 3) rfl [(3, .inr (.inl w9)), (5, .inl x4), (0, .inr (.inl a0)), (2, .inl a1)] rfl rfl (by decide) ?_
        refine N_iinc (a := x4.toInt) (c := 1) (fun w => [(5, .inl w), (3, .inr (.inl w9)), (0, .inr (.inl a0)), (2, .inl a1)]) rfl rfl (fun _ => rfl) (by decide) rfl (by decide) (by omega) (fun x10 q11 => ?_)
        refine R_goto 5 rfl rfl ?_
        exact RUN_weak (psub_cons rfl (psub_cons rfl (psub_cons rfl (psub_cons rfl (psub_nil _))))) (ih5 w9 x10 (by omega) (by omega) (by omega))
  have k12 : (0 : Int32).toInt = 0 := by decide
  exact lp2 _ (1 : Int64) (0 : Int32) (by decide) (by omega) (Nat.lt_succ_self _)
abbrev q_X8_weight (h : PH) (a0 : Int32) (a1 : Int32) : Option PV → PH → Prop := fun r h' => h = h' ∧ ∃ z : Int64, r = some (.inr (.inl z))
set_option maxHeartbeats 4000000 in
set_option maxRecDepth 100000 in
theorem k_X8_weight (h : PH) (hI : INV h) (a0 : Int32) (a1 : Int32) (h0a : 0 ≤ a0.toInt ∧ a0.toInt ≤ 255) (h1a : 1 ≤ a1.toInt ∧ a1.toInt ≤ 8) : CALL d_X8_weight [.inr (.inr (.inl 0)), .inl a0, .inl a1] h (q_X8_weight h a0 a1) := by
  show RUN d_X8_weight 0 [(0, .inr (.inr (.inl 0))), (1, .inl a0), (2, .inl a1)] [] h _
  refine R_aload_n (k := 0) rfl rfl rfl ?_
  refine R_getf_r (j := 3) rfl ft_8_28 sh_0 rfl ?_
  refine R_getf_r (j := 0) rfl ft_8_109 sh_16 rfl ?_
  refine R_iconst 4 rfl rfl ?_
  refine R_iald rfl sh_17 (by decide) ?_
  show RUN d_X8_weight 9 [(0, .inr (.inr (.inl 0))), (1, .inl a0), (2, .inl a1)] [.inl (h.1 17 4)] h _
  refine R_istore_n (k := 3) rfl [(3, .inl (h.1 17 4)), (0, .inr (.inr (.inl 0))), (1, .inl a0), (2, .inl a1)] rfl rfl (by decide) ?_
  refine R_iload_n (k := 1) rfl rfl rfl ?_
  refine R_callS (As := [.inl a0]) (rest := []) rfl mt_8_i232 (by decide) pp_J6_bitCount_0f7a4 (by decide) rfl rfl (Nat.le_of_ble_eq_true rfl) (Nat.le_of_ble_eq_true rfl) ((k_J6_bitCount_0f7a4 h hI a0).mono (fun r1 h2 p3 => ?_))
  obtain ⟨rfl, x4, rfl, q5⟩ := p3
  show RUN d_X8_weight 14 [(3, .inl (h.1 17 4)), (0, .inr (.inr (.inl 0))), (1, .inl a0), (2, .inl a1)] [.inl x4] h _
  refine R_istore (k := 4) [(4, .inl x4), (3, .inl (h.1 17 4)), (0, .inr (.inr (.inl 0))), (1, .inl a0), (2, .inl a1)] rfl rfl (by decide) ?_
  refine R_iload_n (k := 3) rfl rfl rfl ?_
  refine N_i2l rfl (fun w6 q7 => ?_)
  refine R_iload (k := 4) rfl rfl ?_
  refine R_callS (As := [.inr (.inl w6), .inl x4]) (rest := []) rfl mt_8_i362 (by decide) pp_X8_power (by decide) rfl rfl (Nat.le_of_ble_eq_true rfl) (Nat.le_of_ble_eq_true rfl) ((k_X8_power h hI w6 x4 (by omega)).mono (fun r8 h9 p10 => ?_))
  obtain ⟨rfl, w11, rfl⟩ := p10
  show RUN d_X8_weight 23 [(4, .inl x4), (3, .inl (h.1 17 4)), (0, .inr (.inr (.inl 0))), (1, .inl a0), (2, .inl a1)] [.inr (.inl w11)] h _
  refine R_bipush 10 rfl rfl ?_
  refine R_iload_n (k := 3) rfl rfl rfl ?_
  have b12 := i_rng (h.1 17 4)
  refine R_isub rfl ?_
  refine N_any (fun x13 => ?_)
  refine N_i2l rfl (fun w14 q15 => ?_)
  refine R_iload_n (k := 2) rfl rfl rfl ?_
  refine R_iload (k := 4) rfl rfl ?_
  refine N_isub (a := a1.toInt) (b := x4.toInt) rfl rfl rfl (by omega) (fun x16 q17 => ?_)
  refine R_callS (As := [.inr (.inl w14), .inl x16]) (rest := [.inr (.inl w11)]) rfl mt_8_i362 (by decide) pp_X8_power (by decide) rfl rfl (Nat.le_of_ble_eq_true rfl) (Nat.le_of_ble_eq_true rfl) ((k_X8_power h hI w14 x16 (by omega)).mono (fun r18 h19 p20 => ?_))
  obtain ⟨rfl, w21, rfl⟩ := p20
  show RUN d_X8_weight 35 [(4, .inl x4), (3, .inl (h.1 17 4)), (0, .inr (.inr (.inl 0))), (1, .inl a0), (2, .inl a1)] [.inr (.inl w21), .inr (.inl w11)] h _
  refine R_lmul rfl ?_
  refine N_anyL (fun w22 => ?_)
  exact R_lret rfl rfl ⟨rfl, _, rfl⟩
abbrev q_X8_chance (h : PH) (a0 : Int32) (a1 : Int32) (a2 : Int32) : Option PV → PH → Prop := fun r h' => INV h' ∧ FR [70, 71, 72, 73, 74] h h' ∧ (True) ∧ ∃ z : Int64, r = some (.inr (.inl z))
set_option maxHeartbeats 4000000 in
set_option maxRecDepth 100000 in
theorem k_X8_chance (h : PH) (hI : INV h) (a0 : Int32) (a1 : Int32) (a2 : Int32) : CALL d_X8_chance [.inr (.inr (.inl 0)), .inl a0, .inl a1, .inl a2] h (q_X8_chance h a0 a1 a2) := by
  show RUN d_X8_chance 0 [(0, .inr (.inr (.inl 0))), (1, .inl a0), (2, .inl a1), (3, .inl a2)] [] h _
  have b1 := i_rng a0
  have b2 := i_rng a1
  have b3 := i_rng a2
  have fr : FR [70, 71, 72, 73, 74] h h := FR.rf _ _
  refine R_aload_n (k := 0) rfl rfl rfl ?_
  refine R_iload_n (k := 1) rfl rfl rfl ?_
  have b4 : (0 : Int) ≤ (h.1 17 0).toInt ∧ (h.1 17 0).toInt ≤ 60 := hI.1 17 0
  refine R_callV (v := .inr (.inr (.inl 0))) (As := [.inl a0]) (rest := []) rfl mt_8_i342 pp_X8_isSlipSecond (by decide) rfl rfl rfl (Nat.le_of_ble_eq_true rfl) (Nat.le_of_ble_eq_true rfl) ((k_X8_isSlipSecond h hI a0).mono (fun r5 h6 p7 => ?_))
  obtain ⟨rfl, x8, rfl, q9 | q9 | q9 | q9⟩ := p7
  · show RUN d_X8_chance 5 [(0, .inr (.inr (.inl 0))), (1, .inl a0), (2, .inl a1), (3, .inl a2)] [.inl x8] h _
    refine N_if_eq (a := x8.toInt) 25 rfl rfl rfl (fun c10 => ?_) (fun c10 => ?_)
    · refine R_ldc2 (x := (-2)) rfl kt_8_345 ?_
      exact R_lret rfl rfl ⟨hI, fr, trivial, _, rfl⟩
    · exfalso; omega
  · show RUN d_X8_chance 5 [(0, .inr (.inr (.inl 0))), (1, .inl a0), (2, .inl a1), (3, .inl a2)] [.inl x8] h _
    refine N_if_eq (a := x8.toInt) 25 rfl rfl rfl (fun c11 => ?_) (fun c11 => ?_)
    · refine R_ldc2 (x := (-2)) rfl kt_8_345 ?_
      exact R_lret rfl rfl ⟨hI, fr, trivial, _, rfl⟩
    · exfalso; omega
  · show RUN d_X8_chance 5 [(0, .inr (.inr (.inl 0))), (1, .inl a0), (2, .inl a1), (3, .inl a2)] [.inl x8] h _
    refine N_if_eq (a := x8.toInt) 25 rfl rfl rfl (fun c12 => ?_) (fun c12 => ?_)
    · refine R_ldc2 (x := (-2)) rfl kt_8_345 ?_
      exact R_lret rfl rfl ⟨hI, fr, trivial, _, rfl⟩
    · exfalso; omega
  · show RUN d_X8_chance 5 [(0, .inr (.inr (.inl 0))), (1, .inl a0), (2, .inl a1), (3, .inl a2)] [.inl x8] h _
    refine N_if_eq (a := x8.toInt) 25 rfl rfl rfl (fun c13 => ?_) (fun c13 => ?_)
    · exfalso; omega
    · refine R_iload_n (k := 2) rfl rfl rfl ?_
      refine N_if_lt (a := a1.toInt) 25 rfl rfl rfl (fun c14 => ?_) (fun c14 => ?_)
      · refine R_ldc2 (x := (-2)) rfl kt_8_345 ?_
        exact R_lret rfl rfl ⟨hI, fr, trivial, _, rfl⟩
      · refine R_iload_n (k := 2) rfl rfl rfl ?_
        refine R_bipush 9 rfl rfl ?_
        refine N_icmp_gt (a := a1.toInt) (b := 9) 25 rfl rfl rfl (by decide) (fun c15 => ?_) (fun c15 => ?_)
        · refine R_ldc2 (x := (-2)) rfl kt_8_345 ?_
          exact R_lret rfl rfl ⟨hI, fr, trivial, _, rfl⟩
        · refine R_iload_n (k := 3) rfl rfl rfl ?_
          refine R_callS (As := [.inl a2]) (rest := []) rfl mt_8_i122 (by decide) pp_X8_isEither (by decide) rfl rfl (Nat.le_of_ble_eq_true rfl) (Nat.le_of_ble_eq_true rfl) ((k_X8_isEither h hI a2).mono (fun r16 h17 p18 => ?_))
          obtain ⟨rfl, x19, rfl, q20 | q20 | q20⟩ := p18
          · show RUN d_X8_chance 22 [(0, .inr (.inr (.inl 0))), (1, .inl a0), (2, .inl a1), (3, .inl a2)] [.inl x19] h _
            refine N_if_ne (a := x19.toInt) 29 rfl rfl rfl (fun c21 => ?_) (fun c21 => ?_)
            · refine R_aload_n (k := 0) rfl rfl rfl ?_
              refine R_callV (v := .inr (.inr (.inl 0))) (As := []) (rest := []) rfl mt_8_i237 pp_X8_lineAsNow (by decide) rfl rfl rfl (Nat.le_of_ble_eq_true rfl) (Nat.le_of_ble_eq_true rfl) ((k_X8_lineAsNow h hI).mono (fun r22 h23 p24 => ?_))
              obtain ⟨hJ, fj, -, rfl⟩ := p24
              have f25 := fj
              have fr := fr.trans fj (by decide)
              have hI := hJ
              have s26 : (h23.1 17 0).toInt = (h.1 17 0).toInt := by rw [(f25 17 (by decide)).1]
              show RUN d_X8_chance 33 [(0, .inr (.inr (.inl 0))), (1, .inl a0), (2, .inl a1), (3, .inl a2)] [] h23 _
              refine R_lconst 0 rfl rfl ?_
              refine R_lstore (k := 4) [(4, .inr (.inl 0)), (0, .inr (.inr (.inl 0))), (1, .inl a0), (2, .inl a1), (3, .inl a2)] rfl rfl (by decide) ?_
              refine R_iconst 0 rfl rfl ?_
              refine R_istore (k := 6) [(6, .inl 0), (4, .inr (.inl 0)), (0, .inr (.inr (.inl 0))), (1, .inl a0), (2, .inl a1), (3, .inl a2)] rfl rfl (by decide) ?_
              have lp28 : ∀ (n27 : Nat) (h29 : PH) (w31 : Int64) (x32 : Int32), INV h29 → FR [70, 71, 72, 73, 74] h h29 → FR [70, 74] h23 h29 → 0 ≤ x32.toInt ∧ x32.toInt ≤ 256 → (256 - x32.toInt).toNat < n27 → RUN d_X8_chance 39 [(6, .inl x32), (4, .inr (.inl w31)), (0, .inr (.inr (.inl 0))), (1, .inl a0), (2, .inl a1), (3, .inl a2)] [] h29 (q_X8_chance h a0 a1 a2) := by
                intro n27
                induction n27 with
                | zero => intro h29 w31 x32 m34 m35 m36 m37 hz; exact absurd hz (Nat.not_lt_zero _)
                | succ n27 ih33 =>
                  intro h29 w31 x32 hI fr fl30 m37 hz
                  have s38 : (h29.1 17 0).toInt = (h23.1 17 0).toInt := by rw [(fl30 17 (by decide)).1]
                  refine R_iload (k := 6) rfl rfl ?_
                  refine R_iconst 2 rfl rfl ?_
                  refine R_iload_n (k := 1) rfl rfl rfl ?_
                  refine N_ishl2 (b := a0.toInt) rfl rfl (by omega) (fun x39 q40 => ?_)
                  refine N_icmp_ge (a := x32.toInt) (b := x39.toInt) 87 rfl rfl rfl rfl (fun c41 => ?_) (fun c41 => ?_)
                  · refine R_lload (k := 4) rfl rfl ?_
                    refine R_ldc2 (x := 10) rfl kt_8_360 ?_
                    refine R_iload_n (k := 1) rfl rfl rfl ?_
                    refine R_iconst 1 rfl rfl ?_
                    refine N_iadd (a := a0.toInt) (b := 1) rfl rfl (by decide) (by omega) (fun x42 q43 => ?_)
                    have k44 : (10 : Int64).toInt = 10 := by decide
                    refine R_callS (As := [.inr (.inl 10), .inl x42]) (rest := [.inr (.inl w31)]) rfl mt_8_i362 (by decide) pp_X8_power (by decide) rfl rfl (Nat.le_of_ble_eq_true rfl) (Nat.le_of_ble_eq_true rfl) ((k_X8_power h29 hI (10 : Int64) x42 (by omega)).mono (fun r45 h46 p47 => ?_))
                    obtain ⟨rfl, w48, rfl⟩ := p47
                    show RUN d_X8_chance 98 [(6, .inl x32), (4, .inr (.inl w31)), (0, .inr (.inr (.inl 0))), (1, .inl a0), (2, .inl a1), (3, .inl a2)] [.inr (.inl w48), .inr (.inl w31)] h29 _
                    refine R_iload_n (k := 3) rfl rfl rfl ?_
                    refine R_callS (As := [.inr (.inl w31), .inr (.inl w48), .inl a2]) (rest := []) rfl mt_8_i282 (by decide) pp_X8_part (by decide) rfl rfl (Nat.le_of_ble_eq_true rfl) (Nat.le_of_ble_eq_true rfl) ((k_X8_part h29 hI w31 w48 a2 (by omega)).mono (fun r49 h50 p51 => ?_))
                    obtain ⟨rfl, w52, rfl⟩ := p51
                    show RUN d_X8_chance 102 [(6, .inl x32), (4, .inr (.inl w31)), (0, .inr (.inr (.inl 0))), (1, .inl a0), (2, .inl a1), (3, .inl a2)] [.inr (.inl w52)] h29 _
                    exact R_lret rfl rfl ⟨hI, fr, trivial, _, rfl⟩
                  · refine R_aload_n (k := 0) rfl rfl rfl ?_
                    refine R_getf_r (j := 7) rfl ft_8_49 sh_0 rfl ?_
                    refine R_iload_n (k := 1) rfl rfl rfl ?_
                    refine R_iconst 1 rfl rfl ?_
                    refine N_iadd (a := a0.toInt) (b := 1) rfl rfl (by decide) (by omega) (fun x53 q54 => ?_)
                    refine R_iload (k := 6) rfl rfl ?_
                    refine N_i2l rfl (fun w55 q56 => ?_)
                    refine R_callV (v := .inr (.inr (.inl 70))) (As := [.inl x53, .inr (.inl w55)]) (rest := []) rfl mt_8_i347 pp_X2_play (by decide) rfl rfl rfl (Nat.le_of_ble_eq_true rfl) (Nat.le_of_ble_eq_true rfl) ((k_X2_play h29 hI x53 w55 (by omega)).mono (fun r57 h58 p59 => ?_))
                    obtain ⟨hJ, fj, ⟨kp60, -⟩, w61, rfl⟩ := p59
                    have f62 := fj
                    have fr := fr.trans fj (by decide)
                    have hI := hJ
                    have fl30 : FR [70, 74] h23 h58 := fl30.trans fj (by decide)
                    have s63 : (h58.1 17 0).toInt = (h29.1 17 0).toInt := by rw [(f62 17 (by decide)).1]
                    show RUN d_X8_chance 60 [(6, .inl x32), (4, .inr (.inl w31)), (0, .inr (.inr (.inl 0))), (1, .inl a0), (2, .inl a1), (3, .inl a2)] [.inr (.inl w61)] h58 _
                    refine R_callS (As := [.inr (.inl w61)]) (rest := []) rfl mt_8_i351 (by decide) pp_J13_bitCount_95d88 (by decide) rfl rfl (Nat.le_of_ble_eq_true rfl) (Nat.le_of_ble_eq_true rfl) ((k_J13_bitCount_95d88 h58 hI w61).mono (fun r64 h65 p66 => ?_))
                    obtain ⟨rfl, x67, rfl, q68⟩ := p66
                    show RUN d_X8_chance 63 [(6, .inl x32), (4, .inr (.inl w31)), (0, .inr (.inr (.inl 0))), (1, .inl a0), (2, .inl a1), (3, .inl a2)] [.inl x67] h58 _
                    refine R_iload_n (k := 2) rfl rfl rfl ?_
                    refine N_icmp_lt (a := x67.toInt) (b := a1.toInt) 81 rfl rfl rfl rfl (fun c69 => ?_) (fun c69 => ?_)
                    · refine N_iinc (a := x32.toInt) (c := 1) (fun w => [(6, .inl w), (4, .inr (.inl w31)), (0, .inr (.inr (.inl 0))), (1, .inl a0), (2, .inl a1), (3, .inl a2)]) rfl rfl (fun _ => rfl) (by decide) rfl (by decide) (by omega) (fun x70 q71 => ?_)
                      refine R_goto 39 rfl rfl ?_
                      exact RUN_weak (psub_cons rfl (psub_cons rfl (psub_cons rfl (psub_cons rfl (psub_cons rfl (psub_cons rfl (psub_nil _))))))) (ih33 h58 w31 x70 hI fr fl30 (by omega) (by omega))
                    · refine R_lload (k := 4) rfl rfl ?_
                      refine R_aload_n (k := 0) rfl rfl rfl ?_
                      refine R_iload (k := 6) rfl rfl ?_
                      refine R_iload_n (k := 1) rfl rfl rfl ?_
                      refine R_iconst 1 rfl rfl ?_
                      refine N_iadd (a := a0.toInt) (b := 1) rfl rfl (by decide) (by omega) (fun x72 q73 => ?_)
                      refine R_callV (v := .inr (.inr (.inl 0))) (As := [.inl x32, .inl x72]) (rest := [.inr (.inl w31)]) rfl mt_8_i356 pp_X8_weight (by decide) rfl rfl rfl (Nat.le_of_ble_eq_true rfl) (Nat.le_of_ble_eq_true rfl) ((k_X8_weight h58 hI x32 x72 (by omega) (by omega)).mono (fun r74 h75 p76 => ?_))
                      obtain ⟨rfl, w77, rfl⟩ := p76
                      show RUN d_X8_chance 78 [(6, .inl x32), (4, .inr (.inl w31)), (0, .inr (.inr (.inl 0))), (1, .inl a0), (2, .inl a1), (3, .inl a2)] [.inr (.inl w77), .inr (.inl w31)] h58 _
                      refine R_ladd rfl ?_
                      refine N_anyL (fun w78 => ?_)
                      refine R_lstore (k := 4) [(4, .inr (.inl w78)), (6, .inl x32), (0, .inr (.inr (.inl 0))), (1, .inl a0), (2, .inl a1), (3, .inl a2)] rfl rfl (by decide) ?_
                      refine N_iinc (a := x32.toInt) (c := 1) (fun w => [(6, .inl w), (4, .inr (.inl w78)), (0, .inr (.inr (.inl 0))), (1, .inl a0), (2, .inl a1), (3, .inl a2)]) rfl rfl (fun _ => rfl) (by decide) rfl (by decide) (by omega) (fun x79 q80 => ?_)
                      refine R_goto 39 rfl rfl ?_
                      exact RUN_weak (psub_cons rfl (psub_cons rfl (psub_cons rfl (psub_cons rfl (psub_cons rfl (psub_cons rfl (psub_nil _))))))) (ih33 h58 w78 x79 hI fr fl30 (by omega) (by omega))
              exact lp28 _ h23 (0 : Int64) (0 : Int32) hI fr (FR.rf _ _) (by decide) (Nat.lt_succ_self _)
            · exfalso; omega
          · show RUN d_X8_chance 22 [(0, .inr (.inr (.inl 0))), (1, .inl a0), (2, .inl a1), (3, .inl a2)] [.inl x19] h _
            refine N_if_ne (a := x19.toInt) 29 rfl rfl rfl (fun c81 => ?_) (fun c81 => ?_)
            · exfalso; omega
            · refine R_ldc2 (x := (-2)) rfl kt_8_345 ?_
              exact R_lret rfl rfl ⟨hI, fr, trivial, _, rfl⟩
          · show RUN d_X8_chance 22 [(0, .inr (.inr (.inl 0))), (1, .inl a0), (2, .inl a1), (3, .inl a2)] [.inl x19] h _
            refine N_if_ne (a := x19.toInt) 29 rfl rfl rfl (fun c82 => ?_) (fun c82 => ?_)
            · refine R_aload_n (k := 0) rfl rfl rfl ?_
              refine R_callV (v := .inr (.inr (.inl 0))) (As := []) (rest := []) rfl mt_8_i237 pp_X8_lineAsNow (by decide) rfl rfl rfl (Nat.le_of_ble_eq_true rfl) (Nat.le_of_ble_eq_true rfl) ((k_X8_lineAsNow h hI).mono (fun r83 h84 p85 => ?_))
              obtain ⟨hJ, fj, -, rfl⟩ := p85
              have f86 := fj
              have fr := fr.trans fj (by decide)
              have hI := hJ
              have s87 : (h84.1 17 0).toInt = (h.1 17 0).toInt := by rw [(f86 17 (by decide)).1]
              show RUN d_X8_chance 33 [(0, .inr (.inr (.inl 0))), (1, .inl a0), (2, .inl a1), (3, .inl a2)] [] h84 _
              refine R_lconst 0 rfl rfl ?_
              refine R_lstore (k := 4) [(4, .inr (.inl 0)), (0, .inr (.inr (.inl 0))), (1, .inl a0), (2, .inl a1), (3, .inl a2)] rfl rfl (by decide) ?_
              refine R_iconst 0 rfl rfl ?_
              refine R_istore (k := 6) [(6, .inl 0), (4, .inr (.inl 0)), (0, .inr (.inr (.inl 0))), (1, .inl a0), (2, .inl a1), (3, .inl a2)] rfl rfl (by decide) ?_
              have lp89 : ∀ (n88 : Nat) (h90 : PH) (w92 : Int64) (x93 : Int32), INV h90 → FR [70, 71, 72, 73, 74] h h90 → FR [70, 74] h84 h90 → 0 ≤ x93.toInt ∧ x93.toInt ≤ 256 → (256 - x93.toInt).toNat < n88 → RUN d_X8_chance 39 [(6, .inl x93), (4, .inr (.inl w92)), (0, .inr (.inr (.inl 0))), (1, .inl a0), (2, .inl a1), (3, .inl a2)] [] h90 (q_X8_chance h a0 a1 a2) := by
                intro n88
                induction n88 with
                | zero => intro h90 w92 x93 m95 m96 m97 m98 hz; exact absurd hz (Nat.not_lt_zero _)
                | succ n88 ih94 =>
                  intro h90 w92 x93 hI fr fl91 m98 hz
                  have s99 : (h90.1 17 0).toInt = (h84.1 17 0).toInt := by rw [(fl91 17 (by decide)).1]
                  refine R_iload (k := 6) rfl rfl ?_
                  refine R_iconst 2 rfl rfl ?_
                  refine R_iload_n (k := 1) rfl rfl rfl ?_
                  refine N_ishl2 (b := a0.toInt) rfl rfl (by omega) (fun x100 q101 => ?_)
                  refine N_icmp_ge (a := x93.toInt) (b := x100.toInt) 87 rfl rfl rfl rfl (fun c102 => ?_) (fun c102 => ?_)
                  · refine R_lload (k := 4) rfl rfl ?_
                    refine R_ldc2 (x := 10) rfl kt_8_360 ?_
                    refine R_iload_n (k := 1) rfl rfl rfl ?_
                    refine R_iconst 1 rfl rfl ?_
                    refine N_iadd (a := a0.toInt) (b := 1) rfl rfl (by decide) (by omega) (fun x103 q104 => ?_)
                    have k105 : (10 : Int64).toInt = 10 := by decide
                    refine R_callS (As := [.inr (.inl 10), .inl x103]) (rest := [.inr (.inl w92)]) rfl mt_8_i362 (by decide) pp_X8_power (by decide) rfl rfl (Nat.le_of_ble_eq_true rfl) (Nat.le_of_ble_eq_true rfl) ((k_X8_power h90 hI (10 : Int64) x103 (by omega)).mono (fun r106 h107 p108 => ?_))
                    obtain ⟨rfl, w109, rfl⟩ := p108
                    show RUN d_X8_chance 98 [(6, .inl x93), (4, .inr (.inl w92)), (0, .inr (.inr (.inl 0))), (1, .inl a0), (2, .inl a1), (3, .inl a2)] [.inr (.inl w109), .inr (.inl w92)] h90 _
                    refine R_iload_n (k := 3) rfl rfl rfl ?_
                    refine R_callS (As := [.inr (.inl w92), .inr (.inl w109), .inl a2]) (rest := []) rfl mt_8_i282 (by decide) pp_X8_part (by decide) rfl rfl (Nat.le_of_ble_eq_true rfl) (Nat.le_of_ble_eq_true rfl) ((k_X8_part h90 hI w92 w109 a2 (by omega)).mono (fun r110 h111 p112 => ?_))
                    obtain ⟨rfl, w113, rfl⟩ := p112
                    show RUN d_X8_chance 102 [(6, .inl x93), (4, .inr (.inl w92)), (0, .inr (.inr (.inl 0))), (1, .inl a0), (2, .inl a1), (3, .inl a2)] [.inr (.inl w113)] h90 _
                    exact R_lret rfl rfl ⟨hI, fr, trivial, _, rfl⟩
                  · refine R_aload_n (k := 0) rfl rfl rfl ?_
                    refine R_getf_r (j := 7) rfl ft_8_49 sh_0 rfl ?_
                    refine R_iload_n (k := 1) rfl rfl rfl ?_
                    refine R_iconst 1 rfl rfl ?_
                    refine N_iadd (a := a0.toInt) (b := 1) rfl rfl (by decide) (by omega) (fun x114 q115 => ?_)
                    refine R_iload (k := 6) rfl rfl ?_
                    refine N_i2l rfl (fun w116 q117 => ?_)
                    refine R_callV (v := .inr (.inr (.inl 70))) (As := [.inl x114, .inr (.inl w116)]) (rest := []) rfl mt_8_i347 pp_X2_play (by decide) rfl rfl rfl (Nat.le_of_ble_eq_true rfl) (Nat.le_of_ble_eq_true rfl) ((k_X2_play h90 hI x114 w116 (by omega)).mono (fun r118 h119 p120 => ?_))
                    obtain ⟨hJ, fj, ⟨kp121, -⟩, w122, rfl⟩ := p120
                    have f123 := fj
                    have fr := fr.trans fj (by decide)
                    have hI := hJ
                    have fl91 : FR [70, 74] h84 h119 := fl91.trans fj (by decide)
                    have s124 : (h119.1 17 0).toInt = (h90.1 17 0).toInt := by rw [(f123 17 (by decide)).1]
                    show RUN d_X8_chance 60 [(6, .inl x93), (4, .inr (.inl w92)), (0, .inr (.inr (.inl 0))), (1, .inl a0), (2, .inl a1), (3, .inl a2)] [.inr (.inl w122)] h119 _
                    refine R_callS (As := [.inr (.inl w122)]) (rest := []) rfl mt_8_i351 (by decide) pp_J13_bitCount_95d88 (by decide) rfl rfl (Nat.le_of_ble_eq_true rfl) (Nat.le_of_ble_eq_true rfl) ((k_J13_bitCount_95d88 h119 hI w122).mono (fun r125 h126 p127 => ?_))
                    obtain ⟨rfl, x128, rfl, q129⟩ := p127
                    show RUN d_X8_chance 63 [(6, .inl x93), (4, .inr (.inl w92)), (0, .inr (.inr (.inl 0))), (1, .inl a0), (2, .inl a1), (3, .inl a2)] [.inl x128] h119 _
                    refine R_iload_n (k := 2) rfl rfl rfl ?_
                    refine N_icmp_lt (a := x128.toInt) (b := a1.toInt) 81 rfl rfl rfl rfl (fun c130 => ?_) (fun c130 => ?_)
                    · refine N_iinc (a := x93.toInt) (c := 1) (fun w => [(6, .inl w), (4, .inr (.inl w92)), (0, .inr (.inr (.inl 0))), (1, .inl a0), (2, .inl a1), (3, .inl a2)]) rfl rfl (fun _ => rfl) (by decide) rfl (by decide) (by omega) (fun x131 q132 => ?_)
                      refine R_goto 39 rfl rfl ?_
                      exact RUN_weak (psub_cons rfl (psub_cons rfl (psub_cons rfl (psub_cons rfl (psub_cons rfl (psub_cons rfl (psub_nil _))))))) (ih94 h119 w92 x131 hI fr fl91 (by omega) (by omega))
                    · refine R_lload (k := 4) rfl rfl ?_
                      refine R_aload_n (k := 0) rfl rfl rfl ?_
                      refine R_iload (k := 6) rfl rfl ?_
                      refine R_iload_n (k := 1) rfl rfl rfl ?_
                      refine R_iconst 1 rfl rfl ?_
                      refine N_iadd (a := a0.toInt) (b := 1) rfl rfl (by decide) (by omega) (fun x133 q134 => ?_)
                      refine R_callV (v := .inr (.inr (.inl 0))) (As := [.inl x93, .inl x133]) (rest := [.inr (.inl w92)]) rfl mt_8_i356 pp_X8_weight (by decide) rfl rfl rfl (Nat.le_of_ble_eq_true rfl) (Nat.le_of_ble_eq_true rfl) ((k_X8_weight h119 hI x93 x133 (by omega) (by omega)).mono (fun r135 h136 p137 => ?_))
                      obtain ⟨rfl, w138, rfl⟩ := p137
                      show RUN d_X8_chance 78 [(6, .inl x93), (4, .inr (.inl w92)), (0, .inr (.inr (.inl 0))), (1, .inl a0), (2, .inl a1), (3, .inl a2)] [.inr (.inl w138), .inr (.inl w92)] h119 _
                      refine R_ladd rfl ?_
                      refine N_anyL (fun w139 => ?_)
                      refine R_lstore (k := 4) [(4, .inr (.inl w139)), (6, .inl x93), (0, .inr (.inr (.inl 0))), (1, .inl a0), (2, .inl a1), (3, .inl a2)] rfl rfl (by decide) ?_
                      refine N_iinc (a := x93.toInt) (c := 1) (fun w => [(6, .inl w), (4, .inr (.inl w139)), (0, .inr (.inr (.inl 0))), (1, .inl a0), (2, .inl a1), (3, .inl a2)]) rfl rfl (fun _ => rfl) (by decide) rfl (by decide) (by omega) (fun x140 q141 => ?_)
                      refine R_goto 39 rfl rfl ?_
                      exact RUN_weak (psub_cons rfl (psub_cons rfl (psub_cons rfl (psub_cons rfl (psub_cons rfl (psub_cons rfl (psub_nil _))))))) (ih94 h119 w139 x140 hI fr fl91 (by omega) (by omega))
              exact lp89 _ h84 (0 : Int64) (0 : Int32) hI fr (FR.rf _ _) (by decide) (Nat.lt_succ_self _)
            · exfalso; omega
abbrev q_X9_isSlips (h : PH) (a0 : Int32) (a1 : Int32) : Option PV → PH → Prop := fun r h' => h = h' ∧ ∃ z : Int32, r = some (.inl z) ∧ ((z.toInt = 0 ∧ a0.toInt ≤ (-1)) ∨ (z.toInt = 0 ∧ 0 ≤ a0.toInt ∧ (h.1 97 0).toInt ≤ a0.toInt + 0) ∨ (z.toInt = 0 ∧ 8 ≤ a0.toInt ∧ a0.toInt ≤ 59 ∧ 9 ≤ (h.1 97 0).toInt ∧ (h.1 97 0).toInt ≤ 60 ∧ a0.toInt ≤ (h.1 97 0).toInt + (-1)) ∨ (z.toInt = 0 ∧ 0 ≤ a0.toInt ∧ a0.toInt ≤ 7 ∧ a1.toInt ≤ (-1) ∧ 1 ≤ (h.1 97 0).toInt ∧ (h.1 97 0).toInt ≤ 60 ∧ a0.toInt ≤ (h.1 97 0).toInt + (-1)) ∨ (z.toInt = 0 ∧ 0 ≤ a0.toInt ∧ a0.toInt ≤ 7 ∧ 2 ≤ a1.toInt ∧ 1 ≤ (h.1 97 0).toInt ∧ (h.1 97 0).toInt ≤ 60 ∧ a0.toInt ≤ (h.1 97 0).toInt + (-1)) ∨ (z.toInt = 1 ∧ 0 ≤ a0.toInt ∧ a0.toInt ≤ 7 ∧ 0 ≤ a1.toInt ∧ a1.toInt ≤ 1 ∧ 1 ≤ (h.1 97 0).toInt ∧ (h.1 97 0).toInt ≤ 60 ∧ a0.toInt ≤ (h.1 97 0).toInt + (-1)))
set_option maxHeartbeats 4000000 in
set_option maxRecDepth 100000 in
theorem k_X9_isSlips (h : PH) (hI : INV h) (a0 : Int32) (a1 : Int32) : CALL d_X9_isSlips [.inr (.inr (.inl 96)), .inl a0, .inl a1] h (q_X9_isSlips h a0 a1) := by
  show RUN d_X9_isSlips 0 [(0, .inr (.inr (.inl 96))), (1, .inl a0), (2, .inl a1)] [] h _
  have b1 := i_rng a0
  have b2 := i_rng a1
  refine R_aload_n (k := 0) rfl rfl rfl ?_
  refine R_iload_n (k := 1) rfl rfl rfl ?_
  refine N_i2l rfl (fun w3 q4 => ?_)
  have b5 : (0 : Int) ≤ (h.1 97 0).toInt ∧ (h.1 97 0).toInt ≤ 60 := hI.1 97 0
  refine R_callV (v := .inr (.inr (.inl 96))) (As := [.inr (.inl w3)]) (rest := []) rfl mt_9_i310 pp_X9_isSecond (by decide) rfl rfl rfl (Nat.le_of_ble_eq_true rfl) (Nat.le_of_ble_eq_true rfl) ((k_X9_isSecond h hI w3).mono (fun r6 h7 p8 => ?_))
  obtain ⟨rfl, x9, rfl, q10 | q10 | q10⟩ := p8
  · show RUN d_X9_isSlips 6 [(0, .inr (.inr (.inl 96))), (1, .inl a0), (2, .inl a1)] [.inl x9] h _
    refine N_if_eq (a := x9.toInt) 35 rfl rfl rfl (fun c11 => ?_) (fun c11 => ?_)
    · refine R_iconst 0 rfl rfl ?_
      exact R_iret rfl rfl rfl ⟨rfl, _, rfl, by rw [show (0 : Int32).toInt = 0 from rfl] <;> omega⟩
    · exfalso; omega
  · show RUN d_X9_isSlips 6 [(0, .inr (.inr (.inl 96))), (1, .inl a0), (2, .inl a1)] [.inl x9] h _
    refine N_if_eq (a := x9.toInt) 35 rfl rfl rfl (fun c12 => ?_) (fun c12 => ?_)
    · refine R_iconst 0 rfl rfl ?_
      exact R_iret rfl rfl rfl ⟨rfl, _, rfl, by rw [show (0 : Int32).toInt = 0 from rfl] <;> omega⟩
    · exfalso; omega
  · show RUN d_X9_isSlips 6 [(0, .inr (.inr (.inl 96))), (1, .inl a0), (2, .inl a1)] [.inl x9] h _
    refine N_if_eq (a := x9.toInt) 35 rfl rfl rfl (fun c13 => ?_) (fun c13 => ?_)
    · exfalso; omega
    · refine R_iload_n (k := 1) rfl rfl rfl ?_
      refine N_i2l rfl (fun w14 q15 => ?_)
      refine R_lconst 0 rfl rfl ?_
      refine R_ldc2 (x := 7) rfl kt_9_489 ?_
      have k16 : (0 : Int64).toInt = 0 := by decide
      have k17 : (7 : Int64).toInt = 7 := by decide
      refine R_callS (As := [.inr (.inl w14), .inr (.inl 0), .inr (.inl 7)]) (rest := []) rfl mt_9_i125 (by decide) pp_X9_in (by decide) rfl rfl (Nat.le_of_ble_eq_true rfl) (Nat.le_of_ble_eq_true rfl) ((k_X9_in h hI w14 (0 : Int64) (7 : Int64)).mono (fun r18 h19 p20 => ?_))
      obtain ⟨rfl, x21, rfl, q22 | q22 | q22⟩ := p20
      · exfalso; omega
      · show RUN d_X9_isSlips 18 [(0, .inr (.inr (.inl 96))), (1, .inl a0), (2, .inl a1)] [.inl x21] h _
        refine N_if_eq (a := x21.toInt) 35 rfl rfl rfl (fun c23 => ?_) (fun c23 => ?_)
        · refine R_iconst 0 rfl rfl ?_
          exact R_iret rfl rfl rfl ⟨rfl, _, rfl, by rw [show (0 : Int32).toInt = 0 from rfl] <;> omega⟩
        · exfalso; omega
      · show RUN d_X9_isSlips 18 [(0, .inr (.inr (.inl 96))), (1, .inl a0), (2, .inl a1)] [.inl x21] h _
        refine N_if_eq (a := x21.toInt) 35 rfl rfl rfl (fun c24 => ?_) (fun c24 => ?_)
        · exfalso; omega
        · refine R_iload_n (k := 2) rfl rfl rfl ?_
          refine N_i2l rfl (fun w25 q26 => ?_)
          refine R_lconst 0 rfl rfl ?_
          refine R_lconst 1 rfl rfl ?_
          have k27 : (0 : Int64).toInt = 0 := by decide
          have k28 : (1 : Int64).toInt = 1 := by decide
          refine R_callS (As := [.inr (.inl w25), .inr (.inl 0), .inr (.inl 1)]) (rest := []) rfl mt_9_i125 (by decide) pp_X9_in (by decide) rfl rfl (Nat.le_of_ble_eq_true rfl) (Nat.le_of_ble_eq_true rfl) ((k_X9_in h hI w25 (0 : Int64) (1 : Int64)).mono (fun r29 h30 p31 => ?_))
          obtain ⟨rfl, x32, rfl, q33 | q33 | q33⟩ := p31
          · show RUN d_X9_isSlips 28 [(0, .inr (.inr (.inl 96))), (1, .inl a0), (2, .inl a1)] [.inl x32] h _
            refine N_if_eq (a := x32.toInt) 35 rfl rfl rfl (fun c34 => ?_) (fun c34 => ?_)
            · refine R_iconst 0 rfl rfl ?_
              exact R_iret rfl rfl rfl ⟨rfl, _, rfl, by rw [show (0 : Int32).toInt = 0 from rfl] <;> omega⟩
            · exfalso; omega
          · show RUN d_X9_isSlips 28 [(0, .inr (.inr (.inl 96))), (1, .inl a0), (2, .inl a1)] [.inl x32] h _
            refine N_if_eq (a := x32.toInt) 35 rfl rfl rfl (fun c35 => ?_) (fun c35 => ?_)
            · refine R_iconst 0 rfl rfl ?_
              exact R_iret rfl rfl rfl ⟨rfl, _, rfl, by rw [show (0 : Int32).toInt = 0 from rfl] <;> omega⟩
            · exfalso; omega
          · show RUN d_X9_isSlips 28 [(0, .inr (.inr (.inl 96))), (1, .inl a0), (2, .inl a1)] [.inl x32] h _
            refine N_if_eq (a := x32.toInt) 35 rfl rfl rfl (fun c36 => ?_) (fun c36 => ?_)
            · exfalso; omega
            · refine R_iconst 1 rfl rfl ?_
              refine R_goto 36 rfl rfl ?_
              exact R_iret rfl rfl rfl ⟨rfl, _, rfl, by rw [show (1 : Int32).toInt = 1 from rfl] <;> omega⟩
abbrev q_X8_mean (h : PH) (a0 : Int32) (a1 : Int32) : Option PV → PH → Prop := fun r h' => INV h' ∧ FR [70, 71, 72, 73, 74] h h' ∧ (True) ∧ ∃ z : Int64, r = some (.inr (.inl z))
set_option maxHeartbeats 4000000 in
set_option maxRecDepth 100000 in
theorem k_X8_mean (h : PH) (hI : INV h) (a0 : Int32) (a1 : Int32) : CALL d_X8_mean [.inr (.inr (.inl 0)), .inl a0, .inl a1] h (q_X8_mean h a0 a1) := by
  show RUN d_X8_mean 0 [(0, .inr (.inr (.inl 0))), (1, .inl a0), (2, .inl a1)] [] h _
  have b1 := i_rng a0
  have b2 := i_rng a1
  have fr : FR [70, 71, 72, 73, 74] h h := FR.rf _ _
  refine R_aload_n (k := 0) rfl rfl rfl ?_
  refine R_iload_n (k := 1) rfl rfl rfl ?_
  have b3 : (0 : Int) ≤ (h.1 17 0).toInt ∧ (h.1 17 0).toInt ≤ 60 := hI.1 17 0
  refine R_callV (v := .inr (.inr (.inl 0))) (As := [.inl a0]) (rest := []) rfl mt_8_i342 pp_X8_isSlipSecond (by decide) rfl rfl rfl (Nat.le_of_ble_eq_true rfl) (Nat.le_of_ble_eq_true rfl) ((k_X8_isSlipSecond h hI a0).mono (fun r4 h5 p6 => ?_))
  obtain ⟨rfl, x7, rfl, q8 | q8 | q8 | q8⟩ := p6
  · show RUN d_X8_mean 5 [(0, .inr (.inr (.inl 0))), (1, .inl a0), (2, .inl a1)] [.inl x7] h _
    refine N_if_eq (a := x7.toInt) 15 rfl rfl rfl (fun c9 => ?_) (fun c9 => ?_)
    · refine R_ldc2 (x := (-2)) rfl kt_8_345 ?_
      exact R_lret rfl rfl ⟨hI, fr, trivial, _, rfl⟩
    · exfalso; omega
  · show RUN d_X8_mean 5 [(0, .inr (.inr (.inl 0))), (1, .inl a0), (2, .inl a1)] [.inl x7] h _
    refine N_if_eq (a := x7.toInt) 15 rfl rfl rfl (fun c10 => ?_) (fun c10 => ?_)
    · refine R_ldc2 (x := (-2)) rfl kt_8_345 ?_
      exact R_lret rfl rfl ⟨hI, fr, trivial, _, rfl⟩
    · exfalso; omega
  · show RUN d_X8_mean 5 [(0, .inr (.inr (.inl 0))), (1, .inl a0), (2, .inl a1)] [.inl x7] h _
    refine N_if_eq (a := x7.toInt) 15 rfl rfl rfl (fun c11 => ?_) (fun c11 => ?_)
    · refine R_ldc2 (x := (-2)) rfl kt_8_345 ?_
      exact R_lret rfl rfl ⟨hI, fr, trivial, _, rfl⟩
    · exfalso; omega
  · show RUN d_X8_mean 5 [(0, .inr (.inr (.inl 0))), (1, .inl a0), (2, .inl a1)] [.inl x7] h _
    refine N_if_eq (a := x7.toInt) 15 rfl rfl rfl (fun c12 => ?_) (fun c12 => ?_)
    · exfalso; omega
    · refine R_iload_n (k := 2) rfl rfl rfl ?_
      refine R_callS (As := [.inl a1]) (rest := []) rfl mt_8_i122 (by decide) pp_X8_isEither (by decide) rfl rfl (Nat.le_of_ble_eq_true rfl) (Nat.le_of_ble_eq_true rfl) ((k_X8_isEither h hI a1).mono (fun r13 h14 p15 => ?_))
      obtain ⟨rfl, x16, rfl, q17 | q17 | q17⟩ := p15
      · show RUN d_X8_mean 12 [(0, .inr (.inr (.inl 0))), (1, .inl a0), (2, .inl a1)] [.inl x16] h _
        refine N_if_ne (a := x16.toInt) 19 rfl rfl rfl (fun c18 => ?_) (fun c18 => ?_)
        · refine R_aload_n (k := 0) rfl rfl rfl ?_
          refine R_callV (v := .inr (.inr (.inl 0))) (As := []) (rest := []) rfl mt_8_i237 pp_X8_lineAsNow (by decide) rfl rfl rfl (Nat.le_of_ble_eq_true rfl) (Nat.le_of_ble_eq_true rfl) ((k_X8_lineAsNow h hI).mono (fun r19 h20 p21 => ?_))
          obtain ⟨hJ, fj, -, rfl⟩ := p21
          have f22 := fj
          have fr := fr.trans fj (by decide)
          have hI := hJ
          have s23 : (h20.1 17 0).toInt = (h.1 17 0).toInt := by rw [(f22 17 (by decide)).1]
          show RUN d_X8_mean 23 [(0, .inr (.inr (.inl 0))), (1, .inl a0), (2, .inl a1)] [] h20 _
          refine R_lconst 0 rfl rfl ?_
          refine R_lstore_n (k := 3) rfl [(3, .inr (.inl 0)), (0, .inr (.inr (.inl 0))), (1, .inl a0), (2, .inl a1)] rfl rfl (by decide) ?_
          refine R_iconst 0 rfl rfl ?_
          refine R_istore (k := 5) [(5, .inl 0), (3, .inr (.inl 0)), (0, .inr (.inr (.inl 0))), (1, .inl a0), (2, .inl a1)] rfl rfl (by decide) ?_
          have lp25 : ∀ (n24 : Nat) (h26 : PH) (w28 : Int64) (x29 : Int32), INV h26 → FR [70, 71, 72, 73, 74] h h26 → FR [70, 74] h20 h26 → 0 ≤ x29.toInt ∧ x29.toInt ≤ 256 → (256 - x29.toInt).toNat < n24 → RUN d_X8_mean 28 [(5, .inl x29), (3, .inr (.inl w28)), (0, .inr (.inr (.inl 0))), (1, .inl a0), (2, .inl a1)] [] h26 (q_X8_mean h a0 a1) := by
            intro n24
            induction n24 with
            | zero => intro h26 w28 x29 m31 m32 m33 m34 hz; exact absurd hz (Nat.not_lt_zero _)
            | succ n24 ih30 =>
              intro h26 w28 x29 hI fr fl27 m34 hz
              have s35 : (h26.1 17 0).toInt = (h20.1 17 0).toInt := by rw [(fl27 17 (by decide)).1]
              refine R_iload (k := 5) rfl rfl ?_
              refine R_iconst 2 rfl rfl ?_
              refine R_iload_n (k := 1) rfl rfl rfl ?_
              refine N_ishl2 (b := a0.toInt) rfl rfl (by omega) (fun x36 q37 => ?_)
              refine N_icmp_ge (a := x29.toInt) (b := x36.toInt) 85 rfl rfl rfl rfl (fun c38 => ?_) (fun c38 => ?_)
              · refine R_lload_n (k := 3) rfl rfl rfl ?_
                refine R_ldc2 (x := 10) rfl kt_8_360 ?_
                refine R_iload_n (k := 1) rfl rfl rfl ?_
                refine R_iconst 1 rfl rfl ?_
                refine N_iadd (a := a0.toInt) (b := 1) rfl rfl (by decide) (by omega) (fun x39 q40 => ?_)
                have k41 : (10 : Int64).toInt = 10 := by decide
                refine R_callS (As := [.inr (.inl 10), .inl x39]) (rest := [.inr (.inl w28)]) rfl mt_8_i362 (by decide) pp_X8_power (by decide) rfl rfl (Nat.le_of_ble_eq_true rfl) (Nat.le_of_ble_eq_true rfl) ((k_X8_power h26 hI (10 : Int64) x39 (by omega)).mono (fun r42 h43 p44 => ?_))
                obtain ⟨rfl, w45, rfl⟩ := p44
                show RUN d_X8_mean 95 [(5, .inl x29), (3, .inr (.inl w28)), (0, .inr (.inr (.inl 0))), (1, .inl a0), (2, .inl a1)] [.inr (.inl w45), .inr (.inl w28)] h26 _
                refine R_iload_n (k := 2) rfl rfl rfl ?_
                refine R_callS (As := [.inr (.inl w28), .inr (.inl w45), .inl a1]) (rest := []) rfl mt_8_i282 (by decide) pp_X8_part (by decide) rfl rfl (Nat.le_of_ble_eq_true rfl) (Nat.le_of_ble_eq_true rfl) ((k_X8_part h26 hI w28 w45 a1 (by omega)).mono (fun r46 h47 p48 => ?_))
                obtain ⟨rfl, w49, rfl⟩ := p48
                show RUN d_X8_mean 99 [(5, .inl x29), (3, .inr (.inl w28)), (0, .inr (.inr (.inl 0))), (1, .inl a0), (2, .inl a1)] [.inr (.inl w49)] h26 _
                exact R_lret rfl rfl ⟨hI, fr, trivial, _, rfl⟩
              · refine R_aload_n (k := 0) rfl rfl rfl ?_
                refine R_getf_r (j := 7) rfl ft_8_49 sh_0 rfl ?_
                refine R_callV (v := .inr (.inr (.inl 70))) (As := []) (rest := []) rfl mt_8_i247 pp_X2_poured (by decide) rfl rfl rfl (Nat.le_of_ble_eq_true rfl) (Nat.le_of_ble_eq_true rfl) ((k_X2_poured h26 hI).mono (fun r50 h51 p52 => ?_))
                obtain ⟨rfl, x53, rfl, q54⟩ := p52
                show RUN d_X8_mean 43 [(5, .inl x29), (3, .inr (.inl w28)), (0, .inr (.inr (.inl 0))), (1, .inl a0), (2, .inl a1)] [.inl x53] h26 _
                refine N_i2l rfl (fun w55 q56 => ?_)
                refine R_aload_n (k := 0) rfl rfl rfl ?_
                refine R_getf_r (j := 7) rfl ft_8_49 sh_0 rfl ?_
                refine R_iload_n (k := 1) rfl rfl rfl ?_
                refine R_iconst 1 rfl rfl ?_
                refine N_iadd (a := a0.toInt) (b := 1) rfl rfl (by decide) (by omega) (fun x57 q58 => ?_)
                refine R_iload (k := 5) rfl rfl ?_
                refine N_i2l rfl (fun w59 q60 => ?_)
                refine R_callV (v := .inr (.inr (.inl 70))) (As := [.inl x57, .inr (.inl w59)]) (rest := [.inr (.inl w55)]) rfl mt_8_i347 pp_X2_play (by decide) rfl rfl rfl (Nat.le_of_ble_eq_true rfl) (Nat.le_of_ble_eq_true rfl) ((k_X2_play h26 hI x57 w59 (by omega)).mono (fun r61 h62 p63 => ?_))
                obtain ⟨hJ, fj, ⟨kp64, -⟩, w65, rfl⟩ := p63
                have f66 := fj
                have fr := fr.trans fj (by decide)
                have hI := hJ
                have fl27 : FR [70, 74] h20 h62 := fl27.trans fj (by decide)
                have s67 : (h62.1 17 0).toInt = (h26.1 17 0).toInt := by rw [(f66 17 (by decide)).1]
                show RUN d_X8_mean 57 [(5, .inl x29), (3, .inr (.inl w28)), (0, .inr (.inr (.inl 0))), (1, .inl a0), (2, .inl a1)] [.inr (.inl w65), .inr (.inl w55)] h62 _
                refine R_callS (As := [.inr (.inl w65)]) (rest := [.inr (.inl w55)]) rfl mt_8_i351 (by decide) pp_J13_bitCount_95d88 (by decide) rfl rfl (Nat.le_of_ble_eq_true rfl) (Nat.le_of_ble_eq_true rfl) ((k_J13_bitCount_95d88 h62 hI w65).mono (fun r68 h69 p70 => ?_))
                obtain ⟨rfl, x71, rfl, q72⟩ := p70
                show RUN d_X8_mean 60 [(5, .inl x29), (3, .inr (.inl w28)), (0, .inr (.inr (.inl 0))), (1, .inl a0), (2, .inl a1)] [.inl x71, .inr (.inl w55)] h62 _
                refine N_i2l rfl (fun w73 q74 => ?_)
                refine R_lmul rfl ?_
                refine N_anyL (fun w75 => ?_)
                refine R_lstore (k := 6) [(6, .inr (.inl w75)), (5, .inl x29), (3, .inr (.inl w28)), (0, .inr (.inr (.inl 0))), (1, .inl a0), (2, .inl a1)] rfl rfl (by decide) ?_
                refine R_lload_n (k := 3) rfl rfl rfl ?_
                refine R_aload_n (k := 0) rfl rfl rfl ?_
                refine R_iload (k := 5) rfl rfl ?_
                refine R_iload_n (k := 1) rfl rfl rfl ?_
                refine R_iconst 1 rfl rfl ?_
                refine N_iadd (a := a0.toInt) (b := 1) rfl rfl (by decide) (by omega) (fun x76 q77 => ?_)
                refine R_callV (v := .inr (.inr (.inl 0))) (As := [.inl x29, .inl x76]) (rest := [.inr (.inl w28)]) rfl mt_8_i356 pp_X8_weight (by decide) rfl rfl rfl (Nat.le_of_ble_eq_true rfl) (Nat.le_of_ble_eq_true rfl) ((k_X8_weight h62 hI x29 x76 (by omega) (by omega)).mono (fun r78 h79 p80 => ?_))
                obtain ⟨rfl, w81, rfl⟩ := p80
                show RUN d_X8_mean 74 [(6, .inr (.inl w75)), (5, .inl x29), (3, .inr (.inl w28)), (0, .inr (.inr (.inl 0))), (1, .inl a0), (2, .inl a1)] [.inr (.inl w81), .inr (.inl w28)] h62 _
                refine R_lload (k := 6) rfl rfl ?_
                refine R_lmul rfl ?_
                refine N_anyL (fun w82 => ?_)
                refine R_ladd rfl ?_
                refine N_anyL (fun w83 => ?_)
                refine R_lstore_n (k := 3) rfl [(3, .inr (.inl w83)), (6, .inr (.inl w75)), (5, .inl x29), (0, .inr (.inr (.inl 0))), (1, .inl a0), (2, .inl a1)] rfl rfl (by decide) ?_
                refine N_iinc (a := x29.toInt) (c := 1) (fun w => [(5, .inl w), (3, .inr (.inl w83)), (6, .inr (.inl w75)), (0, .inr (.inr (.inl 0))), (1, .inl a0), (2, .inl a1)]) rfl rfl (fun _ => rfl) (by decide) rfl (by decide) (by omega) (fun x84 q85 => ?_)
                refine R_goto 28 rfl rfl ?_
                exact RUN_weak (psub_cons rfl (psub_cons rfl (psub_cons rfl (psub_cons rfl (psub_cons rfl (psub_nil _)))))) (ih30 h62 w83 x84 hI fr fl27 (by omega) (by omega))
          exact lp25 _ h20 (0 : Int64) (0 : Int32) hI fr (FR.rf _ _) (by decide) (Nat.lt_succ_self _)
        · exfalso; omega
      · show RUN d_X8_mean 12 [(0, .inr (.inr (.inl 0))), (1, .inl a0), (2, .inl a1)] [.inl x16] h _
        refine N_if_ne (a := x16.toInt) 19 rfl rfl rfl (fun c86 => ?_) (fun c86 => ?_)
        · exfalso; omega
        · refine R_ldc2 (x := (-2)) rfl kt_8_345 ?_
          exact R_lret rfl rfl ⟨hI, fr, trivial, _, rfl⟩
      · show RUN d_X8_mean 12 [(0, .inr (.inr (.inl 0))), (1, .inl a0), (2, .inl a1)] [.inl x16] h _
        refine N_if_ne (a := x16.toInt) 19 rfl rfl rfl (fun c87 => ?_) (fun c87 => ?_)
        · refine R_aload_n (k := 0) rfl rfl rfl ?_
          refine R_callV (v := .inr (.inr (.inl 0))) (As := []) (rest := []) rfl mt_8_i237 pp_X8_lineAsNow (by decide) rfl rfl rfl (Nat.le_of_ble_eq_true rfl) (Nat.le_of_ble_eq_true rfl) ((k_X8_lineAsNow h hI).mono (fun r88 h89 p90 => ?_))
          obtain ⟨hJ, fj, -, rfl⟩ := p90
          have f91 := fj
          have fr := fr.trans fj (by decide)
          have hI := hJ
          have s92 : (h89.1 17 0).toInt = (h.1 17 0).toInt := by rw [(f91 17 (by decide)).1]
          show RUN d_X8_mean 23 [(0, .inr (.inr (.inl 0))), (1, .inl a0), (2, .inl a1)] [] h89 _
          refine R_lconst 0 rfl rfl ?_
          refine R_lstore_n (k := 3) rfl [(3, .inr (.inl 0)), (0, .inr (.inr (.inl 0))), (1, .inl a0), (2, .inl a1)] rfl rfl (by decide) ?_
          refine R_iconst 0 rfl rfl ?_
          refine R_istore (k := 5) [(5, .inl 0), (3, .inr (.inl 0)), (0, .inr (.inr (.inl 0))), (1, .inl a0), (2, .inl a1)] rfl rfl (by decide) ?_
          have lp94 : ∀ (n93 : Nat) (h95 : PH) (w97 : Int64) (x98 : Int32), INV h95 → FR [70, 71, 72, 73, 74] h h95 → FR [70, 74] h89 h95 → 0 ≤ x98.toInt ∧ x98.toInt ≤ 256 → (256 - x98.toInt).toNat < n93 → RUN d_X8_mean 28 [(5, .inl x98), (3, .inr (.inl w97)), (0, .inr (.inr (.inl 0))), (1, .inl a0), (2, .inl a1)] [] h95 (q_X8_mean h a0 a1) := by
            intro n93
            induction n93 with
            | zero => intro h95 w97 x98 m100 m101 m102 m103 hz; exact absurd hz (Nat.not_lt_zero _)
            | succ n93 ih99 =>
              intro h95 w97 x98 hI fr fl96 m103 hz
              have s104 : (h95.1 17 0).toInt = (h89.1 17 0).toInt := by rw [(fl96 17 (by decide)).1]
              refine R_iload (k := 5) rfl rfl ?_
              refine R_iconst 2 rfl rfl ?_
              refine R_iload_n (k := 1) rfl rfl rfl ?_
              refine N_ishl2 (b := a0.toInt) rfl rfl (by omega) (fun x105 q106 => ?_)
              refine N_icmp_ge (a := x98.toInt) (b := x105.toInt) 85 rfl rfl rfl rfl (fun c107 => ?_) (fun c107 => ?_)
              · refine R_lload_n (k := 3) rfl rfl rfl ?_
                refine R_ldc2 (x := 10) rfl kt_8_360 ?_
                refine R_iload_n (k := 1) rfl rfl rfl ?_
                refine R_iconst 1 rfl rfl ?_
                refine N_iadd (a := a0.toInt) (b := 1) rfl rfl (by decide) (by omega) (fun x108 q109 => ?_)
                have k110 : (10 : Int64).toInt = 10 := by decide
                refine R_callS (As := [.inr (.inl 10), .inl x108]) (rest := [.inr (.inl w97)]) rfl mt_8_i362 (by decide) pp_X8_power (by decide) rfl rfl (Nat.le_of_ble_eq_true rfl) (Nat.le_of_ble_eq_true rfl) ((k_X8_power h95 hI (10 : Int64) x108 (by omega)).mono (fun r111 h112 p113 => ?_))
                obtain ⟨rfl, w114, rfl⟩ := p113
                show RUN d_X8_mean 95 [(5, .inl x98), (3, .inr (.inl w97)), (0, .inr (.inr (.inl 0))), (1, .inl a0), (2, .inl a1)] [.inr (.inl w114), .inr (.inl w97)] h95 _
                refine R_iload_n (k := 2) rfl rfl rfl ?_
                refine R_callS (As := [.inr (.inl w97), .inr (.inl w114), .inl a1]) (rest := []) rfl mt_8_i282 (by decide) pp_X8_part (by decide) rfl rfl (Nat.le_of_ble_eq_true rfl) (Nat.le_of_ble_eq_true rfl) ((k_X8_part h95 hI w97 w114 a1 (by omega)).mono (fun r115 h116 p117 => ?_))
                obtain ⟨rfl, w118, rfl⟩ := p117
                show RUN d_X8_mean 99 [(5, .inl x98), (3, .inr (.inl w97)), (0, .inr (.inr (.inl 0))), (1, .inl a0), (2, .inl a1)] [.inr (.inl w118)] h95 _
                exact R_lret rfl rfl ⟨hI, fr, trivial, _, rfl⟩
              · refine R_aload_n (k := 0) rfl rfl rfl ?_
                refine R_getf_r (j := 7) rfl ft_8_49 sh_0 rfl ?_
                refine R_callV (v := .inr (.inr (.inl 70))) (As := []) (rest := []) rfl mt_8_i247 pp_X2_poured (by decide) rfl rfl rfl (Nat.le_of_ble_eq_true rfl) (Nat.le_of_ble_eq_true rfl) ((k_X2_poured h95 hI).mono (fun r119 h120 p121 => ?_))
                obtain ⟨rfl, x122, rfl, q123⟩ := p121
                show RUN d_X8_mean 43 [(5, .inl x98), (3, .inr (.inl w97)), (0, .inr (.inr (.inl 0))), (1, .inl a0), (2, .inl a1)] [.inl x122] h95 _
                refine N_i2l rfl (fun w124 q125 => ?_)
                refine R_aload_n (k := 0) rfl rfl rfl ?_
                refine R_getf_r (j := 7) rfl ft_8_49 sh_0 rfl ?_
                refine R_iload_n (k := 1) rfl rfl rfl ?_
                refine R_iconst 1 rfl rfl ?_
                refine N_iadd (a := a0.toInt) (b := 1) rfl rfl (by decide) (by omega) (fun x126 q127 => ?_)
                refine R_iload (k := 5) rfl rfl ?_
                refine N_i2l rfl (fun w128 q129 => ?_)
                refine R_callV (v := .inr (.inr (.inl 70))) (As := [.inl x126, .inr (.inl w128)]) (rest := [.inr (.inl w124)]) rfl mt_8_i347 pp_X2_play (by decide) rfl rfl rfl (Nat.le_of_ble_eq_true rfl) (Nat.le_of_ble_eq_true rfl) ((k_X2_play h95 hI x126 w128 (by omega)).mono (fun r130 h131 p132 => ?_))
                obtain ⟨hJ, fj, ⟨kp133, -⟩, w134, rfl⟩ := p132
                have f135 := fj
                have fr := fr.trans fj (by decide)
                have hI := hJ
                have fl96 : FR [70, 74] h89 h131 := fl96.trans fj (by decide)
                have s136 : (h131.1 17 0).toInt = (h95.1 17 0).toInt := by rw [(f135 17 (by decide)).1]
                show RUN d_X8_mean 57 [(5, .inl x98), (3, .inr (.inl w97)), (0, .inr (.inr (.inl 0))), (1, .inl a0), (2, .inl a1)] [.inr (.inl w134), .inr (.inl w124)] h131 _
                refine R_callS (As := [.inr (.inl w134)]) (rest := [.inr (.inl w124)]) rfl mt_8_i351 (by decide) pp_J13_bitCount_95d88 (by decide) rfl rfl (Nat.le_of_ble_eq_true rfl) (Nat.le_of_ble_eq_true rfl) ((k_J13_bitCount_95d88 h131 hI w134).mono (fun r137 h138 p139 => ?_))
                obtain ⟨rfl, x140, rfl, q141⟩ := p139
                show RUN d_X8_mean 60 [(5, .inl x98), (3, .inr (.inl w97)), (0, .inr (.inr (.inl 0))), (1, .inl a0), (2, .inl a1)] [.inl x140, .inr (.inl w124)] h131 _
                refine N_i2l rfl (fun w142 q143 => ?_)
                refine R_lmul rfl ?_
                refine N_anyL (fun w144 => ?_)
                refine R_lstore (k := 6) [(6, .inr (.inl w144)), (5, .inl x98), (3, .inr (.inl w97)), (0, .inr (.inr (.inl 0))), (1, .inl a0), (2, .inl a1)] rfl rfl (by decide) ?_
                refine R_lload_n (k := 3) rfl rfl rfl ?_
                refine R_aload_n (k := 0) rfl rfl rfl ?_
                refine R_iload (k := 5) rfl rfl ?_
                refine R_iload_n (k := 1) rfl rfl rfl ?_
                refine R_iconst 1 rfl rfl ?_
                refine N_iadd (a := a0.toInt) (b := 1) rfl rfl (by decide) (by omega) (fun x145 q146 => ?_)
                refine R_callV (v := .inr (.inr (.inl 0))) (As := [.inl x98, .inl x145]) (rest := [.inr (.inl w97)]) rfl mt_8_i356 pp_X8_weight (by decide) rfl rfl rfl (Nat.le_of_ble_eq_true rfl) (Nat.le_of_ble_eq_true rfl) ((k_X8_weight h131 hI x98 x145 (by omega) (by omega)).mono (fun r147 h148 p149 => ?_))
                obtain ⟨rfl, w150, rfl⟩ := p149
                show RUN d_X8_mean 74 [(6, .inr (.inl w144)), (5, .inl x98), (3, .inr (.inl w97)), (0, .inr (.inr (.inl 0))), (1, .inl a0), (2, .inl a1)] [.inr (.inl w150), .inr (.inl w97)] h131 _
                refine R_lload (k := 6) rfl rfl ?_
                refine R_lmul rfl ?_
                refine N_anyL (fun w151 => ?_)
                refine R_ladd rfl ?_
                refine N_anyL (fun w152 => ?_)
                refine R_lstore_n (k := 3) rfl [(3, .inr (.inl w152)), (6, .inr (.inl w144)), (5, .inl x98), (0, .inr (.inr (.inl 0))), (1, .inl a0), (2, .inl a1)] rfl rfl (by decide) ?_
                refine N_iinc (a := x98.toInt) (c := 1) (fun w => [(5, .inl w), (3, .inr (.inl w152)), (6, .inr (.inl w144)), (0, .inr (.inr (.inl 0))), (1, .inl a0), (2, .inl a1)]) rfl rfl (fun _ => rfl) (by decide) rfl (by decide) (by omega) (fun x153 q154 => ?_)
                refine R_goto 28 rfl rfl ?_
                exact RUN_weak (psub_cons rfl (psub_cons rfl (psub_cons rfl (psub_cons rfl (psub_cons rfl (psub_nil _)))))) (ih99 h131 w152 x153 hI fr fl96 (by omega) (by omega))
          exact lp94 _ h89 (0 : Int64) (0 : Int32) hI fr (FR.rf _ _) (by decide) (Nat.lt_succ_self _)
        · exfalso; omega
