abbrev q_X9_staysOf (h : PH) (a0 : Int32) : Option PV → PH → Prop := fun r h' => h = h' ∧ ∃ z : Int32, r = some (.inl z) ∧ ((True))
set_option maxHeartbeats 4000000 in
set_option maxRecDepth 100000 in
theorem k_X9_staysOf (h : PH) (hI : INV h) (a0 : Int32) (h0a : 0 ≤ a0.toInt ∧ a0.toInt ≤ 5) : CALL d_X9_staysOf [.inr (.inr (.inl 96)), .inl a0] h (q_X9_staysOf h a0) := by
  show RUN d_X9_staysOf 0 [(0, .inr (.inr (.inl 96))), (1, .inl a0)] [] h _
  refine R_iconst 0 rfl rfl ?_
  refine R_istore_n (k := 2) rfl [(2, .inl 0), (0, .inr (.inr (.inl 96))), (1, .inl a0)] rfl rfl (by decide) ?_
  refine R_iconst 0 rfl rfl ?_
  refine R_istore_n (k := 3) rfl [(3, .inl 0), (2, .inl 0), (0, .inr (.inr (.inl 96))), (1, .inl a0)] rfl rfl (by decide) ?_
  have lp2 : ∀ (n1 : Nat) (x3 : Int32) (x4 : Int32), 0 ≤ x4.toInt ∧ x4.toInt ≤ 60 → (60 - x4.toInt).toNat < n1 → RUN d_X9_staysOf 4 [(3, .inl x4), (2, .inl x3), (0, .inr (.inr (.inl 96))), (1, .inl a0)] [] h (q_X9_staysOf h a0) := by
    intro n1
    induction n1 with
    | zero => intro x3 x4 m6 hz; exact absurd hz (Nat.not_lt_zero _)
    | succ n1 ih5 =>
      intro x3 x4 m6 hz
      refine R_iload_n (k := 3) rfl rfl rfl ?_
      refine R_aload_n (k := 0) rfl rfl rfl ?_
      have b7 : (0 : Int) ≤ (h.1 97 0).toInt ∧ (h.1 97 0).toInt ≤ 60 := hI.1 97 0
      refine R_callV (v := .inr (.inr (.inl 96))) (As := []) (rest := [.inl x4]) rfl mt_9_i129 pp_X9_last (by decide) rfl rfl rfl (Nat.le_of_ble_eq_true rfl) (Nat.le_of_ble_eq_true rfl) ((k_X9_last h hI).mono (fun r8 h9 p10 => ?_))
      obtain ⟨rfl, x11, rfl, q12⟩ := p10
      show RUN d_X9_staysOf 9 [(3, .inl x4), (2, .inl x3), (0, .inr (.inr (.inl 96))), (1, .inl a0)] [.inl x11, .inl x4] h _
      refine N_icmp_gt (a := x4.toInt) (b := x11.toInt) 31 rfl rfl rfl rfl (fun c13 => ?_) (fun c13 => ?_)
      · refine R_iload_n (k := 2) rfl rfl rfl ?_
        exact R_iret rfl rfl rfl ⟨rfl, _, rfl, trivial⟩
      · refine R_iload_n (k := 2) rfl rfl rfl ?_
        refine R_aload_n (k := 0) rfl rfl rfl ?_
        refine R_getf_r (j := 31) rfl ft_9_73 sh_96 rfl ?_
        refine R_iload_n (k := 3) rfl rfl rfl ?_
        refine R_iald rfl sh_116 ⟨by omega, by omega⟩ ?_
        refine N_any (fun x14 => ?_)
        refine R_iload_n (k := 1) rfl rfl rfl ?_
        refine R_callS (As := [.inl x14, .inl a0]) (rest := [.inl x3]) rfl mt_9_i292 (by decide) pp_X9_bit (by decide) rfl rfl (Nat.le_of_ble_eq_true rfl) (Nat.le_of_ble_eq_true rfl) ((k_X9_bit h hI x14 a0 (by omega)).mono (fun r15 h16 p17 => ?_))
        obtain ⟨rfl, x18, rfl, q19⟩ := p17
        show RUN d_X9_staysOf 23 [(3, .inl x4), (2, .inl x3), (0, .inr (.inr (.inl 96))), (1, .inl a0)] [.inl x18, .inl x3] h _
        have b20 := i_rng x3
        refine R_iadd rfl ?_
        refine N_any (fun x21 => ?_)
        refine R_istore_n (k := 2) rfl [(2, .inl x21), (3, .inl x4), (0, .inr (.inr (.inl 96))), (1, .inl a0)] rfl rfl (by decide) ?_
        refine N_iinc (a := x4.toInt) (c := 1) (fun w => [(3, .inl w), (2, .inl x21), (0, .inr (.inr (.inl 96))), (1, .inl a0)]) rfl rfl (fun _ => rfl) (by decide) rfl (by decide) (by omega) (fun x22 q23 => ?_)
        refine R_goto 4 rfl rfl ?_
        exact RUN_weak (psub_cons rfl (psub_cons rfl (psub_cons rfl (psub_cons rfl (psub_nil _))))) (ih5 x21 x22 (by omega) (by omega))
  exact lp2 _ (0 : Int32) (0 : Int32) (by decide) (Nat.lt_succ_self _)
abbrev q_X9_stays (h : PH) (a0 : Int32) : Option PV → PH → Prop := fun r h' => INV h' ∧ FR [96, 103, 104, 105, 106, 107, 108, 109, 110, 111, 112, 113, 114, 115, 116, 117, 118, 119] h h' ∧ (True) ∧ ∃ z : Int32, r = some (.inl z) ∧ ((True))
set_option maxHeartbeats 4000000 in
set_option maxRecDepth 100000 in
theorem k_X9_stays (h : PH) (hI : INV h) (a0 : Int32) : CALL d_X9_stays [.inr (.inr (.inl 96)), .inl a0] h (q_X9_stays h a0) := by
  show RUN d_X9_stays 0 [(0, .inr (.inr (.inl 96))), (1, .inl a0)] [] h _
  have b1 := i_rng a0
  have fr : FR [96, 103, 104, 105, 106, 107, 108, 109, 110, 111, 112, 113, 114, 115, 116, 117, 118, 119] h h := FR.rf _ _
  refine R_aload_n (k := 0) rfl rfl rfl ?_
  refine R_iload_n (k := 1) rfl rfl rfl ?_
  have b2 : (0 : Int) ≤ (h.1 97 0).toInt ∧ (h.1 97 0).toInt ≤ 60 := hI.1 97 0
  have e3 : 0 < (h.1 97 10).toInt → 1 ≤ (h.1 97 0).toInt := hI.2.2.2.2.2.1.2.1
  have b4 : (0 : Int) ≤ (h.1 97 5).toInt ∧ (h.1 97 5).toInt ≤ 6 := hI.1 97 5
  have e5 : 0 < (h.1 97 5).toInt → 1 ≤ (h.1 97 0).toInt := hI.2.2.2.2.2.1.2.2
  refine R_callV (v := .inr (.inr (.inl 96))) (As := [.inl a0]) (rest := []) rfl mt_9_i327 pp_X9_asksHand (by decide) rfl rfl rfl (Nat.le_of_ble_eq_true rfl) (Nat.le_of_ble_eq_true rfl) ((k_X9_asksHand h hI a0).mono (fun r6 h7 p8 => ?_))
  obtain ⟨hJ, fj, -, x9, rfl, q10 | q10 | q10 | q10⟩ := p8
  · have f11 := fj
    have fr := fr.trans fj (by decide)
    have hI := hJ
    have s12 : (h7.1 97 10).toInt = (h.1 97 10).toInt := by rw [(f11 97 (by decide)).1]
    have s13 : (h7.1 97 0).toInt = (h.1 97 0).toInt := by rw [(f11 97 (by decide)).1]
    have s14 : (h7.1 97 5).toInt = (h.1 97 5).toInt := by rw [(f11 97 (by decide)).1]
    show RUN d_X9_stays 5 [(0, .inr (.inr (.inl 96))), (1, .inl a0)] [.inl x9] h7 _
    refine N_if_eq (a := x9.toInt) 16 rfl rfl rfl (fun c15 => ?_) (fun c15 => ?_)
    · refine R_bipush (-2) rfl rfl ?_
      exact R_iret rfl rfl rfl ⟨hI, fr, trivial, _, rfl, trivial⟩
    · exfalso; omega
  · have f16 := fj
    have fr := fr.trans fj (by decide)
    have hI := hJ
    have s17 : (h7.1 97 10).toInt = (h.1 97 10).toInt := by rw [(f16 97 (by decide)).1]
    have s18 : (h7.1 97 0).toInt = (h.1 97 0).toInt := by rw [(f16 97 (by decide)).1]
    have s19 : (h7.1 97 5).toInt = (h.1 97 5).toInt := by rw [(f16 97 (by decide)).1]
    show RUN d_X9_stays 5 [(0, .inr (.inr (.inl 96))), (1, .inl a0)] [.inl x9] h7 _
    refine N_if_eq (a := x9.toInt) 16 rfl rfl rfl (fun c20 => ?_) (fun c20 => ?_)
    · refine R_bipush (-2) rfl rfl ?_
      exact R_iret rfl rfl rfl ⟨hI, fr, trivial, _, rfl, trivial⟩
    · exfalso; omega
  · have f21 := fj
    have fr := fr.trans fj (by decide)
    have hI := hJ
    have s22 : (h7.1 97 10).toInt = (h.1 97 10).toInt := by rw [(f21 97 (by decide)).1]
    have s23 : (h7.1 97 0).toInt = (h.1 97 0).toInt := by rw [(f21 97 (by decide)).1]
    have s24 : (h7.1 97 5).toInt = (h.1 97 5).toInt := by rw [(f21 97 (by decide)).1]
    show RUN d_X9_stays 5 [(0, .inr (.inr (.inl 96))), (1, .inl a0)] [.inl x9] h7 _
    refine N_if_eq (a := x9.toInt) 16 rfl rfl rfl (fun c25 => ?_) (fun c25 => ?_)
    · refine R_bipush (-2) rfl rfl ?_
      exact R_iret rfl rfl rfl ⟨hI, fr, trivial, _, rfl, trivial⟩
    · exfalso; omega
  · have f26 := fj
    have fr := fr.trans fj (by decide)
    have hI := hJ
    have s27 : (h7.1 97 10).toInt = (h.1 97 10).toInt := by rw [(f26 97 (by decide)).1]
    have s28 : (h7.1 97 0).toInt = (h.1 97 0).toInt := by rw [(f26 97 (by decide)).1]
    have s29 : (h7.1 97 5).toInt = (h.1 97 5).toInt := by rw [(f26 97 (by decide)).1]
    show RUN d_X9_stays 5 [(0, .inr (.inr (.inl 96))), (1, .inl a0)] [.inl x9] h7 _
    refine N_if_eq (a := x9.toInt) 16 rfl rfl rfl (fun c30 => ?_) (fun c30 => ?_)
    · exfalso; omega
    · refine R_aload_n (k := 0) rfl rfl rfl ?_
      refine R_iload_n (k := 1) rfl rfl rfl ?_
      refine R_callV (v := .inr (.inr (.inl 96))) (As := [.inl a0]) (rest := []) rfl mt_9_i330 pp_X9_staysOf (by decide) rfl rfl rfl (Nat.le_of_ble_eq_true rfl) (Nat.le_of_ble_eq_true rfl) ((k_X9_staysOf h7 hI a0 (by omega)).mono (fun r31 h32 p33 => ?_))
      obtain ⟨rfl, x34, rfl, q35⟩ := p33
      show RUN d_X9_stays 13 [(0, .inr (.inr (.inl 96))), (1, .inl a0)] [.inl x34] h7 _
      refine R_goto 18 rfl rfl ?_
      exact R_iret rfl rfl rfl ⟨hI, fr, trivial, _, rfl, trivial⟩
abbrev q_X8_secondsIdle (h : PH) (a0 : Int32) : Option PV → PH → Prop := fun r h' => INV h' ∧ FR [0, 70, 71, 72, 73, 74, 75, 76, 77, 78, 79, 80, 81, 82, 83, 84, 85, 86] h h' ∧ (True) ∧ ∃ z : Int32, r = some (.inl z) ∧ (((-60) ≤ z.toInt ∧ z.toInt ≤ 65))
set_option maxHeartbeats 4000000 in
set_option maxRecDepth 100000 in
theorem k_X8_secondsIdle (h : PH) (hI : INV h) (a0 : Int32) (h0a : 0 ≤ a0.toInt ∧ a0.toInt ≤ 5) : CALL d_X8_secondsIdle [.inr (.inr (.inl 0)), .inl a0] h (q_X8_secondsIdle h a0) := by
  show RUN d_X8_secondsIdle 0 [(0, .inr (.inr (.inl 0))), (1, .inl a0)] [] h _
  have fr : FR [0, 70, 71, 72, 73, 74, 75, 76, 77, 78, 79, 80, 81, 82, 83, 84, 85, 86] h h := FR.rf _ _
  refine R_aload_n (k := 0) rfl rfl rfl ?_
  refine R_getf_r (j := 3) rfl ft_8_28 sh_0 rfl ?_
  refine R_getf_r (j := 0) rfl ft_8_109 sh_16 rfl ?_
  refine R_iconst 0 rfl rfl ?_
  refine R_iald rfl sh_17 (by decide) ?_
  have b1 : (0 : Int) ≤ (h.1 17 0).toInt ∧ (h.1 17 0).toInt ≤ 60 := hI.1 17 0
  show RUN d_X8_secondsIdle 9 [(0, .inr (.inr (.inl 0))), (1, .inl a0)] [.inl (h.1 17 0)] h _
  refine R_aload_n (k := 0) rfl rfl rfl ?_
  refine R_aload_n (k := 0) rfl rfl rfl ?_
  refine R_callV (v := .inr (.inr (.inl 0))) (As := []) (rest := [.inr (.inr (.inl 0)), .inl (h.1 17 0)]) rfl mt_8_i153 pp_X8_told (by decide) rfl rfl rfl (Nat.le_of_ble_eq_true rfl) (Nat.le_of_ble_eq_true rfl) ((k_X8_told h hI).mono (fun r2 h3 p4 => ?_))
  obtain ⟨hJ, fj, -, rfl⟩ := p4
  have f5 := fj
  have fr := fr.trans fj (by decide)
  have hI := hJ
  have s6 : (h3.1 17 0).toInt = (h.1 17 0).toInt := by rw [(f5 17 (by decide)).1]
  show RUN d_X8_secondsIdle 14 [(0, .inr (.inr (.inl 0))), (1, .inl a0)] [.inr (.inr (.inl 75)), .inr (.inr (.inl 0)), .inl (h.1 17 0)] h3 _
  refine R_getf_r (j := 1) rfl ft_8_157 sh_75 rfl ?_
  refine R_iload_n (k := 1) rfl rfl rfl ?_
  refine R_callV (v := .inr (.inr (.inl 0))) (As := [.inr (.inr (.inl 77)), .inl a0]) (rest := [.inl (h.1 17 0)]) rfl mt_8_i200 pp_X8_secondsWith (by decide) rfl rfl rfl (Nat.le_of_ble_eq_true rfl) (Nat.le_of_ble_eq_true rfl) ((k_X8_secondsWith_1 h3 hI a0 (by omega)).mono (fun r7 h8 p9 => ?_))
  obtain ⟨rfl, x10, rfl, q11⟩ := p9
  show RUN d_X8_secondsIdle 21 [(0, .inr (.inr (.inl 0))), (1, .inl a0)] [.inl x10, .inl (h.1 17 0)] h3 _
  refine N_isub (a := (h.1 17 0).toInt) (b := x10.toInt) rfl rfl rfl (by omega) (fun x12 q13 => ?_)
  exact R_iret rfl rfl rfl ⟨hI, fr, trivial, _, rfl, by omega⟩
abbrev q_X8_idle (h : PH) (a0 : Int32) : Option PV → PH → Prop := fun r h' => INV h' ∧ FR [0, 70, 71, 72, 73, 74, 75, 76, 77, 78, 79, 80, 81, 82, 83, 84, 85, 86] h h' ∧ (True) ∧ ∃ z : Int32, r = some (.inl z) ∧ (((-60) ≤ z.toInt ∧ z.toInt ≤ 65))
set_option maxHeartbeats 4000000 in
set_option maxRecDepth 100000 in
theorem k_X8_idle (h : PH) (hI : INV h) (a0 : Int32) : CALL d_X8_idle [.inr (.inr (.inl 0)), .inl a0] h (q_X8_idle h a0) := by
  show RUN d_X8_idle 0 [(0, .inr (.inr (.inl 0))), (1, .inl a0)] [] h _
  have b1 := i_rng a0
  have fr : FR [0, 70, 71, 72, 73, 74, 75, 76, 77, 78, 79, 80, 81, 82, 83, 84, 85, 86] h h := FR.rf _ _
  refine R_aload_n (k := 0) rfl rfl rfl ?_
  refine R_getf_r (j := 3) rfl ft_8_28 sh_0 rfl ?_
  refine R_iload_n (k := 1) rfl rfl rfl ?_
  have b2 : (0 : Int) ≤ (h.1 17 5).toInt ∧ (h.1 17 5).toInt ≤ 6 := hI.1 17 5
  refine R_callV (v := .inr (.inr (.inl 16))) (As := [.inl a0]) (rest := []) rfl mt_8_i119 pp_X1_hasHand (by decide) rfl rfl rfl (Nat.le_of_ble_eq_true rfl) (Nat.le_of_ble_eq_true rfl) ((k_X1_hasHand h hI a0).mono (fun r3 h4 p5 => ?_))
  obtain ⟨rfl, x6, rfl, q7 | q7 | q7⟩ := p5
  · show RUN d_X8_idle 8 [(0, .inr (.inr (.inl 0))), (1, .inl a0)] [.inl x6] h _
    refine N_if_eq (a := x6.toInt) 19 rfl rfl rfl (fun c8 => ?_) (fun c8 => ?_)
    · refine R_bipush (-2) rfl rfl ?_
      exact R_iret rfl rfl rfl ⟨hI, fr, trivial, _, rfl, by rw [show ((-2) : Int32).toInt = (-2) from rfl] <;> omega⟩
    · exfalso; omega
  · show RUN d_X8_idle 8 [(0, .inr (.inr (.inl 0))), (1, .inl a0)] [.inl x6] h _
    refine N_if_eq (a := x6.toInt) 19 rfl rfl rfl (fun c9 => ?_) (fun c9 => ?_)
    · refine R_bipush (-2) rfl rfl ?_
      exact R_iret rfl rfl rfl ⟨hI, fr, trivial, _, rfl, by rw [show ((-2) : Int32).toInt = (-2) from rfl] <;> omega⟩
    · exfalso; omega
  · show RUN d_X8_idle 8 [(0, .inr (.inr (.inl 0))), (1, .inl a0)] [.inl x6] h _
    refine N_if_eq (a := x6.toInt) 19 rfl rfl rfl (fun c10 => ?_) (fun c10 => ?_)
    · exfalso; omega
    · refine R_aload_n (k := 0) rfl rfl rfl ?_
      refine R_iload_n (k := 1) rfl rfl rfl ?_
      refine R_callV (v := .inr (.inr (.inl 0))) (As := [.inl a0]) (rest := []) rfl mt_8_i203 pp_X8_secondsIdle (by decide) rfl rfl rfl (Nat.le_of_ble_eq_true rfl) (Nat.le_of_ble_eq_true rfl) ((k_X8_secondsIdle h hI a0 (by omega)).mono (fun r11 h12 p13 => ?_))
      obtain ⟨hJ, fj, -, x14, rfl, q15⟩ := p13
      have f16 := fj
      have fr := fr.trans fj (by decide)
      have hI := hJ
      have s17 : (h12.1 17 5).toInt = (h.1 17 5).toInt := by rw [(f16 17 (by decide)).1]
      show RUN d_X8_idle 16 [(0, .inr (.inr (.inl 0))), (1, .inl a0)] [.inl x14] h12 _
      refine R_goto 21 rfl rfl ?_
      exact R_iret rfl rfl rfl ⟨hI, fr, trivial, _, rfl, by omega⟩
abbrev q_X9_idleOf (h : PH) (a0 : Int32) : Option PV → PH → Prop := fun r h' => h = h' ∧ ∃ z : Int32, r = some (.inl z) ∧ (((-5) ≤ z.toInt ∧ z.toInt ≤ 60))
set_option maxHeartbeats 4000000 in
set_option maxRecDepth 100000 in
theorem k_X9_idleOf (h : PH) (hI : INV h) (a0 : Int32) (h0a : 0 ≤ a0.toInt ∧ a0.toInt ≤ 5) : CALL d_X9_idleOf [.inr (.inr (.inl 96)), .inl a0] h (q_X9_idleOf h a0) := by
  show RUN d_X9_idleOf 0 [(0, .inr (.inr (.inl 96))), (1, .inl a0)] [] h _
  refine R_iconst 0 rfl rfl ?_
  refine R_istore_n (k := 2) rfl [(2, .inl 0), (0, .inr (.inr (.inl 96))), (1, .inl a0)] rfl rfl (by decide) ?_
  refine R_iconst 0 rfl rfl ?_
  refine R_istore_n (k := 3) rfl [(3, .inl 0), (2, .inl 0), (0, .inr (.inr (.inl 96))), (1, .inl a0)] rfl rfl (by decide) ?_
  have lp2 : ∀ (n1 : Nat) (x3 : Int32) (x4 : Int32), (-5) ≤ x3.toInt ∧ x3.toInt ≤ 60 → 0 ≤ x4.toInt ∧ x4.toInt ≤ 60 → x3.toInt ≤ x4.toInt + 0 → a0.toInt ≤ x3.toInt + 5 → (60 - x4.toInt).toNat < n1 → RUN d_X9_idleOf 4 [(3, .inl x4), (2, .inl x3), (0, .inr (.inr (.inl 96))), (1, .inl a0)] [] h (q_X9_idleOf h a0) := by
    intro n1
    induction n1 with
    | zero => intro x3 x4 m6 m7 m8 m9 hz; exact absurd hz (Nat.not_lt_zero _)
    | succ n1 ih5 =>
      intro x3 x4 m6 m7 m8 m9 hz
      refine R_iload_n (k := 3) rfl rfl rfl ?_
      refine R_aload_n (k := 0) rfl rfl rfl ?_
      have b10 : (0 : Int) ≤ (h.1 97 0).toInt ∧ (h.1 97 0).toInt ≤ 60 := hI.1 97 0
      refine R_callV (v := .inr (.inr (.inl 96))) (As := []) (rest := [.inl x4]) rfl mt_9_i129 pp_X9_last (by decide) rfl rfl rfl (Nat.le_of_ble_eq_true rfl) (Nat.le_of_ble_eq_true rfl) ((k_X9_last h hI).mono (fun r11 h12 p13 => ?_))
      obtain ⟨rfl, x14, rfl, q15⟩ := p13
      show RUN d_X9_idleOf 9 [(3, .inl x4), (2, .inl x3), (0, .inr (.inr (.inl 96))), (1, .inl a0)] [.inl x14, .inl x4] h _
      refine N_icmp_gt (a := x4.toInt) (b := x14.toInt) 36 rfl rfl rfl rfl (fun c16 => ?_) (fun c16 => ?_)
      · refine R_iload_n (k := 2) rfl rfl rfl ?_
        exact R_iret rfl rfl rfl ⟨rfl, _, rfl, by omega⟩
      · refine R_iload_n (k := 2) rfl rfl rfl ?_
        refine R_aload_n (k := 0) rfl rfl rfl ?_
        refine R_iload_n (k := 1) rfl rfl rfl ?_
        refine R_iload_n (k := 3) rfl rfl rfl ?_
        refine R_callV (v := .inr (.inr (.inl 96))) (As := [.inl a0, .inl x4]) (rest := [.inl x3]) rfl mt_9_i321 pp_X9_heldOf (by decide) rfl rfl rfl (Nat.le_of_ble_eq_true rfl) (Nat.le_of_ble_eq_true rfl) ((k_X9_heldOf h hI a0 x4 (by omega) (by omega)).mono (fun r17 h18 p19 => ?_))
        obtain ⟨rfl, x20, rfl, q21⟩ := p19
        show RUN d_X9_idleOf 19 [(3, .inl x4), (2, .inl x3), (0, .inr (.inr (.inl 96))), (1, .inl a0)] [.inl x20, .inl x3] h _
        refine R_iconst (-1) rfl rfl ?_
        refine N_icmp_ne (a := x20.toInt) (b := (-1)) 27 rfl rfl rfl (by decide) (fun c22 => ?_) (fun c22 => ?_)
        · refine R_iconst 0 rfl rfl ?_
          refine N_iadd (a := x3.toInt) (b := 0) rfl rfl (by decide) (by omega) (fun x23 q24 => ?_)
          refine R_istore_n (k := 2) rfl [(2, .inl x23), (3, .inl x4), (0, .inr (.inr (.inl 96))), (1, .inl a0)] rfl rfl (by decide) ?_
          refine N_iinc (a := x4.toInt) (c := 1) (fun w => [(3, .inl w), (2, .inl x23), (0, .inr (.inr (.inl 96))), (1, .inl a0)]) rfl rfl (fun _ => rfl) (by decide) rfl (by decide) (by omega) (fun x25 q26 => ?_)
          refine R_goto 4 rfl rfl ?_
          exact RUN_weak (psub_cons rfl (psub_cons rfl (psub_cons rfl (psub_cons rfl (psub_nil _))))) (ih5 x23 x25 (by omega) (by omega) (by omega) (by omega) (by omega))
        · refine R_iconst 1 rfl rfl ?_
          refine R_goto 28 rfl rfl ?_
          refine N_iadd (a := x3.toInt) (b := 1) rfl rfl (by decide) (by omega) (fun x27 q28 => ?_)
          refine R_istore_n (k := 2) rfl [(2, .inl x27), (3, .inl x4), (0, .inr (.inr (.inl 96))), (1, .inl a0)] rfl rfl (by decide) ?_
          refine N_iinc (a := x4.toInt) (c := 1) (fun w => [(3, .inl w), (2, .inl x27), (0, .inr (.inr (.inl 96))), (1, .inl a0)]) rfl rfl (fun _ => rfl) (by decide) rfl (by decide) (by omega) (fun x29 q30 => ?_)
          refine R_goto 4 rfl rfl ?_
          exact RUN_weak (psub_cons rfl (psub_cons rfl (psub_cons rfl (psub_cons rfl (psub_nil _))))) (ih5 x27 x29 (by omega) (by omega) (by omega) (by omega) (by omega))
  have k31 : (0 : Int32).toInt = 0 := by decide
  have k32 : (0 : Int32).toInt = 0 := by decide
  exact lp2 _ (0 : Int32) (0 : Int32) (by decide) (by decide) (by omega) (by omega) (Nat.lt_succ_self _)
abbrev q_X9_idle (h : PH) (a0 : Int32) : Option PV → PH → Prop := fun r h' => INV h' ∧ FR [96, 103, 104, 105, 106, 107, 108, 109, 110, 111, 112, 113, 114, 115, 116, 117, 118, 119] h h' ∧ (True) ∧ ∃ z : Int32, r = some (.inl z) ∧ (((-5) ≤ z.toInt ∧ z.toInt ≤ 60))
set_option maxHeartbeats 4000000 in
set_option maxRecDepth 100000 in
theorem k_X9_idle (h : PH) (hI : INV h) (a0 : Int32) : CALL d_X9_idle [.inr (.inr (.inl 96)), .inl a0] h (q_X9_idle h a0) := by
  show RUN d_X9_idle 0 [(0, .inr (.inr (.inl 96))), (1, .inl a0)] [] h _
  have b1 := i_rng a0
  have fr : FR [96, 103, 104, 105, 106, 107, 108, 109, 110, 111, 112, 113, 114, 115, 116, 117, 118, 119] h h := FR.rf _ _
  refine R_aload_n (k := 0) rfl rfl rfl ?_
  refine R_iload_n (k := 1) rfl rfl rfl ?_
  have b2 : (0 : Int) ≤ (h.1 97 0).toInt ∧ (h.1 97 0).toInt ≤ 60 := hI.1 97 0
  have e3 : 0 < (h.1 97 10).toInt → 1 ≤ (h.1 97 0).toInt := hI.2.2.2.2.2.1.2.1
  have b4 : (0 : Int) ≤ (h.1 97 5).toInt ∧ (h.1 97 5).toInt ≤ 6 := hI.1 97 5
  have e5 : 0 < (h.1 97 5).toInt → 1 ≤ (h.1 97 0).toInt := hI.2.2.2.2.2.1.2.2
  refine R_callV (v := .inr (.inr (.inl 96))) (As := [.inl a0]) (rest := []) rfl mt_9_i327 pp_X9_asksHand (by decide) rfl rfl rfl (Nat.le_of_ble_eq_true rfl) (Nat.le_of_ble_eq_true rfl) ((k_X9_asksHand h hI a0).mono (fun r6 h7 p8 => ?_))
  obtain ⟨hJ, fj, -, x9, rfl, q10 | q10 | q10 | q10⟩ := p8
  · have f11 := fj
    have fr := fr.trans fj (by decide)
    have hI := hJ
    have s12 : (h7.1 97 10).toInt = (h.1 97 10).toInt := by rw [(f11 97 (by decide)).1]
    have s13 : (h7.1 97 0).toInt = (h.1 97 0).toInt := by rw [(f11 97 (by decide)).1]
    have s14 : (h7.1 97 5).toInt = (h.1 97 5).toInt := by rw [(f11 97 (by decide)).1]
    show RUN d_X9_idle 5 [(0, .inr (.inr (.inl 96))), (1, .inl a0)] [.inl x9] h7 _
    refine N_if_eq (a := x9.toInt) 16 rfl rfl rfl (fun c15 => ?_) (fun c15 => ?_)
    · refine R_bipush (-2) rfl rfl ?_
      exact R_iret rfl rfl rfl ⟨hI, fr, trivial, _, rfl, by rw [show ((-2) : Int32).toInt = (-2) from rfl] <;> omega⟩
    · exfalso; omega
  · have f16 := fj
    have fr := fr.trans fj (by decide)
    have hI := hJ
    have s17 : (h7.1 97 10).toInt = (h.1 97 10).toInt := by rw [(f16 97 (by decide)).1]
    have s18 : (h7.1 97 0).toInt = (h.1 97 0).toInt := by rw [(f16 97 (by decide)).1]
    have s19 : (h7.1 97 5).toInt = (h.1 97 5).toInt := by rw [(f16 97 (by decide)).1]
    show RUN d_X9_idle 5 [(0, .inr (.inr (.inl 96))), (1, .inl a0)] [.inl x9] h7 _
    refine N_if_eq (a := x9.toInt) 16 rfl rfl rfl (fun c20 => ?_) (fun c20 => ?_)
    · refine R_bipush (-2) rfl rfl ?_
      exact R_iret rfl rfl rfl ⟨hI, fr, trivial, _, rfl, by rw [show ((-2) : Int32).toInt = (-2) from rfl] <;> omega⟩
    · exfalso; omega
  · have f21 := fj
    have fr := fr.trans fj (by decide)
    have hI := hJ
    have s22 : (h7.1 97 10).toInt = (h.1 97 10).toInt := by rw [(f21 97 (by decide)).1]
    have s23 : (h7.1 97 0).toInt = (h.1 97 0).toInt := by rw [(f21 97 (by decide)).1]
    have s24 : (h7.1 97 5).toInt = (h.1 97 5).toInt := by rw [(f21 97 (by decide)).1]
    show RUN d_X9_idle 5 [(0, .inr (.inr (.inl 96))), (1, .inl a0)] [.inl x9] h7 _
    refine N_if_eq (a := x9.toInt) 16 rfl rfl rfl (fun c25 => ?_) (fun c25 => ?_)
    · refine R_bipush (-2) rfl rfl ?_
      exact R_iret rfl rfl rfl ⟨hI, fr, trivial, _, rfl, by rw [show ((-2) : Int32).toInt = (-2) from rfl] <;> omega⟩
    · exfalso; omega
  · have f26 := fj
    have fr := fr.trans fj (by decide)
    have hI := hJ
    have s27 : (h7.1 97 10).toInt = (h.1 97 10).toInt := by rw [(f26 97 (by decide)).1]
    have s28 : (h7.1 97 0).toInt = (h.1 97 0).toInt := by rw [(f26 97 (by decide)).1]
    have s29 : (h7.1 97 5).toInt = (h.1 97 5).toInt := by rw [(f26 97 (by decide)).1]
    show RUN d_X9_idle 5 [(0, .inr (.inr (.inl 96))), (1, .inl a0)] [.inl x9] h7 _
    refine N_if_eq (a := x9.toInt) 16 rfl rfl rfl (fun c30 => ?_) (fun c30 => ?_)
    · exfalso; omega
    · refine R_aload_n (k := 0) rfl rfl rfl ?_
      refine R_iload_n (k := 1) rfl rfl rfl ?_
      refine R_callV (v := .inr (.inr (.inl 96))) (As := [.inl a0]) (rest := []) rfl mt_9_i333 pp_X9_idleOf (by decide) rfl rfl rfl (Nat.le_of_ble_eq_true rfl) (Nat.le_of_ble_eq_true rfl) ((k_X9_idleOf h7 hI a0 (by omega)).mono (fun r31 h32 p33 => ?_))
      obtain ⟨rfl, x34, rfl, q35⟩ := p33
      show RUN d_X9_idle 13 [(0, .inr (.inr (.inl 96))), (1, .inl a0)] [.inl x34] h7 _
      refine R_goto 18 rfl rfl ?_
      exact R_iret rfl rfl rfl ⟨hI, fr, trivial, _, rfl, by omega⟩
abbrev q_X8_river (h : PH) (a0 : Int32) : Option PV → PH → Prop := fun r h' => INV h' ∧ FR [0, 70, 71, 72, 73, 74, 75, 76, 77, 78, 79, 80, 81, 82, 83, 84, 85, 86] h h' ∧ (True) ∧ ∃ z : Int32, r = some (.inl z) ∧ ((True))
set_option maxHeartbeats 4000000 in
set_option maxRecDepth 100000 in
theorem k_X8_river (h : PH) (hI : INV h) (a0 : Int32) : CALL d_X8_river [.inr (.inr (.inl 0)), .inl a0] h (q_X8_river h a0) := by
  show RUN d_X8_river 0 [(0, .inr (.inr (.inl 0))), (1, .inl a0)] [] h _
  have b1 := i_rng a0
  have fr : FR [0, 70, 71, 72, 73, 74, 75, 76, 77, 78, 79, 80, 81, 82, 83, 84, 85, 86] h h := FR.rf _ _
  refine R_aload_n (k := 0) rfl rfl rfl ?_
  refine R_aload_n (k := 0) rfl rfl rfl ?_
  refine R_callV (v := .inr (.inr (.inl 0))) (As := []) (rest := [.inr (.inr (.inl 0))]) rfl mt_8_i153 pp_X8_told (by decide) rfl rfl rfl (Nat.le_of_ble_eq_true rfl) (Nat.le_of_ble_eq_true rfl) ((k_X8_told h hI).mono (fun r2 h3 p4 => ?_))
  obtain ⟨hJ, fj, -, rfl⟩ := p4
  have f5 := fj
  have fr := fr.trans fj (by decide)
  have hI := hJ
  show RUN d_X8_river 5 [(0, .inr (.inr (.inl 0))), (1, .inl a0)] [.inr (.inr (.inl 75)), .inr (.inr (.inl 0))] h3 _
  refine R_getf_r (j := 5) rfl ft_8_181 sh_75 rfl ?_
  refine R_iload_n (k := 1) rfl rfl rfl ?_
  refine R_callV (v := .inr (.inr (.inl 0))) (As := [.inr (.inr (.inl 81)), .inl a0]) (rest := []) rfl mt_8_i171 pp_X8_atSecond (by decide) rfl rfl rfl (Nat.le_of_ble_eq_true rfl) (Nat.le_of_ble_eq_true rfl) ((k_X8_atSecond_2 h3 hI a0).mono (fun r6 h7 p8 => ?_))
  obtain ⟨rfl, x9, rfl, q10⟩ := p8
  show RUN d_X8_river 12 [(0, .inr (.inr (.inl 0))), (1, .inl a0)] [.inl x9] h3 _
  exact R_iret rfl rfl rfl ⟨hI, fr, trivial, _, rfl, trivial⟩
abbrev q_X9_river (h : PH) (a0 : Int32) : Option PV → PH → Prop := fun r h' => INV h' ∧ FR [96, 103, 104, 105, 106, 107, 108, 109, 110, 111, 112, 113, 114, 115, 116, 117, 118, 119] h h' ∧ (True) ∧ ∃ z : Int32, r = some (.inl z) ∧ ((True))
set_option maxHeartbeats 4000000 in
set_option maxRecDepth 100000 in
theorem k_X9_river (h : PH) (hI : INV h) (a0 : Int32) : CALL d_X9_river [.inr (.inr (.inl 96)), .inl a0] h (q_X9_river h a0) := by
  show RUN d_X9_river 0 [(0, .inr (.inr (.inl 96))), (1, .inl a0)] [] h _
  have b1 := i_rng a0
  have fr : FR [96, 103, 104, 105, 106, 107, 108, 109, 110, 111, 112, 113, 114, 115, 116, 117, 118, 119] h h := FR.rf _ _
  refine R_aload_n (k := 0) rfl rfl rfl ?_
  refine R_iload_n (k := 1) rfl rfl rfl ?_
  have b2 : (0 : Int) ≤ (h.1 97 0).toInt ∧ (h.1 97 0).toInt ≤ 60 := hI.1 97 0
  have e3 : 0 < (h.1 97 10).toInt → 1 ≤ (h.1 97 0).toInt := hI.2.2.2.2.2.1.2.1
  refine R_callV (v := .inr (.inr (.inl 96))) (As := [.inl a0]) (rest := []) rfl mt_9_i318 pp_X9_asksSecond (by decide) rfl rfl rfl (Nat.le_of_ble_eq_true rfl) (Nat.le_of_ble_eq_true rfl) ((k_X9_asksSecond h hI a0).mono (fun r4 h5 p6 => ?_))
  obtain ⟨hJ, fj, -, x7, rfl, q8 | q8 | q8 | q8⟩ := p6
  · have f9 := fj
    have fr := fr.trans fj (by decide)
    have hI := hJ
    have s10 : (h5.1 97 10).toInt = (h.1 97 10).toInt := by rw [(f9 97 (by decide)).1]
    have s11 : (h5.1 97 0).toInt = (h.1 97 0).toInt := by rw [(f9 97 (by decide)).1]
    show RUN d_X9_river 5 [(0, .inr (.inr (.inl 96))), (1, .inl a0)] [.inl x7] h5 _
    refine N_if_eq (a := x7.toInt) 17 rfl rfl rfl (fun c12 => ?_) (fun c12 => ?_)
    · refine R_bipush (-2) rfl rfl ?_
      exact R_iret rfl rfl rfl ⟨hI, fr, trivial, _, rfl, trivial⟩
    · exfalso; omega
  · have f13 := fj
    have fr := fr.trans fj (by decide)
    have hI := hJ
    have s14 : (h5.1 97 10).toInt = (h.1 97 10).toInt := by rw [(f13 97 (by decide)).1]
    have s15 : (h5.1 97 0).toInt = (h.1 97 0).toInt := by rw [(f13 97 (by decide)).1]
    show RUN d_X9_river 5 [(0, .inr (.inr (.inl 96))), (1, .inl a0)] [.inl x7] h5 _
    refine N_if_eq (a := x7.toInt) 17 rfl rfl rfl (fun c16 => ?_) (fun c16 => ?_)
    · refine R_bipush (-2) rfl rfl ?_
      exact R_iret rfl rfl rfl ⟨hI, fr, trivial, _, rfl, trivial⟩
    · exfalso; omega
  · have f17 := fj
    have fr := fr.trans fj (by decide)
    have hI := hJ
    have s18 : (h5.1 97 10).toInt = (h.1 97 10).toInt := by rw [(f17 97 (by decide)).1]
    have s19 : (h5.1 97 0).toInt = (h.1 97 0).toInt := by rw [(f17 97 (by decide)).1]
    show RUN d_X9_river 5 [(0, .inr (.inr (.inl 96))), (1, .inl a0)] [.inl x7] h5 _
    refine N_if_eq (a := x7.toInt) 17 rfl rfl rfl (fun c20 => ?_) (fun c20 => ?_)
    · refine R_bipush (-2) rfl rfl ?_
      exact R_iret rfl rfl rfl ⟨hI, fr, trivial, _, rfl, trivial⟩
    · exfalso; omega
  · have f21 := fj
    have fr := fr.trans fj (by decide)
    have hI := hJ
    have s22 : (h5.1 97 10).toInt = (h.1 97 10).toInt := by rw [(f21 97 (by decide)).1]
    have s23 : (h5.1 97 0).toInt = (h.1 97 0).toInt := by rw [(f21 97 (by decide)).1]
    show RUN d_X9_river 5 [(0, .inr (.inr (.inl 96))), (1, .inl a0)] [.inl x7] h5 _
    refine N_if_eq (a := x7.toInt) 17 rfl rfl rfl (fun c24 => ?_) (fun c24 => ?_)
    · exfalso; omega
    · refine R_aload_n (k := 0) rfl rfl rfl ?_
      refine R_getf_r (j := 27) rfl ft_9_61 sh_96 rfl ?_
      refine R_iload_n (k := 1) rfl rfl rfl ?_
      refine R_iald rfl sh_112 ⟨by omega, by omega⟩ ?_
      refine N_any (fun x25 => ?_)
      refine R_goto 19 rfl rfl ?_
      exact R_iret rfl rfl rfl ⟨hI, fr, trivial, _, rfl, trivial⟩
abbrev q_X8_thrown (h : PH) (a0 : Int32) : Option PV → PH → Prop := fun r h' => INV h' ∧ FR [0, 70, 71, 72, 73, 74, 75, 76, 77, 78, 79, 80, 81, 82, 83, 84, 85, 86] h h' ∧ (True) ∧ ∃ z : Int32, r = some (.inl z) ∧ ((True))
set_option maxHeartbeats 4000000 in
set_option maxRecDepth 100000 in
theorem k_X8_thrown (h : PH) (hI : INV h) (a0 : Int32) : CALL d_X8_thrown [.inr (.inr (.inl 0)), .inl a0] h (q_X8_thrown h a0) := by
  show RUN d_X8_thrown 0 [(0, .inr (.inr (.inl 0))), (1, .inl a0)] [] h _
  have b1 := i_rng a0
  have fr : FR [0, 70, 71, 72, 73, 74, 75, 76, 77, 78, 79, 80, 81, 82, 83, 84, 85, 86] h h := FR.rf _ _
  refine R_aload_n (k := 0) rfl rfl rfl ?_
  refine R_aload_n (k := 0) rfl rfl rfl ?_
  refine R_callV (v := .inr (.inr (.inl 0))) (As := []) (rest := [.inr (.inr (.inl 0))]) rfl mt_8_i153 pp_X8_told (by decide) rfl rfl rfl (Nat.le_of_ble_eq_true rfl) (Nat.le_of_ble_eq_true rfl) ((k_X8_told h hI).mono (fun r2 h3 p4 => ?_))
  obtain ⟨hJ, fj, -, rfl⟩ := p4
  have f5 := fj
  have fr := fr.trans fj (by decide)
  have hI := hJ
  show RUN d_X8_thrown 5 [(0, .inr (.inr (.inl 0))), (1, .inl a0)] [.inr (.inr (.inl 75)), .inr (.inr (.inl 0))] h3 _
  refine R_getf_r (j := 7) rfl ft_8_187 sh_75 rfl ?_
  refine R_iload_n (k := 1) rfl rfl rfl ?_
  refine R_callV (v := .inr (.inr (.inl 0))) (As := [.inr (.inr (.inl 83)), .inl a0]) (rest := []) rfl mt_8_i171 pp_X8_atSecond (by decide) rfl rfl rfl (Nat.le_of_ble_eq_true rfl) (Nat.le_of_ble_eq_true rfl) ((k_X8_atSecond_3 h3 hI a0).mono (fun r6 h7 p8 => ?_))
  obtain ⟨rfl, x9, rfl, q10⟩ := p8
  show RUN d_X8_thrown 12 [(0, .inr (.inr (.inl 0))), (1, .inl a0)] [.inl x9] h3 _
  exact R_iret rfl rfl rfl ⟨hI, fr, trivial, _, rfl, trivial⟩
abbrev q_X9_thrown (h : PH) (a0 : Int32) : Option PV → PH → Prop := fun r h' => INV h' ∧ FR [96, 103, 104, 105, 106, 107, 108, 109, 110, 111, 112, 113, 114, 115, 116, 117, 118, 119] h h' ∧ (True) ∧ ∃ z : Int32, r = some (.inl z) ∧ ((True))
set_option maxHeartbeats 4000000 in
set_option maxRecDepth 100000 in
theorem k_X9_thrown (h : PH) (hI : INV h) (a0 : Int32) : CALL d_X9_thrown [.inr (.inr (.inl 96)), .inl a0] h (q_X9_thrown h a0) := by
  show RUN d_X9_thrown 0 [(0, .inr (.inr (.inl 96))), (1, .inl a0)] [] h _
  have b1 := i_rng a0
  have fr : FR [96, 103, 104, 105, 106, 107, 108, 109, 110, 111, 112, 113, 114, 115, 116, 117, 118, 119] h h := FR.rf _ _
  refine R_aload_n (k := 0) rfl rfl rfl ?_
  refine R_iload_n (k := 1) rfl rfl rfl ?_
  have b2 : (0 : Int) ≤ (h.1 97 0).toInt ∧ (h.1 97 0).toInt ≤ 60 := hI.1 97 0
  have e3 : 0 < (h.1 97 10).toInt → 1 ≤ (h.1 97 0).toInt := hI.2.2.2.2.2.1.2.1
  refine R_callV (v := .inr (.inr (.inl 96))) (As := [.inl a0]) (rest := []) rfl mt_9_i318 pp_X9_asksSecond (by decide) rfl rfl rfl (Nat.le_of_ble_eq_true rfl) (Nat.le_of_ble_eq_true rfl) ((k_X9_asksSecond h hI a0).mono (fun r4 h5 p6 => ?_))
  obtain ⟨hJ, fj, -, x7, rfl, q8 | q8 | q8 | q8⟩ := p6
  · have f9 := fj
    have fr := fr.trans fj (by decide)
    have hI := hJ
    have s10 : (h5.1 97 10).toInt = (h.1 97 10).toInt := by rw [(f9 97 (by decide)).1]
    have s11 : (h5.1 97 0).toInt = (h.1 97 0).toInt := by rw [(f9 97 (by decide)).1]
    show RUN d_X9_thrown 5 [(0, .inr (.inr (.inl 96))), (1, .inl a0)] [.inl x7] h5 _
    refine N_if_eq (a := x7.toInt) 17 rfl rfl rfl (fun c12 => ?_) (fun c12 => ?_)
    · refine R_bipush (-2) rfl rfl ?_
      exact R_iret rfl rfl rfl ⟨hI, fr, trivial, _, rfl, trivial⟩
    · exfalso; omega
  · have f13 := fj
    have fr := fr.trans fj (by decide)
    have hI := hJ
    have s14 : (h5.1 97 10).toInt = (h.1 97 10).toInt := by rw [(f13 97 (by decide)).1]
    have s15 : (h5.1 97 0).toInt = (h.1 97 0).toInt := by rw [(f13 97 (by decide)).1]
    show RUN d_X9_thrown 5 [(0, .inr (.inr (.inl 96))), (1, .inl a0)] [.inl x7] h5 _
    refine N_if_eq (a := x7.toInt) 17 rfl rfl rfl (fun c16 => ?_) (fun c16 => ?_)
    · refine R_bipush (-2) rfl rfl ?_
      exact R_iret rfl rfl rfl ⟨hI, fr, trivial, _, rfl, trivial⟩
    · exfalso; omega
  · have f17 := fj
    have fr := fr.trans fj (by decide)
    have hI := hJ
    have s18 : (h5.1 97 10).toInt = (h.1 97 10).toInt := by rw [(f17 97 (by decide)).1]
    have s19 : (h5.1 97 0).toInt = (h.1 97 0).toInt := by rw [(f17 97 (by decide)).1]
    show RUN d_X9_thrown 5 [(0, .inr (.inr (.inl 96))), (1, .inl a0)] [.inl x7] h5 _
    refine N_if_eq (a := x7.toInt) 17 rfl rfl rfl (fun c20 => ?_) (fun c20 => ?_)
    · refine R_bipush (-2) rfl rfl ?_
      exact R_iret rfl rfl rfl ⟨hI, fr, trivial, _, rfl, trivial⟩
    · exfalso; omega
  · have f21 := fj
    have fr := fr.trans fj (by decide)
    have hI := hJ
    have s22 : (h5.1 97 10).toInt = (h.1 97 10).toInt := by rw [(f21 97 (by decide)).1]
    have s23 : (h5.1 97 0).toInt = (h.1 97 0).toInt := by rw [(f21 97 (by decide)).1]
    show RUN d_X9_thrown 5 [(0, .inr (.inr (.inl 96))), (1, .inl a0)] [.inl x7] h5 _
    refine N_if_eq (a := x7.toInt) 17 rfl rfl rfl (fun c24 => ?_) (fun c24 => ?_)
    · exfalso; omega
    · refine R_aload_n (k := 0) rfl rfl rfl ?_
      refine R_getf_r (j := 28) rfl ft_9_64 sh_96 rfl ?_
      refine R_iload_n (k := 1) rfl rfl rfl ?_
      refine R_iald rfl sh_113 ⟨by omega, by omega⟩ ?_
      refine N_any (fun x25 => ?_)
      refine R_goto 19 rfl rfl ?_
      exact R_iret rfl rfl rfl ⟨hI, fr, trivial, _, rfl, trivial⟩
abbrev q_X6_waterTo (h : PH) (a0 : Int32) : Option PV → PH → Prop := fun r h' => h = h' ∧ ∃ z : Int32, r = some (.inl z) ∧ ((True))
set_option maxHeartbeats 4000000 in
set_option maxRecDepth 100000 in
theorem k_X6_waterTo (h : PH) (hI : INV h) (a0 : Int32) (h0a : 0 ≤ a0.toInt ∧ a0.toInt ≤ 59) : CALL d_X6_waterTo [.inr (.inr (.inl 75)), .inl a0] h (q_X6_waterTo h a0) := by
  show RUN d_X6_waterTo 0 [(0, .inr (.inr (.inl 75))), (1, .inl a0)] [] h _
  refine R_aload_n (k := 0) rfl rfl rfl ?_
  refine R_getf_r (j := 7) rfl ft_6_33 sh_75 rfl ?_
  refine R_iload_n (k := 1) rfl rfl rfl ?_
  refine R_iald rfl sh_83 ⟨by omega, by omega⟩ ?_
  refine N_any (fun x1 => ?_)
  refine R_aload_n (k := 0) rfl rfl rfl ?_
  refine R_getf_i (j := 12) rfl ft_6_49 sh_75 rfl ?_
  have b2 := i_rng x1
  have b3 := i_rng (h.1 75 12)
  refine R_imul rfl ?_
  refine N_any (fun x4 => ?_)
  exact R_iret rfl rfl rfl ⟨rfl, _, rfl, trivial⟩
abbrev q_X8_water (h : PH) (a0 : Int32) : Option PV → PH → Prop := fun r h' => INV h' ∧ FR [0, 70, 71, 72, 73, 74, 75, 76, 77, 78, 79, 80, 81, 82, 83, 84, 85, 86] h h' ∧ (True) ∧ ∃ z : Int32, r = some (.inl z) ∧ ((True))
set_option maxHeartbeats 4000000 in
set_option maxRecDepth 100000 in
theorem k_X8_water (h : PH) (hI : INV h) (a0 : Int32) : CALL d_X8_water [.inr (.inr (.inl 0)), .inl a0] h (q_X8_water h a0) := by
  show RUN d_X8_water 0 [(0, .inr (.inr (.inl 0))), (1, .inl a0)] [] h _
  have b1 := i_rng a0
  have fr : FR [0, 70, 71, 72, 73, 74, 75, 76, 77, 78, 79, 80, 81, 82, 83, 84, 85, 86] h h := FR.rf _ _
  refine R_aload_n (k := 0) rfl rfl rfl ?_
  refine R_getf_r (j := 3) rfl ft_8_28 sh_0 rfl ?_
  refine R_iload_n (k := 1) rfl rfl rfl ?_
  have b2 : (0 : Int) ≤ (h.1 17 0).toInt ∧ (h.1 17 0).toInt ≤ 60 := hI.1 17 0
  refine R_callV (v := .inr (.inr (.inl 16))) (As := [.inl a0]) (rest := []) rfl mt_8_i150 pp_X1_hasSecond (by decide) rfl rfl rfl (Nat.le_of_ble_eq_true rfl) (Nat.le_of_ble_eq_true rfl) ((k_X1_hasSecond h hI a0).mono (fun r3 h4 p5 => ?_))
  obtain ⟨rfl, x6, rfl, q7 | q7 | q7⟩ := p5
  · show RUN d_X8_water 8 [(0, .inr (.inr (.inl 0))), (1, .inl a0)] [.inl x6] h _
    refine N_if_eq (a := x6.toInt) 22 rfl rfl rfl (fun c8 => ?_) (fun c8 => ?_)
    · refine R_bipush (-2) rfl rfl ?_
      exact R_iret rfl rfl rfl ⟨hI, fr, trivial, _, rfl, trivial⟩
    · exfalso; omega
  · show RUN d_X8_water 8 [(0, .inr (.inr (.inl 0))), (1, .inl a0)] [.inl x6] h _
    refine N_if_eq (a := x6.toInt) 22 rfl rfl rfl (fun c9 => ?_) (fun c9 => ?_)
    · refine R_bipush (-2) rfl rfl ?_
      exact R_iret rfl rfl rfl ⟨hI, fr, trivial, _, rfl, trivial⟩
    · exfalso; omega
  · show RUN d_X8_water 8 [(0, .inr (.inr (.inl 0))), (1, .inl a0)] [.inl x6] h _
    refine N_if_eq (a := x6.toInt) 22 rfl rfl rfl (fun c10 => ?_) (fun c10 => ?_)
    · exfalso; omega
    · refine R_aload_n (k := 0) rfl rfl rfl ?_
      refine R_callV (v := .inr (.inr (.inl 0))) (As := []) (rest := []) rfl mt_8_i153 pp_X8_told (by decide) rfl rfl rfl (Nat.le_of_ble_eq_true rfl) (Nat.le_of_ble_eq_true rfl) ((k_X8_told h hI).mono (fun r11 h12 p13 => ?_))
      obtain ⟨hJ, fj, -, rfl⟩ := p13
      have f14 := fj
      have fr := fr.trans fj (by decide)
      have hI := hJ
      have s15 : (h12.1 17 0).toInt = (h.1 17 0).toInt := by rw [(f14 17 (by decide)).1]
      show RUN d_X8_water 15 [(0, .inr (.inr (.inl 0))), (1, .inl a0)] [.inr (.inr (.inl 75))] h12 _
      refine R_iload_n (k := 1) rfl rfl rfl ?_
      refine R_callV (v := .inr (.inr (.inl 75))) (As := [.inl a0]) (rest := []) rfl mt_8_i196 pp_X6_waterTo (by decide) rfl rfl rfl (Nat.le_of_ble_eq_true rfl) (Nat.le_of_ble_eq_true rfl) ((k_X6_waterTo h12 hI a0 (by omega)).mono (fun r16 h17 p18 => ?_))
      obtain ⟨rfl, x19, rfl, q20⟩ := p18
      show RUN d_X8_water 19 [(0, .inr (.inr (.inl 0))), (1, .inl a0)] [.inl x19] h12 _
      refine R_goto 24 rfl rfl ?_
      exact R_iret rfl rfl rfl ⟨hI, fr, trivial, _, rfl, trivial⟩
abbrev q_X9_water (h : PH) (a0 : Int32) : Option PV → PH → Prop := fun r h' => INV h' ∧ FR [96, 103, 104, 105, 106, 107, 108, 109, 110, 111, 112, 113, 114, 115, 116, 117, 118, 119] h h' ∧ (True) ∧ ∃ z : Int32, r = some (.inl z) ∧ ((True))
set_option maxHeartbeats 4000000 in
set_option maxRecDepth 100000 in
theorem k_X9_water (h : PH) (hI : INV h) (a0 : Int32) : CALL d_X9_water [.inr (.inr (.inl 96)), .inl a0] h (q_X9_water h a0) := by
  show RUN d_X9_water 0 [(0, .inr (.inr (.inl 96))), (1, .inl a0)] [] h _
  have b1 := i_rng a0
  have fr : FR [96, 103, 104, 105, 106, 107, 108, 109, 110, 111, 112, 113, 114, 115, 116, 117, 118, 119] h h := FR.rf _ _
  refine R_aload_n (k := 0) rfl rfl rfl ?_
  refine R_iload_n (k := 1) rfl rfl rfl ?_
  have b2 : (0 : Int) ≤ (h.1 97 0).toInt ∧ (h.1 97 0).toInt ≤ 60 := hI.1 97 0
  have e3 : 0 < (h.1 97 10).toInt → 1 ≤ (h.1 97 0).toInt := hI.2.2.2.2.2.1.2.1
  refine R_callV (v := .inr (.inr (.inl 96))) (As := [.inl a0]) (rest := []) rfl mt_9_i318 pp_X9_asksSecond (by decide) rfl rfl rfl (Nat.le_of_ble_eq_true rfl) (Nat.le_of_ble_eq_true rfl) ((k_X9_asksSecond h hI a0).mono (fun r4 h5 p6 => ?_))
  obtain ⟨hJ, fj, -, x7, rfl, q8 | q8 | q8 | q8⟩ := p6
  · have f9 := fj
    have fr := fr.trans fj (by decide)
    have hI := hJ
    have s10 : (h5.1 97 10).toInt = (h.1 97 10).toInt := by rw [(f9 97 (by decide)).1]
    have s11 : (h5.1 97 0).toInt = (h.1 97 0).toInt := by rw [(f9 97 (by decide)).1]
    show RUN d_X9_water 5 [(0, .inr (.inr (.inl 96))), (1, .inl a0)] [.inl x7] h5 _
    refine N_if_eq (a := x7.toInt) 17 rfl rfl rfl (fun c12 => ?_) (fun c12 => ?_)
    · refine R_bipush (-2) rfl rfl ?_
      exact R_iret rfl rfl rfl ⟨hI, fr, trivial, _, rfl, trivial⟩
    · exfalso; omega
  · have f13 := fj
    have fr := fr.trans fj (by decide)
    have hI := hJ
    have s14 : (h5.1 97 10).toInt = (h.1 97 10).toInt := by rw [(f13 97 (by decide)).1]
    have s15 : (h5.1 97 0).toInt = (h.1 97 0).toInt := by rw [(f13 97 (by decide)).1]
    show RUN d_X9_water 5 [(0, .inr (.inr (.inl 96))), (1, .inl a0)] [.inl x7] h5 _
    refine N_if_eq (a := x7.toInt) 17 rfl rfl rfl (fun c16 => ?_) (fun c16 => ?_)
    · refine R_bipush (-2) rfl rfl ?_
      exact R_iret rfl rfl rfl ⟨hI, fr, trivial, _, rfl, trivial⟩
    · exfalso; omega
  · have f17 := fj
    have fr := fr.trans fj (by decide)
    have hI := hJ
    have s18 : (h5.1 97 10).toInt = (h.1 97 10).toInt := by rw [(f17 97 (by decide)).1]
    have s19 : (h5.1 97 0).toInt = (h.1 97 0).toInt := by rw [(f17 97 (by decide)).1]
    show RUN d_X9_water 5 [(0, .inr (.inr (.inl 96))), (1, .inl a0)] [.inl x7] h5 _
    refine N_if_eq (a := x7.toInt) 17 rfl rfl rfl (fun c20 => ?_) (fun c20 => ?_)
    · refine R_bipush (-2) rfl rfl ?_
      exact R_iret rfl rfl rfl ⟨hI, fr, trivial, _, rfl, trivial⟩
    · exfalso; omega
  · have f21 := fj
    have fr := fr.trans fj (by decide)
    have hI := hJ
    have s22 : (h5.1 97 10).toInt = (h.1 97 10).toInt := by rw [(f21 97 (by decide)).1]
    have s23 : (h5.1 97 0).toInt = (h.1 97 0).toInt := by rw [(f21 97 (by decide)).1]
    show RUN d_X9_water 5 [(0, .inr (.inr (.inl 96))), (1, .inl a0)] [.inl x7] h5 _
    refine N_if_eq (a := x7.toInt) 17 rfl rfl rfl (fun c24 => ?_) (fun c24 => ?_)
    · exfalso; omega
    · refine R_aload_n (k := 0) rfl rfl rfl ?_
      refine R_getf_r (j := 29) rfl ft_9_67 sh_96 rfl ?_
      refine R_iload_n (k := 1) rfl rfl rfl ?_
      refine R_iald rfl sh_114 ⟨by omega, by omega⟩ ?_
      refine N_any (fun x25 => ?_)
      refine R_goto 19 rfl rfl ?_
      exact R_iret rfl rfl rfl ⟨hI, fr, trivial, _, rfl, trivial⟩
abbrev q_X8_spilt (h : PH) (a0 : Int32) : Option PV → PH → Prop := fun r h' => INV h' ∧ FR [0, 70, 71, 72, 73, 74, 75, 76, 77, 78, 79, 80, 81, 82, 83, 84, 85, 86] h h' ∧ (True) ∧ ∃ z : Int32, r = some (.inl z) ∧ ((True))
set_option maxHeartbeats 4000000 in
set_option maxRecDepth 100000 in
theorem k_X8_spilt (h : PH) (hI : INV h) (a0 : Int32) : CALL d_X8_spilt [.inr (.inr (.inl 0)), .inl a0] h (q_X8_spilt h a0) := by
  show RUN d_X8_spilt 0 [(0, .inr (.inr (.inl 0))), (1, .inl a0)] [] h _
  have b1 := i_rng a0
  have fr : FR [0, 70, 71, 72, 73, 74, 75, 76, 77, 78, 79, 80, 81, 82, 83, 84, 85, 86] h h := FR.rf _ _
  refine R_aload_n (k := 0) rfl rfl rfl ?_
  refine R_aload_n (k := 0) rfl rfl rfl ?_
  refine R_callV (v := .inr (.inr (.inl 0))) (As := []) (rest := [.inr (.inr (.inl 0))]) rfl mt_8_i153 pp_X8_told (by decide) rfl rfl rfl (Nat.le_of_ble_eq_true rfl) (Nat.le_of_ble_eq_true rfl) ((k_X8_told h hI).mono (fun r2 h3 p4 => ?_))
  obtain ⟨hJ, fj, -, rfl⟩ := p4
  have f5 := fj
  have fr := fr.trans fj (by decide)
  have hI := hJ
  show RUN d_X8_spilt 5 [(0, .inr (.inr (.inl 0))), (1, .inl a0)] [.inr (.inr (.inl 75)), .inr (.inr (.inl 0))] h3 _
  refine R_getf_r (j := 8) rfl ft_8_190 sh_75 rfl ?_
  refine R_iload_n (k := 1) rfl rfl rfl ?_
  refine R_callV (v := .inr (.inr (.inl 0))) (As := [.inr (.inr (.inl 84)), .inl a0]) (rest := []) rfl mt_8_i171 pp_X8_atSecond (by decide) rfl rfl rfl (Nat.le_of_ble_eq_true rfl) (Nat.le_of_ble_eq_true rfl) ((k_X8_atSecond_4 h3 hI a0).mono (fun r6 h7 p8 => ?_))
  obtain ⟨rfl, x9, rfl, q10⟩ := p8
  show RUN d_X8_spilt 12 [(0, .inr (.inr (.inl 0))), (1, .inl a0)] [.inl x9] h3 _
  exact R_iret rfl rfl rfl ⟨hI, fr, trivial, _, rfl, trivial⟩
abbrev q_X9_spilt (h : PH) (a0 : Int32) : Option PV → PH → Prop := fun r h' => INV h' ∧ FR [96, 103, 104, 105, 106, 107, 108, 109, 110, 111, 112, 113, 114, 115, 116, 117, 118, 119] h h' ∧ (True) ∧ ∃ z : Int32, r = some (.inl z) ∧ ((True))
set_option maxHeartbeats 4000000 in
set_option maxRecDepth 100000 in
theorem k_X9_spilt (h : PH) (hI : INV h) (a0 : Int32) : CALL d_X9_spilt [.inr (.inr (.inl 96)), .inl a0] h (q_X9_spilt h a0) := by
  show RUN d_X9_spilt 0 [(0, .inr (.inr (.inl 96))), (1, .inl a0)] [] h _
  have b1 := i_rng a0
  have fr : FR [96, 103, 104, 105, 106, 107, 108, 109, 110, 111, 112, 113, 114, 115, 116, 117, 118, 119] h h := FR.rf _ _
  refine R_aload_n (k := 0) rfl rfl rfl ?_
  refine R_iload_n (k := 1) rfl rfl rfl ?_
  have b2 : (0 : Int) ≤ (h.1 97 0).toInt ∧ (h.1 97 0).toInt ≤ 60 := hI.1 97 0
  have e3 : 0 < (h.1 97 10).toInt → 1 ≤ (h.1 97 0).toInt := hI.2.2.2.2.2.1.2.1
  refine R_callV (v := .inr (.inr (.inl 96))) (As := [.inl a0]) (rest := []) rfl mt_9_i318 pp_X9_asksSecond (by decide) rfl rfl rfl (Nat.le_of_ble_eq_true rfl) (Nat.le_of_ble_eq_true rfl) ((k_X9_asksSecond h hI a0).mono (fun r4 h5 p6 => ?_))
  obtain ⟨hJ, fj, -, x7, rfl, q8 | q8 | q8 | q8⟩ := p6
  · have f9 := fj
    have fr := fr.trans fj (by decide)
    have hI := hJ
    have s10 : (h5.1 97 10).toInt = (h.1 97 10).toInt := by rw [(f9 97 (by decide)).1]
    have s11 : (h5.1 97 0).toInt = (h.1 97 0).toInt := by rw [(f9 97 (by decide)).1]
    show RUN d_X9_spilt 5 [(0, .inr (.inr (.inl 96))), (1, .inl a0)] [.inl x7] h5 _
    refine N_if_eq (a := x7.toInt) 17 rfl rfl rfl (fun c12 => ?_) (fun c12 => ?_)
    · refine R_bipush (-2) rfl rfl ?_
      exact R_iret rfl rfl rfl ⟨hI, fr, trivial, _, rfl, trivial⟩
    · exfalso; omega
  · have f13 := fj
    have fr := fr.trans fj (by decide)
    have hI := hJ
    have s14 : (h5.1 97 10).toInt = (h.1 97 10).toInt := by rw [(f13 97 (by decide)).1]
    have s15 : (h5.1 97 0).toInt = (h.1 97 0).toInt := by rw [(f13 97 (by decide)).1]
    show RUN d_X9_spilt 5 [(0, .inr (.inr (.inl 96))), (1, .inl a0)] [.inl x7] h5 _
    refine N_if_eq (a := x7.toInt) 17 rfl rfl rfl (fun c16 => ?_) (fun c16 => ?_)
    · refine R_bipush (-2) rfl rfl ?_
      exact R_iret rfl rfl rfl ⟨hI, fr, trivial, _, rfl, trivial⟩
    · exfalso; omega
  · have f17 := fj
    have fr := fr.trans fj (by decide)
    have hI := hJ
    have s18 : (h5.1 97 10).toInt = (h.1 97 10).toInt := by rw [(f17 97 (by decide)).1]
    have s19 : (h5.1 97 0).toInt = (h.1 97 0).toInt := by rw [(f17 97 (by decide)).1]
    show RUN d_X9_spilt 5 [(0, .inr (.inr (.inl 96))), (1, .inl a0)] [.inl x7] h5 _
    refine N_if_eq (a := x7.toInt) 17 rfl rfl rfl (fun c20 => ?_) (fun c20 => ?_)
    · refine R_bipush (-2) rfl rfl ?_
      exact R_iret rfl rfl rfl ⟨hI, fr, trivial, _, rfl, trivial⟩
    · exfalso; omega
  · have f21 := fj
    have fr := fr.trans fj (by decide)
    have hI := hJ
    have s22 : (h5.1 97 10).toInt = (h.1 97 10).toInt := by rw [(f21 97 (by decide)).1]
    have s23 : (h5.1 97 0).toInt = (h.1 97 0).toInt := by rw [(f21 97 (by decide)).1]
    show RUN d_X9_spilt 5 [(0, .inr (.inr (.inl 96))), (1, .inl a0)] [.inl x7] h5 _
    refine N_if_eq (a := x7.toInt) 17 rfl rfl rfl (fun c24 => ?_) (fun c24 => ?_)
    · exfalso; omega
    · refine R_aload_n (k := 0) rfl rfl rfl ?_
      refine R_getf_r (j := 30) rfl ft_9_70 sh_96 rfl ?_
      refine R_iload_n (k := 1) rfl rfl rfl ?_
      refine R_iald rfl sh_115 ⟨by omega, by omega⟩ ?_
      refine N_any (fun x25 => ?_)
      refine R_goto 19 rfl rfl ?_
      exact R_iret rfl rfl rfl ⟨hI, fr, trivial, _, rfl, trivial⟩
abbrev q_X8_fire (h : PH) (a0 : Int32) : Option PV → PH → Prop := fun r h' => INV h' ∧ FR [0, 70, 71, 72, 73, 74, 75, 76, 77, 78, 79, 80, 81, 82, 83, 84, 85, 86] h h' ∧ (True) ∧ ∃ z : Int32, r = some (.inl z) ∧ ((True))
set_option maxHeartbeats 4000000 in
set_option maxRecDepth 100000 in
theorem k_X8_fire (h : PH) (hI : INV h) (a0 : Int32) : CALL d_X8_fire [.inr (.inr (.inl 0)), .inl a0] h (q_X8_fire h a0) := by
  show RUN d_X8_fire 0 [(0, .inr (.inr (.inl 0))), (1, .inl a0)] [] h _
  have b1 := i_rng a0
  have fr : FR [0, 70, 71, 72, 73, 74, 75, 76, 77, 78, 79, 80, 81, 82, 83, 84, 85, 86] h h := FR.rf _ _
  refine R_aload_n (k := 0) rfl rfl rfl ?_
  refine R_aload_n (k := 0) rfl rfl rfl ?_
  refine R_callV (v := .inr (.inr (.inl 0))) (As := []) (rest := [.inr (.inr (.inl 0))]) rfl mt_8_i153 pp_X8_told (by decide) rfl rfl rfl (Nat.le_of_ble_eq_true rfl) (Nat.le_of_ble_eq_true rfl) ((k_X8_told h hI).mono (fun r2 h3 p4 => ?_))
  obtain ⟨hJ, fj, -, rfl⟩ := p4
  have f5 := fj
  have fr := fr.trans fj (by decide)
  have hI := hJ
  show RUN d_X8_fire 5 [(0, .inr (.inr (.inl 0))), (1, .inl a0)] [.inr (.inr (.inl 75)), .inr (.inr (.inl 0))] h3 _
  refine R_getf_r (j := 9) rfl ft_8_193 sh_75 rfl ?_
  refine R_iload_n (k := 1) rfl rfl rfl ?_
  refine R_callV (v := .inr (.inr (.inl 0))) (As := [.inr (.inr (.inl 85)), .inl a0]) (rest := []) rfl mt_8_i171 pp_X8_atSecond (by decide) rfl rfl rfl (Nat.le_of_ble_eq_true rfl) (Nat.le_of_ble_eq_true rfl) ((k_X8_atSecond_5 h3 hI a0).mono (fun r6 h7 p8 => ?_))
  obtain ⟨rfl, x9, rfl, q10⟩ := p8
  show RUN d_X8_fire 12 [(0, .inr (.inr (.inl 0))), (1, .inl a0)] [.inl x9] h3 _
  exact R_iret rfl rfl rfl ⟨hI, fr, trivial, _, rfl, trivial⟩
abbrev q_X9_goFire (h : PH) (a0 : Int32) : Option PV → PH → Prop := fun r h' => INV h' ∧ FR [120] h h' ∧ (True) ∧ ∃ z : Int32, r = some (.inl z) ∧ (((-1) ≤ z.toInt ∧ z.toInt ≤ 59))
set_option maxHeartbeats 4000000 in
set_option maxRecDepth 100000 in
theorem k_X9_goFire (h : PH) (hI : INV h) (a0 : Int32) : CALL d_X9_goFire [.inr (.inr (.inl 96)), .inl a0] h (q_X9_goFire h a0) := by
  show RUN d_X9_goFire 0 [(0, .inr (.inr (.inl 96))), (1, .inl a0)] [] h _
  have b1 := i_rng a0
  have fr : FR [120] h h := FR.rf _ _
  refine R_iconst (-1) rfl rfl ?_
  refine R_istore_n (k := 2) rfl [(2, .inl (-1)), (0, .inr (.inr (.inl 96))), (1, .inl a0)] rfl rfl (by decide) ?_
  refine R_iload_n (k := 1) rfl rfl rfl ?_
  refine R_istore_n (k := 3) rfl [(3, .inl a0), (2, .inl (-1)), (0, .inr (.inr (.inl 96))), (1, .inl a0)] rfl rfl (by decide) ?_
  refine R_iconst 0 rfl rfl ?_
  refine R_istore (k := 4) [(4, .inl 0), (3, .inl a0), (2, .inl (-1)), (0, .inr (.inr (.inl 96))), (1, .inl a0)] rfl rfl (by decide) ?_
  have lp3 : ∀ (n2 : Nat) (h4 : PH) (x6 : Int32) (x7 : Int32) (x8 : Int32), INV h4 → FR [120] h h4 → FR [120] h h4 → (-1) ≤ x7.toInt ∧ x7.toInt ≤ 59 → 0 ≤ x8.toInt ∧ x8.toInt ≤ 60 → x7.toInt ≤ x8.toInt + (-1) → (60 - x8.toInt).toNat < n2 → RUN d_X9_goFire 7 [(4, .inl x8), (3, .inl x6), (2, .inl x7), (0, .inr (.inr (.inl 96))), (1, .inl a0)] [] h4 (q_X9_goFire h a0) := by
    intro n2
    induction n2 with
    | zero => intro h4 x6 x7 x8 m10 m11 m12 m13 m14 m15 hz; exact absurd hz (Nat.not_lt_zero _)
    | succ n2 ih9 =>
      intro h4 x6 x7 x8 hI fr fl5 m13 m14 m15 hz
      refine R_iload (k := 4) rfl rfl ?_
      refine R_aload_n (k := 0) rfl rfl rfl ?_
      have b16 : (0 : Int) ≤ (h4.1 97 0).toInt ∧ (h4.1 97 0).toInt ≤ 60 := hI.1 97 0
      refine R_callV (v := .inr (.inr (.inl 96))) (As := []) (rest := [.inl x8]) rfl mt_9_i129 pp_X9_last (by decide) rfl rfl rfl (Nat.le_of_ble_eq_true rfl) (Nat.le_of_ble_eq_true rfl) ((k_X9_last h4 hI).mono (fun r17 h18 p19 => ?_))
      obtain ⟨rfl, x20, rfl, q21⟩ := p19
      show RUN d_X9_goFire 13 [(4, .inl x8), (3, .inl x6), (2, .inl x7), (0, .inr (.inr (.inl 96))), (1, .inl a0)] [.inl x20, .inl x8] h4 _
      refine N_icmp_gt (a := x8.toInt) (b := x20.toInt) 102 rfl rfl rfl rfl (fun c22 => ?_) (fun c22 => ?_)
      · refine R_iload_n (k := 2) rfl rfl rfl ?_
        exact R_iret rfl rfl rfl ⟨hI, fr, trivial, _, rfl, by omega⟩
      · refine R_iload (k := 4) rfl rfl ?_
        refine N_if_ne (a := x8.toInt) 30 rfl rfl rfl (fun c23 => ?_) (fun c23 => ?_)
        · refine R_aload_n (k := 0) rfl rfl rfl ?_
          refine R_getf_r (j := 29) rfl ft_9_67 sh_96 rfl ?_
          refine R_iload (k := 4) rfl rfl ?_
          refine R_iald rfl sh_114 ⟨by omega, by omega⟩ ?_
          refine N_any (fun x24 => ?_)
          refine R_aload_n (k := 0) rfl rfl rfl ?_
          refine R_getf_r (j := 29) rfl ft_9_67 sh_96 rfl ?_
          refine R_iload (k := 4) rfl rfl ?_
          refine R_iconst 1 rfl rfl ?_
          refine N_isub (a := x8.toInt) (b := 1) rfl rfl (by decide) (by omega) (fun x25 q26 => ?_)
          refine R_iald rfl sh_114 ⟨by omega, by omega⟩ ?_
          refine N_any (fun x27 => ?_)
          have b28 := i_rng x24
          have b29 := i_rng x27
          refine R_isub rfl ?_
          refine N_any (fun x30 => ?_)
          refine R_istore (k := 5) [(5, .inl x30), (4, .inl x8), (3, .inl x6), (2, .inl x7), (0, .inr (.inr (.inl 96))), (1, .inl a0)] rfl rfl (by decide) ?_
          refine R_iload_n (k := 2) rfl rfl rfl ?_
          refine R_iconst (-1) rfl rfl ?_
          refine N_icmp_ne (a := x7.toInt) (b := (-1)) 79 rfl rfl rfl (by decide) (fun c31 => ?_) (fun c31 => ?_)
          · refine R_aload_n (k := 0) rfl rfl rfl ?_
            refine R_getf_r (j := 38) rfl ft_9_85 sh_96 rfl ?_
            refine R_iload (k := 4) rfl rfl ?_
            refine R_iload_n (k := 2) rfl rfl rfl ?_
            refine R_iconst (-1) rfl rfl ?_
            refine N_icmp_ne (a := x7.toInt) (b := (-1)) 94 rfl rfl rfl (by decide) (fun c32 => ?_) (fun c32 => ?_)
            · refine R_iconst 0 rfl rfl ?_
              refine K_iast (a := x8.toInt) (lo := (-2147483648)) (hi' := 2147483647) rfl sh_120 rfl ⟨by omega, by omega⟩ hI (by decide) rfl (by decide) fr (by decide) (fun h33 g34 hI fr => ?_)
              have fl5 : FR [120] h h33 := by rw [g34]; exact FR_wI _ _ fl5 (by decide)
              have s35 : (h33.1 97 0).toInt = (h4.1 97 0).toInt := by rw [g34, wI_ne _ _ _ (by decide)]
              refine N_iinc (a := x8.toInt) (c := 1) (fun w => [(4, .inl w), (5, .inl x30), (3, .inl x6), (2, .inl x7), (0, .inr (.inr (.inl 96))), (1, .inl a0)]) rfl rfl (fun _ => rfl) (by decide) rfl (by decide) (by omega) (fun x36 q37 => ?_)
              refine R_goto 7 rfl rfl ?_
              exact RUN_weak (psub_cons rfl (psub_cons rfl (psub_cons rfl (psub_cons rfl (psub_cons rfl (psub_nil _)))))) (ih9 h33 x6 x7 x36 hI fr fl5 (by omega) (by omega) (by omega) (by omega))
            · exfalso; omega
          · refine R_iload_n (k := 3) rfl rfl rfl ?_
            refine R_iload (k := 5) rfl rfl ?_
            have b38 := i_rng x6
            have b39 := i_rng x30
            refine R_isub rfl ?_
            refine N_any (fun x40 => ?_)
            refine R_istore_n (k := 3) rfl [(3, .inl x40), (5, .inl x30), (4, .inl x8), (2, .inl x7), (0, .inr (.inr (.inl 96))), (1, .inl a0)] rfl rfl (by decide) ?_
            refine R_iload_n (k := 3) rfl rfl rfl ?_
            refine N_if_le (a := x40.toInt) 76 rfl rfl rfl (fun c41 => ?_) (fun c41 => ?_)
            · refine R_iload (k := 4) rfl rfl ?_
              refine R_istore_n (k := 2) rfl [(2, .inl x8), (3, .inl x40), (5, .inl x30), (4, .inl x8), (0, .inr (.inr (.inl 96))), (1, .inl a0)] rfl rfl (by decide) ?_
              refine R_aload_n (k := 0) rfl rfl rfl ?_
              refine R_getf_r (j := 38) rfl ft_9_85 sh_96 rfl ?_
              refine R_iload (k := 4) rfl rfl ?_
              refine R_iload_n (k := 2) rfl rfl rfl ?_
              refine R_iconst (-1) rfl rfl ?_
              refine N_icmp_ne (a := x8.toInt) (b := (-1)) 94 rfl rfl rfl (by decide) (fun c42 => ?_) (fun c42 => ?_)
              · refine R_iconst 0 rfl rfl ?_
                refine K_iast (a := x8.toInt) (lo := (-2147483648)) (hi' := 2147483647) rfl sh_120 rfl ⟨by omega, by omega⟩ hI (by decide) rfl (by decide) fr (by decide) (fun h43 g44 hI fr => ?_)
                have fl5 : FR [120] h h43 := by rw [g44]; exact FR_wI _ _ fl5 (by decide)
                have s45 : (h43.1 97 0).toInt = (h4.1 97 0).toInt := by rw [g44, wI_ne _ _ _ (by decide)]
                refine N_iinc (a := x8.toInt) (c := 1) (fun w => [(4, .inl w), (2, .inl x8), (3, .inl x40), (5, .inl x30), (0, .inr (.inr (.inl 96))), (1, .inl a0)]) rfl rfl (fun _ => rfl) (by decide) rfl (by decide) (by omega) (fun x46 q47 => ?_)
                refine R_goto 7 rfl rfl ?_
                exact RUN_weak (psub_cons rfl (psub_cons rfl (psub_cons rfl (psub_cons rfl (psub_cons rfl (psub_nil _)))))) (ih9 h43 x40 x8 x46 hI fr fl5 (by omega) (by omega) (by omega) (by omega))
              · exfalso; omega
            · refine R_iload_n (k := 3) rfl rfl rfl ?_
              refine R_aload_n (k := 0) rfl rfl rfl ?_
              refine R_getf_r (j := 1) rfl ft_9_9 sh_96 rfl ?_
              refine R_bipush 8 rfl rfl ?_
              refine R_iald rfl sh_97 (by decide) ?_
              show RUN d_X9_goFire 71 [(3, .inl x40), (5, .inl x30), (4, .inl x8), (2, .inl x7), (0, .inr (.inr (.inl 96))), (1, .inl a0)] [.inl (h4.1 97 8), .inl x40] h4 _
              have b48 := i_rng x40
              have b49 := i_rng (h4.1 97 8)
              refine R_iadd rfl ?_
              refine N_any (fun x50 => ?_)
              refine R_istore_n (k := 3) rfl [(3, .inl x50), (5, .inl x30), (4, .inl x8), (2, .inl x7), (0, .inr (.inr (.inl 96))), (1, .inl a0)] rfl rfl (by decide) ?_
              refine R_goto 79 rfl rfl ?_
              refine R_aload_n (k := 0) rfl rfl rfl ?_
              refine R_getf_r (j := 38) rfl ft_9_85 sh_96 rfl ?_
              refine R_iload (k := 4) rfl rfl ?_
              refine R_iload_n (k := 2) rfl rfl rfl ?_
              refine R_iconst (-1) rfl rfl ?_
              refine N_icmp_ne (a := x7.toInt) (b := (-1)) 94 rfl rfl rfl (by decide) (fun c51 => ?_) (fun c51 => ?_)
              · exfalso; omega
              · refine R_iload_n (k := 3) rfl rfl rfl ?_
                refine R_goto 95 rfl rfl ?_
                refine K_iast (a := x8.toInt) (lo := (-2147483648)) (hi' := 2147483647) rfl sh_120 rfl ⟨by omega, by omega⟩ hI (by decide) rfl (i_rng _) fr (by decide) (fun h52 g53 hI fr => ?_)
                have fl5 : FR [120] h h52 := by rw [g53]; exact FR_wI _ _ fl5 (by decide)
                have s54 : (h52.1 97 0).toInt = (h4.1 97 0).toInt := by rw [g53, wI_ne _ _ _ (by decide)]
                have s55 : (h52.1 97 8).toInt = (h4.1 97 8).toInt := by rw [g53, wI_ne _ _ _ (by decide)]
                refine N_iinc (a := x8.toInt) (c := 1) (fun w => [(4, .inl w), (3, .inl x50), (5, .inl x30), (2, .inl x7), (0, .inr (.inr (.inl 96))), (1, .inl a0)]) rfl rfl (fun _ => rfl) (by decide) rfl (by decide) (by omega) (fun x56 q57 => ?_)
                refine R_goto 7 rfl rfl ?_
                exact RUN_weak (psub_cons rfl (psub_cons rfl (psub_cons rfl (psub_cons rfl (psub_cons rfl (psub_nil _)))))) (ih9 h52 x50 x7 x56 hI fr fl5 (by omega) (by omega) (by omega) (by omega))
        · refine R_aload_n (k := 0) rfl rfl rfl ?_
          refine R_getf_r (j := 29) rfl ft_9_67 sh_96 rfl ?_
          refine R_iconst 0 rfl rfl ?_
          refine R_iald rfl sh_114 (by decide) ?_
          show RUN d_X9_goFire 27 [(4, .inl x8), (3, .inl x6), (2, .inl x7), (0, .inr (.inr (.inl 96))), (1, .inl a0)] [.inl (h4.1 114 0)] h4 _
          refine R_goto 47 rfl rfl ?_
          refine R_istore (k := 5) [(5, .inl (h4.1 114 0)), (4, .inl x8), (3, .inl x6), (2, .inl x7), (0, .inr (.inr (.inl 96))), (1, .inl a0)] rfl rfl (by decide) ?_
          refine R_iload_n (k := 2) rfl rfl rfl ?_
          refine R_iconst (-1) rfl rfl ?_
          refine N_icmp_ne (a := x7.toInt) (b := (-1)) 79 rfl rfl rfl (by decide) (fun c58 => ?_) (fun c58 => ?_)
          · exfalso; omega
          · refine R_iload_n (k := 3) rfl rfl rfl ?_
            refine R_iload (k := 5) rfl rfl ?_
            have b59 := i_rng x6
            have b60 := i_rng (h4.1 114 0)
            refine R_isub rfl ?_
            refine N_any (fun x61 => ?_)
            refine R_istore_n (k := 3) rfl [(3, .inl x61), (5, .inl (h4.1 114 0)), (4, .inl x8), (2, .inl x7), (0, .inr (.inr (.inl 96))), (1, .inl a0)] rfl rfl (by decide) ?_
            refine R_iload_n (k := 3) rfl rfl rfl ?_
            refine N_if_le (a := x61.toInt) 76 rfl rfl rfl (fun c62 => ?_) (fun c62 => ?_)
            · refine R_iload (k := 4) rfl rfl ?_
              refine R_istore_n (k := 2) rfl [(2, .inl x8), (3, .inl x61), (5, .inl (h4.1 114 0)), (4, .inl x8), (0, .inr (.inr (.inl 96))), (1, .inl a0)] rfl rfl (by decide) ?_
              refine R_aload_n (k := 0) rfl rfl rfl ?_
              refine R_getf_r (j := 38) rfl ft_9_85 sh_96 rfl ?_
              refine R_iload (k := 4) rfl rfl ?_
              refine R_iload_n (k := 2) rfl rfl rfl ?_
              refine R_iconst (-1) rfl rfl ?_
              refine N_icmp_ne (a := x8.toInt) (b := (-1)) 94 rfl rfl rfl (by decide) (fun c63 => ?_) (fun c63 => ?_)
              · refine R_iconst 0 rfl rfl ?_
                refine K_iast (a := x8.toInt) (lo := (-2147483648)) (hi' := 2147483647) rfl sh_120 rfl ⟨by omega, by omega⟩ hI (by decide) rfl (by decide) fr (by decide) (fun h64 g65 hI fr => ?_)
                have fl5 : FR [120] h h64 := by rw [g65]; exact FR_wI _ _ fl5 (by decide)
                have s66 : (h64.1 97 0).toInt = (h4.1 97 0).toInt := by rw [g65, wI_ne _ _ _ (by decide)]
                have s67 : (h64.1 114 0).toInt = (h4.1 114 0).toInt := by rw [g65, wI_ne _ _ _ (by decide)]
                refine N_iinc (a := x8.toInt) (c := 1) (fun w => [(4, .inl w), (2, .inl x8), (3, .inl x61), (5, .inl (h4.1 114 0)), (0, .inr (.inr (.inl 96))), (1, .inl a0)]) rfl rfl (fun _ => rfl) (by decide) rfl (by decide) (by omega) (fun x68 q69 => ?_)
                refine R_goto 7 rfl rfl ?_
                exact RUN_weak (psub_cons rfl (psub_cons rfl (psub_cons rfl (psub_cons rfl (psub_cons rfl (psub_nil _)))))) (ih9 h64 x61 x8 x68 hI fr fl5 (by omega) (by omega) (by omega) (by omega))
              · exfalso; omega
            · refine R_iload_n (k := 3) rfl rfl rfl ?_
              refine R_aload_n (k := 0) rfl rfl rfl ?_
              refine R_getf_r (j := 1) rfl ft_9_9 sh_96 rfl ?_
              refine R_bipush 8 rfl rfl ?_
              refine R_iald rfl sh_97 (by decide) ?_
              show RUN d_X9_goFire 71 [(3, .inl x61), (5, .inl (h4.1 114 0)), (4, .inl x8), (2, .inl x7), (0, .inr (.inr (.inl 96))), (1, .inl a0)] [.inl (h4.1 97 8), .inl x61] h4 _
              have b70 := i_rng x61
              have b71 := i_rng (h4.1 97 8)
              refine R_iadd rfl ?_
              refine N_any (fun x72 => ?_)
              refine R_istore_n (k := 3) rfl [(3, .inl x72), (5, .inl (h4.1 114 0)), (4, .inl x8), (2, .inl x7), (0, .inr (.inr (.inl 96))), (1, .inl a0)] rfl rfl (by decide) ?_
              refine R_goto 79 rfl rfl ?_
              refine R_aload_n (k := 0) rfl rfl rfl ?_
              refine R_getf_r (j := 38) rfl ft_9_85 sh_96 rfl ?_
              refine R_iload (k := 4) rfl rfl ?_
              refine R_iload_n (k := 2) rfl rfl rfl ?_
              refine R_iconst (-1) rfl rfl ?_
              refine N_icmp_ne (a := x7.toInt) (b := (-1)) 94 rfl rfl rfl (by decide) (fun c73 => ?_) (fun c73 => ?_)
              · exfalso; omega
              · refine R_iload_n (k := 3) rfl rfl rfl ?_
                refine R_goto 95 rfl rfl ?_
                refine K_iast (a := x8.toInt) (lo := (-2147483648)) (hi' := 2147483647) rfl sh_120 rfl ⟨by omega, by omega⟩ hI (by decide) rfl (i_rng _) fr (by decide) (fun h74 g75 hI fr => ?_)
                have fl5 : FR [120] h h74 := by rw [g75]; exact FR_wI _ _ fl5 (by decide)
                have s76 : (h74.1 97 0).toInt = (h4.1 97 0).toInt := by rw [g75, wI_ne _ _ _ (by decide)]
                have s77 : (h74.1 114 0).toInt = (h4.1 114 0).toInt := by rw [g75, wI_ne _ _ _ (by decide)]
                have s78 : (h74.1 97 8).toInt = (h4.1 97 8).toInt := by rw [g75, wI_ne _ _ _ (by decide)]
                refine N_iinc (a := x8.toInt) (c := 1) (fun w => [(4, .inl w), (3, .inl x72), (5, .inl (h4.1 114 0)), (2, .inl x7), (0, .inr (.inr (.inl 96))), (1, .inl a0)]) rfl rfl (fun _ => rfl) (by decide) rfl (by decide) (by omega) (fun x79 q80 => ?_)
                refine R_goto 7 rfl rfl ?_
                exact RUN_weak (psub_cons rfl (psub_cons rfl (psub_cons rfl (psub_cons rfl (psub_cons rfl (psub_nil _)))))) (ih9 h74 x72 x7 x79 hI fr fl5 (by omega) (by omega) (by omega) (by omega))
  have k81 : ((-1) : Int32).toInt = (-1) := by decide
  have k82 : (0 : Int32).toInt = 0 := by decide
  exact lp3 _ h a0 ((-1) : Int32) (0 : Int32) hI fr (FR.rf _ _) (by decide) (by decide) (by omega) (Nat.lt_succ_self _)
abbrev q_X9_fire (h : PH) (a0 : Int32) : Option PV → PH → Prop := fun r h' => INV h' ∧ FR [96, 103, 104, 105, 106, 107, 108, 109, 110, 111, 112, 113, 114, 115, 116, 117, 118, 119, 120] h h' ∧ (True) ∧ ∃ z : Int32, r = some (.inl z) ∧ ((True))
set_option maxHeartbeats 4000000 in
set_option maxRecDepth 100000 in
theorem k_X9_fire (h : PH) (hI : INV h) (a0 : Int32) : CALL d_X9_fire [.inr (.inr (.inl 96)), .inl a0] h (q_X9_fire h a0) := by
  show RUN d_X9_fire 0 [(0, .inr (.inr (.inl 96))), (1, .inl a0)] [] h _
  have b1 := i_rng a0
  have fr : FR [96, 103, 104, 105, 106, 107, 108, 109, 110, 111, 112, 113, 114, 115, 116, 117, 118, 119, 120] h h := FR.rf _ _
  refine R_aload_n (k := 0) rfl rfl rfl ?_
  refine R_iload_n (k := 1) rfl rfl rfl ?_
  have b2 : (0 : Int) ≤ (h.1 97 0).toInt ∧ (h.1 97 0).toInt ≤ 60 := hI.1 97 0
  have e3 : 0 < (h.1 97 10).toInt → 1 ≤ (h.1 97 0).toInt := hI.2.2.2.2.2.1.2.1
  refine R_callV (v := .inr (.inr (.inl 96))) (As := [.inl a0]) (rest := []) rfl mt_9_i318 pp_X9_asksSecond (by decide) rfl rfl rfl (Nat.le_of_ble_eq_true rfl) (Nat.le_of_ble_eq_true rfl) ((k_X9_asksSecond h hI a0).mono (fun r4 h5 p6 => ?_))
  obtain ⟨hJ, fj, -, x7, rfl, q8 | q8 | q8 | q8⟩ := p6
  · have f9 := fj
    have fr := fr.trans fj (by decide)
    have hI := hJ
    have s10 : (h5.1 97 10).toInt = (h.1 97 10).toInt := by rw [(f9 97 (by decide)).1]
    have s11 : (h5.1 97 0).toInt = (h.1 97 0).toInt := by rw [(f9 97 (by decide)).1]
    show RUN d_X9_fire 5 [(0, .inr (.inr (.inl 96))), (1, .inl a0)] [.inl x7] h5 _
    refine N_if_ne (a := x7.toInt) 11 rfl rfl rfl (fun c12 => ?_) (fun c12 => ?_)
    · exfalso; omega
    · refine R_bipush (-2) rfl rfl ?_
      exact R_iret rfl rfl rfl ⟨hI, fr, trivial, _, rfl, trivial⟩
  · have f13 := fj
    have fr := fr.trans fj (by decide)
    have hI := hJ
    have s14 : (h5.1 97 10).toInt = (h.1 97 10).toInt := by rw [(f13 97 (by decide)).1]
    have s15 : (h5.1 97 0).toInt = (h.1 97 0).toInt := by rw [(f13 97 (by decide)).1]
    show RUN d_X9_fire 5 [(0, .inr (.inr (.inl 96))), (1, .inl a0)] [.inl x7] h5 _
    refine N_if_ne (a := x7.toInt) 11 rfl rfl rfl (fun c16 => ?_) (fun c16 => ?_)
    · exfalso; omega
    · refine R_bipush (-2) rfl rfl ?_
      exact R_iret rfl rfl rfl ⟨hI, fr, trivial, _, rfl, trivial⟩
  · have f17 := fj
    have fr := fr.trans fj (by decide)
    have hI := hJ
    have s18 : (h5.1 97 10).toInt = (h.1 97 10).toInt := by rw [(f17 97 (by decide)).1]
    have s19 : (h5.1 97 0).toInt = (h.1 97 0).toInt := by rw [(f17 97 (by decide)).1]
    show RUN d_X9_fire 5 [(0, .inr (.inr (.inl 96))), (1, .inl a0)] [.inl x7] h5 _
    refine N_if_ne (a := x7.toInt) 11 rfl rfl rfl (fun c20 => ?_) (fun c20 => ?_)
    · exfalso; omega
    · refine R_bipush (-2) rfl rfl ?_
      exact R_iret rfl rfl rfl ⟨hI, fr, trivial, _, rfl, trivial⟩
  · have f21 := fj
    have fr := fr.trans fj (by decide)
    have hI := hJ
    have s22 : (h5.1 97 10).toInt = (h.1 97 10).toInt := by rw [(f21 97 (by decide)).1]
    have s23 : (h5.1 97 0).toInt = (h.1 97 0).toInt := by rw [(f21 97 (by decide)).1]
    show RUN d_X9_fire 5 [(0, .inr (.inr (.inl 96))), (1, .inl a0)] [.inl x7] h5 _
    refine N_if_ne (a := x7.toInt) 11 rfl rfl rfl (fun c24 => ?_) (fun c24 => ?_)
    · refine R_aload_n (k := 0) rfl rfl rfl ?_
      refine R_aload_n (k := 0) rfl rfl rfl ?_
      refine R_getf_r (j := 1) rfl ft_9_9 sh_96 rfl ?_
      refine R_bipush 7 rfl rfl ?_
      refine R_iald rfl sh_97 (by decide) ?_
      show RUN d_X9_fire 19 [(0, .inr (.inr (.inl 96))), (1, .inl a0)] [.inl (h5.1 97 7), .inr (.inr (.inl 96))] h5 _
      refine R_callV (v := .inr (.inr (.inl 96))) (As := [.inl (h5.1 97 7)]) (rest := []) rfl mt_9_i345 pp_X9_goFire (by decide) rfl rfl rfl (Nat.le_of_ble_eq_true rfl) (Nat.le_of_ble_eq_true rfl) ((k_X9_goFire h5 hI (h5.1 97 7)).mono (fun r25 h26 p27 => ?_))
      obtain ⟨hJ, fj, -, x28, rfl, q29⟩ := p27
      have f30 := fj
      have fr := fr.trans fj (by decide)
      have hI := hJ
      have s31 : (h26.1 97 10).toInt = (h5.1 97 10).toInt := by rw [(f30 97 (by decide)).1]
      have s32 : (h26.1 97 0).toInt = (h5.1 97 0).toInt := by rw [(f30 97 (by decide)).1]
      have s33 : (h26.1 97 7).toInt = (h5.1 97 7).toInt := by rw [(f30 97 (by decide)).1]
      show RUN d_X9_fire 22 [(0, .inr (.inr (.inl 96))), (1, .inl a0)] [.inl x28] h26 _
      refine R_pop_i rfl ?_
      refine R_aload_n (k := 0) rfl rfl rfl ?_
      refine R_getf_r (j := 38) rfl ft_9_85 sh_96 rfl ?_
      refine R_iload_n (k := 1) rfl rfl rfl ?_
      refine R_iald rfl sh_120 ⟨by omega, by omega⟩ ?_
      refine N_any (fun x34 => ?_)
      exact R_iret rfl rfl rfl ⟨hI, fr, trivial, _, rfl, trivial⟩
    · exfalso; omega
abbrev q_X1_stands (h : PH)  : Option PV → PH → Prop := fun r h' => h = h' ∧ ∃ z : Int32, r = some (.inl z) ∧ ((z.toInt = 0 ∧ (h.1 17 10).toInt ≤ 0) ∨ (z.toInt = 1 ∧ 1 ≤ (h.1 17 0).toInt ∧ (h.1 17 0).toInt ≤ 60 ∧ 1 ≤ (h.1 17 10).toInt))
set_option maxHeartbeats 4000000 in
set_option maxRecDepth 100000 in
theorem k_X1_stands (h : PH) (hI : INV h)  : CALL d_X1_stands [.inr (.inr (.inl 16))] h (q_X1_stands h) := by
  show RUN d_X1_stands 0 [(0, .inr (.inr (.inl 16)))] [] h _
  refine R_aload_n (k := 0) rfl rfl rfl ?_
  refine R_getf_r (j := 0) rfl ft_1_9 sh_16 rfl ?_
  refine R_bipush 10 rfl rfl ?_
  refine R_iald rfl sh_17 (by decide) ?_
  have b1 : (0 : Int) ≤ (h.1 17 0).toInt ∧ (h.1 17 0).toInt ≤ 60 := hI.1 17 0
  have e2 : 0 < (h.1 17 10).toInt → 1 ≤ (h.1 17 0).toInt := hI.2.1
  show RUN d_X1_stands 7 [(0, .inr (.inr (.inl 16)))] [.inl (h.1 17 10)] h _
  refine N_if_le (a := (h.1 17 10).toInt) 14 rfl rfl rfl (fun c3 => ?_) (fun c3 => ?_)
  · refine R_iconst 0 rfl rfl ?_
    exact R_iret rfl rfl rfl ⟨rfl, _, rfl, by rw [show (0 : Int32).toInt = 0 from rfl] <;> omega⟩
  · refine R_iconst 1 rfl rfl ?_
    refine R_goto 15 rfl rfl ?_
    exact R_iret rfl rfl rfl ⟨rfl, _, rfl, by rw [show (1 : Int32).toInt = 1 from rfl] <;> omega⟩
abbrev q_X8_outBy (h : PH) (a0 : Int64) (a1 : Int32) : Option PV → PH → Prop := fun r h' => h = h' ∧ ∃ z : Int32, r = some (.inl z) ∧ (((-1) ≤ z.toInt ∧ z.toInt ≤ 59))
set_option maxHeartbeats 4000000 in
set_option maxRecDepth 100000 in
theorem k_X8_outBy (h : PH) (hI : INV h) (a0 : Int64) (a1 : Int32) : CALL d_X8_outBy [.inr (.inr (.inl 0)), .inr (.inl a0), .inl a1] h (q_X8_outBy h a0 a1) := by
  show RUN d_X8_outBy 0 [(0, .inr (.inr (.inl 0))), (1, .inr (.inl a0)), (3, .inl a1)] [] h _
  have b1 := i_rng a1
  refine R_aload_n (k := 0) rfl rfl rfl ?_
  refine R_getf_r (j := 3) rfl ft_8_28 sh_0 rfl ?_
  refine R_getf_r (j := 0) rfl ft_8_109 sh_16 rfl ?_
  refine R_bipush 7 rfl rfl ?_
  refine R_iald rfl sh_17 (by decide) ?_
  show RUN d_X8_outBy 10 [(0, .inr (.inr (.inl 0))), (1, .inr (.inl a0)), (3, .inl a1)] [.inl (h.1 17 7)] h _
  refine R_istore (k := 4) [(4, .inl (h.1 17 7)), (0, .inr (.inr (.inl 0))), (1, .inr (.inl a0)), (3, .inl a1)] rfl rfl (by decide) ?_
  refine R_iconst 0 rfl rfl ?_
  refine R_istore (k := 5) [(5, .inl 0), (4, .inl (h.1 17 7)), (0, .inr (.inr (.inl 0))), (1, .inr (.inl a0)), (3, .inl a1)] rfl rfl (by decide) ?_
  have lp3 : ∀ (n2 : Nat) (x4 : Int32) (x5 : Int32), 0 ≤ x5.toInt ∧ x5.toInt ≤ 60 → (60 - x5.toInt).toNat < n2 → RUN d_X8_outBy 15 [(5, .inl x5), (4, .inl x4), (0, .inr (.inr (.inl 0))), (1, .inr (.inl a0)), (3, .inl a1)] [] h (q_X8_outBy h a0 a1) := by
    intro n2
    induction n2 with
    | zero => intro x4 x5 m7 hz; exact absurd hz (Nat.not_lt_zero _)
    | succ n2 ih6 =>
      intro x4 x5 m7 hz
      refine R_iload (k := 5) rfl rfl ?_
      refine R_aload_n (k := 0) rfl rfl rfl ?_
      refine R_getf_r (j := 3) rfl ft_8_28 sh_0 rfl ?_
      refine R_getf_r (j := 0) rfl ft_8_109 sh_16 rfl ?_
      refine R_iconst 0 rfl rfl ?_
      refine R_iald rfl sh_17 (by decide) ?_
      have b8 : (0 : Int) ≤ (h.1 17 0).toInt ∧ (h.1 17 0).toInt ≤ 60 := hI.1 17 0
      show RUN d_X8_outBy 26 [(5, .inl x5), (4, .inl x4), (0, .inr (.inr (.inl 0))), (1, .inr (.inl a0)), (3, .inl a1)] [.inl (h.1 17 0), .inl x5] h _
      refine N_icmp_ge (a := x5.toInt) (b := (h.1 17 0).toInt) 74 rfl rfl rfl rfl (fun c9 => ?_) (fun c9 => ?_)
      · refine R_iconst (-1) rfl rfl ?_
        exact R_iret rfl rfl rfl ⟨rfl, _, rfl, by rw [show ((-1) : Int32).toInt = (-1) from rfl] <;> omega⟩
      · refine R_iload (k := 4) rfl rfl ?_
        refine R_lload_n (k := 1) rfl rfl rfl ?_
        refine R_iload (k := 5) rfl rfl ?_
        refine R_callS (As := [.inr (.inl a0), .inl x5]) (rest := [.inl x4]) rfl mt_8_i160 (by decide) pp_X8_hasBit (by decide) rfl rfl (Nat.le_of_ble_eq_true rfl) (Nat.le_of_ble_eq_true rfl) ((k_X8_hasBit h hI a0 x5).mono (fun r10 h11 p12 => ?_))
        obtain ⟨rfl, x13, rfl, q14 | q14⟩ := p12
        · show RUN d_X8_outBy 37 [(5, .inl x5), (4, .inl x4), (0, .inr (.inr (.inl 0))), (1, .inr (.inl a0)), (3, .inl a1)] [.inl x13, .inl x4] h _
          refine N_if_eq (a := x13.toInt) 44 rfl rfl rfl (fun c15 => ?_) (fun c15 => ?_)
          · refine R_iconst 0 rfl rfl ?_
            refine R_aload_n (k := 0) rfl rfl rfl ?_
            refine R_getf_r (j := 3) rfl ft_8_28 sh_0 rfl ?_
            refine R_getf_r (j := 0) rfl ft_8_109 sh_16 rfl ?_
            refine R_bipush 8 rfl rfl ?_
            refine R_iald rfl sh_17 (by decide) ?_
            show RUN d_X8_outBy 55 [(5, .inl x5), (4, .inl x4), (0, .inr (.inr (.inl 0))), (1, .inr (.inl a0)), (3, .inl a1)] [.inl (h.1 17 8), .inl 0, .inl x4] h _
            have k16 : (0 : Int32).toInt = 0 := by decide
            refine R_callS (As := [.inl x4, .inl 0, .inl (h.1 17 8)]) (rest := []) rfl mt_8_i422 (by decide) pp_X8_burnsOn (by decide) rfl rfl (Nat.le_of_ble_eq_true rfl) (Nat.le_of_ble_eq_true rfl) ((k_X8_burnsOn h hI x4 (0 : Int32) (h.1 17 8)).mono (fun r17 h18 p19 => ?_))
            obtain ⟨rfl, x20, rfl, q21⟩ := p19
            show RUN d_X8_outBy 58 [(5, .inl x5), (4, .inl x4), (0, .inr (.inr (.inl 0))), (1, .inr (.inl a0)), (3, .inl a1)] [.inl x20] h _
            refine R_istore (k := 4) [(4, .inl x20), (5, .inl x5), (0, .inr (.inr (.inl 0))), (1, .inr (.inl a0)), (3, .inl a1)] rfl rfl (by decide) ?_
            refine R_iload (k := 4) rfl rfl ?_
            refine N_if_ne (a := x20.toInt) 68 rfl rfl rfl (fun c22 => ?_) (fun c22 => ?_)
            · refine N_iinc (a := x5.toInt) (c := 1) (fun w => [(5, .inl w), (4, .inl x20), (0, .inr (.inr (.inl 0))), (1, .inr (.inl a0)), (3, .inl a1)]) rfl rfl (fun _ => rfl) (by decide) rfl (by decide) (by omega) (fun x23 q24 => ?_)
              refine R_goto 15 rfl rfl ?_
              exact RUN_weak (psub_cons rfl (psub_cons rfl (psub_cons rfl (psub_cons rfl (psub_cons rfl (psub_nil _)))))) (ih6 x20 x23 (by omega) (by omega))
            · refine R_iload (k := 5) rfl rfl ?_
              exact R_iret rfl rfl rfl ⟨rfl, _, rfl, by omega⟩
          · exfalso; omega
        · show RUN d_X8_outBy 37 [(5, .inl x5), (4, .inl x4), (0, .inr (.inr (.inl 0))), (1, .inr (.inl a0)), (3, .inl a1)] [.inl x13, .inl x4] h _
          refine N_if_eq (a := x13.toInt) 44 rfl rfl rfl (fun c25 => ?_) (fun c25 => ?_)
          · exfalso; omega
          · refine R_iload_n (k := 3) rfl rfl rfl ?_
            refine R_goto 45 rfl rfl ?_
            refine R_aload_n (k := 0) rfl rfl rfl ?_
            refine R_getf_r (j := 3) rfl ft_8_28 sh_0 rfl ?_
            refine R_getf_r (j := 0) rfl ft_8_109 sh_16 rfl ?_
            refine R_bipush 8 rfl rfl ?_
            refine R_iald rfl sh_17 (by decide) ?_
            show RUN d_X8_outBy 55 [(5, .inl x5), (4, .inl x4), (0, .inr (.inr (.inl 0))), (1, .inr (.inl a0)), (3, .inl a1)] [.inl (h.1 17 8), .inl a1, .inl x4] h _
            refine R_callS (As := [.inl x4, .inl a1, .inl (h.1 17 8)]) (rest := []) rfl mt_8_i422 (by decide) pp_X8_burnsOn (by decide) rfl rfl (Nat.le_of_ble_eq_true rfl) (Nat.le_of_ble_eq_true rfl) ((k_X8_burnsOn h hI x4 a1 (h.1 17 8)).mono (fun r26 h27 p28 => ?_))
            obtain ⟨rfl, x29, rfl, q30⟩ := p28
            show RUN d_X8_outBy 58 [(5, .inl x5), (4, .inl x4), (0, .inr (.inr (.inl 0))), (1, .inr (.inl a0)), (3, .inl a1)] [.inl x29] h _
            refine R_istore (k := 4) [(4, .inl x29), (5, .inl x5), (0, .inr (.inr (.inl 0))), (1, .inr (.inl a0)), (3, .inl a1)] rfl rfl (by decide) ?_
            refine R_iload (k := 4) rfl rfl ?_
            refine N_if_ne (a := x29.toInt) 68 rfl rfl rfl (fun c31 => ?_) (fun c31 => ?_)
            · refine N_iinc (a := x5.toInt) (c := 1) (fun w => [(5, .inl w), (4, .inl x29), (0, .inr (.inr (.inl 0))), (1, .inr (.inl a0)), (3, .inl a1)]) rfl rfl (fun _ => rfl) (by decide) rfl (by decide) (by omega) (fun x32 q33 => ?_)
              refine R_goto 15 rfl rfl ?_
              exact RUN_weak (psub_cons rfl (psub_cons rfl (psub_cons rfl (psub_cons rfl (psub_cons rfl (psub_nil _)))))) (ih6 x29 x32 (by omega) (by omega))
            · refine R_iload (k := 5) rfl rfl ?_
              exact R_iret rfl rfl rfl ⟨rfl, _, rfl, by omega⟩
  exact lp3 _ (h.1 17 7) (0 : Int32) (by decide) (Nat.lt_succ_self _)
abbrev q_X8_out (h : PH)  : Option PV → PH → Prop := fun r h' => INV h' ∧ FR [0, 70, 71, 72, 73, 74, 75, 76, 77, 78, 79, 80, 81, 82, 83, 84, 85, 86] h h' ∧ (True) ∧ ∃ z : Int32, r = some (.inl z) ∧ (((-2) ≤ z.toInt ∧ z.toInt ≤ 59))
set_option maxHeartbeats 4000000 in
set_option maxRecDepth 100000 in
theorem k_X8_out (h : PH) (hI : INV h)  : CALL d_X8_out [.inr (.inr (.inl 0))] h (q_X8_out h) := by
  show RUN d_X8_out 0 [(0, .inr (.inr (.inl 0)))] [] h _
  have fr : FR [0, 70, 71, 72, 73, 74, 75, 76, 77, 78, 79, 80, 81, 82, 83, 84, 85, 86] h h := FR.rf _ _
  refine R_aload_n (k := 0) rfl rfl rfl ?_
  refine R_getf_r (j := 3) rfl ft_8_28 sh_0 rfl ?_
  have b1 : (0 : Int) ≤ (h.1 17 0).toInt ∧ (h.1 17 0).toInt ≤ 60 := hI.1 17 0
  have e2 : 0 < (h.1 17 10).toInt → 1 ≤ (h.1 17 0).toInt := hI.2.1
  refine R_callV (v := .inr (.inr (.inl 16))) (As := []) (rest := []) rfl mt_8_i146 pp_X1_stands (by decide) rfl rfl rfl (Nat.le_of_ble_eq_true rfl) (Nat.le_of_ble_eq_true rfl) ((k_X1_stands h hI).mono (fun r3 h4 p5 => ?_))
  obtain ⟨rfl, x6, rfl, q7 | q7⟩ := p5
  · show RUN d_X8_out 7 [(0, .inr (.inr (.inl 0)))] [.inl x6] h _
    refine N_if_eq (a := x6.toInt) 31 rfl rfl rfl (fun c8 => ?_) (fun c8 => ?_)
    · refine R_bipush (-2) rfl rfl ?_
      exact R_iret rfl rfl rfl ⟨hI, fr, trivial, _, rfl, by rw [show ((-2) : Int32).toInt = (-2) from rfl] <;> omega⟩
    · exfalso; omega
  · show RUN d_X8_out 7 [(0, .inr (.inr (.inl 0)))] [.inl x6] h _
    refine N_if_eq (a := x6.toInt) 31 rfl rfl rfl (fun c9 => ?_) (fun c9 => ?_)
    · exfalso; omega
    · refine R_aload_n (k := 0) rfl rfl rfl ?_
      refine R_aload_n (k := 0) rfl rfl rfl ?_
      refine R_callV (v := .inr (.inr (.inl 0))) (As := []) (rest := [.inr (.inr (.inl 0))]) rfl mt_8_i153 pp_X8_told (by decide) rfl rfl rfl (Nat.le_of_ble_eq_true rfl) (Nat.le_of_ble_eq_true rfl) ((k_X8_told h hI).mono (fun r10 h11 p12 => ?_))
      obtain ⟨hJ, fj, -, rfl⟩ := p12
      have f13 := fj
      have fr := fr.trans fj (by decide)
      have hI := hJ
      have s14 : (h11.1 17 10).toInt = (h.1 17 10).toInt := by rw [(f13 17 (by decide)).1]
      have s15 : (h11.1 17 0).toInt = (h.1 17 0).toInt := by rw [(f13 17 (by decide)).1]
      show RUN d_X8_out 15 [(0, .inr (.inr (.inl 0)))] [.inr (.inr (.inl 75)), .inr (.inr (.inl 0))] h11 _
      refine R_getf_l (j := 11) rfl ft_8_212 sh_75 rfl ?_
      refine N_anyL (fun w16 => ?_)
      refine R_aload_n (k := 0) rfl rfl rfl ?_
      refine R_getf_r (j := 8) rfl ft_8_56 sh_0 rfl ?_
      refine R_getf_i (j := 12) rfl ft_8_216 sh_75 rfl ?_
      refine R_callV (v := .inr (.inr (.inl 0))) (As := [.inr (.inl w16), .inl (h11.1 75 12)]) (rest := []) rfl mt_8_i219 pp_X8_outBy (by decide) rfl rfl rfl (Nat.le_of_ble_eq_true rfl) (Nat.le_of_ble_eq_true rfl) ((k_X8_outBy h11 hI w16 (h11.1 75 12)).mono (fun r17 h18 p19 => ?_))
      obtain ⟨rfl, x20, rfl, q21⟩ := p19
      show RUN d_X8_out 28 [(0, .inr (.inr (.inl 0)))] [.inl x20] h11 _
      refine R_goto 33 rfl rfl ?_
      exact R_iret rfl rfl rfl ⟨hI, fr, trivial, _, rfl, by omega⟩
abbrev q_X9_out (h : PH)  : Option PV → PH → Prop := fun r h' => INV h' ∧ FR [96, 103, 104, 105, 106, 107, 108, 109, 110, 111, 112, 113, 114, 115, 116, 117, 118, 119, 120] h h' ∧ (True) ∧ ∃ z : Int32, r = some (.inl z) ∧ (((-2) ≤ z.toInt ∧ z.toInt ≤ 59))
set_option maxHeartbeats 4000000 in
set_option maxRecDepth 100000 in
theorem k_X9_out (h : PH) (hI : INV h)  : CALL d_X9_out [.inr (.inr (.inl 96))] h (q_X9_out h) := by
  show RUN d_X9_out 0 [(0, .inr (.inr (.inl 96)))] [] h _
  have fr : FR [96, 103, 104, 105, 106, 107, 108, 109, 110, 111, 112, 113, 114, 115, 116, 117, 118, 119, 120] h h := FR.rf _ _
  refine R_aload_n (k := 0) rfl rfl rfl ?_
  have b1 : (0 : Int) ≤ (h.1 97 0).toInt ∧ (h.1 97 0).toInt ≤ 60 := hI.1 97 0
  have e2 : 0 < (h.1 97 10).toInt → 1 ≤ (h.1 97 0).toInt := hI.2.2.2.2.2.1.2.1
  refine R_callV (v := .inr (.inr (.inl 96))) (As := []) (rest := []) rfl mt_9_i307 pp_X9_asksBrigade (by decide) rfl rfl rfl (Nat.le_of_ble_eq_true rfl) (Nat.le_of_ble_eq_true rfl) ((k_X9_asksBrigade h hI).mono (fun r3 h4 p5 => ?_))
  obtain ⟨hJ, fj, -, x6, rfl, q7 | q7⟩ := p5
  · have f8 := fj
    have fr := fr.trans fj (by decide)
    have hI := hJ
    have s9 : (h4.1 97 10).toInt = (h.1 97 10).toInt := by rw [(f8 97 (by decide)).1]
    have s10 : (h4.1 97 0).toInt = (h.1 97 0).toInt := by rw [(f8 97 (by decide)).1]
    show RUN d_X9_out 4 [(0, .inr (.inr (.inl 96)))] [.inl x6] h4 _
    refine N_if_eq (a := x6.toInt) 21 rfl rfl rfl (fun c11 => ?_) (fun c11 => ?_)
    · refine R_bipush (-2) rfl rfl ?_
      exact R_iret rfl rfl rfl ⟨hI, fr, trivial, _, rfl, by rw [show ((-2) : Int32).toInt = (-2) from rfl] <;> omega⟩
    · exfalso; omega
  · have f12 := fj
    have fr := fr.trans fj (by decide)
    have hI := hJ
    have s13 : (h4.1 97 10).toInt = (h.1 97 10).toInt := by rw [(f12 97 (by decide)).1]
    have s14 : (h4.1 97 0).toInt = (h.1 97 0).toInt := by rw [(f12 97 (by decide)).1]
    show RUN d_X9_out 4 [(0, .inr (.inr (.inl 96)))] [.inl x6] h4 _
    refine N_if_eq (a := x6.toInt) 21 rfl rfl rfl (fun c15 => ?_) (fun c15 => ?_)
    · exfalso; omega
    · refine R_aload_n (k := 0) rfl rfl rfl ?_
      refine R_aload_n (k := 0) rfl rfl rfl ?_
      refine R_getf_r (j := 1) rfl ft_9_9 sh_96 rfl ?_
      refine R_bipush 7 rfl rfl ?_
      refine R_iald rfl sh_97 (by decide) ?_
      show RUN d_X9_out 15 [(0, .inr (.inr (.inl 96)))] [.inl (h4.1 97 7), .inr (.inr (.inl 96))] h4 _
      refine R_callV (v := .inr (.inr (.inl 96))) (As := [.inl (h4.1 97 7)]) (rest := []) rfl mt_9_i345 pp_X9_goFire (by decide) rfl rfl rfl (Nat.le_of_ble_eq_true rfl) (Nat.le_of_ble_eq_true rfl) ((k_X9_goFire h4 hI (h4.1 97 7)).mono (fun r16 h17 p18 => ?_))
      obtain ⟨hJ, fj, -, x19, rfl, q20⟩ := p18
      have f21 := fj
      have fr := fr.trans fj (by decide)
      have hI := hJ
      have s22 : (h17.1 97 10).toInt = (h4.1 97 10).toInt := by rw [(f21 97 (by decide)).1]
      have s23 : (h17.1 97 0).toInt = (h4.1 97 0).toInt := by rw [(f21 97 (by decide)).1]
      have s24 : (h17.1 97 7).toInt = (h4.1 97 7).toInt := by rw [(f21 97 (by decide)).1]
      show RUN d_X9_out 18 [(0, .inr (.inr (.inl 96)))] [.inl x19] h17 _
      refine R_goto 23 rfl rfl ?_
      exact R_iret rfl rfl rfl ⟨hI, fr, trivial, _, rfl, by omega⟩
abbrev q_X8_worst (h : PH)  : Option PV → PH → Prop := fun r h' => INV h' ∧ FR [0, 70, 71, 72, 73, 74, 75, 76, 77, 78, 79, 80, 81, 82, 83, 84, 85, 86] h h' ∧ (True) ∧ ∃ z : Int32, r = some (.inl z) ∧ (((-2) ≤ z.toInt ∧ z.toInt ≤ 2147483647))
set_option maxHeartbeats 4000000 in
set_option maxRecDepth 100000 in
theorem k_X8_worst (h : PH) (hI : INV h)  : CALL d_X8_worst [.inr (.inr (.inl 0))] h (q_X8_worst h) := by
  show RUN d_X8_worst 0 [(0, .inr (.inr (.inl 0)))] [] h _
  have fr : FR [0, 70, 71, 72, 73, 74, 75, 76, 77, 78, 79, 80, 81, 82, 83, 84, 85, 86] h h := FR.rf _ _
  refine R_aload_n (k := 0) rfl rfl rfl ?_
  refine R_getf_r (j := 3) rfl ft_8_28 sh_0 rfl ?_
  have b1 : (0 : Int) ≤ (h.1 17 0).toInt ∧ (h.1 17 0).toInt ≤ 60 := hI.1 17 0
  have e2 : 0 < (h.1 17 10).toInt → 1 ≤ (h.1 17 0).toInt := hI.2.1
  refine R_callV (v := .inr (.inr (.inl 16))) (As := []) (rest := []) rfl mt_8_i146 pp_X1_stands (by decide) rfl rfl rfl (Nat.le_of_ble_eq_true rfl) (Nat.le_of_ble_eq_true rfl) ((k_X1_stands h hI).mono (fun r3 h4 p5 => ?_))
  obtain ⟨rfl, x6, rfl, q7 | q7⟩ := p5
  · show RUN d_X8_worst 7 [(0, .inr (.inr (.inl 0)))] [.inl x6] h _
    refine N_if_ne (a := x6.toInt) 13 rfl rfl rfl (fun c8 => ?_) (fun c8 => ?_)
    · exfalso; omega
    · refine R_bipush (-2) rfl rfl ?_
      exact R_iret rfl rfl rfl ⟨hI, fr, trivial, _, rfl, by rw [show ((-2) : Int32).toInt = (-2) from rfl] <;> omega⟩
  · show RUN d_X8_worst 7 [(0, .inr (.inr (.inl 0)))] [.inl x6] h _
    refine N_if_ne (a := x6.toInt) 13 rfl rfl rfl (fun c9 => ?_) (fun c9 => ?_)
    · refine R_aload_n (k := 0) rfl rfl rfl ?_
      refine R_callV (v := .inr (.inr (.inl 0))) (As := []) (rest := []) rfl mt_8_i153 pp_X8_told (by decide) rfl rfl rfl (Nat.le_of_ble_eq_true rfl) (Nat.le_of_ble_eq_true rfl) ((k_X8_told h hI).mono (fun r10 h11 p12 => ?_))
      obtain ⟨hJ, fj, -, rfl⟩ := p12
      have f13 := fj
      have fr := fr.trans fj (by decide)
      have hI := hJ
      have s14 : (h11.1 17 10).toInt = (h.1 17 10).toInt := by rw [(f13 17 (by decide)).1]
      have s15 : (h11.1 17 0).toInt = (h.1 17 0).toInt := by rw [(f13 17 (by decide)).1]
      show RUN d_X8_worst 17 [(0, .inr (.inr (.inl 0)))] [.inr (.inr (.inl 75))] h11 _
      refine R_getf_r (j := 9) rfl ft_8_193 sh_75 rfl ?_
      refine R_astore_n (k := 1) rfl [(1, .inr (.inr (.inl 85))), (0, .inr (.inr (.inl 0)))] rfl rfl (by decide) ?_
      refine R_iconst 0 rfl rfl ?_
      refine R_istore_n (k := 2) rfl [(2, .inl 0), (1, .inr (.inr (.inl 85))), (0, .inr (.inr (.inl 0)))] rfl rfl (by decide) ?_
      refine R_iconst 0 rfl rfl ?_
      refine R_istore_n (k := 3) rfl [(3, .inl 0), (2, .inl 0), (1, .inr (.inr (.inl 85))), (0, .inr (.inr (.inl 0)))] rfl rfl (by decide) ?_
      have lp17 : ∀ (n16 : Nat) (x18 : Int32) (x19 : Int32), 0 ≤ x18.toInt → 0 ≤ x19.toInt ∧ x19.toInt ≤ 60 → (60 - x19.toInt).toNat < n16 → RUN d_X8_worst 25 [(3, .inl x19), (2, .inl x18), (1, .inr (.inr (.inl 85))), (0, .inr (.inr (.inl 0)))] [] h11 (q_X8_worst h) := by
        intro n16
        induction n16 with
        | zero => intro x18 x19 m21 m22 hz; exact absurd hz (Nat.not_lt_zero _)
        | succ n16 ih20 =>
          intro x18 x19 m21 m22 hz
          refine R_iload_n (k := 3) rfl rfl rfl ?_
          refine R_aload_n (k := 0) rfl rfl rfl ?_
          refine R_getf_r (j := 3) rfl ft_8_28 sh_0 rfl ?_
          refine R_getf_r (j := 0) rfl ft_8_109 sh_16 rfl ?_
          refine R_iconst 0 rfl rfl ?_
          refine R_iald rfl sh_17 (by decide) ?_
          show RUN d_X8_worst 35 [(3, .inl x19), (2, .inl x18), (1, .inr (.inr (.inl 85))), (0, .inr (.inr (.inl 0)))] [.inl (h11.1 17 0), .inl x19] h11 _
          refine N_icmp_ge (a := x19.toInt) (b := (h11.1 17 0).toInt) 52 rfl rfl rfl rfl (fun c23 => ?_) (fun c23 => ?_)
          · refine R_iload_n (k := 2) rfl rfl rfl ?_
            have b24 := i_rng x18
            exact R_iret rfl rfl rfl ⟨hI, fr, trivial, _, rfl, by omega⟩
          · refine R_iload_n (k := 2) rfl rfl rfl ?_
            refine R_aload_n (k := 1) rfl rfl rfl ?_
            refine R_iload_n (k := 3) rfl rfl rfl ?_
            refine R_iald rfl sh_85 ⟨by omega, by omega⟩ ?_
            refine N_any (fun x25 => ?_)
            refine N_max (a := x18.toInt) (b := x25.toInt) rfl mt_8_i223 rfl rfl ⟨by decide, by decide, Nat.le_of_ble_eq_true rfl⟩ (fun x26 q27 => ?_)
            refine R_istore_n (k := 2) rfl [(2, .inl x26), (3, .inl x19), (1, .inr (.inr (.inl 85))), (0, .inr (.inr (.inl 0)))] rfl rfl (by decide) ?_
            refine N_iinc (a := x19.toInt) (c := 1) (fun w => [(3, .inl w), (2, .inl x26), (1, .inr (.inr (.inl 85))), (0, .inr (.inr (.inl 0)))]) rfl rfl (fun _ => rfl) (by decide) rfl (by decide) (by omega) (fun x28 q29 => ?_)
            refine R_goto 25 rfl rfl ?_
            have b30 := i_rng x26
            exact RUN_weak (psub_cons rfl (psub_cons rfl (psub_cons rfl (psub_cons rfl (psub_nil _))))) (ih20 x26 x28 (by omega) (by omega) (by omega))
      exact lp17 _ (0 : Int32) (0 : Int32) (by decide) (by decide) (Nat.lt_succ_self _)
    · exfalso; omega
abbrev q_X9_worst (h : PH)  : Option PV → PH → Prop := fun r h' => INV h' ∧ FR [96, 103, 104, 105, 106, 107, 108, 109, 110, 111, 112, 113, 114, 115, 116, 117, 118, 119, 120] h h' ∧ (True) ∧ ∃ z : Int32, r = some (.inl z) ∧ (((-2) ≤ z.toInt ∧ z.toInt ≤ 2147483647))
set_option maxHeartbeats 4000000 in
set_option maxRecDepth 100000 in
theorem k_X9_worst (h : PH) (hI : INV h)  : CALL d_X9_worst [.inr (.inr (.inl 96))] h (q_X9_worst h) := by
  show RUN d_X9_worst 0 [(0, .inr (.inr (.inl 96)))] [] h _
  have fr : FR [96, 103, 104, 105, 106, 107, 108, 109, 110, 111, 112, 113, 114, 115, 116, 117, 118, 119, 120] h h := FR.rf _ _
  refine R_aload_n (k := 0) rfl rfl rfl ?_
  have b1 : (0 : Int) ≤ (h.1 97 0).toInt ∧ (h.1 97 0).toInt ≤ 60 := hI.1 97 0
  have e2 : 0 < (h.1 97 10).toInt → 1 ≤ (h.1 97 0).toInt := hI.2.2.2.2.2.1.2.1
  refine R_callV (v := .inr (.inr (.inl 96))) (As := []) (rest := []) rfl mt_9_i307 pp_X9_asksBrigade (by decide) rfl rfl rfl (Nat.le_of_ble_eq_true rfl) (Nat.le_of_ble_eq_true rfl) ((k_X9_asksBrigade h hI).mono (fun r3 h4 p5 => ?_))
  obtain ⟨hJ, fj, -, x6, rfl, q7 | q7⟩ := p5
  · have f8 := fj
    have fr := fr.trans fj (by decide)
    have hI := hJ
    have s9 : (h4.1 97 10).toInt = (h.1 97 10).toInt := by rw [(f8 97 (by decide)).1]
    have s10 : (h4.1 97 0).toInt = (h.1 97 0).toInt := by rw [(f8 97 (by decide)).1]
    show RUN d_X9_worst 4 [(0, .inr (.inr (.inl 96)))] [.inl x6] h4 _
    refine N_if_ne (a := x6.toInt) 10 rfl rfl rfl (fun c11 => ?_) (fun c11 => ?_)
    · exfalso; omega
    · refine R_bipush (-2) rfl rfl ?_
      exact R_iret rfl rfl rfl ⟨hI, fr, trivial, _, rfl, by rw [show ((-2) : Int32).toInt = (-2) from rfl] <;> omega⟩
  · have f12 := fj
    have fr := fr.trans fj (by decide)
    have hI := hJ
    have s13 : (h4.1 97 10).toInt = (h.1 97 10).toInt := by rw [(f12 97 (by decide)).1]
    have s14 : (h4.1 97 0).toInt = (h.1 97 0).toInt := by rw [(f12 97 (by decide)).1]
    show RUN d_X9_worst 4 [(0, .inr (.inr (.inl 96)))] [.inl x6] h4 _
    refine N_if_ne (a := x6.toInt) 10 rfl rfl rfl (fun c15 => ?_) (fun c15 => ?_)
    · refine R_aload_n (k := 0) rfl rfl rfl ?_
      refine R_aload_n (k := 0) rfl rfl rfl ?_
      refine R_getf_r (j := 1) rfl ft_9_9 sh_96 rfl ?_
      refine R_bipush 7 rfl rfl ?_
      refine R_iald rfl sh_97 (by decide) ?_
      show RUN d_X9_worst 18 [(0, .inr (.inr (.inl 96)))] [.inl (h4.1 97 7), .inr (.inr (.inl 96))] h4 _
      refine R_callV (v := .inr (.inr (.inl 96))) (As := [.inl (h4.1 97 7)]) (rest := []) rfl mt_9_i345 pp_X9_goFire (by decide) rfl rfl rfl (Nat.le_of_ble_eq_true rfl) (Nat.le_of_ble_eq_true rfl) ((k_X9_goFire h4 hI (h4.1 97 7)).mono (fun r16 h17 p18 => ?_))
      obtain ⟨hJ, fj, -, x19, rfl, q20⟩ := p18
      have f21 := fj
      have fr := fr.trans fj (by decide)
      have hI := hJ
      have s22 : (h17.1 97 10).toInt = (h4.1 97 10).toInt := by rw [(f21 97 (by decide)).1]
      have s23 : (h17.1 97 0).toInt = (h4.1 97 0).toInt := by rw [(f21 97 (by decide)).1]
      have s24 : (h17.1 97 7).toInt = (h4.1 97 7).toInt := by rw [(f21 97 (by decide)).1]
      show RUN d_X9_worst 21 [(0, .inr (.inr (.inl 96)))] [.inl x19] h17 _
      refine R_pop_i rfl ?_
      refine R_iconst 0 rfl rfl ?_
      refine R_istore_n (k := 1) rfl [(1, .inl 0), (0, .inr (.inr (.inl 96)))] rfl rfl (by decide) ?_
      refine R_iconst 0 rfl rfl ?_
      refine R_istore_n (k := 2) rfl [(2, .inl 0), (1, .inl 0), (0, .inr (.inr (.inl 96)))] rfl rfl (by decide) ?_
      have lp26 : ∀ (n25 : Nat) (x27 : Int32) (x28 : Int32), 0 ≤ x27.toInt → 0 ≤ x28.toInt ∧ x28.toInt ≤ 60 → (60 - x28.toInt).toNat < n25 → RUN d_X9_worst 26 [(2, .inl x28), (1, .inl x27), (0, .inr (.inr (.inl 96)))] [] h17 (q_X9_worst h) := by
        intro n25
        induction n25 with
        | zero => intro x27 x28 m30 m31 hz; exact absurd hz (Nat.not_lt_zero _)
        | succ n25 ih29 =>
          intro x27 x28 m30 m31 hz
          refine R_iload_n (k := 2) rfl rfl rfl ?_
          refine R_aload_n (k := 0) rfl rfl rfl ?_
          refine R_callV (v := .inr (.inr (.inl 96))) (As := []) (rest := [.inl x28]) rfl mt_9_i129 pp_X9_last (by decide) rfl rfl rfl (Nat.le_of_ble_eq_true rfl) (Nat.le_of_ble_eq_true rfl) ((k_X9_last h17 hI).mono (fun r32 h33 p34 => ?_))
          obtain ⟨rfl, x35, rfl, q36⟩ := p34
          show RUN d_X9_worst 31 [(2, .inl x28), (1, .inl x27), (0, .inr (.inr (.inl 96)))] [.inl x35, .inl x28] h17 _
          refine N_icmp_gt (a := x28.toInt) (b := x35.toInt) 51 rfl rfl rfl rfl (fun c37 => ?_) (fun c37 => ?_)
          · refine R_iload_n (k := 1) rfl rfl rfl ?_
            have b38 := i_rng x27
            exact R_iret rfl rfl rfl ⟨hI, fr, trivial, _, rfl, by omega⟩
          · refine R_iload_n (k := 1) rfl rfl rfl ?_
            refine R_aload_n (k := 0) rfl rfl rfl ?_
            refine R_getf_r (j := 38) rfl ft_9_85 sh_96 rfl ?_
            refine R_iload_n (k := 2) rfl rfl rfl ?_
            refine R_iald rfl sh_120 ⟨by omega, by omega⟩ ?_
            refine N_any (fun x39 => ?_)
            refine N_max (a := x27.toInt) (b := x39.toInt) rfl mt_9_i339 rfl rfl ⟨by decide, by decide, Nat.le_of_ble_eq_true rfl⟩ (fun x40 q41 => ?_)
            refine R_istore_n (k := 1) rfl [(1, .inl x40), (2, .inl x28), (0, .inr (.inr (.inl 96)))] rfl rfl (by decide) ?_
            refine N_iinc (a := x28.toInt) (c := 1) (fun w => [(2, .inl w), (1, .inl x40), (0, .inr (.inr (.inl 96)))]) rfl rfl (fun _ => rfl) (by decide) rfl (by decide) (by omega) (fun x42 q43 => ?_)
            refine R_goto 26 rfl rfl ?_
            have b44 := i_rng x40
            exact RUN_weak (psub_cons rfl (psub_cons rfl (psub_cons rfl (psub_nil _)))) (ih29 x40 x42 (by omega) (by omega) (by omega))
      exact lp26 _ (0 : Int32) (0 : Int32) (by decide) (by decide) (Nat.lt_succ_self _)
    · exfalso; omega
abbrev q_X8_when (h : PH) (a0 : Int32) : Option PV → PH → Prop := fun r h' => INV h' ∧ FR [0, 70, 71, 72, 73, 74, 75, 76, 77, 78, 79, 80, 81, 82, 83, 84, 85, 86] h h' ∧ (True) ∧ ∃ z : Int32, r = some (.inl z) ∧ (((-2) ≤ z.toInt ∧ z.toInt ≤ 59))
set_option maxHeartbeats 4000000 in
set_option maxRecDepth 100000 in
theorem k_X8_when (h : PH) (hI : INV h) (a0 : Int32) : CALL d_X8_when [.inr (.inr (.inl 0)), .inl a0] h (q_X8_when h a0) := by
  show RUN d_X8_when 0 [(0, .inr (.inr (.inl 0))), (1, .inl a0)] [] h _
  have b1 := i_rng a0
  have fr : FR [0, 70, 71, 72, 73, 74, 75, 76, 77, 78, 79, 80, 81, 82, 83, 84, 85, 86] h h := FR.rf _ _
  refine R_iload_n (k := 1) rfl rfl rfl ?_
  refine N_if_lt (a := a0.toInt) 14 rfl rfl rfl (fun c2 => ?_) (fun c2 => ?_)
  · refine R_bipush (-2) rfl rfl ?_
    exact R_iret rfl rfl rfl ⟨hI, fr, trivial, _, rfl, by rw [show ((-2) : Int32).toInt = (-2) from rfl] <;> omega⟩
  · refine R_aload_n (k := 0) rfl rfl rfl ?_
    refine R_getf_r (j := 3) rfl ft_8_28 sh_0 rfl ?_
    have b3 : (0 : Int) ≤ (h.1 17 0).toInt ∧ (h.1 17 0).toInt ≤ 60 := hI.1 17 0
    have e4 : 0 < (h.1 17 10).toInt → 1 ≤ (h.1 17 0).toInt := hI.2.1
    refine R_callV (v := .inr (.inr (.inl 16))) (As := []) (rest := []) rfl mt_8_i146 pp_X1_stands (by decide) rfl rfl rfl (Nat.le_of_ble_eq_true rfl) (Nat.le_of_ble_eq_true rfl) ((k_X1_stands h hI).mono (fun r5 h6 p7 => ?_))
    obtain ⟨rfl, x8, rfl, q9 | q9⟩ := p7
    · show RUN d_X8_when 11 [(0, .inr (.inr (.inl 0))), (1, .inl a0)] [.inl x8] h _
      refine N_if_ne (a := x8.toInt) 17 rfl rfl rfl (fun c10 => ?_) (fun c10 => ?_)
      · exfalso; omega
      · refine R_bipush (-2) rfl rfl ?_
        exact R_iret rfl rfl rfl ⟨hI, fr, trivial, _, rfl, by rw [show ((-2) : Int32).toInt = (-2) from rfl] <;> omega⟩
    · show RUN d_X8_when 11 [(0, .inr (.inr (.inl 0))), (1, .inl a0)] [.inl x8] h _
      refine N_if_ne (a := x8.toInt) 17 rfl rfl rfl (fun c11 => ?_) (fun c11 => ?_)
      · refine R_aload_n (k := 0) rfl rfl rfl ?_
        refine R_callV (v := .inr (.inr (.inl 0))) (As := []) (rest := []) rfl mt_8_i153 pp_X8_told (by decide) rfl rfl rfl (Nat.le_of_ble_eq_true rfl) (Nat.le_of_ble_eq_true rfl) ((k_X8_told h hI).mono (fun r12 h13 p14 => ?_))
        obtain ⟨hJ, fj, -, rfl⟩ := p14
        have f15 := fj
        have fr := fr.trans fj (by decide)
        have hI := hJ
        have s16 : (h13.1 17 10).toInt = (h.1 17 10).toInt := by rw [(f15 17 (by decide)).1]
        have s17 : (h13.1 17 0).toInt = (h.1 17 0).toInt := by rw [(f15 17 (by decide)).1]
        show RUN d_X8_when 21 [(0, .inr (.inr (.inl 0))), (1, .inl a0)] [.inr (.inr (.inl 75))] h13 _
        refine R_getf_r (j := 7) rfl ft_8_187 sh_75 rfl ?_
        refine R_astore_n (k := 2) rfl [(2, .inr (.inr (.inl 83))), (0, .inr (.inr (.inl 0))), (1, .inl a0)] rfl rfl (by decide) ?_
        refine R_iconst 0 rfl rfl ?_
        refine R_istore_n (k := 3) rfl [(3, .inl 0), (2, .inr (.inr (.inl 83))), (0, .inr (.inr (.inl 0))), (1, .inl a0)] rfl rfl (by decide) ?_
        have lp19 : ∀ (n18 : Nat) (x20 : Int32), 0 ≤ x20.toInt ∧ x20.toInt ≤ 60 → (60 - x20.toInt).toNat < n18 → RUN d_X8_when 27 [(3, .inl x20), (2, .inr (.inr (.inl 83))), (0, .inr (.inr (.inl 0))), (1, .inl a0)] [] h13 (q_X8_when h a0) := by
          intro n18
          induction n18 with
          | zero => intro x20 m22 hz; exact absurd hz (Nat.not_lt_zero _)
          | succ n18 ih21 =>
            intro x20 m22 hz
            refine R_iload_n (k := 3) rfl rfl rfl ?_
            refine R_aload_n (k := 0) rfl rfl rfl ?_
            refine R_getf_r (j := 3) rfl ft_8_28 sh_0 rfl ?_
            refine R_getf_r (j := 0) rfl ft_8_109 sh_16 rfl ?_
            refine R_iconst 0 rfl rfl ?_
            refine R_iald rfl sh_17 (by decide) ?_
            show RUN d_X8_when 37 [(3, .inl x20), (2, .inr (.inr (.inl 83))), (0, .inr (.inr (.inl 0))), (1, .inl a0)] [.inl (h13.1 17 0), .inl x20] h13 _
            refine N_icmp_ge (a := x20.toInt) (b := (h13.1 17 0).toInt) 55 rfl rfl rfl rfl (fun c23 => ?_) (fun c23 => ?_)
            · refine R_iconst (-1) rfl rfl ?_
              exact R_iret rfl rfl rfl ⟨hI, fr, trivial, _, rfl, by rw [show ((-1) : Int32).toInt = (-1) from rfl] <;> omega⟩
            · refine R_aload_n (k := 2) rfl rfl rfl ?_
              refine R_iload_n (k := 3) rfl rfl rfl ?_
              refine R_iald rfl sh_83 ⟨by omega, by omega⟩ ?_
              refine N_any (fun x24 => ?_)
              refine R_iload_n (k := 1) rfl rfl rfl ?_
              refine N_icmp_le (a := x24.toInt) (b := a0.toInt) 49 rfl rfl rfl rfl (fun c25 => ?_) (fun c25 => ?_)
              · refine N_iinc (a := x20.toInt) (c := 1) (fun w => [(3, .inl w), (2, .inr (.inr (.inl 83))), (0, .inr (.inr (.inl 0))), (1, .inl a0)]) rfl rfl (fun _ => rfl) (by decide) rfl (by decide) (by omega) (fun x26 q27 => ?_)
                refine R_goto 27 rfl rfl ?_
                exact RUN_weak (psub_cons rfl (psub_cons rfl (psub_cons rfl (psub_cons rfl (psub_nil _))))) (ih21 x26 (by omega) (by omega))
              · refine R_iload_n (k := 3) rfl rfl rfl ?_
                exact R_iret rfl rfl rfl ⟨hI, fr, trivial, _, rfl, by omega⟩
        exact lp19 _ (0 : Int32) (by decide) (Nat.lt_succ_self _)
      · exfalso; omega
abbrev q_X9_when (h : PH) (a0 : Int32) : Option PV → PH → Prop := fun r h' => INV h' ∧ FR [96, 103, 104, 105, 106, 107, 108, 109, 110, 111, 112, 113, 114, 115, 116, 117, 118, 119] h h' ∧ (True) ∧ ∃ z : Int32, r = some (.inl z) ∧ (((-2) ≤ z.toInt ∧ z.toInt ≤ 59))
set_option maxHeartbeats 4000000 in
set_option maxRecDepth 100000 in
theorem k_X9_when (h : PH) (hI : INV h) (a0 : Int32) : CALL d_X9_when [.inr (.inr (.inl 96)), .inl a0] h (q_X9_when h a0) := by
  show RUN d_X9_when 0 [(0, .inr (.inr (.inl 96))), (1, .inl a0)] [] h _
  have b1 := i_rng a0
  have fr : FR [96, 103, 104, 105, 106, 107, 108, 109, 110, 111, 112, 113, 114, 115, 116, 117, 118, 119] h h := FR.rf _ _
  refine R_aload_n (k := 0) rfl rfl rfl ?_
  have b2 : (0 : Int) ≤ (h.1 97 0).toInt ∧ (h.1 97 0).toInt ≤ 60 := hI.1 97 0
  have e3 : 0 < (h.1 97 10).toInt → 1 ≤ (h.1 97 0).toInt := hI.2.2.2.2.2.1.2.1
  refine R_callV (v := .inr (.inr (.inl 96))) (As := []) (rest := []) rfl mt_9_i307 pp_X9_asksBrigade (by decide) rfl rfl rfl (Nat.le_of_ble_eq_true rfl) (Nat.le_of_ble_eq_true rfl) ((k_X9_asksBrigade h hI).mono (fun r4 h5 p6 => ?_))
  obtain ⟨hJ, fj, -, x7, rfl, q8 | q8⟩ := p6
  · have f9 := fj
    have fr := fr.trans fj (by decide)
    have hI := hJ
    have s10 : (h5.1 97 10).toInt = (h.1 97 10).toInt := by rw [(f9 97 (by decide)).1]
    have s11 : (h5.1 97 0).toInt = (h.1 97 0).toInt := by rw [(f9 97 (by decide)).1]
    show RUN d_X9_when 4 [(0, .inr (.inr (.inl 96))), (1, .inl a0)] [.inl x7] h5 _
    refine N_if_eq (a := x7.toInt) 11 rfl rfl rfl (fun c12 => ?_) (fun c12 => ?_)
    · refine R_bipush (-2) rfl rfl ?_
      exact R_iret rfl rfl rfl ⟨hI, fr, trivial, _, rfl, by rw [show ((-2) : Int32).toInt = (-2) from rfl] <;> omega⟩
    · exfalso; omega
  · have f13 := fj
    have fr := fr.trans fj (by decide)
    have hI := hJ
    have s14 : (h5.1 97 10).toInt = (h.1 97 10).toInt := by rw [(f13 97 (by decide)).1]
    have s15 : (h5.1 97 0).toInt = (h.1 97 0).toInt := by rw [(f13 97 (by decide)).1]
    show RUN d_X9_when 4 [(0, .inr (.inr (.inl 96))), (1, .inl a0)] [.inl x7] h5 _
    refine N_if_eq (a := x7.toInt) 11 rfl rfl rfl (fun c16 => ?_) (fun c16 => ?_)
    · exfalso; omega
    · refine R_iload_n (k := 1) rfl rfl rfl ?_
      refine N_if_ge (a := a0.toInt) 14 rfl rfl rfl (fun c17 => ?_) (fun c17 => ?_)
      · refine R_iconst 0 rfl rfl ?_
        refine R_istore_n (k := 2) rfl [(2, .inl 0), (0, .inr (.inr (.inl 96))), (1, .inl a0)] rfl rfl (by decide) ?_
        have lp19 : ∀ (n18 : Nat) (x20 : Int32), 0 ≤ x20.toInt ∧ x20.toInt ≤ 60 → (60 - x20.toInt).toNat < n18 → RUN d_X9_when 16 [(2, .inl x20), (0, .inr (.inr (.inl 96))), (1, .inl a0)] [] h5 (q_X9_when h a0) := by
          intro n18
          induction n18 with
          | zero => intro x20 m22 hz; exact absurd hz (Nat.not_lt_zero _)
          | succ n18 ih21 =>
            intro x20 m22 hz
            refine R_iload_n (k := 2) rfl rfl rfl ?_
            refine R_aload_n (k := 0) rfl rfl rfl ?_
            refine R_callV (v := .inr (.inr (.inl 96))) (As := []) (rest := [.inl x20]) rfl mt_9_i129 pp_X9_last (by decide) rfl rfl rfl (Nat.le_of_ble_eq_true rfl) (Nat.le_of_ble_eq_true rfl) ((k_X9_last h5 hI).mono (fun r23 h24 p25 => ?_))
            obtain ⟨rfl, x26, rfl, q27⟩ := p25
            show RUN d_X9_when 21 [(2, .inl x20), (0, .inr (.inr (.inl 96))), (1, .inl a0)] [.inl x26, .inl x20] h5 _
            refine N_icmp_gt (a := x20.toInt) (b := x26.toInt) 42 rfl rfl rfl rfl (fun c28 => ?_) (fun c28 => ?_)
            · refine R_iconst (-1) rfl rfl ?_
              exact R_iret rfl rfl rfl ⟨hI, fr, trivial, _, rfl, by rw [show ((-1) : Int32).toInt = (-1) from rfl] <;> omega⟩
            · refine R_aload_n (k := 0) rfl rfl rfl ?_
              refine R_getf_r (j := 28) rfl ft_9_64 sh_96 rfl ?_
              refine R_iload_n (k := 2) rfl rfl rfl ?_
              refine R_iald rfl sh_113 ⟨by omega, by omega⟩ ?_
              refine N_any (fun x29 => ?_)
              refine R_iload_n (k := 1) rfl rfl rfl ?_
              refine N_icmp_le (a := x29.toInt) (b := a0.toInt) 36 rfl rfl rfl rfl (fun c30 => ?_) (fun c30 => ?_)
              · refine N_iinc (a := x20.toInt) (c := 1) (fun w => [(2, .inl w), (0, .inr (.inr (.inl 96))), (1, .inl a0)]) rfl rfl (fun _ => rfl) (by decide) rfl (by decide) (by omega) (fun x31 q32 => ?_)
                refine R_goto 16 rfl rfl ?_
                exact RUN_weak (psub_cons rfl (psub_cons rfl (psub_cons rfl (psub_nil _)))) (ih21 x31 (by omega) (by omega))
              · refine R_iload_n (k := 2) rfl rfl rfl ?_
                exact R_iret rfl rfl rfl ⟨hI, fr, trivial, _, rfl, by omega⟩
        exact lp19 _ (0 : Int32) (by decide) (Nat.lt_succ_self _)
      · refine R_bipush (-2) rfl rfl ?_
        exact R_iret rfl rfl rfl ⟨hI, fr, trivial, _, rfl, by rw [show ((-2) : Int32).toInt = (-2) from rfl] <;> omega⟩
abbrev q_X8_gap (h : PH)  : Option PV → PH → Prop := fun r h' => INV h' ∧ FR [0, 70, 71, 72, 73, 74, 75, 76, 77, 78, 79, 80, 81, 82, 83, 84, 85, 86] h h' ∧ (True) ∧ ∃ z : Int32, r = some (.inl z) ∧ (((-2) ≤ z.toInt ∧ z.toInt ≤ 2147483647))
set_option maxHeartbeats 4000000 in
set_option maxRecDepth 100000 in
theorem k_X8_gap (h : PH) (hI : INV h)  : CALL d_X8_gap [.inr (.inr (.inl 0))] h (q_X8_gap h) := by
  show RUN d_X8_gap 0 [(0, .inr (.inr (.inl 0)))] [] h _
  have fr : FR [0, 70, 71, 72, 73, 74, 75, 76, 77, 78, 79, 80, 81, 82, 83, 84, 85, 86] h h := FR.rf _ _
  refine R_aload_n (k := 0) rfl rfl rfl ?_
  refine R_getf_r (j := 3) rfl ft_8_28 sh_0 rfl ?_
  have b1 : (0 : Int) ≤ (h.1 17 0).toInt ∧ (h.1 17 0).toInt ≤ 60 := hI.1 17 0
  have e2 : 0 < (h.1 17 10).toInt → 1 ≤ (h.1 17 0).toInt := hI.2.1
  refine R_callV (v := .inr (.inr (.inl 16))) (As := []) (rest := []) rfl mt_8_i146 pp_X1_stands (by decide) rfl rfl rfl (Nat.le_of_ble_eq_true rfl) (Nat.le_of_ble_eq_true rfl) ((k_X1_stands h hI).mono (fun r3 h4 p5 => ?_))
  obtain ⟨rfl, x6, rfl, q7 | q7⟩ := p5
  · show RUN d_X8_gap 7 [(0, .inr (.inr (.inl 0)))] [.inl x6] h _
    refine N_if_ne (a := x6.toInt) 13 rfl rfl rfl (fun c8 => ?_) (fun c8 => ?_)
    · exfalso; omega
    · refine R_bipush (-2) rfl rfl ?_
      exact R_iret rfl rfl rfl ⟨hI, fr, trivial, _, rfl, by rw [show ((-2) : Int32).toInt = (-2) from rfl] <;> omega⟩
  · show RUN d_X8_gap 7 [(0, .inr (.inr (.inl 0)))] [.inl x6] h _
    refine N_if_ne (a := x6.toInt) 13 rfl rfl rfl (fun c9 => ?_) (fun c9 => ?_)
    · refine R_aload_n (k := 0) rfl rfl rfl ?_
      refine R_callV (v := .inr (.inr (.inl 0))) (As := []) (rest := []) rfl mt_8_i153 pp_X8_told (by decide) rfl rfl rfl (Nat.le_of_ble_eq_true rfl) (Nat.le_of_ble_eq_true rfl) ((k_X8_told h hI).mono (fun r10 h11 p12 => ?_))
      obtain ⟨hJ, fj, -, rfl⟩ := p12
      have f13 := fj
      have fr := fr.trans fj (by decide)
      have hI := hJ
      have s14 : (h11.1 17 10).toInt = (h.1 17 10).toInt := by rw [(f13 17 (by decide)).1]
      have s15 : (h11.1 17 0).toInt = (h.1 17 0).toInt := by rw [(f13 17 (by decide)).1]
      show RUN d_X8_gap 17 [(0, .inr (.inr (.inl 0)))] [.inr (.inr (.inl 75))] h11 _
      refine R_getf_l (j := 11) rfl ft_8_212 sh_75 rfl ?_
      refine N_anyL (fun w16 => ?_)
      refine R_lstore_n (k := 1) rfl [(1, .inr (.inl w16)), (0, .inr (.inr (.inl 0)))] rfl rfl (by decide) ?_
      refine R_iconst 0 rfl rfl ?_
      refine R_istore_n (k := 3) rfl [(3, .inl 0), (1, .inr (.inl w16)), (0, .inr (.inr (.inl 0)))] rfl rfl (by decide) ?_
      refine R_iconst 0 rfl rfl ?_
      refine R_istore (k := 4) [(4, .inl 0), (3, .inl 0), (1, .inr (.inl w16)), (0, .inr (.inr (.inl 0)))] rfl rfl (by decide) ?_
      refine R_iconst 0 rfl rfl ?_
      refine R_istore (k := 5) [(5, .inl 0), (4, .inl 0), (3, .inl 0), (1, .inr (.inl w16)), (0, .inr (.inr (.inl 0)))] rfl rfl (by decide) ?_
      have lp18 : ∀ (n17 : Nat) (x19 : Int32) (x20 : Int32) (x21 : Int32), (-56) ≤ x19.toInt ∧ x19.toInt ≤ 60 → 0 ≤ x20.toInt → 0 ≤ x21.toInt ∧ x21.toInt ≤ 60 → x19.toInt ≤ x21.toInt + 0 → (h11.1 17 0).toInt ≤ x19.toInt + 60 → (60 - x21.toInt).toNat < n17 → RUN d_X8_gap 29 [(5, .inl x21), (4, .inl x19), (3, .inl x20), (1, .inr (.inl w16)), (0, .inr (.inr (.inl 0)))] [] h11 (q_X8_gap h) := by
        intro n17
        induction n17 with
        | zero => intro x19 x20 x21 m23 m24 m25 m26 m27 hz; exact absurd hz (Nat.not_lt_zero _)
        | succ n17 ih22 =>
          intro x19 x20 x21 m23 m24 m25 m26 m27 hz
          refine R_iload (k := 5) rfl rfl ?_
          refine R_aload_n (k := 0) rfl rfl rfl ?_
          refine R_getf_r (j := 3) rfl ft_8_28 sh_0 rfl ?_
          refine R_getf_r (j := 0) rfl ft_8_109 sh_16 rfl ?_
          refine R_iconst 0 rfl rfl ?_
          refine R_iald rfl sh_17 (by decide) ?_
          show RUN d_X8_gap 40 [(5, .inl x21), (4, .inl x19), (3, .inl x20), (1, .inr (.inl w16)), (0, .inr (.inr (.inl 0)))] [.inl (h11.1 17 0), .inl x21] h11 _
          refine N_icmp_ge (a := x21.toInt) (b := (h11.1 17 0).toInt) 75 rfl rfl rfl rfl (fun c28 => ?_) (fun c28 => ?_)
          · refine R_iload_n (k := 3) rfl rfl rfl ?_
            have b29 := i_rng x20
            exact R_iret rfl rfl rfl ⟨hI, fr, trivial, _, rfl, by omega⟩
          · refine R_lload_n (k := 1) rfl rfl rfl ?_
            refine R_iload (k := 5) rfl rfl ?_
            refine R_callS (As := [.inr (.inl w16), .inl x21]) (rest := []) rfl mt_8_i160 (by decide) pp_X8_hasBit (by decide) rfl rfl (Nat.le_of_ble_eq_true rfl) (Nat.le_of_ble_eq_true rfl) ((k_X8_hasBit h11 hI w16 x21).mono (fun r30 h31 p32 => ?_))
            obtain ⟨rfl, x33, rfl, q34 | q34⟩ := p32
            · show RUN d_X8_gap 49 [(5, .inl x21), (4, .inl x19), (3, .inl x20), (1, .inr (.inl w16)), (0, .inr (.inr (.inl 0)))] [.inl x33] h11 _
              refine N_if_eq (a := x33.toInt) 56 rfl rfl rfl (fun c35 => ?_) (fun c35 => ?_)
              · refine R_iload (k := 4) rfl rfl ?_
                refine R_iconst 1 rfl rfl ?_
                refine N_iadd (a := x19.toInt) (b := 1) rfl rfl (by decide) (by omega) (fun x36 q37 => ?_)
                refine R_istore (k := 4) [(4, .inl x36), (5, .inl x21), (3, .inl x20), (1, .inr (.inl w16)), (0, .inr (.inr (.inl 0)))] rfl rfl (by decide) ?_
                refine R_iload_n (k := 3) rfl rfl rfl ?_
                refine R_iload (k := 4) rfl rfl ?_
                refine N_max (a := x20.toInt) (b := x36.toInt) rfl mt_8_i223 rfl rfl ⟨by decide, by decide, Nat.le_of_ble_eq_true rfl⟩ (fun x38 q39 => ?_)
                refine R_istore_n (k := 3) rfl [(3, .inl x38), (4, .inl x36), (5, .inl x21), (1, .inr (.inl w16)), (0, .inr (.inr (.inl 0)))] rfl rfl (by decide) ?_
                refine N_iinc (a := x21.toInt) (c := 1) (fun w => [(5, .inl w), (3, .inl x38), (4, .inl x36), (1, .inr (.inl w16)), (0, .inr (.inr (.inl 0)))]) rfl rfl (fun _ => rfl) (by decide) rfl (by decide) (by omega) (fun x40 q41 => ?_)
                refine R_goto 29 rfl rfl ?_
                have b42 := i_rng x38
                exact RUN_weak (psub_cons rfl (psub_cons rfl (psub_cons rfl (psub_cons rfl (psub_cons rfl (psub_nil _)))))) (ih22 x36 x38 x40 (by omega) (by omega) (by omega) (by omega) (by omega) (by omega))
              · exfalso; omega
            · show RUN d_X8_gap 49 [(5, .inl x21), (4, .inl x19), (3, .inl x20), (1, .inr (.inl w16)), (0, .inr (.inr (.inl 0)))] [.inl x33] h11 _
              refine N_if_eq (a := x33.toInt) 56 rfl rfl rfl (fun c43 => ?_) (fun c43 => ?_)
              · exfalso; omega
              · refine R_iconst 0 rfl rfl ?_
                refine R_goto 60 rfl rfl ?_
                refine R_istore (k := 4) [(4, .inl 0), (5, .inl x21), (3, .inl x20), (1, .inr (.inl w16)), (0, .inr (.inr (.inl 0)))] rfl rfl (by decide) ?_
                refine R_iload_n (k := 3) rfl rfl rfl ?_
                refine R_iload (k := 4) rfl rfl ?_
                refine N_max (a := x20.toInt) (b := 0) rfl mt_8_i223 rfl (by decide) ⟨by decide, by decide, Nat.le_of_ble_eq_true rfl⟩ (fun x44 q45 => ?_)
                refine R_istore_n (k := 3) rfl [(3, .inl x44), (4, .inl 0), (5, .inl x21), (1, .inr (.inl w16)), (0, .inr (.inr (.inl 0)))] rfl rfl (by decide) ?_
                refine N_iinc (a := x21.toInt) (c := 1) (fun w => [(5, .inl w), (3, .inl x44), (4, .inl 0), (1, .inr (.inl w16)), (0, .inr (.inr (.inl 0)))]) rfl rfl (fun _ => rfl) (by decide) rfl (by decide) (by omega) (fun x46 q47 => ?_)
                refine R_goto 29 rfl rfl ?_
                have k48 : (0 : Int32).toInt = 0 := by decide
                have b49 := i_rng x44
                exact RUN_weak (psub_cons rfl (psub_cons rfl (psub_cons rfl (psub_cons rfl (psub_cons rfl (psub_nil _)))))) (ih22 (0 : Int32) x44 x46 (by decide) (by omega) (by omega) (by omega) (by omega) (by omega))
      have k50 : (0 : Int32).toInt = 0 := by decide
      have k51 : (0 : Int32).toInt = 0 := by decide
      have k52 : (0 : Int32).toInt = 0 := by decide
      exact lp18 _ (0 : Int32) (0 : Int32) (0 : Int32) (by decide) (by decide) (by decide) (by omega) (by omega) (Nat.lt_succ_self _)
    · exfalso; omega
abbrev q_X9_gap (h : PH)  : Option PV → PH → Prop := fun r h' => INV h' ∧ FR [96, 103, 104, 105, 106, 107, 108, 109, 110, 111, 112, 113, 114, 115, 116, 117, 118, 119] h h' ∧ (True) ∧ ∃ z : Int32, r = some (.inl z) ∧ (((-2) ≤ z.toInt ∧ z.toInt ≤ 2147483647))
set_option maxHeartbeats 4000000 in
set_option maxRecDepth 100000 in
theorem k_X9_gap (h : PH) (hI : INV h)  : CALL d_X9_gap [.inr (.inr (.inl 96))] h (q_X9_gap h) := by
  show RUN d_X9_gap 0 [(0, .inr (.inr (.inl 96)))] [] h _
  have fr : FR [96, 103, 104, 105, 106, 107, 108, 109, 110, 111, 112, 113, 114, 115, 116, 117, 118, 119] h h := FR.rf _ _
  refine R_aload_n (k := 0) rfl rfl rfl ?_
  have b1 : (0 : Int) ≤ (h.1 97 0).toInt ∧ (h.1 97 0).toInt ≤ 60 := hI.1 97 0
  have e2 : 0 < (h.1 97 10).toInt → 1 ≤ (h.1 97 0).toInt := hI.2.2.2.2.2.1.2.1
  refine R_callV (v := .inr (.inr (.inl 96))) (As := []) (rest := []) rfl mt_9_i307 pp_X9_asksBrigade (by decide) rfl rfl rfl (Nat.le_of_ble_eq_true rfl) (Nat.le_of_ble_eq_true rfl) ((k_X9_asksBrigade h hI).mono (fun r3 h4 p5 => ?_))
  obtain ⟨hJ, fj, -, x6, rfl, q7 | q7⟩ := p5
  · have f8 := fj
    have fr := fr.trans fj (by decide)
    have hI := hJ
    have s9 : (h4.1 97 10).toInt = (h.1 97 10).toInt := by rw [(f8 97 (by decide)).1]
    have s10 : (h4.1 97 0).toInt = (h.1 97 0).toInt := by rw [(f8 97 (by decide)).1]
    show RUN d_X9_gap 4 [(0, .inr (.inr (.inl 96)))] [.inl x6] h4 _
    refine N_if_ne (a := x6.toInt) 10 rfl rfl rfl (fun c11 => ?_) (fun c11 => ?_)
    · exfalso; omega
    · refine R_bipush (-2) rfl rfl ?_
      exact R_iret rfl rfl rfl ⟨hI, fr, trivial, _, rfl, by rw [show ((-2) : Int32).toInt = (-2) from rfl] <;> omega⟩
  · have f12 := fj
    have fr := fr.trans fj (by decide)
    have hI := hJ
    have s13 : (h4.1 97 10).toInt = (h.1 97 10).toInt := by rw [(f12 97 (by decide)).1]
    have s14 : (h4.1 97 0).toInt = (h.1 97 0).toInt := by rw [(f12 97 (by decide)).1]
    show RUN d_X9_gap 4 [(0, .inr (.inr (.inl 96)))] [.inl x6] h4 _
    refine N_if_ne (a := x6.toInt) 10 rfl rfl rfl (fun c15 => ?_) (fun c15 => ?_)
    · refine R_iconst 0 rfl rfl ?_
      refine R_istore_n (k := 1) rfl [(1, .inl 0), (0, .inr (.inr (.inl 96)))] rfl rfl (by decide) ?_
      refine R_iconst 0 rfl rfl ?_
      refine R_istore_n (k := 2) rfl [(2, .inl 0), (1, .inl 0), (0, .inr (.inr (.inl 96)))] rfl rfl (by decide) ?_
      refine R_iconst 0 rfl rfl ?_
      refine R_istore_n (k := 3) rfl [(3, .inl 0), (2, .inl 0), (1, .inl 0), (0, .inr (.inr (.inl 96)))] rfl rfl (by decide) ?_
      have lp17 : ∀ (n16 : Nat) (x18 : Int32) (x19 : Int32) (x20 : Int32), (-56) ≤ x18.toInt ∧ x18.toInt ≤ 60 → 0 ≤ x19.toInt → 0 ≤ x20.toInt ∧ x20.toInt ≤ 60 → x18.toInt ≤ x20.toInt + 0 → (h4.1 97 0).toInt ≤ x18.toInt + 60 → (60 - x20.toInt).toNat < n16 → RUN d_X9_gap 16 [(3, .inl x20), (2, .inl x18), (1, .inl x19), (0, .inr (.inr (.inl 96)))] [] h4 (q_X9_gap h) := by
        intro n16
        induction n16 with
        | zero => intro x18 x19 x20 m22 m23 m24 m25 m26 hz; exact absurd hz (Nat.not_lt_zero _)
        | succ n16 ih21 =>
          intro x18 x19 x20 m22 m23 m24 m25 m26 hz
          refine R_iload_n (k := 3) rfl rfl rfl ?_
          refine R_aload_n (k := 0) rfl rfl rfl ?_
          refine R_callV (v := .inr (.inr (.inl 96))) (As := []) (rest := [.inl x20]) rfl mt_9_i129 pp_X9_last (by decide) rfl rfl rfl (Nat.le_of_ble_eq_true rfl) (Nat.le_of_ble_eq_true rfl) ((k_X9_last h4 hI).mono (fun r27 h28 p29 => ?_))
          obtain ⟨rfl, x30, rfl, q31⟩ := p29
          show RUN d_X9_gap 21 [(3, .inl x20), (2, .inl x18), (1, .inl x19), (0, .inr (.inr (.inl 96)))] [.inl x30, .inl x20] h4 _
          refine N_icmp_gt (a := x20.toInt) (b := x30.toInt) 69 rfl rfl rfl rfl (fun c32 => ?_) (fun c32 => ?_)
          · refine R_iload_n (k := 1) rfl rfl rfl ?_
            have b33 := i_rng x19
            exact R_iret rfl rfl rfl ⟨hI, fr, trivial, _, rfl, by omega⟩
          · refine R_aload_n (k := 0) rfl rfl rfl ?_
            refine R_getf_r (j := 28) rfl ft_9_64 sh_96 rfl ?_
            refine R_iload_n (k := 3) rfl rfl rfl ?_
            refine R_iald rfl sh_113 ⟨by omega, by omega⟩ ?_
            refine N_any (fun x34 => ?_)
            refine R_iload_n (k := 3) rfl rfl rfl ?_
            refine N_if_ne (a := x20.toInt) 38 rfl rfl rfl (fun c35 => ?_) (fun c35 => ?_)
            · refine R_aload_n (k := 0) rfl rfl rfl ?_
              refine R_getf_r (j := 28) rfl ft_9_64 sh_96 rfl ?_
              refine R_iload_n (k := 3) rfl rfl rfl ?_
              refine R_iconst 1 rfl rfl ?_
              refine N_isub (a := x20.toInt) (b := 1) rfl rfl (by decide) (by omega) (fun x36 q37 => ?_)
              refine R_iald rfl sh_113 ⟨by omega, by omega⟩ ?_
              refine N_any (fun x38 => ?_)
              refine N_icmp_ne (a := x34.toInt) (b := x38.toInt) 55 rfl rfl rfl rfl (fun c39 => ?_) (fun c39 => ?_)
              · refine R_iconst 0 rfl rfl ?_
                refine R_istore_n (k := 2) rfl [(2, .inl 0), (3, .inl x20), (1, .inl x19), (0, .inr (.inr (.inl 96)))] rfl rfl (by decide) ?_
                refine R_iload_n (k := 1) rfl rfl rfl ?_
                refine R_iload_n (k := 2) rfl rfl rfl ?_
                refine N_max (a := x19.toInt) (b := 0) rfl mt_9_i339 rfl (by decide) ⟨by decide, by decide, Nat.le_of_ble_eq_true rfl⟩ (fun x40 q41 => ?_)
                refine R_istore_n (k := 1) rfl [(1, .inl x40), (2, .inl 0), (3, .inl x20), (0, .inr (.inr (.inl 96)))] rfl rfl (by decide) ?_
                refine N_iinc (a := x20.toInt) (c := 1) (fun w => [(3, .inl w), (1, .inl x40), (2, .inl 0), (0, .inr (.inr (.inl 96)))]) rfl rfl (fun _ => rfl) (by decide) rfl (by decide) (by omega) (fun x42 q43 => ?_)
                refine R_goto 16 rfl rfl ?_
                have k44 : (0 : Int32).toInt = 0 := by decide
                have b45 := i_rng x40
                exact RUN_weak (psub_cons rfl (psub_cons rfl (psub_cons rfl (psub_cons rfl (psub_nil _))))) (ih21 (0 : Int32) x40 x42 (by decide) (by omega) (by omega) (by omega) (by omega) (by omega))
              · refine R_iload_n (k := 2) rfl rfl rfl ?_
                refine R_iconst 1 rfl rfl ?_
                refine N_iadd (a := x18.toInt) (b := 1) rfl rfl (by decide) (by omega) (fun x46 q47 => ?_)
                refine R_goto 56 rfl rfl ?_
                refine R_istore_n (k := 2) rfl [(2, .inl x46), (3, .inl x20), (1, .inl x19), (0, .inr (.inr (.inl 96)))] rfl rfl (by decide) ?_
                refine R_iload_n (k := 1) rfl rfl rfl ?_
                refine R_iload_n (k := 2) rfl rfl rfl ?_
                refine N_max (a := x19.toInt) (b := x46.toInt) rfl mt_9_i339 rfl rfl ⟨by decide, by decide, Nat.le_of_ble_eq_true rfl⟩ (fun x48 q49 => ?_)
                refine R_istore_n (k := 1) rfl [(1, .inl x48), (2, .inl x46), (3, .inl x20), (0, .inr (.inr (.inl 96)))] rfl rfl (by decide) ?_
                refine N_iinc (a := x20.toInt) (c := 1) (fun w => [(3, .inl w), (1, .inl x48), (2, .inl x46), (0, .inr (.inr (.inl 96)))]) rfl rfl (fun _ => rfl) (by decide) rfl (by decide) (by omega) (fun x50 q51 => ?_)
                refine R_goto 16 rfl rfl ?_
                have b52 := i_rng x48
                exact RUN_weak (psub_cons rfl (psub_cons rfl (psub_cons rfl (psub_cons rfl (psub_nil _))))) (ih21 x46 x48 x50 (by omega) (by omega) (by omega) (by omega) (by omega) (by omega))
            · refine R_iconst 0 rfl rfl ?_
              refine R_goto 46 rfl rfl ?_
              refine N_icmp_ne (a := x34.toInt) (b := 0) 55 rfl rfl rfl (by decide) (fun c53 => ?_) (fun c53 => ?_)
              · refine R_iconst 0 rfl rfl ?_
                refine R_istore_n (k := 2) rfl [(2, .inl 0), (3, .inl x20), (1, .inl x19), (0, .inr (.inr (.inl 96)))] rfl rfl (by decide) ?_
                refine R_iload_n (k := 1) rfl rfl rfl ?_
                refine R_iload_n (k := 2) rfl rfl rfl ?_
                refine N_max (a := x19.toInt) (b := 0) rfl mt_9_i339 rfl (by decide) ⟨by decide, by decide, Nat.le_of_ble_eq_true rfl⟩ (fun x54 q55 => ?_)
                refine R_istore_n (k := 1) rfl [(1, .inl x54), (2, .inl 0), (3, .inl x20), (0, .inr (.inr (.inl 96)))] rfl rfl (by decide) ?_
                refine N_iinc (a := x20.toInt) (c := 1) (fun w => [(3, .inl w), (1, .inl x54), (2, .inl 0), (0, .inr (.inr (.inl 96)))]) rfl rfl (fun _ => rfl) (by decide) rfl (by decide) (by omega) (fun x56 q57 => ?_)
                refine R_goto 16 rfl rfl ?_
                have k58 : (0 : Int32).toInt = 0 := by decide
                have b59 := i_rng x54
                exact RUN_weak (psub_cons rfl (psub_cons rfl (psub_cons rfl (psub_cons rfl (psub_nil _))))) (ih21 (0 : Int32) x54 x56 (by decide) (by omega) (by omega) (by omega) (by omega) (by omega))
              · refine R_iload_n (k := 2) rfl rfl rfl ?_
                refine R_iconst 1 rfl rfl ?_
                refine N_iadd (a := x18.toInt) (b := 1) rfl rfl (by decide) (by omega) (fun x60 q61 => ?_)
                refine R_goto 56 rfl rfl ?_
                refine R_istore_n (k := 2) rfl [(2, .inl x60), (3, .inl x20), (1, .inl x19), (0, .inr (.inr (.inl 96)))] rfl rfl (by decide) ?_
                refine R_iload_n (k := 1) rfl rfl rfl ?_
                refine R_iload_n (k := 2) rfl rfl rfl ?_
                refine N_max (a := x19.toInt) (b := x60.toInt) rfl mt_9_i339 rfl rfl ⟨by decide, by decide, Nat.le_of_ble_eq_true rfl⟩ (fun x62 q63 => ?_)
                refine R_istore_n (k := 1) rfl [(1, .inl x62), (2, .inl x60), (3, .inl x20), (0, .inr (.inr (.inl 96)))] rfl rfl (by decide) ?_
                refine N_iinc (a := x20.toInt) (c := 1) (fun w => [(3, .inl w), (1, .inl x62), (2, .inl x60), (0, .inr (.inr (.inl 96)))]) rfl rfl (fun _ => rfl) (by decide) rfl (by decide) (by omega) (fun x64 q65 => ?_)
                refine R_goto 16 rfl rfl ?_
                have b66 := i_rng x62
                exact RUN_weak (psub_cons rfl (psub_cons rfl (psub_cons rfl (psub_cons rfl (psub_nil _))))) (ih21 x60 x62 x64 (by omega) (by omega) (by omega) (by omega) (by omega) (by omega))
      have k67 : (0 : Int32).toInt = 0 := by decide
      have k68 : (0 : Int32).toInt = 0 := by decide
      have k69 : (0 : Int32).toInt = 0 := by decide
      exact lp17 _ (0 : Int32) (0 : Int32) (0 : Int32) (by decide) (by decide) (by decide) (by omega) (by omega) (Nat.lt_succ_self _)
    · exfalso; omega
