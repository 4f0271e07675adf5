abbrev q_J0_length_8abf5_11 (h : PH)  : Option PV → PH → Prop := fun r h' => h = h' ∧ ∃ z : Int32, r = some (.inl z) ∧ ((z.toInt = 4))
set_option maxHeartbeats 4000000 in
set_option maxRecDepth 100000 in
theorem k_J0_length_8abf5_11 (h : PH) (hI : INV h)  : CALL d_J0_length_8abf5 [.inr (.inr (.inr 4))] h (q_J0_length_8abf5_11 h) := by
  show RUN d_J0_length_8abf5 0 [(0, .inr (.inr (.inr 4)))] [] h _
  refine R_aload_c (k := 0) rfl rfl rfl (by decide) ?_
  refine R_getf_c9 (i := 3) rfl rfl (by decide) ?_
  refine R_alen 4 rfl (by decide) rfl ?_
  refine R_aload_c (k := 0) rfl rfl rfl (by decide) ?_
  refine R_callV (v := .inr (.inr (.inr 4))) (As := []) (rest := [.inl 4]) rfl mt_12_i335 pp_J0_coder_7d493 (by decide) rfl rfl rfl (Nat.le_of_ble_eq_true rfl) (Nat.le_of_ble_eq_true rfl) ((k_J0_coder_7d493_11 h hI).mono (fun r1 h2 p3 => ?_))
  obtain ⟨rfl, x4, rfl, q5⟩ := p3
  show RUN d_J0_length_8abf5 9 [(0, .inr (.inr (.inr 4)))] [.inl x4, .inl 4] h _
  refine N_ishr0 (a := 4) rfl (by decide) (by omega) (fun x6 q7 => ?_)
  exact R_iret rfl rfl rfl ⟨rfl, _, rfl, by omega⟩
abbrev q_J0_length_8abf5_12 (h : PH)  : Option PV → PH → Prop := fun r h' => h = h' ∧ ∃ z : Int32, r = some (.inl z) ∧ ((z.toInt = 4))
set_option maxHeartbeats 4000000 in
set_option maxRecDepth 100000 in
theorem k_J0_length_8abf5_12 (h : PH) (hI : INV h)  : CALL d_J0_length_8abf5 [.inr (.inr (.inr 5))] h (q_J0_length_8abf5_12 h) := by
  show RUN d_J0_length_8abf5 0 [(0, .inr (.inr (.inr 5)))] [] h _
  refine R_aload_c (k := 0) rfl rfl rfl (by decide) ?_
  refine R_getf_c9 (i := 4) rfl rfl (by decide) ?_
  refine R_alen 4 rfl (by decide) rfl ?_
  refine R_aload_c (k := 0) rfl rfl rfl (by decide) ?_
  refine R_callV (v := .inr (.inr (.inr 5))) (As := []) (rest := [.inl 4]) rfl mt_12_i335 pp_J0_coder_7d493 (by decide) rfl rfl rfl (Nat.le_of_ble_eq_true rfl) (Nat.le_of_ble_eq_true rfl) ((k_J0_coder_7d493_12 h hI).mono (fun r1 h2 p3 => ?_))
  obtain ⟨rfl, x4, rfl, q5⟩ := p3
  show RUN d_J0_length_8abf5 9 [(0, .inr (.inr (.inr 5)))] [.inl x4, .inl 4] h _
  refine N_ishr0 (a := 4) rfl (by decide) (by omega) (fun x6 q7 => ?_)
  exact R_iret rfl rfl rfl ⟨rfl, _, rfl, by omega⟩
abbrev q_J0_length_8abf5_13 (h : PH)  : Option PV → PH → Prop := fun r h' => h = h' ∧ ∃ z : Int32, r = some (.inl z) ∧ ((z.toInt = 4))
set_option maxHeartbeats 4000000 in
set_option maxRecDepth 100000 in
theorem k_J0_length_8abf5_13 (h : PH) (hI : INV h)  : CALL d_J0_length_8abf5 [.inr (.inr (.inr 6))] h (q_J0_length_8abf5_13 h) := by
  show RUN d_J0_length_8abf5 0 [(0, .inr (.inr (.inr 6)))] [] h _
  refine R_aload_c (k := 0) rfl rfl rfl (by decide) ?_
  refine R_getf_c9 (i := 5) rfl rfl (by decide) ?_
  refine R_alen 4 rfl (by decide) rfl ?_
  refine R_aload_c (k := 0) rfl rfl rfl (by decide) ?_
  refine R_callV (v := .inr (.inr (.inr 6))) (As := []) (rest := [.inl 4]) rfl mt_12_i335 pp_J0_coder_7d493 (by decide) rfl rfl rfl (Nat.le_of_ble_eq_true rfl) (Nat.le_of_ble_eq_true rfl) ((k_J0_coder_7d493_13 h hI).mono (fun r1 h2 p3 => ?_))
  obtain ⟨rfl, x4, rfl, q5⟩ := p3
  show RUN d_J0_length_8abf5 9 [(0, .inr (.inr (.inr 6)))] [.inl x4, .inl 4] h _
  refine N_ishr0 (a := 4) rfl (by decide) (by omega) (fun x6 q7 => ?_)
  exact R_iret rfl rfl rfl ⟨rfl, _, rfl, by omega⟩
abbrev q_J0_length_8abf5 (h : PH)  : Option PV → PH → Prop := fun r h' => h = h' ∧ ∃ z : Int32, r = some (.inl z) ∧ ((z.toInt = 4))
set_option maxHeartbeats 4000000 in
set_option maxRecDepth 100000 in
theorem k_J0_length_8abf5 (h : PH) (hI : INV h)  : CALL d_J0_length_8abf5 [.inr (.inr (.inr 7))] h (q_J0_length_8abf5 h) := by
  show RUN d_J0_length_8abf5 0 [(0, .inr (.inr (.inr 7)))] [] h _
  refine R_aload_c (k := 0) rfl rfl rfl (by decide) ?_
  refine R_getf_c9 (i := 6) rfl rfl (by decide) ?_
  refine R_alen 4 rfl (by decide) rfl ?_
  refine R_aload_c (k := 0) rfl rfl rfl (by decide) ?_
  refine R_callV (v := .inr (.inr (.inr 7))) (As := []) (rest := [.inl 4]) rfl mt_12_i335 pp_J0_coder_7d493 (by decide) rfl rfl rfl (Nat.le_of_ble_eq_true rfl) (Nat.le_of_ble_eq_true rfl) ((k_J0_coder_7d493 h hI).mono (fun r1 h2 p3 => ?_))
  obtain ⟨rfl, x4, rfl, q5⟩ := p3
  show RUN d_J0_length_8abf5 9 [(0, .inr (.inr (.inr 7)))] [.inl x4, .inl 4] h _
  refine N_ishr0 (a := 4) rfl (by decide) (by omega) (fun x6 q7 => ?_)
  exact R_iret rfl rfl rfl ⟨rfl, _, rfl, by omega⟩
abbrev q_J0_length_8abf5_6 (h : PH)  : Option PV → PH → Prop := fun r h' => h = h' ∧ ∃ z : Int32, r = some (.inl z) ∧ ((z.toInt = 4))
set_option maxHeartbeats 4000000 in
set_option maxRecDepth 100000 in
theorem k_J0_length_8abf5_6 (h : PH) (hI : INV h)  : CALL d_J0_length_8abf5 [.inr (.inr (.inr 8))] h (q_J0_length_8abf5_6 h) := by
  show RUN d_J0_length_8abf5 0 [(0, .inr (.inr (.inr 8)))] [] h _
  refine R_aload_c (k := 0) rfl rfl rfl (by decide) ?_
  refine R_getf_c9 (i := 7) rfl rfl (by decide) ?_
  refine R_alen 4 rfl (by decide) rfl ?_
  refine R_aload_c (k := 0) rfl rfl rfl (by decide) ?_
  refine R_callV (v := .inr (.inr (.inr 8))) (As := []) (rest := [.inl 4]) rfl mt_12_i335 pp_J0_coder_7d493 (by decide) rfl rfl rfl (Nat.le_of_ble_eq_true rfl) (Nat.le_of_ble_eq_true rfl) ((k_J0_coder_7d493_6 h hI).mono (fun r1 h2 p3 => ?_))
  obtain ⟨rfl, x4, rfl, q5⟩ := p3
  show RUN d_J0_length_8abf5 9 [(0, .inr (.inr (.inr 8)))] [.inl x4, .inl 4] h _
  refine N_ishr0 (a := 4) rfl (by decide) (by omega) (fun x6 q7 => ?_)
  exact R_iret rfl rfl rfl ⟨rfl, _, rfl, by omega⟩
abbrev q_J0_length_8abf5_7 (h : PH)  : Option PV → PH → Prop := fun r h' => h = h' ∧ ∃ z : Int32, r = some (.inl z) ∧ ((z.toInt = 6))
set_option maxHeartbeats 4000000 in
set_option maxRecDepth 100000 in
theorem k_J0_length_8abf5_7 (h : PH) (hI : INV h)  : CALL d_J0_length_8abf5 [.inr (.inr (.inr 9))] h (q_J0_length_8abf5_7 h) := by
  show RUN d_J0_length_8abf5 0 [(0, .inr (.inr (.inr 9)))] [] h _
  refine R_aload_c (k := 0) rfl rfl rfl (by decide) ?_
  refine R_getf_c9 (i := 8) rfl rfl (by decide) ?_
  refine R_alen 6 rfl (by decide) rfl ?_
  refine R_aload_c (k := 0) rfl rfl rfl (by decide) ?_
  refine R_callV (v := .inr (.inr (.inr 9))) (As := []) (rest := [.inl 6]) rfl mt_12_i335 pp_J0_coder_7d493 (by decide) rfl rfl rfl (Nat.le_of_ble_eq_true rfl) (Nat.le_of_ble_eq_true rfl) ((k_J0_coder_7d493_7 h hI).mono (fun r1 h2 p3 => ?_))
  obtain ⟨rfl, x4, rfl, q5⟩ := p3
  show RUN d_J0_length_8abf5 9 [(0, .inr (.inr (.inr 9)))] [.inl x4, .inl 6] h _
  refine N_ishr0 (a := 6) rfl (by decide) (by omega) (fun x6 q7 => ?_)
  exact R_iret rfl rfl rfl ⟨rfl, _, rfl, by omega⟩
abbrev q_J0_isLatin1_aae02_8 (h : PH)  : Option PV → PH → Prop := fun r h' => h = h' ∧ ∃ z : Int32, r = some (.inl z) ∧ ((z.toInt = 1))
set_option maxHeartbeats 4000000 in
set_option maxRecDepth 100000 in
theorem k_J0_isLatin1_aae02_8 (h : PH) (hI : INV h)  : CALL d_J0_isLatin1_aae02 [.inr (.inr (.inr 1))] h (q_J0_isLatin1_aae02_8 h) := by
  show RUN d_J0_isLatin1_aae02 0 [(0, .inr (.inr (.inr 1)))] [] h _
  refine R_gst38 rfl rfl ?_
  refine N_if_eq (a := 1) 17 rfl rfl (by decide) (fun c1 => ?_) (fun c1 => ?_)
  · exfalso; omega
  · refine R_aload_c (k := 0) rfl rfl rfl (by decide) ?_
    refine R_getf_c15 (i := 0) rfl rfl (by decide) ?_
    refine N_if_ne (a := 0) 17 rfl rfl (by decide) (fun c2 => ?_) (fun c2 => ?_)
    · exfalso; omega
    · refine R_iconst 1 rfl rfl ?_
      refine R_goto 18 rfl rfl ?_
      exact R_iret rfl rfl rfl ⟨rfl, _, rfl, by rw [show (1 : Int32).toInt = 1 from rfl] <;> omega⟩
abbrev q_J0_isLatin1_aae02_1 (h : PH)  : Option PV → PH → Prop := fun r h' => h = h' ∧ ∃ z : Int32, r = some (.inl z) ∧ ((z.toInt = 1))
set_option maxHeartbeats 4000000 in
set_option maxRecDepth 100000 in
theorem k_J0_isLatin1_aae02_1 (h : PH) (hI : INV h)  : CALL d_J0_isLatin1_aae02 [.inr (.inr (.inr 10))] h (q_J0_isLatin1_aae02_1 h) := by
  show RUN d_J0_isLatin1_aae02 0 [(0, .inr (.inr (.inr 10)))] [] h _
  refine R_gst38 rfl rfl ?_
  refine N_if_eq (a := 1) 17 rfl rfl (by decide) (fun c1 => ?_) (fun c1 => ?_)
  · exfalso; omega
  · refine R_aload_c (k := 0) rfl rfl rfl (by decide) ?_
    refine R_getf_c15 (i := 9) rfl rfl (by decide) ?_
    refine N_if_ne (a := 0) 17 rfl rfl (by decide) (fun c2 => ?_) (fun c2 => ?_)
    · exfalso; omega
    · refine R_iconst 1 rfl rfl ?_
      refine R_goto 18 rfl rfl ?_
      exact R_iret rfl rfl rfl ⟨rfl, _, rfl, by rw [show (1 : Int32).toInt = 1 from rfl] <;> omega⟩
abbrev q_J0_isLatin1_aae02_2 (h : PH)  : Option PV → PH → Prop := fun r h' => h = h' ∧ ∃ z : Int32, r = some (.inl z) ∧ ((z.toInt = 1))
set_option maxHeartbeats 4000000 in
set_option maxRecDepth 100000 in
theorem k_J0_isLatin1_aae02_2 (h : PH) (hI : INV h)  : CALL d_J0_isLatin1_aae02 [.inr (.inr (.inr 11))] h (q_J0_isLatin1_aae02_2 h) := by
  show RUN d_J0_isLatin1_aae02 0 [(0, .inr (.inr (.inr 11)))] [] h _
  refine R_gst38 rfl rfl ?_
  refine N_if_eq (a := 1) 17 rfl rfl (by decide) (fun c1 => ?_) (fun c1 => ?_)
  · exfalso; omega
  · refine R_aload_c (k := 0) rfl rfl rfl (by decide) ?_
    refine R_getf_c15 (i := 10) rfl rfl (by decide) ?_
    refine N_if_ne (a := 0) 17 rfl rfl (by decide) (fun c2 => ?_) (fun c2 => ?_)
    · exfalso; omega
    · refine R_iconst 1 rfl rfl ?_
      refine R_goto 18 rfl rfl ?_
      exact R_iret rfl rfl rfl ⟨rfl, _, rfl, by rw [show (1 : Int32).toInt = 1 from rfl] <;> omega⟩
abbrev q_J0_isLatin1_aae02_3 (h : PH)  : Option PV → PH → Prop := fun r h' => h = h' ∧ ∃ z : Int32, r = some (.inl z) ∧ ((z.toInt = 1))
set_option maxHeartbeats 4000000 in
set_option maxRecDepth 100000 in
theorem k_J0_isLatin1_aae02_3 (h : PH) (hI : INV h)  : CALL d_J0_isLatin1_aae02 [.inr (.inr (.inr 12))] h (q_J0_isLatin1_aae02_3 h) := by
  show RUN d_J0_isLatin1_aae02 0 [(0, .inr (.inr (.inr 12)))] [] h _
  refine R_gst38 rfl rfl ?_
  refine N_if_eq (a := 1) 17 rfl rfl (by decide) (fun c1 => ?_) (fun c1 => ?_)
  · exfalso; omega
  · refine R_aload_c (k := 0) rfl rfl rfl (by decide) ?_
    refine R_getf_c15 (i := 11) rfl rfl (by decide) ?_
    refine N_if_ne (a := 0) 17 rfl rfl (by decide) (fun c2 => ?_) (fun c2 => ?_)
    · exfalso; omega
    · refine R_iconst 1 rfl rfl ?_
      refine R_goto 18 rfl rfl ?_
      exact R_iret rfl rfl rfl ⟨rfl, _, rfl, by rw [show (1 : Int32).toInt = 1 from rfl] <;> omega⟩
abbrev q_J0_isLatin1_aae02_4 (h : PH)  : Option PV → PH → Prop := fun r h' => h = h' ∧ ∃ z : Int32, r = some (.inl z) ∧ ((z.toInt = 1))
set_option maxHeartbeats 4000000 in
set_option maxRecDepth 100000 in
theorem k_J0_isLatin1_aae02_4 (h : PH) (hI : INV h)  : CALL d_J0_isLatin1_aae02 [.inr (.inr (.inr 13))] h (q_J0_isLatin1_aae02_4 h) := by
  show RUN d_J0_isLatin1_aae02 0 [(0, .inr (.inr (.inr 13)))] [] h _
  refine R_gst38 rfl rfl ?_
  refine N_if_eq (a := 1) 17 rfl rfl (by decide) (fun c1 => ?_) (fun c1 => ?_)
  · exfalso; omega
  · refine R_aload_c (k := 0) rfl rfl rfl (by decide) ?_
    refine R_getf_c15 (i := 12) rfl rfl (by decide) ?_
    refine N_if_ne (a := 0) 17 rfl rfl (by decide) (fun c2 => ?_) (fun c2 => ?_)
    · exfalso; omega
    · refine R_iconst 1 rfl rfl ?_
      refine R_goto 18 rfl rfl ?_
      exact R_iret rfl rfl rfl ⟨rfl, _, rfl, by rw [show (1 : Int32).toInt = 1 from rfl] <;> omega⟩
abbrev q_J0_isLatin1_aae02_5 (h : PH)  : Option PV → PH → Prop := fun r h' => h = h' ∧ ∃ z : Int32, r = some (.inl z) ∧ ((z.toInt = 1))
set_option maxHeartbeats 4000000 in
set_option maxRecDepth 100000 in
theorem k_J0_isLatin1_aae02_5 (h : PH) (hI : INV h)  : CALL d_J0_isLatin1_aae02 [.inr (.inr (.inr 14))] h (q_J0_isLatin1_aae02_5 h) := by
  show RUN d_J0_isLatin1_aae02 0 [(0, .inr (.inr (.inr 14)))] [] h _
  refine R_gst38 rfl rfl ?_
  refine N_if_eq (a := 1) 17 rfl rfl (by decide) (fun c1 => ?_) (fun c1 => ?_)
  · exfalso; omega
  · refine R_aload_c (k := 0) rfl rfl rfl (by decide) ?_
    refine R_getf_c15 (i := 13) rfl rfl (by decide) ?_
    refine N_if_ne (a := 0) 17 rfl rfl (by decide) (fun c2 => ?_) (fun c2 => ?_)
    · exfalso; omega
    · refine R_iconst 1 rfl rfl ?_
      refine R_goto 18 rfl rfl ?_
      exact R_iret rfl rfl rfl ⟨rfl, _, rfl, by rw [show (1 : Int32).toInt = 1 from rfl] <;> omega⟩
abbrev q_J0_isLatin1_aae02_9 (h : PH)  : Option PV → PH → Prop := fun r h' => h = h' ∧ ∃ z : Int32, r = some (.inl z) ∧ ((z.toInt = 1))
set_option maxHeartbeats 4000000 in
set_option maxRecDepth 100000 in
theorem k_J0_isLatin1_aae02_9 (h : PH) (hI : INV h)  : CALL d_J0_isLatin1_aae02 [.inr (.inr (.inr 2))] h (q_J0_isLatin1_aae02_9 h) := by
  show RUN d_J0_isLatin1_aae02 0 [(0, .inr (.inr (.inr 2)))] [] h _
  refine R_gst38 rfl rfl ?_
  refine N_if_eq (a := 1) 17 rfl rfl (by decide) (fun c1 => ?_) (fun c1 => ?_)
  · exfalso; omega
  · refine R_aload_c (k := 0) rfl rfl rfl (by decide) ?_
    refine R_getf_c15 (i := 1) rfl rfl (by decide) ?_
    refine N_if_ne (a := 0) 17 rfl rfl (by decide) (fun c2 => ?_) (fun c2 => ?_)
    · exfalso; omega
    · refine R_iconst 1 rfl rfl ?_
      refine R_goto 18 rfl rfl ?_
      exact R_iret rfl rfl rfl ⟨rfl, _, rfl, by rw [show (1 : Int32).toInt = 1 from rfl] <;> omega⟩
abbrev q_J0_isLatin1_aae02_10 (h : PH)  : Option PV → PH → Prop := fun r h' => h = h' ∧ ∃ z : Int32, r = some (.inl z) ∧ ((z.toInt = 1))
set_option maxHeartbeats 4000000 in
set_option maxRecDepth 100000 in
theorem k_J0_isLatin1_aae02_10 (h : PH) (hI : INV h)  : CALL d_J0_isLatin1_aae02 [.inr (.inr (.inr 3))] h (q_J0_isLatin1_aae02_10 h) := by
  show RUN d_J0_isLatin1_aae02 0 [(0, .inr (.inr (.inr 3)))] [] h _
  refine R_gst38 rfl rfl ?_
  refine N_if_eq (a := 1) 17 rfl rfl (by decide) (fun c1 => ?_) (fun c1 => ?_)
  · exfalso; omega
  · refine R_aload_c (k := 0) rfl rfl rfl (by decide) ?_
    refine R_getf_c15 (i := 2) rfl rfl (by decide) ?_
    refine N_if_ne (a := 0) 17 rfl rfl (by decide) (fun c2 => ?_) (fun c2 => ?_)
    · exfalso; omega
    · refine R_iconst 1 rfl rfl ?_
      refine R_goto 18 rfl rfl ?_
      exact R_iret rfl rfl rfl ⟨rfl, _, rfl, by rw [show (1 : Int32).toInt = 1 from rfl] <;> omega⟩
abbrev q_J0_isLatin1_aae02_11 (h : PH)  : Option PV → PH → Prop := fun r h' => h = h' ∧ ∃ z : Int32, r = some (.inl z) ∧ ((z.toInt = 1))
set_option maxHeartbeats 4000000 in
set_option maxRecDepth 100000 in
theorem k_J0_isLatin1_aae02_11 (h : PH) (hI : INV h)  : CALL d_J0_isLatin1_aae02 [.inr (.inr (.inr 4))] h (q_J0_isLatin1_aae02_11 h) := by
  show RUN d_J0_isLatin1_aae02 0 [(0, .inr (.inr (.inr 4)))] [] h _
  refine R_gst38 rfl rfl ?_
  refine N_if_eq (a := 1) 17 rfl rfl (by decide) (fun c1 => ?_) (fun c1 => ?_)
  · exfalso; omega
  · refine R_aload_c (k := 0) rfl rfl rfl (by decide) ?_
    refine R_getf_c15 (i := 3) rfl rfl (by decide) ?_
    refine N_if_ne (a := 0) 17 rfl rfl (by decide) (fun c2 => ?_) (fun c2 => ?_)
    · exfalso; omega
    · refine R_iconst 1 rfl rfl ?_
      refine R_goto 18 rfl rfl ?_
      exact R_iret rfl rfl rfl ⟨rfl, _, rfl, by rw [show (1 : Int32).toInt = 1 from rfl] <;> omega⟩
abbrev q_J0_isLatin1_aae02_12 (h : PH)  : Option PV → PH → Prop := fun r h' => h = h' ∧ ∃ z : Int32, r = some (.inl z) ∧ ((z.toInt = 1))
set_option maxHeartbeats 4000000 in
set_option maxRecDepth 100000 in
theorem k_J0_isLatin1_aae02_12 (h : PH) (hI : INV h)  : CALL d_J0_isLatin1_aae02 [.inr (.inr (.inr 5))] h (q_J0_isLatin1_aae02_12 h) := by
  show RUN d_J0_isLatin1_aae02 0 [(0, .inr (.inr (.inr 5)))] [] h _
  refine R_gst38 rfl rfl ?_
  refine N_if_eq (a := 1) 17 rfl rfl (by decide) (fun c1 => ?_) (fun c1 => ?_)
  · exfalso; omega
  · refine R_aload_c (k := 0) rfl rfl rfl (by decide) ?_
    refine R_getf_c15 (i := 4) rfl rfl (by decide) ?_
    refine N_if_ne (a := 0) 17 rfl rfl (by decide) (fun c2 => ?_) (fun c2 => ?_)
    · exfalso; omega
    · refine R_iconst 1 rfl rfl ?_
      refine R_goto 18 rfl rfl ?_
      exact R_iret rfl rfl rfl ⟨rfl, _, rfl, by rw [show (1 : Int32).toInt = 1 from rfl] <;> omega⟩
abbrev q_J0_isLatin1_aae02_13 (h : PH)  : Option PV → PH → Prop := fun r h' => h = h' ∧ ∃ z : Int32, r = some (.inl z) ∧ ((z.toInt = 1))
set_option maxHeartbeats 4000000 in
set_option maxRecDepth 100000 in
theorem k_J0_isLatin1_aae02_13 (h : PH) (hI : INV h)  : CALL d_J0_isLatin1_aae02 [.inr (.inr (.inr 6))] h (q_J0_isLatin1_aae02_13 h) := by
  show RUN d_J0_isLatin1_aae02 0 [(0, .inr (.inr (.inr 6)))] [] h _
  refine R_gst38 rfl rfl ?_
  refine N_if_eq (a := 1) 17 rfl rfl (by decide) (fun c1 => ?_) (fun c1 => ?_)
  · exfalso; omega
  · refine R_aload_c (k := 0) rfl rfl rfl (by decide) ?_
    refine R_getf_c15 (i := 5) rfl rfl (by decide) ?_
    refine N_if_ne (a := 0) 17 rfl rfl (by decide) (fun c2 => ?_) (fun c2 => ?_)
    · exfalso; omega
    · refine R_iconst 1 rfl rfl ?_
      refine R_goto 18 rfl rfl ?_
      exact R_iret rfl rfl rfl ⟨rfl, _, rfl, by rw [show (1 : Int32).toInt = 1 from rfl] <;> omega⟩
abbrev q_J0_isLatin1_aae02 (h : PH)  : Option PV → PH → Prop := fun r h' => h = h' ∧ ∃ z : Int32, r = some (.inl z) ∧ ((z.toInt = 1))
set_option maxHeartbeats 4000000 in
set_option maxRecDepth 100000 in
theorem k_J0_isLatin1_aae02 (h : PH) (hI : INV h)  : CALL d_J0_isLatin1_aae02 [.inr (.inr (.inr 7))] h (q_J0_isLatin1_aae02 h) := by
  show RUN d_J0_isLatin1_aae02 0 [(0, .inr (.inr (.inr 7)))] [] h _
  refine R_gst38 rfl rfl ?_
  refine N_if_eq (a := 1) 17 rfl rfl (by decide) (fun c1 => ?_) (fun c1 => ?_)
  · exfalso; omega
  · refine R_aload_c (k := 0) rfl rfl rfl (by decide) ?_
    refine R_getf_c15 (i := 6) rfl rfl (by decide) ?_
    refine N_if_ne (a := 0) 17 rfl rfl (by decide) (fun c2 => ?_) (fun c2 => ?_)
    · exfalso; omega
    · refine R_iconst 1 rfl rfl ?_
      refine R_goto 18 rfl rfl ?_
      exact R_iret rfl rfl rfl ⟨rfl, _, rfl, by rw [show (1 : Int32).toInt = 1 from rfl] <;> omega⟩
abbrev q_J0_isLatin1_aae02_6 (h : PH)  : Option PV → PH → Prop := fun r h' => h = h' ∧ ∃ z : Int32, r = some (.inl z) ∧ ((z.toInt = 1))
set_option maxHeartbeats 4000000 in
set_option maxRecDepth 100000 in
theorem k_J0_isLatin1_aae02_6 (h : PH) (hI : INV h)  : CALL d_J0_isLatin1_aae02 [.inr (.inr (.inr 8))] h (q_J0_isLatin1_aae02_6 h) := by
  show RUN d_J0_isLatin1_aae02 0 [(0, .inr (.inr (.inr 8)))] [] h _
  refine R_gst38 rfl rfl ?_
  refine N_if_eq (a := 1) 17 rfl rfl (by decide) (fun c1 => ?_) (fun c1 => ?_)
  · exfalso; omega
  · refine R_aload_c (k := 0) rfl rfl rfl (by decide) ?_
    refine R_getf_c15 (i := 7) rfl rfl (by decide) ?_
    refine N_if_ne (a := 0) 17 rfl rfl (by decide) (fun c2 => ?_) (fun c2 => ?_)
    · exfalso; omega
    · refine R_iconst 1 rfl rfl ?_
      refine R_goto 18 rfl rfl ?_
      exact R_iret rfl rfl rfl ⟨rfl, _, rfl, by rw [show (1 : Int32).toInt = 1 from rfl] <;> omega⟩
abbrev q_J0_isLatin1_aae02_7 (h : PH)  : Option PV → PH → Prop := fun r h' => h = h' ∧ ∃ z : Int32, r = some (.inl z) ∧ ((z.toInt = 1))
set_option maxHeartbeats 4000000 in
set_option maxRecDepth 100000 in
theorem k_J0_isLatin1_aae02_7 (h : PH) (hI : INV h)  : CALL d_J0_isLatin1_aae02 [.inr (.inr (.inr 9))] h (q_J0_isLatin1_aae02_7 h) := by
  show RUN d_J0_isLatin1_aae02 0 [(0, .inr (.inr (.inr 9)))] [] h _
  refine R_gst38 rfl rfl ?_
  refine N_if_eq (a := 1) 17 rfl rfl (by decide) (fun c1 => ?_) (fun c1 => ?_)
  · exfalso; omega
  · refine R_aload_c (k := 0) rfl rfl rfl (by decide) ?_
    refine R_getf_c15 (i := 8) rfl rfl (by decide) ?_
    refine N_if_ne (a := 0) 17 rfl rfl (by decide) (fun c2 => ?_) (fun c2 => ?_)
    · exfalso; omega
    · refine R_iconst 1 rfl rfl ?_
      refine R_goto 18 rfl rfl ?_
      exact R_iret rfl rfl rfl ⟨rfl, _, rfl, by rw [show (1 : Int32).toInt = 1 from rfl] <;> omega⟩
abbrev q_J3_checkIndex_8e157 (h : PH) (a0 : Int32) (a1 : Int32) : Option PV → PH → Prop := fun r h' => h = h' ∧ ∃ z : Int32, r = some (.inl z) ∧ ((0 ≤ z.toInt ∧ z.toInt ≤ 7 ∧ z.toInt = a0.toInt + 0))
set_option maxHeartbeats 4000000 in
set_option maxRecDepth 100000 in
theorem k_J3_checkIndex_8e157 (h : PH) (hI : INV h) (a0 : Int32) (a1 : Int32) (h0a : 0 ≤ a0.toInt ∧ a0.toInt ≤ 7) (h1a : 4 ≤ a1.toInt ∧ a1.toInt ≤ 8) (pr0 : a0.toInt ≤ a1.toInt + (-1)) : CALL d_J3_checkIndex_8e157 [.inl a0, .inl a1, .inr (.inr (.inr 40))] h (q_J3_checkIndex_8e157 h a0 a1) := by
  show RUN d_J3_checkIndex_8e157 0 [(0, .inl a0), (1, .inl a1), (2, .inr (.inr (.inr 40)))] [] h _
  refine R_iload_n (k := 0) rfl rfl rfl ?_
  refine N_if_lt (a := a0.toInt) 9 rfl rfl rfl (fun c1 => ?_) (fun c1 => ?_)
  · exfalso; omega
  · refine R_iload_n (k := 0) rfl rfl rfl ?_
    refine R_iload_n (k := 1) rfl rfl rfl ?_
    refine N_icmp_lt (a := a0.toInt) (b := a1.toInt) 16 rfl rfl rfl rfl (fun c2 => ?_) (fun c2 => ?_)
    · refine R_iload_n (k := 0) rfl rfl rfl ?_
      exact R_iret rfl rfl rfl ⟨rfl, _, rfl, by omega⟩
    · exfalso; omega
abbrev q_J0_checkIndex_df160 (h : PH) (a0 : Int32) (a1 : Int32) : Option PV → PH → Prop := fun r h' => h = h' ∧ r = none
set_option maxHeartbeats 4000000 in
set_option maxRecDepth 100000 in
theorem k_J0_checkIndex_df160 (h : PH) (hI : INV h) (a0 : Int32) (a1 : Int32) (h0a : 0 ≤ a0.toInt ∧ a0.toInt ≤ 7) (h1a : 4 ≤ a1.toInt ∧ a1.toInt ≤ 8) (pr0 : a0.toInt ≤ a1.toInt + (-1)) : CALL d_J0_checkIndex_df160 [.inl a0, .inl a1] h (q_J0_checkIndex_df160 h a0 a1) := by
  show RUN d_J0_checkIndex_df160 0 [(0, .inl a0), (1, .inl a1)] [] h _
  refine R_iload_n (k := 0) rfl rfl rfl ?_
  refine R_iload_n (k := 1) rfl rfl rfl ?_
  refine R_gst1053 rfl rfl ?_
  refine R_callS (As := [.inl a0, .inl a1, .inr (.inr (.inr 40))]) (rest := []) rfl mt_12_i1059 (by decide) pp_J3_checkIndex_8e157 (by decide) rfl rfl (Nat.le_of_ble_eq_true rfl) (Nat.le_of_ble_eq_true rfl) ((k_J3_checkIndex_8e157 h hI a0 a1 (by omega) (by omega) (by omega)).mono (fun r1 h2 p3 => ?_))
  obtain ⟨rfl, x4, rfl, q5⟩ := p3
  show RUN d_J0_checkIndex_df160 8 [(0, .inl a0), (1, .inl a1)] [.inl x4] h _
  refine R_pop_i rfl ?_
  exact R_vret rfl rfl ⟨rfl, rfl⟩
abbrev q_J1_charAt_3b067_8 (h : PH) (a1 : Int32) : Option PV → PH → Prop := fun r h' => h = h' ∧ ∃ z : Int32, r = some (.inl z) ∧ ((0 ≤ z.toInt ∧ z.toInt ≤ 255))
set_option maxHeartbeats 4000000 in
set_option maxRecDepth 100000 in
theorem k_J1_charAt_3b067_8 (h : PH) (hI : INV h) (a1 : Int32) (h1a : 0 ≤ a1.toInt ∧ a1.toInt ≤ 6) : CALL d_J1_charAt_3b067 [.inr (.inr (.inr 15)), .inl a1] h (q_J1_charAt_3b067_8 h a1) := by
  show RUN d_J1_charAt_3b067 0 [(0, .inr (.inr (.inr 15))), (1, .inl a1)] [] h _
  refine R_iload_n (k := 1) rfl rfl rfl ?_
  refine R_aload_c (k := 0) rfl rfl rfl (by decide) ?_
  refine R_alen 7 rfl (by decide) rfl ?_
  have k1 : (7 : Int32).toInt = 7 := by decide
  refine R_callS (As := [.inl a1, .inl 7]) (rest := []) rfl mt_13_i9 (by decide) pp_J0_checkIndex_df160 (by decide) rfl rfl (Nat.le_of_ble_eq_true rfl) (Nat.le_of_ble_eq_true rfl) ((k_J0_checkIndex_df160 h hI a1 (7 : Int32) (by omega) (by decide) (by omega)).mono (fun r2 h3 p4 => ?_))
  obtain ⟨rfl, rfl⟩ := p4
  show RUN d_J1_charAt_3b067 6 [(0, .inr (.inr (.inr 15))), (1, .inl a1)] [] h _
  refine R_aload_c (k := 0) rfl rfl rfl (by decide) ?_
  refine R_iload_n (k := 1) rfl rfl rfl ?_
  refine R_baldc (n := 7) rfl (by decide) rfl ⟨by omega, by omega⟩ (fun x5 => ?_)
  refine R_sipush 255 rfl rfl ?_
  refine N_iand (b := 255) rfl (by decide) (by omega) (fun x6 q7 => ?_)
  refine N_i2cb (a := x6.toInt) rfl rfl (by omega) (fun x8 q9 => ?_)
  exact R_iret rfl rfl (nar_c (by omega)) ⟨rfl, _, rfl, by omega⟩
abbrev q_J1_charAt_3b067_9 (h : PH) (a1 : Int32) : Option PV → PH → Prop := fun r h' => h = h' ∧ ∃ z : Int32, r = some (.inl z) ∧ ((0 ≤ z.toInt ∧ z.toInt ≤ 255))
set_option maxHeartbeats 4000000 in
set_option maxRecDepth 100000 in
theorem k_J1_charAt_3b067_9 (h : PH) (hI : INV h) (a1 : Int32) (h1a : 0 ≤ a1.toInt ∧ a1.toInt ≤ 6) : CALL d_J1_charAt_3b067 [.inr (.inr (.inr 16)), .inl a1] h (q_J1_charAt_3b067_9 h a1) := by
  show RUN d_J1_charAt_3b067 0 [(0, .inr (.inr (.inr 16))), (1, .inl a1)] [] h _
  refine R_iload_n (k := 1) rfl rfl rfl ?_
  refine R_aload_c (k := 0) rfl rfl rfl (by decide) ?_
  refine R_alen 7 rfl (by decide) rfl ?_
  have k1 : (7 : Int32).toInt = 7 := by decide
  refine R_callS (As := [.inl a1, .inl 7]) (rest := []) rfl mt_13_i9 (by decide) pp_J0_checkIndex_df160 (by decide) rfl rfl (Nat.le_of_ble_eq_true rfl) (Nat.le_of_ble_eq_true rfl) ((k_J0_checkIndex_df160 h hI a1 (7 : Int32) (by omega) (by decide) (by omega)).mono (fun r2 h3 p4 => ?_))
  obtain ⟨rfl, rfl⟩ := p4
  show RUN d_J1_charAt_3b067 6 [(0, .inr (.inr (.inr 16))), (1, .inl a1)] [] h _
  refine R_aload_c (k := 0) rfl rfl rfl (by decide) ?_
  refine R_iload_n (k := 1) rfl rfl rfl ?_
  refine R_baldc (n := 7) rfl (by decide) rfl ⟨by omega, by omega⟩ (fun x5 => ?_)
  refine R_sipush 255 rfl rfl ?_
  refine N_iand (b := 255) rfl (by decide) (by omega) (fun x6 q7 => ?_)
  refine N_i2cb (a := x6.toInt) rfl rfl (by omega) (fun x8 q9 => ?_)
  exact R_iret rfl rfl (nar_c (by omega)) ⟨rfl, _, rfl, by omega⟩
abbrev q_J1_charAt_3b067_10 (h : PH) (a1 : Int32) : Option PV → PH → Prop := fun r h' => h = h' ∧ ∃ z : Int32, r = some (.inl z) ∧ ((0 ≤ z.toInt ∧ z.toInt ≤ 255))
set_option maxHeartbeats 4000000 in
set_option maxRecDepth 100000 in
theorem k_J1_charAt_3b067_10 (h : PH) (hI : INV h) (a1 : Int32) (h1a : 0 ≤ a1.toInt ∧ a1.toInt ≤ 6) : CALL d_J1_charAt_3b067 [.inr (.inr (.inr 17)), .inl a1] h (q_J1_charAt_3b067_10 h a1) := by
  show RUN d_J1_charAt_3b067 0 [(0, .inr (.inr (.inr 17))), (1, .inl a1)] [] h _
  refine R_iload_n (k := 1) rfl rfl rfl ?_
  refine R_aload_c (k := 0) rfl rfl rfl (by decide) ?_
  refine R_alen 7 rfl (by decide) rfl ?_
  have k1 : (7 : Int32).toInt = 7 := by decide
  refine R_callS (As := [.inl a1, .inl 7]) (rest := []) rfl mt_13_i9 (by decide) pp_J0_checkIndex_df160 (by decide) rfl rfl (Nat.le_of_ble_eq_true rfl) (Nat.le_of_ble_eq_true rfl) ((k_J0_checkIndex_df160 h hI a1 (7 : Int32) (by omega) (by decide) (by omega)).mono (fun r2 h3 p4 => ?_))
  obtain ⟨rfl, rfl⟩ := p4
  show RUN d_J1_charAt_3b067 6 [(0, .inr (.inr (.inr 17))), (1, .inl a1)] [] h _
  refine R_aload_c (k := 0) rfl rfl rfl (by decide) ?_
  refine R_iload_n (k := 1) rfl rfl rfl ?_
  refine R_baldc (n := 7) rfl (by decide) rfl ⟨by omega, by omega⟩ (fun x5 => ?_)
  refine R_sipush 255 rfl rfl ?_
  refine N_iand (b := 255) rfl (by decide) (by omega) (fun x6 q7 => ?_)
  refine N_i2cb (a := x6.toInt) rfl rfl (by omega) (fun x8 q9 => ?_)
  exact R_iret rfl rfl (nar_c (by omega)) ⟨rfl, _, rfl, by omega⟩
abbrev q_J1_charAt_3b067_11 (h : PH) (a1 : Int32) : Option PV → PH → Prop := fun r h' => h = h' ∧ ∃ z : Int32, r = some (.inl z) ∧ ((0 ≤ z.toInt ∧ z.toInt ≤ 255))
set_option maxHeartbeats 4000000 in
set_option maxRecDepth 100000 in
theorem k_J1_charAt_3b067_11 (h : PH) (hI : INV h) (a1 : Int32) (h1a : 0 ≤ a1.toInt ∧ a1.toInt ≤ 3) : CALL d_J1_charAt_3b067 [.inr (.inr (.inr 18)), .inl a1] h (q_J1_charAt_3b067_11 h a1) := by
  show RUN d_J1_charAt_3b067 0 [(0, .inr (.inr (.inr 18))), (1, .inl a1)] [] h _
  refine R_iload_n (k := 1) rfl rfl rfl ?_
  refine R_aload_c (k := 0) rfl rfl rfl (by decide) ?_
  refine R_alen 4 rfl (by decide) rfl ?_
  have k1 : (4 : Int32).toInt = 4 := by decide
  refine R_callS (As := [.inl a1, .inl 4]) (rest := []) rfl mt_13_i9 (by decide) pp_J0_checkIndex_df160 (by decide) rfl rfl (Nat.le_of_ble_eq_true rfl) (Nat.le_of_ble_eq_true rfl) ((k_J0_checkIndex_df160 h hI a1 (4 : Int32) (by omega) (by decide) (by omega)).mono (fun r2 h3 p4 => ?_))
  obtain ⟨rfl, rfl⟩ := p4
  show RUN d_J1_charAt_3b067 6 [(0, .inr (.inr (.inr 18))), (1, .inl a1)] [] h _
  refine R_aload_c (k := 0) rfl rfl rfl (by decide) ?_
  refine R_iload_n (k := 1) rfl rfl rfl ?_
  refine R_baldc (n := 4) rfl (by decide) rfl ⟨by omega, by omega⟩ (fun x5 => ?_)
  refine R_sipush 255 rfl rfl ?_
  refine N_iand (b := 255) rfl (by decide) (by omega) (fun x6 q7 => ?_)
  refine N_i2cb (a := x6.toInt) rfl rfl (by omega) (fun x8 q9 => ?_)
  exact R_iret rfl rfl (nar_c (by omega)) ⟨rfl, _, rfl, by omega⟩
abbrev q_J1_charAt_3b067_12 (h : PH) (a1 : Int32) : Option PV → PH → Prop := fun r h' => h = h' ∧ ∃ z : Int32, r = some (.inl z) ∧ ((0 ≤ z.toInt ∧ z.toInt ≤ 255))
set_option maxHeartbeats 4000000 in
set_option maxRecDepth 100000 in
theorem k_J1_charAt_3b067_12 (h : PH) (hI : INV h) (a1 : Int32) (h1a : 0 ≤ a1.toInt ∧ a1.toInt ≤ 3) : CALL d_J1_charAt_3b067 [.inr (.inr (.inr 19)), .inl a1] h (q_J1_charAt_3b067_12 h a1) := by
  show RUN d_J1_charAt_3b067 0 [(0, .inr (.inr (.inr 19))), (1, .inl a1)] [] h _
  refine R_iload_n (k := 1) rfl rfl rfl ?_
  refine R_aload_c (k := 0) rfl rfl rfl (by decide) ?_
  refine R_alen 4 rfl (by decide) rfl ?_
  have k1 : (4 : Int32).toInt = 4 := by decide
  refine R_callS (As := [.inl a1, .inl 4]) (rest := []) rfl mt_13_i9 (by decide) pp_J0_checkIndex_df160 (by decide) rfl rfl (Nat.le_of_ble_eq_true rfl) (Nat.le_of_ble_eq_true rfl) ((k_J0_checkIndex_df160 h hI a1 (4 : Int32) (by omega) (by decide) (by omega)).mono (fun r2 h3 p4 => ?_))
  obtain ⟨rfl, rfl⟩ := p4
  show RUN d_J1_charAt_3b067 6 [(0, .inr (.inr (.inr 19))), (1, .inl a1)] [] h _
  refine R_aload_c (k := 0) rfl rfl rfl (by decide) ?_
  refine R_iload_n (k := 1) rfl rfl rfl ?_
  refine R_baldc (n := 4) rfl (by decide) rfl ⟨by omega, by omega⟩ (fun x5 => ?_)
  refine R_sipush 255 rfl rfl ?_
  refine N_iand (b := 255) rfl (by decide) (by omega) (fun x6 q7 => ?_)
  refine N_i2cb (a := x6.toInt) rfl rfl (by omega) (fun x8 q9 => ?_)
  exact R_iret rfl rfl (nar_c (by omega)) ⟨rfl, _, rfl, by omega⟩
abbrev q_J1_charAt_3b067_13 (h : PH) (a1 : Int32) : Option PV → PH → Prop := fun r h' => h = h' ∧ ∃ z : Int32, r = some (.inl z) ∧ ((0 ≤ z.toInt ∧ z.toInt ≤ 255))
set_option maxHeartbeats 4000000 in
set_option maxRecDepth 100000 in
theorem k_J1_charAt_3b067_13 (h : PH) (hI : INV h) (a1 : Int32) (h1a : 0 ≤ a1.toInt ∧ a1.toInt ≤ 3) : CALL d_J1_charAt_3b067 [.inr (.inr (.inr 20)), .inl a1] h (q_J1_charAt_3b067_13 h a1) := by
  show RUN d_J1_charAt_3b067 0 [(0, .inr (.inr (.inr 20))), (1, .inl a1)] [] h _
  refine R_iload_n (k := 1) rfl rfl rfl ?_
  refine R_aload_c (k := 0) rfl rfl rfl (by decide) ?_
  refine R_alen 4 rfl (by decide) rfl ?_
  have k1 : (4 : Int32).toInt = 4 := by decide
  refine R_callS (As := [.inl a1, .inl 4]) (rest := []) rfl mt_13_i9 (by decide) pp_J0_checkIndex_df160 (by decide) rfl rfl (Nat.le_of_ble_eq_true rfl) (Nat.le_of_ble_eq_true rfl) ((k_J0_checkIndex_df160 h hI a1 (4 : Int32) (by omega) (by decide) (by omega)).mono (fun r2 h3 p4 => ?_))
  obtain ⟨rfl, rfl⟩ := p4
  show RUN d_J1_charAt_3b067 6 [(0, .inr (.inr (.inr 20))), (1, .inl a1)] [] h _
  refine R_aload_c (k := 0) rfl rfl rfl (by decide) ?_
  refine R_iload_n (k := 1) rfl rfl rfl ?_
  refine R_baldc (n := 4) rfl (by decide) rfl ⟨by omega, by omega⟩ (fun x5 => ?_)
  refine R_sipush 255 rfl rfl ?_
  refine N_iand (b := 255) rfl (by decide) (by omega) (fun x6 q7 => ?_)
  refine N_i2cb (a := x6.toInt) rfl rfl (by omega) (fun x8 q9 => ?_)
  exact R_iret rfl rfl (nar_c (by omega)) ⟨rfl, _, rfl, by omega⟩
abbrev q_J1_charAt_3b067 (h : PH) (a1 : Int32) : Option PV → PH → Prop := fun r h' => h = h' ∧ ∃ z : Int32, r = some (.inl z) ∧ ((0 ≤ z.toInt ∧ z.toInt ≤ 255))
set_option maxHeartbeats 4000000 in
set_option maxRecDepth 100000 in
theorem k_J1_charAt_3b067 (h : PH) (hI : INV h) (a1 : Int32) (h1a : 0 ≤ a1.toInt ∧ a1.toInt ≤ 3) : CALL d_J1_charAt_3b067 [.inr (.inr (.inr 21)), .inl a1] h (q_J1_charAt_3b067 h a1) := by
  show RUN d_J1_charAt_3b067 0 [(0, .inr (.inr (.inr 21))), (1, .inl a1)] [] h _
  refine R_iload_n (k := 1) rfl rfl rfl ?_
  refine R_aload_c (k := 0) rfl rfl rfl (by decide) ?_
  refine R_alen 4 rfl (by decide) rfl ?_
  have k1 : (4 : Int32).toInt = 4 := by decide
  refine R_callS (As := [.inl a1, .inl 4]) (rest := []) rfl mt_13_i9 (by decide) pp_J0_checkIndex_df160 (by decide) rfl rfl (Nat.le_of_ble_eq_true rfl) (Nat.le_of_ble_eq_true rfl) ((k_J0_checkIndex_df160 h hI a1 (4 : Int32) (by omega) (by decide) (by omega)).mono (fun r2 h3 p4 => ?_))
  obtain ⟨rfl, rfl⟩ := p4
  show RUN d_J1_charAt_3b067 6 [(0, .inr (.inr (.inr 21))), (1, .inl a1)] [] h _
  refine R_aload_c (k := 0) rfl rfl rfl (by decide) ?_
  refine R_iload_n (k := 1) rfl rfl rfl ?_
  refine R_baldc (n := 4) rfl (by decide) rfl ⟨by omega, by omega⟩ (fun x5 => ?_)
  refine R_sipush 255 rfl rfl ?_
  refine N_iand (b := 255) rfl (by decide) (by omega) (fun x6 q7 => ?_)
  refine N_i2cb (a := x6.toInt) rfl rfl (by omega) (fun x8 q9 => ?_)
  exact R_iret rfl rfl (nar_c (by omega)) ⟨rfl, _, rfl, by omega⟩
abbrev q_J1_charAt_3b067_6 (h : PH) (a1 : Int32) : Option PV → PH → Prop := fun r h' => h = h' ∧ ∃ z : Int32, r = some (.inl z) ∧ ((0 ≤ z.toInt ∧ z.toInt ≤ 255))
set_option maxHeartbeats 4000000 in
set_option maxRecDepth 100000 in
theorem k_J1_charAt_3b067_6 (h : PH) (hI : INV h) (a1 : Int32) (h1a : 0 ≤ a1.toInt ∧ a1.toInt ≤ 3) : CALL d_J1_charAt_3b067 [.inr (.inr (.inr 22)), .inl a1] h (q_J1_charAt_3b067_6 h a1) := by
  show RUN d_J1_charAt_3b067 0 [(0, .inr (.inr (.inr 22))), (1, .inl a1)] [] h _
  refine R_iload_n (k := 1) rfl rfl rfl ?_
  refine R_aload_c (k := 0) rfl rfl rfl (by decide) ?_
  refine R_alen 4 rfl (by decide) rfl ?_
  have k1 : (4 : Int32).toInt = 4 := by decide
  refine R_callS (As := [.inl a1, .inl 4]) (rest := []) rfl mt_13_i9 (by decide) pp_J0_checkIndex_df160 (by decide) rfl rfl (Nat.le_of_ble_eq_true rfl) (Nat.le_of_ble_eq_true rfl) ((k_J0_checkIndex_df160 h hI a1 (4 : Int32) (by omega) (by decide) (by omega)).mono (fun r2 h3 p4 => ?_))
  obtain ⟨rfl, rfl⟩ := p4
  show RUN d_J1_charAt_3b067 6 [(0, .inr (.inr (.inr 22))), (1, .inl a1)] [] h _
  refine R_aload_c (k := 0) rfl rfl rfl (by decide) ?_
  refine R_iload_n (k := 1) rfl rfl rfl ?_
  refine R_baldc (n := 4) rfl (by decide) rfl ⟨by omega, by omega⟩ (fun x5 => ?_)
  refine R_sipush 255 rfl rfl ?_
  refine N_iand (b := 255) rfl (by decide) (by omega) (fun x6 q7 => ?_)
  refine N_i2cb (a := x6.toInt) rfl rfl (by omega) (fun x8 q9 => ?_)
  exact R_iret rfl rfl (nar_c (by omega)) ⟨rfl, _, rfl, by omega⟩
abbrev q_J1_charAt_3b067_7 (h : PH) (a1 : Int32) : Option PV → PH → Prop := fun r h' => h = h' ∧ ∃ z : Int32, r = some (.inl z) ∧ ((0 ≤ z.toInt ∧ z.toInt ≤ 255))
set_option maxHeartbeats 4000000 in
set_option maxRecDepth 100000 in
theorem k_J1_charAt_3b067_7 (h : PH) (hI : INV h) (a1 : Int32) (h1a : 0 ≤ a1.toInt ∧ a1.toInt ≤ 5) : CALL d_J1_charAt_3b067 [.inr (.inr (.inr 23)), .inl a1] h (q_J1_charAt_3b067_7 h a1) := by
  show RUN d_J1_charAt_3b067 0 [(0, .inr (.inr (.inr 23))), (1, .inl a1)] [] h _
  refine R_iload_n (k := 1) rfl rfl rfl ?_
  refine R_aload_c (k := 0) rfl rfl rfl (by decide) ?_
  refine R_alen 6 rfl (by decide) rfl ?_
  have k1 : (6 : Int32).toInt = 6 := by decide
  refine R_callS (As := [.inl a1, .inl 6]) (rest := []) rfl mt_13_i9 (by decide) pp_J0_checkIndex_df160 (by decide) rfl rfl (Nat.le_of_ble_eq_true rfl) (Nat.le_of_ble_eq_true rfl) ((k_J0_checkIndex_df160 h hI a1 (6 : Int32) (by omega) (by decide) (by omega)).mono (fun r2 h3 p4 => ?_))
  obtain ⟨rfl, rfl⟩ := p4
  show RUN d_J1_charAt_3b067 6 [(0, .inr (.inr (.inr 23))), (1, .inl a1)] [] h _
  refine R_aload_c (k := 0) rfl rfl rfl (by decide) ?_
  refine R_iload_n (k := 1) rfl rfl rfl ?_
  refine R_baldc (n := 6) rfl (by decide) rfl ⟨by omega, by omega⟩ (fun x5 => ?_)
  refine R_sipush 255 rfl rfl ?_
  refine N_iand (b := 255) rfl (by decide) (by omega) (fun x6 q7 => ?_)
  refine N_i2cb (a := x6.toInt) rfl rfl (by omega) (fun x8 q9 => ?_)
  exact R_iret rfl rfl (nar_c (by omega)) ⟨rfl, _, rfl, by omega⟩
abbrev q_J1_charAt_3b067_1 (h : PH) (a1 : Int32) : Option PV → PH → Prop := fun r h' => h = h' ∧ ∃ z : Int32, r = some (.inl z) ∧ ((0 ≤ z.toInt ∧ z.toInt ≤ 255))
set_option maxHeartbeats 4000000 in
set_option maxRecDepth 100000 in
theorem k_J1_charAt_3b067_1 (h : PH) (hI : INV h) (a1 : Int32) (h1a : 0 ≤ a1.toInt ∧ a1.toInt ≤ 7) : CALL d_J1_charAt_3b067 [.inr (.inr (.inr 24)), .inl a1] h (q_J1_charAt_3b067_1 h a1) := by
  show RUN d_J1_charAt_3b067 0 [(0, .inr (.inr (.inr 24))), (1, .inl a1)] [] h _
  refine R_iload_n (k := 1) rfl rfl rfl ?_
  refine R_aload_c (k := 0) rfl rfl rfl (by decide) ?_
  refine R_alen 8 rfl (by decide) rfl ?_
  have k1 : (8 : Int32).toInt = 8 := by decide
  refine R_callS (As := [.inl a1, .inl 8]) (rest := []) rfl mt_13_i9 (by decide) pp_J0_checkIndex_df160 (by decide) rfl rfl (Nat.le_of_ble_eq_true rfl) (Nat.le_of_ble_eq_true rfl) ((k_J0_checkIndex_df160 h hI a1 (8 : Int32) (by omega) (by decide) (by omega)).mono (fun r2 h3 p4 => ?_))
  obtain ⟨rfl, rfl⟩ := p4
  show RUN d_J1_charAt_3b067 6 [(0, .inr (.inr (.inr 24))), (1, .inl a1)] [] h _
  refine R_aload_c (k := 0) rfl rfl rfl (by decide) ?_
  refine R_iload_n (k := 1) rfl rfl rfl ?_
  refine R_baldc (n := 8) rfl (by decide) rfl ⟨by omega, by omega⟩ (fun x5 => ?_)
  refine R_sipush 255 rfl rfl ?_
  refine N_iand (b := 255) rfl (by decide) (by omega) (fun x6 q7 => ?_)
  refine N_i2cb (a := x6.toInt) rfl rfl (by omega) (fun x8 q9 => ?_)
  exact R_iret rfl rfl (nar_c (by omega)) ⟨rfl, _, rfl, by omega⟩
abbrev q_J1_charAt_3b067_2 (h : PH) (a1 : Int32) : Option PV → PH → Prop := fun r h' => h = h' ∧ ∃ z : Int32, r = some (.inl z) ∧ ((0 ≤ z.toInt ∧ z.toInt ≤ 255))
set_option maxHeartbeats 4000000 in
set_option maxRecDepth 100000 in
theorem k_J1_charAt_3b067_2 (h : PH) (hI : INV h) (a1 : Int32) (h1a : 0 ≤ a1.toInt ∧ a1.toInt ≤ 4) : CALL d_J1_charAt_3b067 [.inr (.inr (.inr 25)), .inl a1] h (q_J1_charAt_3b067_2 h a1) := by
  show RUN d_J1_charAt_3b067 0 [(0, .inr (.inr (.inr 25))), (1, .inl a1)] [] h _
  refine R_iload_n (k := 1) rfl rfl rfl ?_
  refine R_aload_c (k := 0) rfl rfl rfl (by decide) ?_
  refine R_alen 5 rfl (by decide) rfl ?_
  have k1 : (5 : Int32).toInt = 5 := by decide
  refine R_callS (As := [.inl a1, .inl 5]) (rest := []) rfl mt_13_i9 (by decide) pp_J0_checkIndex_df160 (by decide) rfl rfl (Nat.le_of_ble_eq_true rfl) (Nat.le_of_ble_eq_true rfl) ((k_J0_checkIndex_df160 h hI a1 (5 : Int32) (by omega) (by decide) (by omega)).mono (fun r2 h3 p4 => ?_))
  obtain ⟨rfl, rfl⟩ := p4
  show RUN d_J1_charAt_3b067 6 [(0, .inr (.inr (.inr 25))), (1, .inl a1)] [] h _
  refine R_aload_c (k := 0) rfl rfl rfl (by decide) ?_
  refine R_iload_n (k := 1) rfl rfl rfl ?_
  refine R_baldc (n := 5) rfl (by decide) rfl ⟨by omega, by omega⟩ (fun x5 => ?_)
  refine R_sipush 255 rfl rfl ?_
  refine N_iand (b := 255) rfl (by decide) (by omega) (fun x6 q7 => ?_)
  refine N_i2cb (a := x6.toInt) rfl rfl (by omega) (fun x8 q9 => ?_)
  exact R_iret rfl rfl (nar_c (by omega)) ⟨rfl, _, rfl, by omega⟩
abbrev q_J1_charAt_3b067_3 (h : PH) (a1 : Int32) : Option PV → PH → Prop := fun r h' => h = h' ∧ ∃ z : Int32, r = some (.inl z) ∧ ((0 ≤ z.toInt ∧ z.toInt ≤ 255))
set_option maxHeartbeats 4000000 in
set_option maxRecDepth 100000 in
theorem k_J1_charAt_3b067_3 (h : PH) (hI : INV h) (a1 : Int32) (h1a : 0 ≤ a1.toInt ∧ a1.toInt ≤ 3) : CALL d_J1_charAt_3b067 [.inr (.inr (.inr 26)), .inl a1] h (q_J1_charAt_3b067_3 h a1) := by
  show RUN d_J1_charAt_3b067 0 [(0, .inr (.inr (.inr 26))), (1, .inl a1)] [] h _
  refine R_iload_n (k := 1) rfl rfl rfl ?_
  refine R_aload_c (k := 0) rfl rfl rfl (by decide) ?_
  refine R_alen 4 rfl (by decide) rfl ?_
  have k1 : (4 : Int32).toInt = 4 := by decide
  refine R_callS (As := [.inl a1, .inl 4]) (rest := []) rfl mt_13_i9 (by decide) pp_J0_checkIndex_df160 (by decide) rfl rfl (Nat.le_of_ble_eq_true rfl) (Nat.le_of_ble_eq_true rfl) ((k_J0_checkIndex_df160 h hI a1 (4 : Int32) (by omega) (by decide) (by omega)).mono (fun r2 h3 p4 => ?_))
  obtain ⟨rfl, rfl⟩ := p4
  show RUN d_J1_charAt_3b067 6 [(0, .inr (.inr (.inr 26))), (1, .inl a1)] [] h _
  refine R_aload_c (k := 0) rfl rfl rfl (by decide) ?_
  refine R_iload_n (k := 1) rfl rfl rfl ?_
  refine R_baldc (n := 4) rfl (by decide) rfl ⟨by omega, by omega⟩ (fun x5 => ?_)
  refine R_sipush 255 rfl rfl ?_
  refine N_iand (b := 255) rfl (by decide) (by omega) (fun x6 q7 => ?_)
  refine N_i2cb (a := x6.toInt) rfl rfl (by omega) (fun x8 q9 => ?_)
  exact R_iret rfl rfl (nar_c (by omega)) ⟨rfl, _, rfl, by omega⟩
abbrev q_J1_charAt_3b067_4 (h : PH) (a1 : Int32) : Option PV → PH → Prop := fun r h' => h = h' ∧ ∃ z : Int32, r = some (.inl z) ∧ ((0 ≤ z.toInt ∧ z.toInt ≤ 255))
set_option maxHeartbeats 4000000 in
set_option maxRecDepth 100000 in
theorem k_J1_charAt_3b067_4 (h : PH) (hI : INV h) (a1 : Int32) (h1a : 0 ≤ a1.toInt ∧ a1.toInt ≤ 3) : CALL d_J1_charAt_3b067 [.inr (.inr (.inr 27)), .inl a1] h (q_J1_charAt_3b067_4 h a1) := by
  show RUN d_J1_charAt_3b067 0 [(0, .inr (.inr (.inr 27))), (1, .inl a1)] [] h _
  refine R_iload_n (k := 1) rfl rfl rfl ?_
  refine R_aload_c (k := 0) rfl rfl rfl (by decide) ?_
  refine R_alen 4 rfl (by decide) rfl ?_
  have k1 : (4 : Int32).toInt = 4 := by decide
  refine R_callS (As := [.inl a1, .inl 4]) (rest := []) rfl mt_13_i9 (by decide) pp_J0_checkIndex_df160 (by decide) rfl rfl (Nat.le_of_ble_eq_true rfl) (Nat.le_of_ble_eq_true rfl) ((k_J0_checkIndex_df160 h hI a1 (4 : Int32) (by omega) (by decide) (by omega)).mono (fun r2 h3 p4 => ?_))
  obtain ⟨rfl, rfl⟩ := p4
  show RUN d_J1_charAt_3b067 6 [(0, .inr (.inr (.inr 27))), (1, .inl a1)] [] h _
  refine R_aload_c (k := 0) rfl rfl rfl (by decide) ?_
  refine R_iload_n (k := 1) rfl rfl rfl ?_
  refine R_baldc (n := 4) rfl (by decide) rfl ⟨by omega, by omega⟩ (fun x5 => ?_)
  refine R_sipush 255 rfl rfl ?_
  refine N_iand (b := 255) rfl (by decide) (by omega) (fun x6 q7 => ?_)
  refine N_i2cb (a := x6.toInt) rfl rfl (by omega) (fun x8 q9 => ?_)
  exact R_iret rfl rfl (nar_c (by omega)) ⟨rfl, _, rfl, by omega⟩
abbrev q_J1_charAt_3b067_5 (h : PH) (a1 : Int32) : Option PV → PH → Prop := fun r h' => h = h' ∧ ∃ z : Int32, r = some (.inl z) ∧ ((0 ≤ z.toInt ∧ z.toInt ≤ 255))
set_option maxHeartbeats 4000000 in
set_option maxRecDepth 100000 in
theorem k_J1_charAt_3b067_5 (h : PH) (hI : INV h) (a1 : Int32) (h1a : 0 ≤ a1.toInt ∧ a1.toInt ≤ 4) : CALL d_J1_charAt_3b067 [.inr (.inr (.inr 28)), .inl a1] h (q_J1_charAt_3b067_5 h a1) := by
  show RUN d_J1_charAt_3b067 0 [(0, .inr (.inr (.inr 28))), (1, .inl a1)] [] h _
  refine R_iload_n (k := 1) rfl rfl rfl ?_
  refine R_aload_c (k := 0) rfl rfl rfl (by decide) ?_
  refine R_alen 5 rfl (by decide) rfl ?_
  have k1 : (5 : Int32).toInt = 5 := by decide
  refine R_callS (As := [.inl a1, .inl 5]) (rest := []) rfl mt_13_i9 (by decide) pp_J0_checkIndex_df160 (by decide) rfl rfl (Nat.le_of_ble_eq_true rfl) (Nat.le_of_ble_eq_true rfl) ((k_J0_checkIndex_df160 h hI a1 (5 : Int32) (by omega) (by decide) (by omega)).mono (fun r2 h3 p4 => ?_))
  obtain ⟨rfl, rfl⟩ := p4
  show RUN d_J1_charAt_3b067 6 [(0, .inr (.inr (.inr 28))), (1, .inl a1)] [] h _
  refine R_aload_c (k := 0) rfl rfl rfl (by decide) ?_
  refine R_iload_n (k := 1) rfl rfl rfl ?_
  refine R_baldc (n := 5) rfl (by decide) rfl ⟨by omega, by omega⟩ (fun x5 => ?_)
  refine R_sipush 255 rfl rfl ?_
  refine N_iand (b := 255) rfl (by decide) (by omega) (fun x6 q7 => ?_)
  refine N_i2cb (a := x6.toInt) rfl rfl (by omega) (fun x8 q9 => ?_)
  exact R_iret rfl rfl (nar_c (by omega)) ⟨rfl, _, rfl, by omega⟩
abbrev q_J0_charAt_5068e_8 (h : PH) (a0 : Int32) : Option PV → PH → Prop := fun r h' => h = h' ∧ ∃ z : Int32, r = some (.inl z) ∧ ((0 ≤ z.toInt ∧ z.toInt ≤ 255))
set_option maxHeartbeats 4000000 in
set_option maxRecDepth 100000 in
theorem k_J0_charAt_5068e_8 (h : PH) (hI : INV h) (a0 : Int32) (h0a : 0 ≤ a0.toInt ∧ a0.toInt ≤ 6) : CALL d_J0_charAt_5068e [.inr (.inr (.inr 1)), .inl a0] h (q_J0_charAt_5068e_8 h a0) := by
  show RUN d_J0_charAt_5068e 0 [(0, .inr (.inr (.inr 1))), (1, .inl a0)] [] h _
  refine R_aload_c (k := 0) rfl rfl rfl (by decide) ?_
  refine R_callV (v := .inr (.inr (.inr 1))) (As := []) (rest := []) rfl mt_12_i492 pp_J0_isLatin1_aae02 (by decide) rfl rfl rfl (Nat.le_of_ble_eq_true rfl) (Nat.le_of_ble_eq_true rfl) ((k_J0_isLatin1_aae02_8 h hI).mono (fun r1 h2 p3 => ?_))
  obtain ⟨rfl, x4, rfl, q5⟩ := p3
  show RUN d_J0_charAt_5068e 4 [(0, .inr (.inr (.inr 1))), (1, .inl a0)] [.inl x4] h _
  refine N_if_eq (a := x4.toInt) 16 rfl rfl rfl (fun c6 => ?_) (fun c6 => ?_)
  · exfalso; omega
  · refine R_aload_c (k := 0) rfl rfl rfl (by decide) ?_
    refine R_getf_c9 (i := 0) rfl rfl (by decide) ?_
    refine R_iload_n (k := 1) rfl rfl rfl ?_
    refine R_callS (As := [.inr (.inr (.inr 15)), .inl a0]) (rest := []) rfl mt_12_i495 (by decide) pp_J1_charAt_3b067 (by decide) rfl rfl (Nat.le_of_ble_eq_true rfl) (Nat.le_of_ble_eq_true rfl) ((k_J1_charAt_3b067_8 h hI a0 (by omega)).mono (fun r7 h8 p9 => ?_))
    obtain ⟨rfl, x10, rfl, q11⟩ := p9
    show RUN d_J0_charAt_5068e 15 [(0, .inr (.inr (.inr 1))), (1, .inl a0)] [.inl x10] h _
    exact R_iret rfl rfl (nar_c (by omega)) ⟨rfl, _, rfl, by omega⟩
abbrev q_J0_charAt_5068e_1 (h : PH) (a0 : Int32) : Option PV → PH → Prop := fun r h' => h = h' ∧ ∃ z : Int32, r = some (.inl z) ∧ ((0 ≤ z.toInt ∧ z.toInt ≤ 255))
set_option maxHeartbeats 4000000 in
set_option maxRecDepth 100000 in
theorem k_J0_charAt_5068e_1 (h : PH) (hI : INV h) (a0 : Int32) (h0a : 0 ≤ a0.toInt ∧ a0.toInt ≤ 7) : CALL d_J0_charAt_5068e [.inr (.inr (.inr 10)), .inl a0] h (q_J0_charAt_5068e_1 h a0) := by
  show RUN d_J0_charAt_5068e 0 [(0, .inr (.inr (.inr 10))), (1, .inl a0)] [] h _
  refine R_aload_c (k := 0) rfl rfl rfl (by decide) ?_
  refine R_callV (v := .inr (.inr (.inr 10))) (As := []) (rest := []) rfl mt_12_i492 pp_J0_isLatin1_aae02 (by decide) rfl rfl rfl (Nat.le_of_ble_eq_true rfl) (Nat.le_of_ble_eq_true rfl) ((k_J0_isLatin1_aae02_1 h hI).mono (fun r1 h2 p3 => ?_))
  obtain ⟨rfl, x4, rfl, q5⟩ := p3
  show RUN d_J0_charAt_5068e 4 [(0, .inr (.inr (.inr 10))), (1, .inl a0)] [.inl x4] h _
  refine N_if_eq (a := x4.toInt) 16 rfl rfl rfl (fun c6 => ?_) (fun c6 => ?_)
  · exfalso; omega
  · refine R_aload_c (k := 0) rfl rfl rfl (by decide) ?_
    refine R_getf_c9 (i := 9) rfl rfl (by decide) ?_
    refine R_iload_n (k := 1) rfl rfl rfl ?_
    refine R_callS (As := [.inr (.inr (.inr 24)), .inl a0]) (rest := []) rfl mt_12_i495 (by decide) pp_J1_charAt_3b067 (by decide) rfl rfl (Nat.le_of_ble_eq_true rfl) (Nat.le_of_ble_eq_true rfl) ((k_J1_charAt_3b067_1 h hI a0 (by omega)).mono (fun r7 h8 p9 => ?_))
    obtain ⟨rfl, x10, rfl, q11⟩ := p9
    show RUN d_J0_charAt_5068e 15 [(0, .inr (.inr (.inr 10))), (1, .inl a0)] [.inl x10] h _
    exact R_iret rfl rfl (nar_c (by omega)) ⟨rfl, _, rfl, by omega⟩
abbrev q_J0_charAt_5068e_2 (h : PH) (a0 : Int32) : Option PV → PH → Prop := fun r h' => h = h' ∧ ∃ z : Int32, r = some (.inl z) ∧ ((0 ≤ z.toInt ∧ z.toInt ≤ 255))
set_option maxHeartbeats 4000000 in
set_option maxRecDepth 100000 in
theorem k_J0_charAt_5068e_2 (h : PH) (hI : INV h) (a0 : Int32) (h0a : 0 ≤ a0.toInt ∧ a0.toInt ≤ 4) : CALL d_J0_charAt_5068e [.inr (.inr (.inr 11)), .inl a0] h (q_J0_charAt_5068e_2 h a0) := by
  show RUN d_J0_charAt_5068e 0 [(0, .inr (.inr (.inr 11))), (1, .inl a0)] [] h _
  refine R_aload_c (k := 0) rfl rfl rfl (by decide) ?_
  refine R_callV (v := .inr (.inr (.inr 11))) (As := []) (rest := []) rfl mt_12_i492 pp_J0_isLatin1_aae02 (by decide) rfl rfl rfl (Nat.le_of_ble_eq_true rfl) (Nat.le_of_ble_eq_true rfl) ((k_J0_isLatin1_aae02_2 h hI).mono (fun r1 h2 p3 => ?_))
  obtain ⟨rfl, x4, rfl, q5⟩ := p3
  show RUN d_J0_charAt_5068e 4 [(0, .inr (.inr (.inr 11))), (1, .inl a0)] [.inl x4] h _
  refine N_if_eq (a := x4.toInt) 16 rfl rfl rfl (fun c6 => ?_) (fun c6 => ?_)
  · exfalso; omega
  · refine R_aload_c (k := 0) rfl rfl rfl (by decide) ?_
    refine R_getf_c9 (i := 10) rfl rfl (by decide) ?_
    refine R_iload_n (k := 1) rfl rfl rfl ?_
    refine R_callS (As := [.inr (.inr (.inr 25)), .inl a0]) (rest := []) rfl mt_12_i495 (by decide) pp_J1_charAt_3b067 (by decide) rfl rfl (Nat.le_of_ble_eq_true rfl) (Nat.le_of_ble_eq_true rfl) ((k_J1_charAt_3b067_2 h hI a0 (by omega)).mono (fun r7 h8 p9 => ?_))
    obtain ⟨rfl, x10, rfl, q11⟩ := p9
    show RUN d_J0_charAt_5068e 15 [(0, .inr (.inr (.inr 11))), (1, .inl a0)] [.inl x10] h _
    exact R_iret rfl rfl (nar_c (by omega)) ⟨rfl, _, rfl, by omega⟩
abbrev q_J0_charAt_5068e_3 (h : PH) (a0 : Int32) : Option PV → PH → Prop := fun r h' => h = h' ∧ ∃ z : Int32, r = some (.inl z) ∧ ((0 ≤ z.toInt ∧ z.toInt ≤ 255))
set_option maxHeartbeats 4000000 in
set_option maxRecDepth 100000 in
theorem k_J0_charAt_5068e_3 (h : PH) (hI : INV h) (a0 : Int32) (h0a : 0 ≤ a0.toInt ∧ a0.toInt ≤ 3) : CALL d_J0_charAt_5068e [.inr (.inr (.inr 12)), .inl a0] h (q_J0_charAt_5068e_3 h a0) := by
  show RUN d_J0_charAt_5068e 0 [(0, .inr (.inr (.inr 12))), (1, .inl a0)] [] h _
  refine R_aload_c (k := 0) rfl rfl rfl (by decide) ?_
  refine R_callV (v := .inr (.inr (.inr 12))) (As := []) (rest := []) rfl mt_12_i492 pp_J0_isLatin1_aae02 (by decide) rfl rfl rfl (Nat.le_of_ble_eq_true rfl) (Nat.le_of_ble_eq_true rfl) ((k_J0_isLatin1_aae02_3 h hI).mono (fun r1 h2 p3 => ?_))
  obtain ⟨rfl, x4, rfl, q5⟩ := p3
  show RUN d_J0_charAt_5068e 4 [(0, .inr (.inr (.inr 12))), (1, .inl a0)] [.inl x4] h _
  refine N_if_eq (a := x4.toInt) 16 rfl rfl rfl (fun c6 => ?_) (fun c6 => ?_)
  · exfalso; omega
  · refine R_aload_c (k := 0) rfl rfl rfl (by decide) ?_
    refine R_getf_c9 (i := 11) rfl rfl (by decide) ?_
    refine R_iload_n (k := 1) rfl rfl rfl ?_
    refine R_callS (As := [.inr (.inr (.inr 26)), .inl a0]) (rest := []) rfl mt_12_i495 (by decide) pp_J1_charAt_3b067 (by decide) rfl rfl (Nat.le_of_ble_eq_true rfl) (Nat.le_of_ble_eq_true rfl) ((k_J1_charAt_3b067_3 h hI a0 (by omega)).mono (fun r7 h8 p9 => ?_))
    obtain ⟨rfl, x10, rfl, q11⟩ := p9
    show RUN d_J0_charAt_5068e 15 [(0, .inr (.inr (.inr 12))), (1, .inl a0)] [.inl x10] h _
    exact R_iret rfl rfl (nar_c (by omega)) ⟨rfl, _, rfl, by omega⟩
abbrev q_J0_charAt_5068e_4 (h : PH) (a0 : Int32) : Option PV → PH → Prop := fun r h' => h = h' ∧ ∃ z : Int32, r = some (.inl z) ∧ ((0 ≤ z.toInt ∧ z.toInt ≤ 255))
set_option maxHeartbeats 4000000 in
set_option maxRecDepth 100000 in
theorem k_J0_charAt_5068e_4 (h : PH) (hI : INV h) (a0 : Int32) (h0a : 0 ≤ a0.toInt ∧ a0.toInt ≤ 3) : CALL d_J0_charAt_5068e [.inr (.inr (.inr 13)), .inl a0] h (q_J0_charAt_5068e_4 h a0) := by
  show RUN d_J0_charAt_5068e 0 [(0, .inr (.inr (.inr 13))), (1, .inl a0)] [] h _
  refine R_aload_c (k := 0) rfl rfl rfl (by decide) ?_
  refine R_callV (v := .inr (.inr (.inr 13))) (As := []) (rest := []) rfl mt_12_i492 pp_J0_isLatin1_aae02 (by decide) rfl rfl rfl (Nat.le_of_ble_eq_true rfl) (Nat.le_of_ble_eq_true rfl) ((k_J0_isLatin1_aae02_4 h hI).mono (fun r1 h2 p3 => ?_))
  obtain ⟨rfl, x4, rfl, q5⟩ := p3
  show RUN d_J0_charAt_5068e 4 [(0, .inr (.inr (.inr 13))), (1, .inl a0)] [.inl x4] h _
  refine N_if_eq (a := x4.toInt) 16 rfl rfl rfl (fun c6 => ?_) (fun c6 => ?_)
  · exfalso; omega
  · refine R_aload_c (k := 0) rfl rfl rfl (by decide) ?_
    refine R_getf_c9 (i := 12) rfl rfl (by decide) ?_
    refine R_iload_n (k := 1) rfl rfl rfl ?_
    refine R_callS (As := [.inr (.inr (.inr 27)), .inl a0]) (rest := []) rfl mt_12_i495 (by decide) pp_J1_charAt_3b067 (by decide) rfl rfl (Nat.le_of_ble_eq_true rfl) (Nat.le_of_ble_eq_true rfl) ((k_J1_charAt_3b067_4 h hI a0 (by omega)).mono (fun r7 h8 p9 => ?_))
    obtain ⟨rfl, x10, rfl, q11⟩ := p9
    show RUN d_J0_charAt_5068e 15 [(0, .inr (.inr (.inr 13))), (1, .inl a0)] [.inl x10] h _
    exact R_iret rfl rfl (nar_c (by omega)) ⟨rfl, _, rfl, by omega⟩
abbrev q_J0_charAt_5068e_5 (h : PH) (a0 : Int32) : Option PV → PH → Prop := fun r h' => h = h' ∧ ∃ z : Int32, r = some (.inl z) ∧ ((0 ≤ z.toInt ∧ z.toInt ≤ 255))
set_option maxHeartbeats 4000000 in
set_option maxRecDepth 100000 in
theorem k_J0_charAt_5068e_5 (h : PH) (hI : INV h) (a0 : Int32) (h0a : 0 ≤ a0.toInt ∧ a0.toInt ≤ 4) : CALL d_J0_charAt_5068e [.inr (.inr (.inr 14)), .inl a0] h (q_J0_charAt_5068e_5 h a0) := by
  show RUN d_J0_charAt_5068e 0 [(0, .inr (.inr (.inr 14))), (1, .inl a0)] [] h _
  refine R_aload_c (k := 0) rfl rfl rfl (by decide) ?_
  refine R_callV (v := .inr (.inr (.inr 14))) (As := []) (rest := []) rfl mt_12_i492 pp_J0_isLatin1_aae02 (by decide) rfl rfl rfl (Nat.le_of_ble_eq_true rfl) (Nat.le_of_ble_eq_true rfl) ((k_J0_isLatin1_aae02_5 h hI).mono (fun r1 h2 p3 => ?_))
  obtain ⟨rfl, x4, rfl, q5⟩ := p3
  show RUN d_J0_charAt_5068e 4 [(0, .inr (.inr (.inr 14))), (1, .inl a0)] [.inl x4] h _
  refine N_if_eq (a := x4.toInt) 16 rfl rfl rfl (fun c6 => ?_) (fun c6 => ?_)
  · exfalso; omega
  · refine R_aload_c (k := 0) rfl rfl rfl (by decide) ?_
    refine R_getf_c9 (i := 13) rfl rfl (by decide) ?_
    refine R_iload_n (k := 1) rfl rfl rfl ?_
    refine R_callS (As := [.inr (.inr (.inr 28)), .inl a0]) (rest := []) rfl mt_12_i495 (by decide) pp_J1_charAt_3b067 (by decide) rfl rfl (Nat.le_of_ble_eq_true rfl) (Nat.le_of_ble_eq_true rfl) ((k_J1_charAt_3b067_5 h hI a0 (by omega)).mono (fun r7 h8 p9 => ?_))
    obtain ⟨rfl, x10, rfl, q11⟩ := p9
    show RUN d_J0_charAt_5068e 15 [(0, .inr (.inr (.inr 14))), (1, .inl a0)] [.inl x10] h _
    exact R_iret rfl rfl (nar_c (by omega)) ⟨rfl, _, rfl, by omega⟩
abbrev q_J0_charAt_5068e_9 (h : PH) (a0 : Int32) : Option PV → PH → Prop := fun r h' => h = h' ∧ ∃ z : Int32, r = some (.inl z) ∧ ((0 ≤ z.toInt ∧ z.toInt ≤ 255))
set_option maxHeartbeats 4000000 in
set_option maxRecDepth 100000 in
theorem k_J0_charAt_5068e_9 (h : PH) (hI : INV h) (a0 : Int32) (h0a : 0 ≤ a0.toInt ∧ a0.toInt ≤ 6) : CALL d_J0_charAt_5068e [.inr (.inr (.inr 2)), .inl a0] h (q_J0_charAt_5068e_9 h a0) := by
  show RUN d_J0_charAt_5068e 0 [(0, .inr (.inr (.inr 2))), (1, .inl a0)] [] h _
  refine R_aload_c (k := 0) rfl rfl rfl (by decide) ?_
  refine R_callV (v := .inr (.inr (.inr 2))) (As := []) (rest := []) rfl mt_12_i492 pp_J0_isLatin1_aae02 (by decide) rfl rfl rfl (Nat.le_of_ble_eq_true rfl) (Nat.le_of_ble_eq_true rfl) ((k_J0_isLatin1_aae02_9 h hI).mono (fun r1 h2 p3 => ?_))
  obtain ⟨rfl, x4, rfl, q5⟩ := p3
  show RUN d_J0_charAt_5068e 4 [(0, .inr (.inr (.inr 2))), (1, .inl a0)] [.inl x4] h _
  refine N_if_eq (a := x4.toInt) 16 rfl rfl rfl (fun c6 => ?_) (fun c6 => ?_)
  · exfalso; omega
  · refine R_aload_c (k := 0) rfl rfl rfl (by decide) ?_
    refine R_getf_c9 (i := 1) rfl rfl (by decide) ?_
    refine R_iload_n (k := 1) rfl rfl rfl ?_
    refine R_callS (As := [.inr (.inr (.inr 16)), .inl a0]) (rest := []) rfl mt_12_i495 (by decide) pp_J1_charAt_3b067 (by decide) rfl rfl (Nat.le_of_ble_eq_true rfl) (Nat.le_of_ble_eq_true rfl) ((k_J1_charAt_3b067_9 h hI a0 (by omega)).mono (fun r7 h8 p9 => ?_))
    obtain ⟨rfl, x10, rfl, q11⟩ := p9
    show RUN d_J0_charAt_5068e 15 [(0, .inr (.inr (.inr 2))), (1, .inl a0)] [.inl x10] h _
    exact R_iret rfl rfl (nar_c (by omega)) ⟨rfl, _, rfl, by omega⟩
abbrev q_J0_charAt_5068e_10 (h : PH) (a0 : Int32) : Option PV → PH → Prop := fun r h' => h = h' ∧ ∃ z : Int32, r = some (.inl z) ∧ ((0 ≤ z.toInt ∧ z.toInt ≤ 255))
set_option maxHeartbeats 4000000 in
set_option maxRecDepth 100000 in
theorem k_J0_charAt_5068e_10 (h : PH) (hI : INV h) (a0 : Int32) (h0a : 0 ≤ a0.toInt ∧ a0.toInt ≤ 6) : CALL d_J0_charAt_5068e [.inr (.inr (.inr 3)), .inl a0] h (q_J0_charAt_5068e_10 h a0) := by
  show RUN d_J0_charAt_5068e 0 [(0, .inr (.inr (.inr 3))), (1, .inl a0)] [] h _
  refine R_aload_c (k := 0) rfl rfl rfl (by decide) ?_
  refine R_callV (v := .inr (.inr (.inr 3))) (As := []) (rest := []) rfl mt_12_i492 pp_J0_isLatin1_aae02 (by decide) rfl rfl rfl (Nat.le_of_ble_eq_true rfl) (Nat.le_of_ble_eq_true rfl) ((k_J0_isLatin1_aae02_10 h hI).mono (fun r1 h2 p3 => ?_))
  obtain ⟨rfl, x4, rfl, q5⟩ := p3
  show RUN d_J0_charAt_5068e 4 [(0, .inr (.inr (.inr 3))), (1, .inl a0)] [.inl x4] h _
  refine N_if_eq (a := x4.toInt) 16 rfl rfl rfl (fun c6 => ?_) (fun c6 => ?_)
  · exfalso; omega
  · refine R_aload_c (k := 0) rfl rfl rfl (by decide) ?_
    refine R_getf_c9 (i := 2) rfl rfl (by decide) ?_
    refine R_iload_n (k := 1) rfl rfl rfl ?_
    refine R_callS (As := [.inr (.inr (.inr 17)), .inl a0]) (rest := []) rfl mt_12_i495 (by decide) pp_J1_charAt_3b067 (by decide) rfl rfl (Nat.le_of_ble_eq_true rfl) (Nat.le_of_ble_eq_true rfl) ((k_J1_charAt_3b067_10 h hI a0 (by omega)).mono (fun r7 h8 p9 => ?_))
    obtain ⟨rfl, x10, rfl, q11⟩ := p9
    show RUN d_J0_charAt_5068e 15 [(0, .inr (.inr (.inr 3))), (1, .inl a0)] [.inl x10] h _
    exact R_iret rfl rfl (nar_c (by omega)) ⟨rfl, _, rfl, by omega⟩
abbrev q_J0_charAt_5068e_11 (h : PH) (a0 : Int32) : Option PV → PH → Prop := fun r h' => h = h' ∧ ∃ z : Int32, r = some (.inl z) ∧ ((0 ≤ z.toInt ∧ z.toInt ≤ 255))
set_option maxHeartbeats 4000000 in
set_option maxRecDepth 100000 in
theorem k_J0_charAt_5068e_11 (h : PH) (hI : INV h) (a0 : Int32) (h0a : 0 ≤ a0.toInt ∧ a0.toInt ≤ 3) : CALL d_J0_charAt_5068e [.inr (.inr (.inr 4)), .inl a0] h (q_J0_charAt_5068e_11 h a0) := by
  show RUN d_J0_charAt_5068e 0 [(0, .inr (.inr (.inr 4))), (1, .inl a0)] [] h _
  refine R_aload_c (k := 0) rfl rfl rfl (by decide) ?_
  refine R_callV (v := .inr (.inr (.inr 4))) (As := []) (rest := []) rfl mt_12_i492 pp_J0_isLatin1_aae02 (by decide) rfl rfl rfl (Nat.le_of_ble_eq_true rfl) (Nat.le_of_ble_eq_true rfl) ((k_J0_isLatin1_aae02_11 h hI).mono (fun r1 h2 p3 => ?_))
  obtain ⟨rfl, x4, rfl, q5⟩ := p3
  show RUN d_J0_charAt_5068e 4 [(0, .inr (.inr (.inr 4))), (1, .inl a0)] [.inl x4] h _
  refine N_if_eq (a := x4.toInt) 16 rfl rfl rfl (fun c6 => ?_) (fun c6 => ?_)
  · exfalso; omega
  · refine R_aload_c (k := 0) rfl rfl rfl (by decide) ?_
    refine R_getf_c9 (i := 3) rfl rfl (by decide) ?_
    refine R_iload_n (k := 1) rfl rfl rfl ?_
    refine R_callS (As := [.inr (.inr (.inr 18)), .inl a0]) (rest := []) rfl mt_12_i495 (by decide) pp_J1_charAt_3b067 (by decide) rfl rfl (Nat.le_of_ble_eq_true rfl) (Nat.le_of_ble_eq_true rfl) ((k_J1_charAt_3b067_11 h hI a0 (by omega)).mono (fun r7 h8 p9 => ?_))
    obtain ⟨rfl, x10, rfl, q11⟩ := p9
    show RUN d_J0_charAt_5068e 15 [(0, .inr (.inr (.inr 4))), (1, .inl a0)] [.inl x10] h _
    exact R_iret rfl rfl (nar_c (by omega)) ⟨rfl, _, rfl, by omega⟩
abbrev q_J0_charAt_5068e_12 (h : PH) (a0 : Int32) : Option PV → PH → Prop := fun r h' => h = h' ∧ ∃ z : Int32, r = some (.inl z) ∧ ((0 ≤ z.toInt ∧ z.toInt ≤ 255))
set_option maxHeartbeats 4000000 in
set_option maxRecDepth 100000 in
theorem k_J0_charAt_5068e_12 (h : PH) (hI : INV h) (a0 : Int32) (h0a : 0 ≤ a0.toInt ∧ a0.toInt ≤ 3) : CALL d_J0_charAt_5068e [.inr (.inr (.inr 5)), .inl a0] h (q_J0_charAt_5068e_12 h a0) := by
  show RUN d_J0_charAt_5068e 0 [(0, .inr (.inr (.inr 5))), (1, .inl a0)] [] h _
  refine R_aload_c (k := 0) rfl rfl rfl (by decide) ?_
  refine R_callV (v := .inr (.inr (.inr 5))) (As := []) (rest := []) rfl mt_12_i492 pp_J0_isLatin1_aae02 (by decide) rfl rfl rfl (Nat.le_of_ble_eq_true rfl) (Nat.le_of_ble_eq_true rfl) ((k_J0_isLatin1_aae02_12 h hI).mono (fun r1 h2 p3 => ?_))
  obtain ⟨rfl, x4, rfl, q5⟩ := p3
  show RUN d_J0_charAt_5068e 4 [(0, .inr (.inr (.inr 5))), (1, .inl a0)] [.inl x4] h _
  refine N_if_eq (a := x4.toInt) 16 rfl rfl rfl (fun c6 => ?_) (fun c6 => ?_)
  · exfalso; omega
  · refine R_aload_c (k := 0) rfl rfl rfl (by decide) ?_
    refine R_getf_c9 (i := 4) rfl rfl (by decide) ?_
    refine R_iload_n (k := 1) rfl rfl rfl ?_
    refine R_callS (As := [.inr (.inr (.inr 19)), .inl a0]) (rest := []) rfl mt_12_i495 (by decide) pp_J1_charAt_3b067 (by decide) rfl rfl (Nat.le_of_ble_eq_true rfl) (Nat.le_of_ble_eq_true rfl) ((k_J1_charAt_3b067_12 h hI a0 (by omega)).mono (fun r7 h8 p9 => ?_))
    obtain ⟨rfl, x10, rfl, q11⟩ := p9
    show RUN d_J0_charAt_5068e 15 [(0, .inr (.inr (.inr 5))), (1, .inl a0)] [.inl x10] h _
    exact R_iret rfl rfl (nar_c (by omega)) ⟨rfl, _, rfl, by omega⟩
abbrev q_J0_charAt_5068e_13 (h : PH) (a0 : Int32) : Option PV → PH → Prop := fun r h' => h = h' ∧ ∃ z : Int32, r = some (.inl z) ∧ ((0 ≤ z.toInt ∧ z.toInt ≤ 255))
set_option maxHeartbeats 4000000 in
set_option maxRecDepth 100000 in
theorem k_J0_charAt_5068e_13 (h : PH) (hI : INV h) (a0 : Int32) (h0a : 0 ≤ a0.toInt ∧ a0.toInt ≤ 3) : CALL d_J0_charAt_5068e [.inr (.inr (.inr 6)), .inl a0] h (q_J0_charAt_5068e_13 h a0) := by
  show RUN d_J0_charAt_5068e 0 [(0, .inr (.inr (.inr 6))), (1, .inl a0)] [] h _
  refine R_aload_c (k := 0) rfl rfl rfl (by decide) ?_
  refine R_callV (v := .inr (.inr (.inr 6))) (As := []) (rest := []) rfl mt_12_i492 pp_J0_isLatin1_aae02 (by decide) rfl rfl rfl (Nat.le_of_ble_eq_true rfl) (Nat.le_of_ble_eq_true rfl) ((k_J0_isLatin1_aae02_13 h hI).mono (fun r1 h2 p3 => ?_))
  obtain ⟨rfl, x4, rfl, q5⟩ := p3
  show RUN d_J0_charAt_5068e 4 [(0, .inr (.inr (.inr 6))), (1, .inl a0)] [.inl x4] h _
  refine N_if_eq (a := x4.toInt) 16 rfl rfl rfl (fun c6 => ?_) (fun c6 => ?_)
  · exfalso; omega
  · refine R_aload_c (k := 0) rfl rfl rfl (by decide) ?_
    refine R_getf_c9 (i := 5) rfl rfl (by decide) ?_
    refine R_iload_n (k := 1) rfl rfl rfl ?_
    refine R_callS (As := [.inr (.inr (.inr 20)), .inl a0]) (rest := []) rfl mt_12_i495 (by decide) pp_J1_charAt_3b067 (by decide) rfl rfl (Nat.le_of_ble_eq_true rfl) (Nat.le_of_ble_eq_true rfl) ((k_J1_charAt_3b067_13 h hI a0 (by omega)).mono (fun r7 h8 p9 => ?_))
    obtain ⟨rfl, x10, rfl, q11⟩ := p9
    show RUN d_J0_charAt_5068e 15 [(0, .inr (.inr (.inr 6))), (1, .inl a0)] [.inl x10] h _
    exact R_iret rfl rfl (nar_c (by omega)) ⟨rfl, _, rfl, by omega⟩
abbrev q_J0_charAt_5068e (h : PH) (a0 : Int32) : Option PV → PH → Prop := fun r h' => h = h' ∧ ∃ z : Int32, r = some (.inl z) ∧ ((0 ≤ z.toInt ∧ z.toInt ≤ 255))
set_option maxHeartbeats 4000000 in
set_option maxRecDepth 100000 in
theorem k_J0_charAt_5068e (h : PH) (hI : INV h) (a0 : Int32) (h0a : 0 ≤ a0.toInt ∧ a0.toInt ≤ 3) : CALL d_J0_charAt_5068e [.inr (.inr (.inr 7)), .inl a0] h (q_J0_charAt_5068e h a0) := by
  show RUN d_J0_charAt_5068e 0 [(0, .inr (.inr (.inr 7))), (1, .inl a0)] [] h _
  refine R_aload_c (k := 0) rfl rfl rfl (by decide) ?_
  refine R_callV (v := .inr (.inr (.inr 7))) (As := []) (rest := []) rfl mt_12_i492 pp_J0_isLatin1_aae02 (by decide) rfl rfl rfl (Nat.le_of_ble_eq_true rfl) (Nat.le_of_ble_eq_true rfl) ((k_J0_isLatin1_aae02 h hI).mono (fun r1 h2 p3 => ?_))
  obtain ⟨rfl, x4, rfl, q5⟩ := p3
  show RUN d_J0_charAt_5068e 4 [(0, .inr (.inr (.inr 7))), (1, .inl a0)] [.inl x4] h _
  refine N_if_eq (a := x4.toInt) 16 rfl rfl rfl (fun c6 => ?_) (fun c6 => ?_)
  · exfalso; omega
  · refine R_aload_c (k := 0) rfl rfl rfl (by decide) ?_
    refine R_getf_c9 (i := 6) rfl rfl (by decide) ?_
    refine R_iload_n (k := 1) rfl rfl rfl ?_
    refine R_callS (As := [.inr (.inr (.inr 21)), .inl a0]) (rest := []) rfl mt_12_i495 (by decide) pp_J1_charAt_3b067 (by decide) rfl rfl (Nat.le_of_ble_eq_true rfl) (Nat.le_of_ble_eq_true rfl) ((k_J1_charAt_3b067 h hI a0 (by omega)).mono (fun r7 h8 p9 => ?_))
    obtain ⟨rfl, x10, rfl, q11⟩ := p9
    show RUN d_J0_charAt_5068e 15 [(0, .inr (.inr (.inr 7))), (1, .inl a0)] [.inl x10] h _
    exact R_iret rfl rfl (nar_c (by omega)) ⟨rfl, _, rfl, by omega⟩
abbrev q_J0_charAt_5068e_6 (h : PH) (a0 : Int32) : Option PV → PH → Prop := fun r h' => h = h' ∧ ∃ z : Int32, r = some (.inl z) ∧ ((0 ≤ z.toInt ∧ z.toInt ≤ 255))
set_option maxHeartbeats 4000000 in
set_option maxRecDepth 100000 in
theorem k_J0_charAt_5068e_6 (h : PH) (hI : INV h) (a0 : Int32) (h0a : 0 ≤ a0.toInt ∧ a0.toInt ≤ 3) : CALL d_J0_charAt_5068e [.inr (.inr (.inr 8)), .inl a0] h (q_J0_charAt_5068e_6 h a0) := by
  show RUN d_J0_charAt_5068e 0 [(0, .inr (.inr (.inr 8))), (1, .inl a0)] [] h _
  refine R_aload_c (k := 0) rfl rfl rfl (by decide) ?_
  refine R_callV (v := .inr (.inr (.inr 8))) (As := []) (rest := []) rfl mt_12_i492 pp_J0_isLatin1_aae02 (by decide) rfl rfl rfl (Nat.le_of_ble_eq_true rfl) (Nat.le_of_ble_eq_true rfl) ((k_J0_isLatin1_aae02_6 h hI).mono (fun r1 h2 p3 => ?_))
  obtain ⟨rfl, x4, rfl, q5⟩ := p3
  show RUN d_J0_charAt_5068e 4 [(0, .inr (.inr (.inr 8))), (1, .inl a0)] [.inl x4] h _
  refine N_if_eq (a := x4.toInt) 16 rfl rfl rfl (fun c6 => ?_) (fun c6 => ?_)
  · exfalso; omega
  · refine R_aload_c (k := 0) rfl rfl rfl (by decide) ?_
    refine R_getf_c9 (i := 7) rfl rfl (by decide) ?_
    refine R_iload_n (k := 1) rfl rfl rfl ?_
    refine R_callS (As := [.inr (.inr (.inr 22)), .inl a0]) (rest := []) rfl mt_12_i495 (by decide) pp_J1_charAt_3b067 (by decide) rfl rfl (Nat.le_of_ble_eq_true rfl) (Nat.le_of_ble_eq_true rfl) ((k_J1_charAt_3b067_6 h hI a0 (by omega)).mono (fun r7 h8 p9 => ?_))
    obtain ⟨rfl, x10, rfl, q11⟩ := p9
    show RUN d_J0_charAt_5068e 15 [(0, .inr (.inr (.inr 8))), (1, .inl a0)] [.inl x10] h _
    exact R_iret rfl rfl (nar_c (by omega)) ⟨rfl, _, rfl, by omega⟩
abbrev q_J0_charAt_5068e_7 (h : PH) (a0 : Int32) : Option PV → PH → Prop := fun r h' => h = h' ∧ ∃ z : Int32, r = some (.inl z) ∧ ((0 ≤ z.toInt ∧ z.toInt ≤ 255))
set_option maxHeartbeats 4000000 in
set_option maxRecDepth 100000 in
theorem k_J0_charAt_5068e_7 (h : PH) (hI : INV h) (a0 : Int32) (h0a : 0 ≤ a0.toInt ∧ a0.toInt ≤ 5) : CALL d_J0_charAt_5068e [.inr (.inr (.inr 9)), .inl a0] h (q_J0_charAt_5068e_7 h a0) := by
  show RUN d_J0_charAt_5068e 0 [(0, .inr (.inr (.inr 9))), (1, .inl a0)] [] h _
  refine R_aload_c (k := 0) rfl rfl rfl (by decide) ?_
  refine R_callV (v := .inr (.inr (.inr 9))) (As := []) (rest := []) rfl mt_12_i492 pp_J0_isLatin1_aae02 (by decide) rfl rfl rfl (Nat.le_of_ble_eq_true rfl) (Nat.le_of_ble_eq_true rfl) ((k_J0_isLatin1_aae02_7 h hI).mono (fun r1 h2 p3 => ?_))
  obtain ⟨rfl, x4, rfl, q5⟩ := p3
  show RUN d_J0_charAt_5068e 4 [(0, .inr (.inr (.inr 9))), (1, .inl a0)] [.inl x4] h _
  refine N_if_eq (a := x4.toInt) 16 rfl rfl rfl (fun c6 => ?_) (fun c6 => ?_)
  · exfalso; omega
  · refine R_aload_c (k := 0) rfl rfl rfl (by decide) ?_
    refine R_getf_c9 (i := 8) rfl rfl (by decide) ?_
    refine R_iload_n (k := 1) rfl rfl rfl ?_
    refine R_callS (As := [.inr (.inr (.inr 23)), .inl a0]) (rest := []) rfl mt_12_i495 (by decide) pp_J1_charAt_3b067 (by decide) rfl rfl (Nat.le_of_ble_eq_true rfl) (Nat.le_of_ble_eq_true rfl) ((k_J1_charAt_3b067_7 h hI a0 (by omega)).mono (fun r7 h8 p9 => ?_))
    obtain ⟨rfl, x10, rfl, q11⟩ := p9
    show RUN d_J0_charAt_5068e 15 [(0, .inr (.inr (.inr 9))), (1, .inl a0)] [.inl x10] h _
    exact R_iret rfl rfl (nar_c (by omega)) ⟨rfl, _, rfl, by omega⟩
abbrev q_X4_isWord_8 (h : PH)  : Option PV → PH → Prop := fun r h' => h = h' ∧ ∃ z : Int32, r = some (.inl z) ∧ ((z.toInt = 0) ∨ (z.toInt = 1 ∧ (h.1 1 3).toInt = 0) ∨ (z.toInt = 0 ∧ (h.1 1 3).toInt = 0))
set_option maxHeartbeats 4000000 in
set_option maxRecDepth 100000 in
theorem k_X4_isWord_8 (h : PH) (hI : INV h)  : CALL d_X4_isWord [.inr (.inr (.inl 1)), .inr (.inr (.inr 1))] h (q_X4_isWord_8 h) := by
  show RUN d_X4_isWord 0 [(0, .inr (.inr (.inl 1))), (1, .inr (.inr (.inr 1)))] [] h _
  refine R_aload_n (k := 0) rfl rfl rfl ?_
  refine R_getf_i (j := 3) rfl ft_4_25 sh_1 rfl ?_
  refine N_if_ne (a := (h.1 1 3).toInt) 23 rfl rfl rfl (fun c1 => ?_) (fun c1 => ?_)
  · refine R_iconst 0 rfl rfl ?_
    exact R_iret rfl rfl rfl ⟨rfl, _, rfl, by rw [show (0 : Int32).toInt = 0 from rfl] <;> omega⟩
  · refine R_aload_n (k := 0) rfl rfl rfl ?_
    refine R_getf_i (j := 5) rfl ft_4_31 sh_1 rfl ?_
    refine R_aload_n (k := 0) rfl rfl rfl ?_
    refine R_getf_i (j := 4) rfl ft_4_28 sh_1 rfl ?_
    have b2 := i_rng (h.1 1 5)
    have b3 := i_rng (h.1 1 4)
    refine R_isub rfl ?_
    refine N_any (fun x4 => ?_)
    refine R_aload_c (k := 1) rfl rfl rfl (by decide) ?_
    refine R_callV (v := .inr (.inr (.inr 1))) (As := []) (rest := [.inl x4]) rfl mt_4_i121 pp_J0_length_8abf5 (by decide) rfl rfl rfl (Nat.le_of_ble_eq_true rfl) (Nat.le_of_ble_eq_true rfl) ((k_J0_length_8abf5_8 h hI).mono (fun r5 h6 p7 => ?_))
    obtain ⟨rfl, x8, rfl, q9⟩ := p7
    show RUN d_X4_isWord 20 [(0, .inr (.inr (.inl 1))), (1, .inr (.inr (.inr 1)))] [.inl x8, .inl x4] h _
    refine N_icmp_eq (a := x4.toInt) (b := x8.toInt) 25 rfl rfl rfl rfl (fun c10 => ?_) (fun c10 => ?_)
    · refine R_iconst 0 rfl rfl ?_
      refine R_istore_n (k := 2) rfl [(2, .inl 0), (0, .inr (.inr (.inl 1))), (1, .inr (.inr (.inr 1)))] rfl rfl (by decide) ?_
      have lp12 : ∀ (n11 : Nat) (x13 : Int32), 0 ≤ x13.toInt ∧ x13.toInt ≤ 7 → (7 - x13.toInt).toNat < n11 → RUN d_X4_isWord 27 [(2, .inl x13), (0, .inr (.inr (.inl 1))), (1, .inr (.inr (.inr 1)))] [] h (q_X4_isWord_8 h) := by
        intro n11
        induction n11 with
        | zero => intro x13 m15 hz; exact absurd hz (Nat.not_lt_zero _)
        | succ n11 ih14 =>
          intro x13 m15 hz
          refine R_iload_n (k := 2) rfl rfl rfl ?_
          refine R_aload_c (k := 1) rfl rfl rfl (by decide) ?_
          refine R_callV (v := .inr (.inr (.inr 1))) (As := []) (rest := [.inl x13]) rfl mt_4_i121 pp_J0_length_8abf5 (by decide) rfl rfl rfl (Nat.le_of_ble_eq_true rfl) (Nat.le_of_ble_eq_true rfl) ((k_J0_length_8abf5_8 h hI).mono (fun r16 h17 p18 => ?_))
          obtain ⟨rfl, x19, rfl, q20⟩ := p18
          show RUN d_X4_isWord 32 [(2, .inl x13), (0, .inr (.inr (.inl 1))), (1, .inr (.inr (.inr 1)))] [.inl x19, .inl x13] h _
          refine N_icmp_ge (a := x13.toInt) (b := x19.toInt) 64 rfl rfl rfl rfl (fun c21 => ?_) (fun c21 => ?_)
          · refine R_iconst 1 rfl rfl ?_
            exact R_iret rfl rfl rfl ⟨rfl, _, rfl, by rw [show (1 : Int32).toInt = 1 from rfl] <;> omega⟩
          · refine R_aload_n (k := 0) rfl rfl rfl ?_
            refine R_getf_r (j := 0) rfl ft_4_12 sh_1 rfl ?_
            refine R_aload_n (k := 0) rfl rfl rfl ?_
            refine R_getf_i (j := 4) rfl ft_4_28 sh_1 rfl ?_
            refine R_iload_n (k := 2) rfl rfl rfl ?_
            have b22 := i_rng (h.1 1 4)
            refine R_iadd rfl ?_
            refine N_any (fun x23 => ?_)
            refine R_callV (v := .inr (.inr (.inl 2))) (As := [.inl x23]) (rest := []) rfl mt_4_i127 pp_X7_byteAt (by decide) rfl rfl rfl (Nat.le_of_ble_eq_true rfl) (Nat.le_of_ble_eq_true rfl) ((k_X7_byteAt h hI x23).mono (fun r24 h25 p26 => ?_))
            obtain ⟨rfl, x27, rfl, q28⟩ := p26
            show RUN d_X4_isWord 48 [(2, .inl x13), (0, .inr (.inr (.inl 1))), (1, .inr (.inr (.inr 1)))] [.inl x27] h _
            refine R_aload_c (k := 1) rfl rfl rfl (by decide) ?_
            refine R_iload_n (k := 2) rfl rfl rfl ?_
            refine R_callV (v := .inr (.inr (.inr 1))) (As := [.inl x13]) (rest := [.inl x27]) rfl mt_4_i131 pp_J0_charAt_5068e (by decide) rfl rfl rfl (Nat.le_of_ble_eq_true rfl) (Nat.le_of_ble_eq_true rfl) ((k_J0_charAt_5068e_8 h hI x13 (by omega)).mono (fun r29 h30 p31 => ?_))
            obtain ⟨rfl, x32, rfl, q33⟩ := p31
            show RUN d_X4_isWord 53 [(2, .inl x13), (0, .inr (.inr (.inl 1))), (1, .inr (.inr (.inr 1)))] [.inl x32, .inl x27] h _
            refine N_icmp_eq (a := x27.toInt) (b := x32.toInt) 58 rfl rfl rfl rfl (fun c34 => ?_) (fun c34 => ?_)
            · refine N_iinc (a := x13.toInt) (c := 1) (fun w => [(2, .inl w), (0, .inr (.inr (.inl 1))), (1, .inr (.inr (.inr 1)))]) rfl rfl (fun _ => rfl) (by decide) rfl (by decide) (by omega) (fun x35 q36 => ?_)
              refine R_goto 27 rfl rfl ?_
              exact RUN_weak (psub_cons rfl (psub_cons rfl (psub_cons rfl (psub_nil _)))) (ih14 x35 (by omega) (by omega))
            · refine R_iconst 0 rfl rfl ?_
              exact R_iret rfl rfl rfl ⟨rfl, _, rfl, by rw [show (0 : Int32).toInt = 0 from rfl] <;> omega⟩
      exact lp12 _ (0 : Int32) (by decide) (Nat.lt_succ_self _)
    · refine R_iconst 0 rfl rfl ?_
      exact R_iret rfl rfl rfl ⟨rfl, _, rfl, by rw [show (0 : Int32).toInt = 0 from rfl] <;> omega⟩
abbrev q_X4_isWord_1 (h : PH)  : Option PV → PH → Prop := fun r h' => h = h' ∧ ∃ z : Int32, r = some (.inl z) ∧ ((z.toInt = 0) ∨ (z.toInt = 1 ∧ (h.1 1 3).toInt = 0) ∨ (z.toInt = 0 ∧ (h.1 1 3).toInt = 0))
set_option maxHeartbeats 4000000 in
set_option maxRecDepth 100000 in
theorem k_X4_isWord_1 (h : PH) (hI : INV h)  : CALL d_X4_isWord [.inr (.inr (.inl 1)), .inr (.inr (.inr 10))] h (q_X4_isWord_1 h) := by
  show RUN d_X4_isWord 0 [(0, .inr (.inr (.inl 1))), (1, .inr (.inr (.inr 10)))] [] h _
  refine R_aload_n (k := 0) rfl rfl rfl ?_
  refine R_getf_i (j := 3) rfl ft_4_25 sh_1 rfl ?_
  refine N_if_ne (a := (h.1 1 3).toInt) 23 rfl rfl rfl (fun c1 => ?_) (fun c1 => ?_)
  · refine R_iconst 0 rfl rfl ?_
    exact R_iret rfl rfl rfl ⟨rfl, _, rfl, by rw [show (0 : Int32).toInt = 0 from rfl] <;> omega⟩
  · refine R_aload_n (k := 0) rfl rfl rfl ?_
    refine R_getf_i (j := 5) rfl ft_4_31 sh_1 rfl ?_
    refine R_aload_n (k := 0) rfl rfl rfl ?_
    refine R_getf_i (j := 4) rfl ft_4_28 sh_1 rfl ?_
    have b2 := i_rng (h.1 1 5)
    have b3 := i_rng (h.1 1 4)
    refine R_isub rfl ?_
    refine N_any (fun x4 => ?_)
    refine R_aload_c (k := 1) rfl rfl rfl (by decide) ?_
    refine R_callV (v := .inr (.inr (.inr 10))) (As := []) (rest := [.inl x4]) rfl mt_4_i121 pp_J0_length_8abf5 (by decide) rfl rfl rfl (Nat.le_of_ble_eq_true rfl) (Nat.le_of_ble_eq_true rfl) ((k_J0_length_8abf5_1 h hI).mono (fun r5 h6 p7 => ?_))
    obtain ⟨rfl, x8, rfl, q9⟩ := p7
    show RUN d_X4_isWord 20 [(0, .inr (.inr (.inl 1))), (1, .inr (.inr (.inr 10)))] [.inl x8, .inl x4] h _
    refine N_icmp_eq (a := x4.toInt) (b := x8.toInt) 25 rfl rfl rfl rfl (fun c10 => ?_) (fun c10 => ?_)
    · refine R_iconst 0 rfl rfl ?_
      refine R_istore_n (k := 2) rfl [(2, .inl 0), (0, .inr (.inr (.inl 1))), (1, .inr (.inr (.inr 10)))] rfl rfl (by decide) ?_
      have lp12 : ∀ (n11 : Nat) (x13 : Int32), 0 ≤ x13.toInt ∧ x13.toInt ≤ 8 → (8 - x13.toInt).toNat < n11 → RUN d_X4_isWord 27 [(2, .inl x13), (0, .inr (.inr (.inl 1))), (1, .inr (.inr (.inr 10)))] [] h (q_X4_isWord_1 h) := by
        intro n11
        induction n11 with
        | zero => intro x13 m15 hz; exact absurd hz (Nat.not_lt_zero _)
        | succ n11 ih14 =>
          intro x13 m15 hz
          refine R_iload_n (k := 2) rfl rfl rfl ?_
          refine R_aload_c (k := 1) rfl rfl rfl (by decide) ?_
          refine R_callV (v := .inr (.inr (.inr 10))) (As := []) (rest := [.inl x13]) rfl mt_4_i121 pp_J0_length_8abf5 (by decide) rfl rfl rfl (Nat.le_of_ble_eq_true rfl) (Nat.le_of_ble_eq_true rfl) ((k_J0_length_8abf5_1 h hI).mono (fun r16 h17 p18 => ?_))
          obtain ⟨rfl, x19, rfl, q20⟩ := p18
          show RUN d_X4_isWord 32 [(2, .inl x13), (0, .inr (.inr (.inl 1))), (1, .inr (.inr (.inr 10)))] [.inl x19, .inl x13] h _
          refine N_icmp_ge (a := x13.toInt) (b := x19.toInt) 64 rfl rfl rfl rfl (fun c21 => ?_) (fun c21 => ?_)
          · refine R_iconst 1 rfl rfl ?_
            exact R_iret rfl rfl rfl ⟨rfl, _, rfl, by rw [show (1 : Int32).toInt = 1 from rfl] <;> omega⟩
          · refine R_aload_n (k := 0) rfl rfl rfl ?_
            refine R_getf_r (j := 0) rfl ft_4_12 sh_1 rfl ?_
            refine R_aload_n (k := 0) rfl rfl rfl ?_
            refine R_getf_i (j := 4) rfl ft_4_28 sh_1 rfl ?_
            refine R_iload_n (k := 2) rfl rfl rfl ?_
            have b22 := i_rng (h.1 1 4)
            refine R_iadd rfl ?_
            refine N_any (fun x23 => ?_)
            refine R_callV (v := .inr (.inr (.inl 2))) (As := [.inl x23]) (rest := []) rfl mt_4_i127 pp_X7_byteAt (by decide) rfl rfl rfl (Nat.le_of_ble_eq_true rfl) (Nat.le_of_ble_eq_true rfl) ((k_X7_byteAt h hI x23).mono (fun r24 h25 p26 => ?_))
            obtain ⟨rfl, x27, rfl, q28⟩ := p26
            show RUN d_X4_isWord 48 [(2, .inl x13), (0, .inr (.inr (.inl 1))), (1, .inr (.inr (.inr 10)))] [.inl x27] h _
            refine R_aload_c (k := 1) rfl rfl rfl (by decide) ?_
            refine R_iload_n (k := 2) rfl rfl rfl ?_
            refine R_callV (v := .inr (.inr (.inr 10))) (As := [.inl x13]) (rest := [.inl x27]) rfl mt_4_i131 pp_J0_charAt_5068e (by decide) rfl rfl rfl (Nat.le_of_ble_eq_true rfl) (Nat.le_of_ble_eq_true rfl) ((k_J0_charAt_5068e_1 h hI x13 (by omega)).mono (fun r29 h30 p31 => ?_))
            obtain ⟨rfl, x32, rfl, q33⟩ := p31
            show RUN d_X4_isWord 53 [(2, .inl x13), (0, .inr (.inr (.inl 1))), (1, .inr (.inr (.inr 10)))] [.inl x32, .inl x27] h _
            refine N_icmp_eq (a := x27.toInt) (b := x32.toInt) 58 rfl rfl rfl rfl (fun c34 => ?_) (fun c34 => ?_)
            · refine N_iinc (a := x13.toInt) (c := 1) (fun w => [(2, .inl w), (0, .inr (.inr (.inl 1))), (1, .inr (.inr (.inr 10)))]) rfl rfl (fun _ => rfl) (by decide) rfl (by decide) (by omega) (fun x35 q36 => ?_)
              refine R_goto 27 rfl rfl ?_
              exact RUN_weak (psub_cons rfl (psub_cons rfl (psub_cons rfl (psub_nil _)))) (ih14 x35 (by omega) (by omega))
            · refine R_iconst 0 rfl rfl ?_
              exact R_iret rfl rfl rfl ⟨rfl, _, rfl, by rw [show (0 : Int32).toInt = 0 from rfl] <;> omega⟩
      exact lp12 _ (0 : Int32) (by decide) (Nat.lt_succ_self _)
    · refine R_iconst 0 rfl rfl ?_
      exact R_iret rfl rfl rfl ⟨rfl, _, rfl, by rw [show (0 : Int32).toInt = 0 from rfl] <;> omega⟩
abbrev q_X4_isWord_2 (h : PH)  : Option PV → PH → Prop := fun r h' => h = h' ∧ ∃ z : Int32, r = some (.inl z) ∧ ((z.toInt = 0) ∨ (z.toInt = 1 ∧ (h.1 1 3).toInt = 0) ∨ (z.toInt = 0 ∧ (h.1 1 3).toInt = 0))
set_option maxHeartbeats 4000000 in
set_option maxRecDepth 100000 in
theorem k_X4_isWord_2 (h : PH) (hI : INV h)  : CALL d_X4_isWord [.inr (.inr (.inl 1)), .inr (.inr (.inr 11))] h (q_X4_isWord_2 h) := by
  show RUN d_X4_isWord 0 [(0, .inr (.inr (.inl 1))), (1, .inr (.inr (.inr 11)))] [] h _
  refine R_aload_n (k := 0) rfl rfl rfl ?_
  refine R_getf_i (j := 3) rfl ft_4_25 sh_1 rfl ?_
  refine N_if_ne (a := (h.1 1 3).toInt) 23 rfl rfl rfl (fun c1 => ?_) (fun c1 => ?_)
  · refine R_iconst 0 rfl rfl ?_
    exact R_iret rfl rfl rfl ⟨rfl, _, rfl, by rw [show (0 : Int32).toInt = 0 from rfl] <;> omega⟩
  · refine R_aload_n (k := 0) rfl rfl rfl ?_
    refine R_getf_i (j := 5) rfl ft_4_31 sh_1 rfl ?_
    refine R_aload_n (k := 0) rfl rfl rfl ?_
    refine R_getf_i (j := 4) rfl ft_4_28 sh_1 rfl ?_
    have b2 := i_rng (h.1 1 5)
    have b3 := i_rng (h.1 1 4)
    refine R_isub rfl ?_
    refine N_any (fun x4 => ?_)
    refine R_aload_c (k := 1) rfl rfl rfl (by decide) ?_
    refine R_callV (v := .inr (.inr (.inr 11))) (As := []) (rest := [.inl x4]) rfl mt_4_i121 pp_J0_length_8abf5 (by decide) rfl rfl rfl (Nat.le_of_ble_eq_true rfl) (Nat.le_of_ble_eq_true rfl) ((k_J0_length_8abf5_2 h hI).mono (fun r5 h6 p7 => ?_))
    obtain ⟨rfl, x8, rfl, q9⟩ := p7
    show RUN d_X4_isWord 20 [(0, .inr (.inr (.inl 1))), (1, .inr (.inr (.inr 11)))] [.inl x8, .inl x4] h _
    refine N_icmp_eq (a := x4.toInt) (b := x8.toInt) 25 rfl rfl rfl rfl (fun c10 => ?_) (fun c10 => ?_)
    · refine R_iconst 0 rfl rfl ?_
      refine R_istore_n (k := 2) rfl [(2, .inl 0), (0, .inr (.inr (.inl 1))), (1, .inr (.inr (.inr 11)))] rfl rfl (by decide) ?_
      have lp12 : ∀ (n11 : Nat) (x13 : Int32), 0 ≤ x13.toInt ∧ x13.toInt ≤ 5 → (5 - x13.toInt).toNat < n11 → RUN d_X4_isWord 27 [(2, .inl x13), (0, .inr (.inr (.inl 1))), (1, .inr (.inr (.inr 11)))] [] h (q_X4_isWord_2 h) := by
        intro n11
        induction n11 with
        | zero => intro x13 m15 hz; exact absurd hz (Nat.not_lt_zero _)
        | succ n11 ih14 =>
          intro x13 m15 hz
          refine R_iload_n (k := 2) rfl rfl rfl ?_
          refine R_aload_c (k := 1) rfl rfl rfl (by decide) ?_
          refine R_callV (v := .inr (.inr (.inr 11))) (As := []) (rest := [.inl x13]) rfl mt_4_i121 pp_J0_length_8abf5 (by decide) rfl rfl rfl (Nat.le_of_ble_eq_true rfl) (Nat.le_of_ble_eq_true rfl) ((k_J0_length_8abf5_2 h hI).mono (fun r16 h17 p18 => ?_))
          obtain ⟨rfl, x19, rfl, q20⟩ := p18
          show RUN d_X4_isWord 32 [(2, .inl x13), (0, .inr (.inr (.inl 1))), (1, .inr (.inr (.inr 11)))] [.inl x19, .inl x13] h _
          refine N_icmp_ge (a := x13.toInt) (b := x19.toInt) 64 rfl rfl rfl rfl (fun c21 => ?_) (fun c21 => ?_)
          · refine R_iconst 1 rfl rfl ?_
            exact R_iret rfl rfl rfl ⟨rfl, _, rfl, by rw [show (1 : Int32).toInt = 1 from rfl] <;> omega⟩
          · refine R_aload_n (k := 0) rfl rfl rfl ?_
            refine R_getf_r (j := 0) rfl ft_4_12 sh_1 rfl ?_
            refine R_aload_n (k := 0) rfl rfl rfl ?_
            refine R_getf_i (j := 4) rfl ft_4_28 sh_1 rfl ?_
            refine R_iload_n (k := 2) rfl rfl rfl ?_
            have b22 := i_rng (h.1 1 4)
            refine R_iadd rfl ?_
            refine N_any (fun x23 => ?_)
            refine R_callV (v := .inr (.inr (.inl 2))) (As := [.inl x23]) (rest := []) rfl mt_4_i127 pp_X7_byteAt (by decide) rfl rfl rfl (Nat.le_of_ble_eq_true rfl) (Nat.le_of_ble_eq_true rfl) ((k_X7_byteAt h hI x23).mono (fun r24 h25 p26 => ?_))
            obtain ⟨rfl, x27, rfl, q28⟩ := p26
            show RUN d_X4_isWord 48 [(2, .inl x13), (0, .inr (.inr (.inl 1))), (1, .inr (.inr (.inr 11)))] [.inl x27] h _
            refine R_aload_c (k := 1) rfl rfl rfl (by decide) ?_
            refine R_iload_n (k := 2) rfl rfl rfl ?_
            refine R_callV (v := .inr (.inr (.inr 11))) (As := [.inl x13]) (rest := [.inl x27]) rfl mt_4_i131 pp_J0_charAt_5068e (by decide) rfl rfl rfl (Nat.le_of_ble_eq_true rfl) (Nat.le_of_ble_eq_true rfl) ((k_J0_charAt_5068e_2 h hI x13 (by omega)).mono (fun r29 h30 p31 => ?_))
            obtain ⟨rfl, x32, rfl, q33⟩ := p31
            show RUN d_X4_isWord 53 [(2, .inl x13), (0, .inr (.inr (.inl 1))), (1, .inr (.inr (.inr 11)))] [.inl x32, .inl x27] h _
            refine N_icmp_eq (a := x27.toInt) (b := x32.toInt) 58 rfl rfl rfl rfl (fun c34 => ?_) (fun c34 => ?_)
            · refine N_iinc (a := x13.toInt) (c := 1) (fun w => [(2, .inl w), (0, .inr (.inr (.inl 1))), (1, .inr (.inr (.inr 11)))]) rfl rfl (fun _ => rfl) (by decide) rfl (by decide) (by omega) (fun x35 q36 => ?_)
              refine R_goto 27 rfl rfl ?_
              exact RUN_weak (psub_cons rfl (psub_cons rfl (psub_cons rfl (psub_nil _)))) (ih14 x35 (by omega) (by omega))
            · refine R_iconst 0 rfl rfl ?_
              exact R_iret rfl rfl rfl ⟨rfl, _, rfl, by rw [show (0 : Int32).toInt = 0 from rfl] <;> omega⟩
      exact lp12 _ (0 : Int32) (by decide) (Nat.lt_succ_self _)
    · refine R_iconst 0 rfl rfl ?_
      exact R_iret rfl rfl rfl ⟨rfl, _, rfl, by rw [show (0 : Int32).toInt = 0 from rfl] <;> omega⟩
abbrev q_X4_isWord_3 (h : PH)  : Option PV → PH → Prop := fun r h' => h = h' ∧ ∃ z : Int32, r = some (.inl z) ∧ ((z.toInt = 0) ∨ (z.toInt = 1 ∧ (h.1 1 3).toInt = 0) ∨ (z.toInt = 0 ∧ (h.1 1 3).toInt = 0))
set_option maxHeartbeats 4000000 in
set_option maxRecDepth 100000 in
theorem k_X4_isWord_3 (h : PH) (hI : INV h)  : CALL d_X4_isWord [.inr (.inr (.inl 1)), .inr (.inr (.inr 12))] h (q_X4_isWord_3 h) := by
  show RUN d_X4_isWord 0 [(0, .inr (.inr (.inl 1))), (1, .inr (.inr (.inr 12)))] [] h _
  refine R_aload_n (k := 0) rfl rfl rfl ?_
  refine R_getf_i (j := 3) rfl ft_4_25 sh_1 rfl ?_
  refine N_if_ne (a := (h.1 1 3).toInt) 23 rfl rfl rfl (fun c1 => ?_) (fun c1 => ?_)
  · refine R_iconst 0 rfl rfl ?_
    exact R_iret rfl rfl rfl ⟨rfl, _, rfl, by rw [show (0 : Int32).toInt = 0 from rfl] <;> omega⟩
  · refine R_aload_n (k := 0) rfl rfl rfl ?_
    refine R_getf_i (j := 5) rfl ft_4_31 sh_1 rfl ?_
    refine R_aload_n (k := 0) rfl rfl rfl ?_
    refine R_getf_i (j := 4) rfl ft_4_28 sh_1 rfl ?_
    have b2 := i_rng (h.1 1 5)
    have b3 := i_rng (h.1 1 4)
    refine R_isub rfl ?_
    refine N_any (fun x4 => ?_)
    refine R_aload_c (k := 1) rfl rfl rfl (by decide) ?_
    refine R_callV (v := .inr (.inr (.inr 12))) (As := []) (rest := [.inl x4]) rfl mt_4_i121 pp_J0_length_8abf5 (by decide) rfl rfl rfl (Nat.le_of_ble_eq_true rfl) (Nat.le_of_ble_eq_true rfl) ((k_J0_length_8abf5_3 h hI).mono (fun r5 h6 p7 => ?_))
    obtain ⟨rfl, x8, rfl, q9⟩ := p7
    show RUN d_X4_isWord 20 [(0, .inr (.inr (.inl 1))), (1, .inr (.inr (.inr 12)))] [.inl x8, .inl x4] h _
    refine N_icmp_eq (a := x4.toInt) (b := x8.toInt) 25 rfl rfl rfl rfl (fun c10 => ?_) (fun c10 => ?_)
    · refine R_iconst 0 rfl rfl ?_
      refine R_istore_n (k := 2) rfl [(2, .inl 0), (0, .inr (.inr (.inl 1))), (1, .inr (.inr (.inr 12)))] rfl rfl (by decide) ?_
      have lp12 : ∀ (n11 : Nat) (x13 : Int32), 0 ≤ x13.toInt ∧ x13.toInt ≤ 4 → (4 - x13.toInt).toNat < n11 → RUN d_X4_isWord 27 [(2, .inl x13), (0, .inr (.inr (.inl 1))), (1, .inr (.inr (.inr 12)))] [] h (q_X4_isWord_3 h) := by
        intro n11
        induction n11 with
        | zero => intro x13 m15 hz; exact absurd hz (Nat.not_lt_zero _)
        | succ n11 ih14 =>
          intro x13 m15 hz
          refine R_iload_n (k := 2) rfl rfl rfl ?_
          refine R_aload_c (k := 1) rfl rfl rfl (by decide) ?_
          refine R_callV (v := .inr (.inr (.inr 12))) (As := []) (rest := [.inl x13]) rfl mt_4_i121 pp_J0_length_8abf5 (by decide) rfl rfl rfl (Nat.le_of_ble_eq_true rfl) (Nat.le_of_ble_eq_true rfl) ((k_J0_length_8abf5_3 h hI).mono (fun r16 h17 p18 => ?_))
          obtain ⟨rfl, x19, rfl, q20⟩ := p18
          show RUN d_X4_isWord 32 [(2, .inl x13), (0, .inr (.inr (.inl 1))), (1, .inr (.inr (.inr 12)))] [.inl x19, .inl x13] h _
          refine N_icmp_ge (a := x13.toInt) (b := x19.toInt) 64 rfl rfl rfl rfl (fun c21 => ?_) (fun c21 => ?_)
          · refine R_iconst 1 rfl rfl ?_
            exact R_iret rfl rfl rfl ⟨rfl, _, rfl, by rw [show (1 : Int32).toInt = 1 from rfl] <;> omega⟩
          · refine R_aload_n (k := 0) rfl rfl rfl ?_
            refine R_getf_r (j := 0) rfl ft_4_12 sh_1 rfl ?_
            refine R_aload_n (k := 0) rfl rfl rfl ?_
            refine R_getf_i (j := 4) rfl ft_4_28 sh_1 rfl ?_
            refine R_iload_n (k := 2) rfl rfl rfl ?_
            have b22 := i_rng (h.1 1 4)
            refine R_iadd rfl ?_
            refine N_any (fun x23 => ?_)
            refine R_callV (v := .inr (.inr (.inl 2))) (As := [.inl x23]) (rest := []) rfl mt_4_i127 pp_X7_byteAt (by decide) rfl rfl rfl (Nat.le_of_ble_eq_true rfl) (Nat.le_of_ble_eq_true rfl) ((k_X7_byteAt h hI x23).mono (fun r24 h25 p26 => ?_))
            obtain ⟨rfl, x27, rfl, q28⟩ := p26
            show RUN d_X4_isWord 48 [(2, .inl x13), (0, .inr (.inr (.inl 1))), (1, .inr (.inr (.inr 12)))] [.inl x27] h _
            refine R_aload_c (k := 1) rfl rfl rfl (by decide) ?_
            refine R_iload_n (k := 2) rfl rfl rfl ?_
            refine R_callV (v := .inr (.inr (.inr 12))) (As := [.inl x13]) (rest := [.inl x27]) rfl mt_4_i131 pp_J0_charAt_5068e (by decide) rfl rfl rfl (Nat.le_of_ble_eq_true rfl) (Nat.le_of_ble_eq_true rfl) ((k_J0_charAt_5068e_3 h hI x13 (by omega)).mono (fun r29 h30 p31 => ?_))
            obtain ⟨rfl, x32, rfl, q33⟩ := p31
            show RUN d_X4_isWord 53 [(2, .inl x13), (0, .inr (.inr (.inl 1))), (1, .inr (.inr (.inr 12)))] [.inl x32, .inl x27] h _
            refine N_icmp_eq (a := x27.toInt) (b := x32.toInt) 58 rfl rfl rfl rfl (fun c34 => ?_) (fun c34 => ?_)
            · refine N_iinc (a := x13.toInt) (c := 1) (fun w => [(2, .inl w), (0, .inr (.inr (.inl 1))), (1, .inr (.inr (.inr 12)))]) rfl rfl (fun _ => rfl) (by decide) rfl (by decide) (by omega) (fun x35 q36 => ?_)
              refine R_goto 27 rfl rfl ?_
              exact RUN_weak (psub_cons rfl (psub_cons rfl (psub_cons rfl (psub_nil _)))) (ih14 x35 (by omega) (by omega))
            · refine R_iconst 0 rfl rfl ?_
              exact R_iret rfl rfl rfl ⟨rfl, _, rfl, by rw [show (0 : Int32).toInt = 0 from rfl] <;> omega⟩
      exact lp12 _ (0 : Int32) (by decide) (Nat.lt_succ_self _)
    · refine R_iconst 0 rfl rfl ?_
      exact R_iret rfl rfl rfl ⟨rfl, _, rfl, by rw [show (0 : Int32).toInt = 0 from rfl] <;> omega⟩
abbrev q_X4_isWord_4 (h : PH)  : Option PV → PH → Prop := fun r h' => h = h' ∧ ∃ z : Int32, r = some (.inl z) ∧ ((z.toInt = 0) ∨ (z.toInt = 1 ∧ (h.1 1 3).toInt = 0) ∨ (z.toInt = 0 ∧ (h.1 1 3).toInt = 0))
set_option maxHeartbeats 4000000 in
set_option maxRecDepth 100000 in
theorem k_X4_isWord_4 (h : PH) (hI : INV h)  : CALL d_X4_isWord [.inr (.inr (.inl 1)), .inr (.inr (.inr 13))] h (q_X4_isWord_4 h) := by
  show RUN d_X4_isWord 0 [(0, .inr (.inr (.inl 1))), (1, .inr (.inr (.inr 13)))] [] h _
  refine R_aload_n (k := 0) rfl rfl rfl ?_
  refine R_getf_i (j := 3) rfl ft_4_25 sh_1 rfl ?_
  refine N_if_ne (a := (h.1 1 3).toInt) 23 rfl rfl rfl (fun c1 => ?_) (fun c1 => ?_)
  · refine R_iconst 0 rfl rfl ?_
    exact R_iret rfl rfl rfl ⟨rfl, _, rfl, by rw [show (0 : Int32).toInt = 0 from rfl] <;> omega⟩
  · refine R_aload_n (k := 0) rfl rfl rfl ?_
    refine R_getf_i (j := 5) rfl ft_4_31 sh_1 rfl ?_
    refine R_aload_n (k := 0) rfl rfl rfl ?_
    refine R_getf_i (j := 4) rfl ft_4_28 sh_1 rfl ?_
    have b2 := i_rng (h.1 1 5)
    have b3 := i_rng (h.1 1 4)
    refine R_isub rfl ?_
    refine N_any (fun x4 => ?_)
    refine R_aload_c (k := 1) rfl rfl rfl (by decide) ?_
    refine R_callV (v := .inr (.inr (.inr 13))) (As := []) (rest := [.inl x4]) rfl mt_4_i121 pp_J0_length_8abf5 (by decide) rfl rfl rfl (Nat.le_of_ble_eq_true rfl) (Nat.le_of_ble_eq_true rfl) ((k_J0_length_8abf5_4 h hI).mono (fun r5 h6 p7 => ?_))
    obtain ⟨rfl, x8, rfl, q9⟩ := p7
    show RUN d_X4_isWord 20 [(0, .inr (.inr (.inl 1))), (1, .inr (.inr (.inr 13)))] [.inl x8, .inl x4] h _
    refine N_icmp_eq (a := x4.toInt) (b := x8.toInt) 25 rfl rfl rfl rfl (fun c10 => ?_) (fun c10 => ?_)
    · refine R_iconst 0 rfl rfl ?_
      refine R_istore_n (k := 2) rfl [(2, .inl 0), (0, .inr (.inr (.inl 1))), (1, .inr (.inr (.inr 13)))] rfl rfl (by decide) ?_
      have lp12 : ∀ (n11 : Nat) (x13 : Int32), 0 ≤ x13.toInt ∧ x13.toInt ≤ 4 → (4 - x13.toInt).toNat < n11 → RUN d_X4_isWord 27 [(2, .inl x13), (0, .inr (.inr (.inl 1))), (1, .inr (.inr (.inr 13)))] [] h (q_X4_isWord_4 h) := by
        intro n11
        induction n11 with
        | zero => intro x13 m15 hz; exact absurd hz (Nat.not_lt_zero _)
        | succ n11 ih14 =>
          intro x13 m15 hz
          refine R_iload_n (k := 2) rfl rfl rfl ?_
          refine R_aload_c (k := 1) rfl rfl rfl (by decide) ?_
          refine R_callV (v := .inr (.inr (.inr 13))) (As := []) (rest := [.inl x13]) rfl mt_4_i121 pp_J0_length_8abf5 (by decide) rfl rfl rfl (Nat.le_of_ble_eq_true rfl) (Nat.le_of_ble_eq_true rfl) ((k_J0_length_8abf5_4 h hI).mono (fun r16 h17 p18 => ?_))
          obtain ⟨rfl, x19, rfl, q20⟩ := p18
          show RUN d_X4_isWord 32 [(2, .inl x13), (0, .inr (.inr (.inl 1))), (1, .inr (.inr (.inr 13)))] [.inl x19, .inl x13] h _
          refine N_icmp_ge (a := x13.toInt) (b := x19.toInt) 64 rfl rfl rfl rfl (fun c21 => ?_) (fun c21 => ?_)
          · refine R_iconst 1 rfl rfl ?_
            exact R_iret rfl rfl rfl ⟨rfl, _, rfl, by rw [show (1 : Int32).toInt = 1 from rfl] <;> omega⟩
          · refine R_aload_n (k := 0) rfl rfl rfl ?_
            refine R_getf_r (j := 0) rfl ft_4_12 sh_1 rfl ?_
            refine R_aload_n (k := 0) rfl rfl rfl ?_
            refine R_getf_i (j := 4) rfl ft_4_28 sh_1 rfl ?_
            refine R_iload_n (k := 2) rfl rfl rfl ?_
            have b22 := i_rng (h.1 1 4)
            refine R_iadd rfl ?_
            refine N_any (fun x23 => ?_)
            refine R_callV (v := .inr (.inr (.inl 2))) (As := [.inl x23]) (rest := []) rfl mt_4_i127 pp_X7_byteAt (by decide) rfl rfl rfl (Nat.le_of_ble_eq_true rfl) (Nat.le_of_ble_eq_true rfl) ((k_X7_byteAt h hI x23).mono (fun r24 h25 p26 => ?_))
            obtain ⟨rfl, x27, rfl, q28⟩ := p26
            show RUN d_X4_isWord 48 [(2, .inl x13), (0, .inr (.inr (.inl 1))), (1, .inr (.inr (.inr 13)))] [.inl x27] h _
            refine R_aload_c (k := 1) rfl rfl rfl (by decide) ?_
            refine R_iload_n (k := 2) rfl rfl rfl ?_
            refine R_callV (v := .inr (.inr (.inr 13))) (As := [.inl x13]) (rest := [.inl x27]) rfl mt_4_i131 pp_J0_charAt_5068e (by decide) rfl rfl rfl (Nat.le_of_ble_eq_true rfl) (Nat.le_of_ble_eq_true rfl) ((k_J0_charAt_5068e_4 h hI x13 (by omega)).mono (fun r29 h30 p31 => ?_))
            obtain ⟨rfl, x32, rfl, q33⟩ := p31
            show RUN d_X4_isWord 53 [(2, .inl x13), (0, .inr (.inr (.inl 1))), (1, .inr (.inr (.inr 13)))] [.inl x32, .inl x27] h _
            refine N_icmp_eq (a := x27.toInt) (b := x32.toInt) 58 rfl rfl rfl rfl (fun c34 => ?_) (fun c34 => ?_)
            · refine N_iinc (a := x13.toInt) (c := 1) (fun w => [(2, .inl w), (0, .inr (.inr (.inl 1))), (1, .inr (.inr (.inr 13)))]) rfl rfl (fun _ => rfl) (by decide) rfl (by decide) (by omega) (fun x35 q36 => ?_)
              refine R_goto 27 rfl rfl ?_
              exact RUN_weak (psub_cons rfl (psub_cons rfl (psub_cons rfl (psub_nil _)))) (ih14 x35 (by omega) (by omega))
            · refine R_iconst 0 rfl rfl ?_
              exact R_iret rfl rfl rfl ⟨rfl, _, rfl, by rw [show (0 : Int32).toInt = 0 from rfl] <;> omega⟩
      exact lp12 _ (0 : Int32) (by decide) (Nat.lt_succ_self _)
    · refine R_iconst 0 rfl rfl ?_
      exact R_iret rfl rfl rfl ⟨rfl, _, rfl, by rw [show (0 : Int32).toInt = 0 from rfl] <;> omega⟩
abbrev q_X4_isWord_5 (h : PH)  : Option PV → PH → Prop := fun r h' => h = h' ∧ ∃ z : Int32, r = some (.inl z) ∧ ((z.toInt = 0) ∨ (z.toInt = 1 ∧ (h.1 1 3).toInt = 0) ∨ (z.toInt = 0 ∧ (h.1 1 3).toInt = 0))
set_option maxHeartbeats 4000000 in
set_option maxRecDepth 100000 in
theorem k_X4_isWord_5 (h : PH) (hI : INV h)  : CALL d_X4_isWord [.inr (.inr (.inl 1)), .inr (.inr (.inr 14))] h (q_X4_isWord_5 h) := by
  show RUN d_X4_isWord 0 [(0, .inr (.inr (.inl 1))), (1, .inr (.inr (.inr 14)))] [] h _
  refine R_aload_n (k := 0) rfl rfl rfl ?_
  refine R_getf_i (j := 3) rfl ft_4_25 sh_1 rfl ?_
  refine N_if_ne (a := (h.1 1 3).toInt) 23 rfl rfl rfl (fun c1 => ?_) (fun c1 => ?_)
  · refine R_iconst 0 rfl rfl ?_
    exact R_iret rfl rfl rfl ⟨rfl, _, rfl, by rw [show (0 : Int32).toInt = 0 from rfl] <;> omega⟩
  · refine R_aload_n (k := 0) rfl rfl rfl ?_
    refine R_getf_i (j := 5) rfl ft_4_31 sh_1 rfl ?_
    refine R_aload_n (k := 0) rfl rfl rfl ?_
    refine R_getf_i (j := 4) rfl ft_4_28 sh_1 rfl ?_
    have b2 := i_rng (h.1 1 5)
    have b3 := i_rng (h.1 1 4)
    refine R_isub rfl ?_
    refine N_any (fun x4 => ?_)
    refine R_aload_c (k := 1) rfl rfl rfl (by decide) ?_
    refine R_callV (v := .inr (.inr (.inr 14))) (As := []) (rest := [.inl x4]) rfl mt_4_i121 pp_J0_length_8abf5 (by decide) rfl rfl rfl (Nat.le_of_ble_eq_true rfl) (Nat.le_of_ble_eq_true rfl) ((k_J0_length_8abf5_5 h hI).mono (fun r5 h6 p7 => ?_))
    obtain ⟨rfl, x8, rfl, q9⟩ := p7
    show RUN d_X4_isWord 20 [(0, .inr (.inr (.inl 1))), (1, .inr (.inr (.inr 14)))] [.inl x8, .inl x4] h _
    refine N_icmp_eq (a := x4.toInt) (b := x8.toInt) 25 rfl rfl rfl rfl (fun c10 => ?_) (fun c10 => ?_)
    · refine R_iconst 0 rfl rfl ?_
      refine R_istore_n (k := 2) rfl [(2, .inl 0), (0, .inr (.inr (.inl 1))), (1, .inr (.inr (.inr 14)))] rfl rfl (by decide) ?_
      have lp12 : ∀ (n11 : Nat) (x13 : Int32), 0 ≤ x13.toInt ∧ x13.toInt ≤ 5 → (5 - x13.toInt).toNat < n11 → RUN d_X4_isWord 27 [(2, .inl x13), (0, .inr (.inr (.inl 1))), (1, .inr (.inr (.inr 14)))] [] h (q_X4_isWord_5 h) := by
        intro n11
        induction n11 with
        | zero => intro x13 m15 hz; exact absurd hz (Nat.not_lt_zero _)
        | succ n11 ih14 =>
          intro x13 m15 hz
          refine R_iload_n (k := 2) rfl rfl rfl ?_
          refine R_aload_c (k := 1) rfl rfl rfl (by decide) ?_
          refine R_callV (v := .inr (.inr (.inr 14))) (As := []) (rest := [.inl x13]) rfl mt_4_i121 pp_J0_length_8abf5 (by decide) rfl rfl rfl (Nat.le_of_ble_eq_true rfl) (Nat.le_of_ble_eq_true rfl) ((k_J0_length_8abf5_5 h hI).mono (fun r16 h17 p18 => ?_))
          obtain ⟨rfl, x19, rfl, q20⟩ := p18
          show RUN d_X4_isWord 32 [(2, .inl x13), (0, .inr (.inr (.inl 1))), (1, .inr (.inr (.inr 14)))] [.inl x19, .inl x13] h _
          refine N_icmp_ge (a := x13.toInt) (b := x19.toInt) 64 rfl rfl rfl rfl (fun c21 => ?_) (fun c21 => ?_)
          · refine R_iconst 1 rfl rfl ?_
            exact R_iret rfl rfl rfl ⟨rfl, _, rfl, by rw [show (1 : Int32).toInt = 1 from rfl] <;> omega⟩
          · refine R_aload_n (k := 0) rfl rfl rfl ?_
            refine R_getf_r (j := 0) rfl ft_4_12 sh_1 rfl ?_
            refine R_aload_n (k := 0) rfl rfl rfl ?_
            refine R_getf_i (j := 4) rfl ft_4_28 sh_1 rfl ?_
            refine R_iload_n (k := 2) rfl rfl rfl ?_
            have b22 := i_rng (h.1 1 4)
            refine R_iadd rfl ?_
            refine N_any (fun x23 => ?_)
            refine R_callV (v := .inr (.inr (.inl 2))) (As := [.inl x23]) (rest := []) rfl mt_4_i127 pp_X7_byteAt (by decide) rfl rfl rfl (Nat.le_of_ble_eq_true rfl) (Nat.le_of_ble_eq_true rfl) ((k_X7_byteAt h hI x23).mono (fun r24 h25 p26 => ?_))
            obtain ⟨rfl, x27, rfl, q28⟩ := p26
            show RUN d_X4_isWord 48 [(2, .inl x13), (0, .inr (.inr (.inl 1))), (1, .inr (.inr (.inr 14)))] [.inl x27] h _
            refine R_aload_c (k := 1) rfl rfl rfl (by decide) ?_
            refine R_iload_n (k := 2) rfl rfl rfl ?_
            refine R_callV (v := .inr (.inr (.inr 14))) (As := [.inl x13]) (rest := [.inl x27]) rfl mt_4_i131 pp_J0_charAt_5068e (by decide) rfl rfl rfl (Nat.le_of_ble_eq_true rfl) (Nat.le_of_ble_eq_true rfl) ((k_J0_charAt_5068e_5 h hI x13 (by omega)).mono (fun r29 h30 p31 => ?_))
            obtain ⟨rfl, x32, rfl, q33⟩ := p31
            show RUN d_X4_isWord 53 [(2, .inl x13), (0, .inr (.inr (.inl 1))), (1, .inr (.inr (.inr 14)))] [.inl x32, .inl x27] h _
            refine N_icmp_eq (a := x27.toInt) (b := x32.toInt) 58 rfl rfl rfl rfl (fun c34 => ?_) (fun c34 => ?_)
            · refine N_iinc (a := x13.toInt) (c := 1) (fun w => [(2, .inl w), (0, .inr (.inr (.inl 1))), (1, .inr (.inr (.inr 14)))]) rfl rfl (fun _ => rfl) (by decide) rfl (by decide) (by omega) (fun x35 q36 => ?_)
              refine R_goto 27 rfl rfl ?_
              exact RUN_weak (psub_cons rfl (psub_cons rfl (psub_cons rfl (psub_nil _)))) (ih14 x35 (by omega) (by omega))
            · refine R_iconst 0 rfl rfl ?_
              exact R_iret rfl rfl rfl ⟨rfl, _, rfl, by rw [show (0 : Int32).toInt = 0 from rfl] <;> omega⟩
      exact lp12 _ (0 : Int32) (by decide) (Nat.lt_succ_self _)
    · refine R_iconst 0 rfl rfl ?_
      exact R_iret rfl rfl rfl ⟨rfl, _, rfl, by rw [show (0 : Int32).toInt = 0 from rfl] <;> omega⟩
abbrev q_X4_isWord_9 (h : PH)  : Option PV → PH → Prop := fun r h' => h = h' ∧ ∃ z : Int32, r = some (.inl z) ∧ ((z.toInt = 0) ∨ (z.toInt = 1 ∧ (h.1 1 3).toInt = 0) ∨ (z.toInt = 0 ∧ (h.1 1 3).toInt = 0))
set_option maxHeartbeats 4000000 in
set_option maxRecDepth 100000 in
theorem k_X4_isWord_9 (h : PH) (hI : INV h)  : CALL d_X4_isWord [.inr (.inr (.inl 1)), .inr (.inr (.inr 2))] h (q_X4_isWord_9 h) := by
  show RUN d_X4_isWord 0 [(0, .inr (.inr (.inl 1))), (1, .inr (.inr (.inr 2)))] [] h _
  refine R_aload_n (k := 0) rfl rfl rfl ?_
  refine R_getf_i (j := 3) rfl ft_4_25 sh_1 rfl ?_
  refine N_if_ne (a := (h.1 1 3).toInt) 23 rfl rfl rfl (fun c1 => ?_) (fun c1 => ?_)
  · refine R_iconst 0 rfl rfl ?_
    exact R_iret rfl rfl rfl ⟨rfl, _, rfl, by rw [show (0 : Int32).toInt = 0 from rfl] <;> omega⟩
  · refine R_aload_n (k := 0) rfl rfl rfl ?_
    refine R_getf_i (j := 5) rfl ft_4_31 sh_1 rfl ?_
    refine R_aload_n (k := 0) rfl rfl rfl ?_
    refine R_getf_i (j := 4) rfl ft_4_28 sh_1 rfl ?_
    have b2 := i_rng (h.1 1 5)
    have b3 := i_rng (h.1 1 4)
    refine R_isub rfl ?_
    refine N_any (fun x4 => ?_)
    refine R_aload_c (k := 1) rfl rfl rfl (by decide) ?_
    refine R_callV (v := .inr (.inr (.inr 2))) (As := []) (rest := [.inl x4]) rfl mt_4_i121 pp_J0_length_8abf5 (by decide) rfl rfl rfl (Nat.le_of_ble_eq_true rfl) (Nat.le_of_ble_eq_true rfl) ((k_J0_length_8abf5_9 h hI).mono (fun r5 h6 p7 => ?_))
    obtain ⟨rfl, x8, rfl, q9⟩ := p7
    show RUN d_X4_isWord 20 [(0, .inr (.inr (.inl 1))), (1, .inr (.inr (.inr 2)))] [.inl x8, .inl x4] h _
    refine N_icmp_eq (a := x4.toInt) (b := x8.toInt) 25 rfl rfl rfl rfl (fun c10 => ?_) (fun c10 => ?_)
    · refine R_iconst 0 rfl rfl ?_
      refine R_istore_n (k := 2) rfl [(2, .inl 0), (0, .inr (.inr (.inl 1))), (1, .inr (.inr (.inr 2)))] rfl rfl (by decide) ?_
      have lp12 : ∀ (n11 : Nat) (x13 : Int32), 0 ≤ x13.toInt ∧ x13.toInt ≤ 7 → (7 - x13.toInt).toNat < n11 → RUN d_X4_isWord 27 [(2, .inl x13), (0, .inr (.inr (.inl 1))), (1, .inr (.inr (.inr 2)))] [] h (q_X4_isWord_9 h) := by
        intro n11
        induction n11 with
        | zero => intro x13 m15 hz; exact absurd hz (Nat.not_lt_zero _)
        | succ n11 ih14 =>
          intro x13 m15 hz
          refine R_iload_n (k := 2) rfl rfl rfl ?_
          refine R_aload_c (k := 1) rfl rfl rfl (by decide) ?_
          refine R_callV (v := .inr (.inr (.inr 2))) (As := []) (rest := [.inl x13]) rfl mt_4_i121 pp_J0_length_8abf5 (by decide) rfl rfl rfl (Nat.le_of_ble_eq_true rfl) (Nat.le_of_ble_eq_true rfl) ((k_J0_length_8abf5_9 h hI).mono (fun r16 h17 p18 => ?_))
          obtain ⟨rfl, x19, rfl, q20⟩ := p18
          show RUN d_X4_isWord 32 [(2, .inl x13), (0, .inr (.inr (.inl 1))), (1, .inr (.inr (.inr 2)))] [.inl x19, .inl x13] h _
          refine N_icmp_ge (a := x13.toInt) (b := x19.toInt) 64 rfl rfl rfl rfl (fun c21 => ?_) (fun c21 => ?_)
          · refine R_iconst 1 rfl rfl ?_
            exact R_iret rfl rfl rfl ⟨rfl, _, rfl, by rw [show (1 : Int32).toInt = 1 from rfl] <;> omega⟩
          · refine R_aload_n (k := 0) rfl rfl rfl ?_
            refine R_getf_r (j := 0) rfl ft_4_12 sh_1 rfl ?_
            refine R_aload_n (k := 0) rfl rfl rfl ?_
            refine R_getf_i (j := 4) rfl ft_4_28 sh_1 rfl ?_
            refine R_iload_n (k := 2) rfl rfl rfl ?_
            have b22 := i_rng (h.1 1 4)
            refine R_iadd rfl ?_
            refine N_any (fun x23 => ?_)
            refine R_callV (v := .inr (.inr (.inl 2))) (As := [.inl x23]) (rest := []) rfl mt_4_i127 pp_X7_byteAt (by decide) rfl rfl rfl (Nat.le_of_ble_eq_true rfl) (Nat.le_of_ble_eq_true rfl) ((k_X7_byteAt h hI x23).mono (fun r24 h25 p26 => ?_))
            obtain ⟨rfl, x27, rfl, q28⟩ := p26
            show RUN d_X4_isWord 48 [(2, .inl x13), (0, .inr (.inr (.inl 1))), (1, .inr (.inr (.inr 2)))] [.inl x27] h _
            refine R_aload_c (k := 1) rfl rfl rfl (by decide) ?_
            refine R_iload_n (k := 2) rfl rfl rfl ?_
            refine R_callV (v := .inr (.inr (.inr 2))) (As := [.inl x13]) (rest := [.inl x27]) rfl mt_4_i131 pp_J0_charAt_5068e (by decide) rfl rfl rfl (Nat.le_of_ble_eq_true rfl) (Nat.le_of_ble_eq_true rfl) ((k_J0_charAt_5068e_9 h hI x13 (by omega)).mono (fun r29 h30 p31 => ?_))
            obtain ⟨rfl, x32, rfl, q33⟩ := p31
            show RUN d_X4_isWord 53 [(2, .inl x13), (0, .inr (.inr (.inl 1))), (1, .inr (.inr (.inr 2)))] [.inl x32, .inl x27] h _
            refine N_icmp_eq (a := x27.toInt) (b := x32.toInt) 58 rfl rfl rfl rfl (fun c34 => ?_) (fun c34 => ?_)
            · refine N_iinc (a := x13.toInt) (c := 1) (fun w => [(2, .inl w), (0, .inr (.inr (.inl 1))), (1, .inr (.inr (.inr 2)))]) rfl rfl (fun _ => rfl) (by decide) rfl (by decide) (by omega) (fun x35 q36 => ?_)
              refine R_goto 27 rfl rfl ?_
              exact RUN_weak (psub_cons rfl (psub_cons rfl (psub_cons rfl (psub_nil _)))) (ih14 x35 (by omega) (by omega))
            · refine R_iconst 0 rfl rfl ?_
              exact R_iret rfl rfl rfl ⟨rfl, _, rfl, by rw [show (0 : Int32).toInt = 0 from rfl] <;> omega⟩
      exact lp12 _ (0 : Int32) (by decide) (Nat.lt_succ_self _)
    · refine R_iconst 0 rfl rfl ?_
      exact R_iret rfl rfl rfl ⟨rfl, _, rfl, by rw [show (0 : Int32).toInt = 0 from rfl] <;> omega⟩
abbrev q_X4_isWord_10 (h : PH)  : Option PV → PH → Prop := fun r h' => h = h' ∧ ∃ z : Int32, r = some (.inl z) ∧ ((z.toInt = 0) ∨ (z.toInt = 1 ∧ (h.1 1 3).toInt = 0) ∨ (z.toInt = 0 ∧ (h.1 1 3).toInt = 0))
set_option maxHeartbeats 4000000 in
set_option maxRecDepth 100000 in
theorem k_X4_isWord_10 (h : PH) (hI : INV h)  : CALL d_X4_isWord [.inr (.inr (.inl 1)), .inr (.inr (.inr 3))] h (q_X4_isWord_10 h) := by
  show RUN d_X4_isWord 0 [(0, .inr (.inr (.inl 1))), (1, .inr (.inr (.inr 3)))] [] h _
  refine R_aload_n (k := 0) rfl rfl rfl ?_
  refine R_getf_i (j := 3) rfl ft_4_25 sh_1 rfl ?_
  refine N_if_ne (a := (h.1 1 3).toInt) 23 rfl rfl rfl (fun c1 => ?_) (fun c1 => ?_)
  · refine R_iconst 0 rfl rfl ?_
    exact R_iret rfl rfl rfl ⟨rfl, _, rfl, by rw [show (0 : Int32).toInt = 0 from rfl] <;> omega⟩
  · refine R_aload_n (k := 0) rfl rfl rfl ?_
    refine R_getf_i (j := 5) rfl ft_4_31 sh_1 rfl ?_
    refine R_aload_n (k := 0) rfl rfl rfl ?_
    refine R_getf_i (j := 4) rfl ft_4_28 sh_1 rfl ?_
    have b2 := i_rng (h.1 1 5)
    have b3 := i_rng (h.1 1 4)
    refine R_isub rfl ?_
    refine N_any (fun x4 => ?_)
    refine R_aload_c (k := 1) rfl rfl rfl (by decide) ?_
    refine R_callV (v := .inr (.inr (.inr 3))) (As := []) (rest := [.inl x4]) rfl mt_4_i121 pp_J0_length_8abf5 (by decide) rfl rfl rfl (Nat.le_of_ble_eq_true rfl) (Nat.le_of_ble_eq_true rfl) ((k_J0_length_8abf5_10 h hI).mono (fun r5 h6 p7 => ?_))
    obtain ⟨rfl, x8, rfl, q9⟩ := p7
    show RUN d_X4_isWord 20 [(0, .inr (.inr (.inl 1))), (1, .inr (.inr (.inr 3)))] [.inl x8, .inl x4] h _
    refine N_icmp_eq (a := x4.toInt) (b := x8.toInt) 25 rfl rfl rfl rfl (fun c10 => ?_) (fun c10 => ?_)
    · refine R_iconst 0 rfl rfl ?_
      refine R_istore_n (k := 2) rfl [(2, .inl 0), (0, .inr (.inr (.inl 1))), (1, .inr (.inr (.inr 3)))] rfl rfl (by decide) ?_
      have lp12 : ∀ (n11 : Nat) (x13 : Int32), 0 ≤ x13.toInt ∧ x13.toInt ≤ 7 → (7 - x13.toInt).toNat < n11 → RUN d_X4_isWord 27 [(2, .inl x13), (0, .inr (.inr (.inl 1))), (1, .inr (.inr (.inr 3)))] [] h (q_X4_isWord_10 h) := by
        intro n11
        induction n11 with
        | zero => intro x13 m15 hz; exact absurd hz (Nat.not_lt_zero _)
        | succ n11 ih14 =>
          intro x13 m15 hz
          refine R_iload_n (k := 2) rfl rfl rfl ?_
          refine R_aload_c (k := 1) rfl rfl rfl (by decide) ?_
          refine R_callV (v := .inr (.inr (.inr 3))) (As := []) (rest := [.inl x13]) rfl mt_4_i121 pp_J0_length_8abf5 (by decide) rfl rfl rfl (Nat.le_of_ble_eq_true rfl) (Nat.le_of_ble_eq_true rfl) ((k_J0_length_8abf5_10 h hI).mono (fun r16 h17 p18 => ?_))
          obtain ⟨rfl, x19, rfl, q20⟩ := p18
          show RUN d_X4_isWord 32 [(2, .inl x13), (0, .inr (.inr (.inl 1))), (1, .inr (.inr (.inr 3)))] [.inl x19, .inl x13] h _
          refine N_icmp_ge (a := x13.toInt) (b := x19.toInt) 64 rfl rfl rfl rfl (fun c21 => ?_) (fun c21 => ?_)
          · refine R_iconst 1 rfl rfl ?_
            exact R_iret rfl rfl rfl ⟨rfl, _, rfl, by rw [show (1 : Int32).toInt = 1 from rfl] <;> omega⟩
          · refine R_aload_n (k := 0) rfl rfl rfl ?_
            refine R_getf_r (j := 0) rfl ft_4_12 sh_1 rfl ?_
            refine R_aload_n (k := 0) rfl rfl rfl ?_
            refine R_getf_i (j := 4) rfl ft_4_28 sh_1 rfl ?_
            refine R_iload_n (k := 2) rfl rfl rfl ?_
            have b22 := i_rng (h.1 1 4)
            refine R_iadd rfl ?_
            refine N_any (fun x23 => ?_)
            refine R_callV (v := .inr (.inr (.inl 2))) (As := [.inl x23]) (rest := []) rfl mt_4_i127 pp_X7_byteAt (by decide) rfl rfl rfl (Nat.le_of_ble_eq_true rfl) (Nat.le_of_ble_eq_true rfl) ((k_X7_byteAt h hI x23).mono (fun r24 h25 p26 => ?_))
            obtain ⟨rfl, x27, rfl, q28⟩ := p26
            show RUN d_X4_isWord 48 [(2, .inl x13), (0, .inr (.inr (.inl 1))), (1, .inr (.inr (.inr 3)))] [.inl x27] h _
            refine R_aload_c (k := 1) rfl rfl rfl (by decide) ?_
            refine R_iload_n (k := 2) rfl rfl rfl ?_
            refine R_callV (v := .inr (.inr (.inr 3))) (As := [.inl x13]) (rest := [.inl x27]) rfl mt_4_i131 pp_J0_charAt_5068e (by decide) rfl rfl rfl (Nat.le_of_ble_eq_true rfl) (Nat.le_of_ble_eq_true rfl) ((k_J0_charAt_5068e_10 h hI x13 (by omega)).mono (fun r29 h30 p31 => ?_))
            obtain ⟨rfl, x32, rfl, q33⟩ := p31
            show RUN d_X4_isWord 53 [(2, .inl x13), (0, .inr (.inr (.inl 1))), (1, .inr (.inr (.inr 3)))] [.inl x32, .inl x27] h _
            refine N_icmp_eq (a := x27.toInt) (b := x32.toInt) 58 rfl rfl rfl rfl (fun c34 => ?_) (fun c34 => ?_)
            · refine N_iinc (a := x13.toInt) (c := 1) (fun w => [(2, .inl w), (0, .inr (.inr (.inl 1))), (1, .inr (.inr (.inr 3)))]) rfl rfl (fun _ => rfl) (by decide) rfl (by decide) (by omega) (fun x35 q36 => ?_)
              refine R_goto 27 rfl rfl ?_
              exact RUN_weak (psub_cons rfl (psub_cons rfl (psub_cons rfl (psub_nil _)))) (ih14 x35 (by omega) (by omega))
            · refine R_iconst 0 rfl rfl ?_
              exact R_iret rfl rfl rfl ⟨rfl, _, rfl, by rw [show (0 : Int32).toInt = 0 from rfl] <;> omega⟩
      exact lp12 _ (0 : Int32) (by decide) (Nat.lt_succ_self _)
    · refine R_iconst 0 rfl rfl ?_
      exact R_iret rfl rfl rfl ⟨rfl, _, rfl, by rw [show (0 : Int32).toInt = 0 from rfl] <;> omega⟩
abbrev q_X4_isWord_11 (h : PH)  : Option PV → PH → Prop := fun r h' => h = h' ∧ ∃ z : Int32, r = some (.inl z) ∧ ((z.toInt = 0) ∨ (z.toInt = 1 ∧ (h.1 1 3).toInt = 0) ∨ (z.toInt = 0 ∧ (h.1 1 3).toInt = 0))
set_option maxHeartbeats 4000000 in
set_option maxRecDepth 100000 in
theorem k_X4_isWord_11 (h : PH) (hI : INV h)  : CALL d_X4_isWord [.inr (.inr (.inl 1)), .inr (.inr (.inr 4))] h (q_X4_isWord_11 h) := by
  show RUN d_X4_isWord 0 [(0, .inr (.inr (.inl 1))), (1, .inr (.inr (.inr 4)))] [] h _
  refine R_aload_n (k := 0) rfl rfl rfl ?_
  refine R_getf_i (j := 3) rfl ft_4_25 sh_1 rfl ?_
  refine N_if_ne (a := (h.1 1 3).toInt) 23 rfl rfl rfl (fun c1 => ?_) (fun c1 => ?_)
  · refine R_iconst 0 rfl rfl ?_
    exact R_iret rfl rfl rfl ⟨rfl, _, rfl, by rw [show (0 : Int32).toInt = 0 from rfl] <;> omega⟩
  · refine R_aload_n (k := 0) rfl rfl rfl ?_
    refine R_getf_i (j := 5) rfl ft_4_31 sh_1 rfl ?_
    refine R_aload_n (k := 0) rfl rfl rfl ?_
    refine R_getf_i (j := 4) rfl ft_4_28 sh_1 rfl ?_
    have b2 := i_rng (h.1 1 5)
    have b3 := i_rng (h.1 1 4)
    refine R_isub rfl ?_
    refine N_any (fun x4 => ?_)
    refine R_aload_c (k := 1) rfl rfl rfl (by decide) ?_
    refine R_callV (v := .inr (.inr (.inr 4))) (As := []) (rest := [.inl x4]) rfl mt_4_i121 pp_J0_length_8abf5 (by decide) rfl rfl rfl (Nat.le_of_ble_eq_true rfl) (Nat.le_of_ble_eq_true rfl) ((k_J0_length_8abf5_11 h hI).mono (fun r5 h6 p7 => ?_))
    obtain ⟨rfl, x8, rfl, q9⟩ := p7
    show RUN d_X4_isWord 20 [(0, .inr (.inr (.inl 1))), (1, .inr (.inr (.inr 4)))] [.inl x8, .inl x4] h _
    refine N_icmp_eq (a := x4.toInt) (b := x8.toInt) 25 rfl rfl rfl rfl (fun c10 => ?_) (fun c10 => ?_)
    · refine R_iconst 0 rfl rfl ?_
      refine R_istore_n (k := 2) rfl [(2, .inl 0), (0, .inr (.inr (.inl 1))), (1, .inr (.inr (.inr 4)))] rfl rfl (by decide) ?_
      have lp12 : ∀ (n11 : Nat) (x13 : Int32), 0 ≤ x13.toInt ∧ x13.toInt ≤ 4 → (4 - x13.toInt).toNat < n11 → RUN d_X4_isWord 27 [(2, .inl x13), (0, .inr (.inr (.inl 1))), (1, .inr (.inr (.inr 4)))] [] h (q_X4_isWord_11 h) := by
        intro n11
        induction n11 with
        | zero => intro x13 m15 hz; exact absurd hz (Nat.not_lt_zero _)
        | succ n11 ih14 =>
          intro x13 m15 hz
          refine R_iload_n (k := 2) rfl rfl rfl ?_
          refine R_aload_c (k := 1) rfl rfl rfl (by decide) ?_
          refine R_callV (v := .inr (.inr (.inr 4))) (As := []) (rest := [.inl x13]) rfl mt_4_i121 pp_J0_length_8abf5 (by decide) rfl rfl rfl (Nat.le_of_ble_eq_true rfl) (Nat.le_of_ble_eq_true rfl) ((k_J0_length_8abf5_11 h hI).mono (fun r16 h17 p18 => ?_))
          obtain ⟨rfl, x19, rfl, q20⟩ := p18
          show RUN d_X4_isWord 32 [(2, .inl x13), (0, .inr (.inr (.inl 1))), (1, .inr (.inr (.inr 4)))] [.inl x19, .inl x13] h _
          refine N_icmp_ge (a := x13.toInt) (b := x19.toInt) 64 rfl rfl rfl rfl (fun c21 => ?_) (fun c21 => ?_)
          · refine R_iconst 1 rfl rfl ?_
            exact R_iret rfl rfl rfl ⟨rfl, _, rfl, by rw [show (1 : Int32).toInt = 1 from rfl] <;> omega⟩
          · refine R_aload_n (k := 0) rfl rfl rfl ?_
            refine R_getf_r (j := 0) rfl ft_4_12 sh_1 rfl ?_
            refine R_aload_n (k := 0) rfl rfl rfl ?_
            refine R_getf_i (j := 4) rfl ft_4_28 sh_1 rfl ?_
            refine R_iload_n (k := 2) rfl rfl rfl ?_
            have b22 := i_rng (h.1 1 4)
            refine R_iadd rfl ?_
            refine N_any (fun x23 => ?_)
            refine R_callV (v := .inr (.inr (.inl 2))) (As := [.inl x23]) (rest := []) rfl mt_4_i127 pp_X7_byteAt (by decide) rfl rfl rfl (Nat.le_of_ble_eq_true rfl) (Nat.le_of_ble_eq_true rfl) ((k_X7_byteAt h hI x23).mono (fun r24 h25 p26 => ?_))
            obtain ⟨rfl, x27, rfl, q28⟩ := p26
            show RUN d_X4_isWord 48 [(2, .inl x13), (0, .inr (.inr (.inl 1))), (1, .inr (.inr (.inr 4)))] [.inl x27] h _
            refine R_aload_c (k := 1) rfl rfl rfl (by decide) ?_
            refine R_iload_n (k := 2) rfl rfl rfl ?_
            refine R_callV (v := .inr (.inr (.inr 4))) (As := [.inl x13]) (rest := [.inl x27]) rfl mt_4_i131 pp_J0_charAt_5068e (by decide) rfl rfl rfl (Nat.le_of_ble_eq_true rfl) (Nat.le_of_ble_eq_true rfl) ((k_J0_charAt_5068e_11 h hI x13 (by omega)).mono (fun r29 h30 p31 => ?_))
            obtain ⟨rfl, x32, rfl, q33⟩ := p31
            show RUN d_X4_isWord 53 [(2, .inl x13), (0, .inr (.inr (.inl 1))), (1, .inr (.inr (.inr 4)))] [.inl x32, .inl x27] h _
            refine N_icmp_eq (a := x27.toInt) (b := x32.toInt) 58 rfl rfl rfl rfl (fun c34 => ?_) (fun c34 => ?_)
            · refine N_iinc (a := x13.toInt) (c := 1) (fun w => [(2, .inl w), (0, .inr (.inr (.inl 1))), (1, .inr (.inr (.inr 4)))]) rfl rfl (fun _ => rfl) (by decide) rfl (by decide) (by omega) (fun x35 q36 => ?_)
              refine R_goto 27 rfl rfl ?_
              exact RUN_weak (psub_cons rfl (psub_cons rfl (psub_cons rfl (psub_nil _)))) (ih14 x35 (by omega) (by omega))
            · refine R_iconst 0 rfl rfl ?_
              exact R_iret rfl rfl rfl ⟨rfl, _, rfl, by rw [show (0 : Int32).toInt = 0 from rfl] <;> omega⟩
      exact lp12 _ (0 : Int32) (by decide) (Nat.lt_succ_self _)
    · refine R_iconst 0 rfl rfl ?_
      exact R_iret rfl rfl rfl ⟨rfl, _, rfl, by rw [show (0 : Int32).toInt = 0 from rfl] <;> omega⟩
abbrev q_X4_isWord_12 (h : PH)  : Option PV → PH → Prop := fun r h' => h = h' ∧ ∃ z : Int32, r = some (.inl z) ∧ ((z.toInt = 0) ∨ (z.toInt = 1 ∧ (h.1 1 3).toInt = 0) ∨ (z.toInt = 0 ∧ (h.1 1 3).toInt = 0))
set_option maxHeartbeats 4000000 in
set_option maxRecDepth 100000 in
theorem k_X4_isWord_12 (h : PH) (hI : INV h)  : CALL d_X4_isWord [.inr (.inr (.inl 1)), .inr (.inr (.inr 5))] h (q_X4_isWord_12 h) := by
  show RUN d_X4_isWord 0 [(0, .inr (.inr (.inl 1))), (1, .inr (.inr (.inr 5)))] [] h _
  refine R_aload_n (k := 0) rfl rfl rfl ?_
  refine R_getf_i (j := 3) rfl ft_4_25 sh_1 rfl ?_
  refine N_if_ne (a := (h.1 1 3).toInt) 23 rfl rfl rfl (fun c1 => ?_) (fun c1 => ?_)
  · refine R_iconst 0 rfl rfl ?_
    exact R_iret rfl rfl rfl ⟨rfl, _, rfl, by rw [show (0 : Int32).toInt = 0 from rfl] <;> omega⟩
  · refine R_aload_n (k := 0) rfl rfl rfl ?_
    refine R_getf_i (j := 5) rfl ft_4_31 sh_1 rfl ?_
    refine R_aload_n (k := 0) rfl rfl rfl ?_
    refine R_getf_i (j := 4) rfl ft_4_28 sh_1 rfl ?_
    have b2 := i_rng (h.1 1 5)
    have b3 := i_rng (h.1 1 4)
    refine R_isub rfl ?_
    refine N_any (fun x4 => ?_)
    refine R_aload_c (k := 1) rfl rfl rfl (by decide) ?_
    refine R_callV (v := .inr (.inr (.inr 5))) (As := []) (rest := [.inl x4]) rfl mt_4_i121 pp_J0_length_8abf5 (by decide) rfl rfl rfl (Nat.le_of_ble_eq_true rfl) (Nat.le_of_ble_eq_true rfl) ((k_J0_length_8abf5_12 h hI).mono (fun r5 h6 p7 => ?_))
    obtain ⟨rfl, x8, rfl, q9⟩ := p7
    show RUN d_X4_isWord 20 [(0, .inr (.inr (.inl 1))), (1, .inr (.inr (.inr 5)))] [.inl x8, .inl x4] h _
    refine N_icmp_eq (a := x4.toInt) (b := x8.toInt) 25 rfl rfl rfl rfl (fun c10 => ?_) (fun c10 => ?_)
    · refine R_iconst 0 rfl rfl ?_
      refine R_istore_n (k := 2) rfl [(2, .inl 0), (0, .inr (.inr (.inl 1))), (1, .inr (.inr (.inr 5)))] rfl rfl (by decide) ?_
      have lp12 : ∀ (n11 : Nat) (x13 : Int32), 0 ≤ x13.toInt ∧ x13.toInt ≤ 4 → (4 - x13.toInt).toNat < n11 → RUN d_X4_isWord 27 [(2, .inl x13), (0, .inr (.inr (.inl 1))), (1, .inr (.inr (.inr 5)))] [] h (q_X4_isWord_12 h) := by
        intro n11
        induction n11 with
        | zero => intro x13 m15 hz; exact absurd hz (Nat.not_lt_zero _)
        | succ n11 ih14 =>
          intro x13 m15 hz
          refine R_iload_n (k := 2) rfl rfl rfl ?_
          refine R_aload_c (k := 1) rfl rfl rfl (by decide) ?_
          refine R_callV (v := .inr (.inr (.inr 5))) (As := []) (rest := [.inl x13]) rfl mt_4_i121 pp_J0_length_8abf5 (by decide) rfl rfl rfl (Nat.le_of_ble_eq_true rfl) (Nat.le_of_ble_eq_true rfl) ((k_J0_length_8abf5_12 h hI).mono (fun r16 h17 p18 => ?_))
          obtain ⟨rfl, x19, rfl, q20⟩ := p18
          show RUN d_X4_isWord 32 [(2, .inl x13), (0, .inr (.inr (.inl 1))), (1, .inr (.inr (.inr 5)))] [.inl x19, .inl x13] h _
          refine N_icmp_ge (a := x13.toInt) (b := x19.toInt) 64 rfl rfl rfl rfl (fun c21 => ?_) (fun c21 => ?_)
          · refine R_iconst 1 rfl rfl ?_
            exact R_iret rfl rfl rfl ⟨rfl, _, rfl, by rw [show (1 : Int32).toInt = 1 from rfl] <;> omega⟩
          · refine R_aload_n (k := 0) rfl rfl rfl ?_
            refine R_getf_r (j := 0) rfl ft_4_12 sh_1 rfl ?_
            refine R_aload_n (k := 0) rfl rfl rfl ?_
            refine R_getf_i (j := 4) rfl ft_4_28 sh_1 rfl ?_
            refine R_iload_n (k := 2) rfl rfl rfl ?_
            have b22 := i_rng (h.1 1 4)
            refine R_iadd rfl ?_
            refine N_any (fun x23 => ?_)
            refine R_callV (v := .inr (.inr (.inl 2))) (As := [.inl x23]) (rest := []) rfl mt_4_i127 pp_X7_byteAt (by decide) rfl rfl rfl (Nat.le_of_ble_eq_true rfl) (Nat.le_of_ble_eq_true rfl) ((k_X7_byteAt h hI x23).mono (fun r24 h25 p26 => ?_))
            obtain ⟨rfl, x27, rfl, q28⟩ := p26
            show RUN d_X4_isWord 48 [(2, .inl x13), (0, .inr (.inr (.inl 1))), (1, .inr (.inr (.inr 5)))] [.inl x27] h _
            refine R_aload_c (k := 1) rfl rfl rfl (by decide) ?_
            refine R_iload_n (k := 2) rfl rfl rfl ?_
            refine R_callV (v := .inr (.inr (.inr 5))) (As := [.inl x13]) (rest := [.inl x27]) rfl mt_4_i131 pp_J0_charAt_5068e (by decide) rfl rfl rfl (Nat.le_of_ble_eq_true rfl) (Nat.le_of_ble_eq_true rfl) ((k_J0_charAt_5068e_12 h hI x13 (by omega)).mono (fun r29 h30 p31 => ?_))
            obtain ⟨rfl, x32, rfl, q33⟩ := p31
            show RUN d_X4_isWord 53 [(2, .inl x13), (0, .inr (.inr (.inl 1))), (1, .inr (.inr (.inr 5)))] [.inl x32, .inl x27] h _
            refine N_icmp_eq (a := x27.toInt) (b := x32.toInt) 58 rfl rfl rfl rfl (fun c34 => ?_) (fun c34 => ?_)
            · refine N_iinc (a := x13.toInt) (c := 1) (fun w => [(2, .inl w), (0, .inr (.inr (.inl 1))), (1, .inr (.inr (.inr 5)))]) rfl rfl (fun _ => rfl) (by decide) rfl (by decide) (by omega) (fun x35 q36 => ?_)
              refine R_goto 27 rfl rfl ?_
              exact RUN_weak (psub_cons rfl (psub_cons rfl (psub_cons rfl (psub_nil _)))) (ih14 x35 (by omega) (by omega))
            · refine R_iconst 0 rfl rfl ?_
              exact R_iret rfl rfl rfl ⟨rfl, _, rfl, by rw [show (0 : Int32).toInt = 0 from rfl] <;> omega⟩
      exact lp12 _ (0 : Int32) (by decide) (Nat.lt_succ_self _)
    · refine R_iconst 0 rfl rfl ?_
      exact R_iret rfl rfl rfl ⟨rfl, _, rfl, by rw [show (0 : Int32).toInt = 0 from rfl] <;> omega⟩
abbrev q_X4_isWord_13 (h : PH)  : Option PV → PH → Prop := fun r h' => h = h' ∧ ∃ z : Int32, r = some (.inl z) ∧ ((z.toInt = 0) ∨ (z.toInt = 1 ∧ (h.1 1 3).toInt = 0) ∨ (z.toInt = 0 ∧ (h.1 1 3).toInt = 0))
set_option maxHeartbeats 4000000 in
set_option maxRecDepth 100000 in
theorem k_X4_isWord_13 (h : PH) (hI : INV h)  : CALL d_X4_isWord [.inr (.inr (.inl 1)), .inr (.inr (.inr 6))] h (q_X4_isWord_13 h) := by
  show RUN d_X4_isWord 0 [(0, .inr (.inr (.inl 1))), (1, .inr (.inr (.inr 6)))] [] h _
  refine R_aload_n (k := 0) rfl rfl rfl ?_
  refine R_getf_i (j := 3) rfl ft_4_25 sh_1 rfl ?_
  refine N_if_ne (a := (h.1 1 3).toInt) 23 rfl rfl rfl (fun c1 => ?_) (fun c1 => ?_)
  · refine R_iconst 0 rfl rfl ?_
    exact R_iret rfl rfl rfl ⟨rfl, _, rfl, by rw [show (0 : Int32).toInt = 0 from rfl] <;> omega⟩
  · refine R_aload_n (k := 0) rfl rfl rfl ?_
    refine R_getf_i (j := 5) rfl ft_4_31 sh_1 rfl ?_
    refine R_aload_n (k := 0) rfl rfl rfl ?_
    refine R_getf_i (j := 4) rfl ft_4_28 sh_1 rfl ?_
    have b2 := i_rng (h.1 1 5)
    have b3 := i_rng (h.1 1 4)
    refine R_isub rfl ?_
    refine N_any (fun x4 => ?_)
    refine R_aload_c (k := 1) rfl rfl rfl (by decide) ?_
    refine R_callV (v := .inr (.inr (.inr 6))) (As := []) (rest := [.inl x4]) rfl mt_4_i121 pp_J0_length_8abf5 (by decide) rfl rfl rfl (Nat.le_of_ble_eq_true rfl) (Nat.le_of_ble_eq_true rfl) ((k_J0_length_8abf5_13 h hI).mono (fun r5 h6 p7 => ?_))
    obtain ⟨rfl, x8, rfl, q9⟩ := p7
    show RUN d_X4_isWord 20 [(0, .inr (.inr (.inl 1))), (1, .inr (.inr (.inr 6)))] [.inl x8, .inl x4] h _
    refine N_icmp_eq (a := x4.toInt) (b := x8.toInt) 25 rfl rfl rfl rfl (fun c10 => ?_) (fun c10 => ?_)
    · refine R_iconst 0 rfl rfl ?_
      refine R_istore_n (k := 2) rfl [(2, .inl 0), (0, .inr (.inr (.inl 1))), (1, .inr (.inr (.inr 6)))] rfl rfl (by decide) ?_
      have lp12 : ∀ (n11 : Nat) (x13 : Int32), 0 ≤ x13.toInt ∧ x13.toInt ≤ 4 → (4 - x13.toInt).toNat < n11 → RUN d_X4_isWord 27 [(2, .inl x13), (0, .inr (.inr (.inl 1))), (1, .inr (.inr (.inr 6)))] [] h (q_X4_isWord_13 h) := by
        intro n11
        induction n11 with
        | zero => intro x13 m15 hz; exact absurd hz (Nat.not_lt_zero _)
        | succ n11 ih14 =>
          intro x13 m15 hz
          refine R_iload_n (k := 2) rfl rfl rfl ?_
          refine R_aload_c (k := 1) rfl rfl rfl (by decide) ?_
          refine R_callV (v := .inr (.inr (.inr 6))) (As := []) (rest := [.inl x13]) rfl mt_4_i121 pp_J0_length_8abf5 (by decide) rfl rfl rfl (Nat.le_of_ble_eq_true rfl) (Nat.le_of_ble_eq_true rfl) ((k_J0_length_8abf5_13 h hI).mono (fun r16 h17 p18 => ?_))
          obtain ⟨rfl, x19, rfl, q20⟩ := p18
          show RUN d_X4_isWord 32 [(2, .inl x13), (0, .inr (.inr (.inl 1))), (1, .inr (.inr (.inr 6)))] [.inl x19, .inl x13] h _
          refine N_icmp_ge (a := x13.toInt) (b := x19.toInt) 64 rfl rfl rfl rfl (fun c21 => ?_) (fun c21 => ?_)
          · refine R_iconst 1 rfl rfl ?_
            exact R_iret rfl rfl rfl ⟨rfl, _, rfl, by rw [show (1 : Int32).toInt = 1 from rfl] <;> omega⟩
          · refine R_aload_n (k := 0) rfl rfl rfl ?_
            refine R_getf_r (j := 0) rfl ft_4_12 sh_1 rfl ?_
            refine R_aload_n (k := 0) rfl rfl rfl ?_
            refine R_getf_i (j := 4) rfl ft_4_28 sh_1 rfl ?_
            refine R_iload_n (k := 2) rfl rfl rfl ?_
            have b22 := i_rng (h.1 1 4)
            refine R_iadd rfl ?_
            refine N_any (fun x23 => ?_)
            refine R_callV (v := .inr (.inr (.inl 2))) (As := [.inl x23]) (rest := []) rfl mt_4_i127 pp_X7_byteAt (by decide) rfl rfl rfl (Nat.le_of_ble_eq_true rfl) (Nat.le_of_ble_eq_true rfl) ((k_X7_byteAt h hI x23).mono (fun r24 h25 p26 => ?_))
            obtain ⟨rfl, x27, rfl, q28⟩ := p26
            show RUN d_X4_isWord 48 [(2, .inl x13), (0, .inr (.inr (.inl 1))), (1, .inr (.inr (.inr 6)))] [.inl x27] h _
            refine R_aload_c (k := 1) rfl rfl rfl (by decide) ?_
            refine R_iload_n (k := 2) rfl rfl rfl ?_
            refine R_callV (v := .inr (.inr (.inr 6))) (As := [.inl x13]) (rest := [.inl x27]) rfl mt_4_i131 pp_J0_charAt_5068e (by decide) rfl rfl rfl (Nat.le_of_ble_eq_true rfl) (Nat.le_of_ble_eq_true rfl) ((k_J0_charAt_5068e_13 h hI x13 (by omega)).mono (fun r29 h30 p31 => ?_))
            obtain ⟨rfl, x32, rfl, q33⟩ := p31
            show RUN d_X4_isWord 53 [(2, .inl x13), (0, .inr (.inr (.inl 1))), (1, .inr (.inr (.inr 6)))] [.inl x32, .inl x27] h _
            refine N_icmp_eq (a := x27.toInt) (b := x32.toInt) 58 rfl rfl rfl rfl (fun c34 => ?_) (fun c34 => ?_)
            · refine N_iinc (a := x13.toInt) (c := 1) (fun w => [(2, .inl w), (0, .inr (.inr (.inl 1))), (1, .inr (.inr (.inr 6)))]) rfl rfl (fun _ => rfl) (by decide) rfl (by decide) (by omega) (fun x35 q36 => ?_)
              refine R_goto 27 rfl rfl ?_
              exact RUN_weak (psub_cons rfl (psub_cons rfl (psub_cons rfl (psub_nil _)))) (ih14 x35 (by omega) (by omega))
            · refine R_iconst 0 rfl rfl ?_
              exact R_iret rfl rfl rfl ⟨rfl, _, rfl, by rw [show (0 : Int32).toInt = 0 from rfl] <;> omega⟩
      exact lp12 _ (0 : Int32) (by decide) (Nat.lt_succ_self _)
    · refine R_iconst 0 rfl rfl ?_
      exact R_iret rfl rfl rfl ⟨rfl, _, rfl, by rw [show (0 : Int32).toInt = 0 from rfl] <;> omega⟩
