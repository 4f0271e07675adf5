abbrev q_X8_atSecond (h : PH) (a1 : Int32) : Option PV → PH → Prop := fun r h' => h = h' ∧ ∃ z : Int32, r = some (.inl z) ∧ ((True))
set_option maxHeartbeats 4000000 in
set_option maxRecDepth 100000 in
theorem k_X8_atSecond (h : PH) (hI : INV h) (a1 : Int32) : CALL d_X8_atSecond [.inr (.inr (.inl 0)), .inr (.inr (.inl 77)), .inl a1] h (q_X8_atSecond h a1) := by
  show RUN d_X8_atSecond 0 [(0, .inr (.inr (.inl 0))), (1, .inr (.inr (.inl 77))), (2, .inl a1)] [] h _
  have b1 := i_rng a1
  refine R_aload_n (k := 0) rfl rfl rfl ?_
  refine R_getf_r (j := 3) rfl ft_8_28 sh_0 rfl ?_
  refine R_iload_n (k := 2) rfl rfl rfl ?_
  refine R_callV (v := .inr (.inr (.inl 16))) (As := [.inl a1]) (rest := []) rfl mt_8_i150 pp_X1_hasSecond (by decide) rfl rfl rfl (Nat.le_of_ble_eq_true rfl) (Nat.le_of_ble_eq_true rfl) ((k_X1_hasSecond h hI a1).mono (fun r2 h3 p4 => ?_))
  obtain ⟨rfl, x5, rfl, q6 | q6 | q6⟩ := p4
  · show RUN d_X8_atSecond 8 [(0, .inr (.inr (.inl 0))), (1, .inr (.inr (.inl 77))), (2, .inl a1)] [.inl x5] h _
    refine N_if_eq (a := x5.toInt) 17 rfl rfl rfl (fun c7 => ?_) (fun c7 => ?_)
    · refine R_bipush (-2) rfl rfl ?_
      exact R_iret rfl rfl rfl ⟨rfl, _, rfl, trivial⟩
    · exfalso; omega
  · have b8 : (0 : Int) ≤ (h.1 17 0).toInt ∧ (h.1 17 0).toInt ≤ 60 := hI.1 17 0
    show RUN d_X8_atSecond 8 [(0, .inr (.inr (.inl 0))), (1, .inr (.inr (.inl 77))), (2, .inl a1)] [.inl x5] h _
    refine N_if_eq (a := x5.toInt) 17 rfl rfl rfl (fun c9 => ?_) (fun c9 => ?_)
    · refine R_bipush (-2) rfl rfl ?_
      exact R_iret rfl rfl rfl ⟨rfl, _, rfl, trivial⟩
    · exfalso; omega
  · have b10 : (0 : Int) ≤ (h.1 17 0).toInt ∧ (h.1 17 0).toInt ≤ 60 := hI.1 17 0
    show RUN d_X8_atSecond 8 [(0, .inr (.inr (.inl 0))), (1, .inr (.inr (.inl 77))), (2, .inl a1)] [.inl x5] h _
    refine N_if_eq (a := x5.toInt) 17 rfl rfl rfl (fun c11 => ?_) (fun c11 => ?_)
    · exfalso; omega
    · refine R_aload_n (k := 1) rfl rfl rfl ?_
      refine R_iload_n (k := 2) rfl rfl rfl ?_
      refine R_iald rfl sh_77 ⟨by omega, by omega⟩ ?_
      refine N_any (fun x12 => ?_)
      refine R_goto 19 rfl rfl ?_
      exact R_iret rfl rfl rfl ⟨rfl, _, rfl, trivial⟩
abbrev q_X8_atSecond_1 (h : PH) (a1 : Int32) : Option PV → PH → Prop := fun r h' => h = h' ∧ ∃ z : Int32, r = some (.inl z) ∧ ((True))
set_option maxHeartbeats 4000000 in
set_option maxRecDepth 100000 in
theorem k_X8_atSecond_1 (h : PH) (hI : INV h) (a1 : Int32) : CALL d_X8_atSecond [.inr (.inr (.inl 0)), .inr (.inr (.inl 78)), .inl a1] h (q_X8_atSecond_1 h a1) := by
  show RUN d_X8_atSecond 0 [(0, .inr (.inr (.inl 0))), (1, .inr (.inr (.inl 78))), (2, .inl a1)] [] h _
  have b1 := i_rng a1
  refine R_aload_n (k := 0) rfl rfl rfl ?_
  refine R_getf_r (j := 3) rfl ft_8_28 sh_0 rfl ?_
  refine R_iload_n (k := 2) rfl rfl rfl ?_
  refine R_callV (v := .inr (.inr (.inl 16))) (As := [.inl a1]) (rest := []) rfl mt_8_i150 pp_X1_hasSecond (by decide) rfl rfl rfl (Nat.le_of_ble_eq_true rfl) (Nat.le_of_ble_eq_true rfl) ((k_X1_hasSecond h hI a1).mono (fun r2 h3 p4 => ?_))
  obtain ⟨rfl, x5, rfl, q6 | q6 | q6⟩ := p4
  · show RUN d_X8_atSecond 8 [(0, .inr (.inr (.inl 0))), (1, .inr (.inr (.inl 78))), (2, .inl a1)] [.inl x5] h _
    refine N_if_eq (a := x5.toInt) 17 rfl rfl rfl (fun c7 => ?_) (fun c7 => ?_)
    · refine R_bipush (-2) rfl rfl ?_
      exact R_iret rfl rfl rfl ⟨rfl, _, rfl, trivial⟩
    · exfalso; omega
  · have b8 : (0 : Int) ≤ (h.1 17 0).toInt ∧ (h.1 17 0).toInt ≤ 60 := hI.1 17 0
    show RUN d_X8_atSecond 8 [(0, .inr (.inr (.inl 0))), (1, .inr (.inr (.inl 78))), (2, .inl a1)] [.inl x5] h _
    refine N_if_eq (a := x5.toInt) 17 rfl rfl rfl (fun c9 => ?_) (fun c9 => ?_)
    · refine R_bipush (-2) rfl rfl ?_
      exact R_iret rfl rfl rfl ⟨rfl, _, rfl, trivial⟩
    · exfalso; omega
  · have b10 : (0 : Int) ≤ (h.1 17 0).toInt ∧ (h.1 17 0).toInt ≤ 60 := hI.1 17 0
    show RUN d_X8_atSecond 8 [(0, .inr (.inr (.inl 0))), (1, .inr (.inr (.inl 78))), (2, .inl a1)] [.inl x5] h _
    refine N_if_eq (a := x5.toInt) 17 rfl rfl rfl (fun c11 => ?_) (fun c11 => ?_)
    · exfalso; omega
    · refine R_aload_n (k := 1) rfl rfl rfl ?_
      refine R_iload_n (k := 2) rfl rfl rfl ?_
      refine R_iald rfl sh_78 ⟨by omega, by omega⟩ ?_
      refine N_any (fun x12 => ?_)
      refine R_goto 19 rfl rfl ?_
      exact R_iret rfl rfl rfl ⟨rfl, _, rfl, trivial⟩
abbrev q_X8_atSecond_6 (h : PH) (a1 : Int32) : Option PV → PH → Prop := fun r h' => h = h' ∧ ∃ z : Int32, r = some (.inl z) ∧ ((True))
set_option maxHeartbeats 4000000 in
set_option maxRecDepth 100000 in
theorem k_X8_atSecond_6 (h : PH) (hI : INV h) (a1 : Int32) : CALL d_X8_atSecond [.inr (.inr (.inl 0)), .inr (.inr (.inl 79)), .inl a1] h (q_X8_atSecond_6 h a1) := by
  show RUN d_X8_atSecond 0 [(0, .inr (.inr (.inl 0))), (1, .inr (.inr (.inl 79))), (2, .inl a1)] [] h _
  have b1 := i_rng a1
  refine R_aload_n (k := 0) rfl rfl rfl ?_
  refine R_getf_r (j := 3) rfl ft_8_28 sh_0 rfl ?_
  refine R_iload_n (k := 2) rfl rfl rfl ?_
  refine R_callV (v := .inr (.inr (.inl 16))) (As := [.inl a1]) (rest := []) rfl mt_8_i150 pp_X1_hasSecond (by decide) rfl rfl rfl (Nat.le_of_ble_eq_true rfl) (Nat.le_of_ble_eq_true rfl) ((k_X1_hasSecond h hI a1).mono (fun r2 h3 p4 => ?_))
  obtain ⟨rfl, x5, rfl, q6 | q6 | q6⟩ := p4
  · show RUN d_X8_atSecond 8 [(0, .inr (.inr (.inl 0))), (1, .inr (.inr (.inl 79))), (2, .inl a1)] [.inl x5] h _
    refine N_if_eq (a := x5.toInt) 17 rfl rfl rfl (fun c7 => ?_) (fun c7 => ?_)
    · refine R_bipush (-2) rfl rfl ?_
      exact R_iret rfl rfl rfl ⟨rfl, _, rfl, trivial⟩
    · exfalso; omega
  · have b8 : (0 : Int) ≤ (h.1 17 0).toInt ∧ (h.1 17 0).toInt ≤ 60 := hI.1 17 0
    show RUN d_X8_atSecond 8 [(0, .inr (.inr (.inl 0))), (1, .inr (.inr (.inl 79))), (2, .inl a1)] [.inl x5] h _
    refine N_if_eq (a := x5.toInt) 17 rfl rfl rfl (fun c9 => ?_) (fun c9 => ?_)
    · refine R_bipush (-2) rfl rfl ?_
      exact R_iret rfl rfl rfl ⟨rfl, _, rfl, trivial⟩
    · exfalso; omega
  · have b10 : (0 : Int) ≤ (h.1 17 0).toInt ∧ (h.1 17 0).toInt ≤ 60 := hI.1 17 0
    show RUN d_X8_atSecond 8 [(0, .inr (.inr (.inl 0))), (1, .inr (.inr (.inl 79))), (2, .inl a1)] [.inl x5] h _
    refine N_if_eq (a := x5.toInt) 17 rfl rfl rfl (fun c11 => ?_) (fun c11 => ?_)
    · exfalso; omega
    · refine R_aload_n (k := 1) rfl rfl rfl ?_
      refine R_iload_n (k := 2) rfl rfl rfl ?_
      refine R_iald rfl sh_79 ⟨by omega, by omega⟩ ?_
      refine N_any (fun x12 => ?_)
      refine R_goto 19 rfl rfl ?_
      exact R_iret rfl rfl rfl ⟨rfl, _, rfl, trivial⟩
abbrev q_X8_atSecond_2 (h : PH) (a1 : Int32) : Option PV → PH → Prop := fun r h' => h = h' ∧ ∃ z : Int32, r = some (.inl z) ∧ ((True))
set_option maxHeartbeats 4000000 in
set_option maxRecDepth 100000 in
theorem k_X8_atSecond_2 (h : PH) (hI : INV h) (a1 : Int32) : CALL d_X8_atSecond [.inr (.inr (.inl 0)), .inr (.inr (.inl 81)), .inl a1] h (q_X8_atSecond_2 h a1) := by
  show RUN d_X8_atSecond 0 [(0, .inr (.inr (.inl 0))), (1, .inr (.inr (.inl 81))), (2, .inl a1)] [] h _
  have b1 := i_rng a1
  refine R_aload_n (k := 0) rfl rfl rfl ?_
  refine R_getf_r (j := 3) rfl ft_8_28 sh_0 rfl ?_
  refine R_iload_n (k := 2) rfl rfl rfl ?_
  refine R_callV (v := .inr (.inr (.inl 16))) (As := [.inl a1]) (rest := []) rfl mt_8_i150 pp_X1_hasSecond (by decide) rfl rfl rfl (Nat.le_of_ble_eq_true rfl) (Nat.le_of_ble_eq_true rfl) ((k_X1_hasSecond h hI a1).mono (fun r2 h3 p4 => ?_))
  obtain ⟨rfl, x5, rfl, q6 | q6 | q6⟩ := p4
  · show RUN d_X8_atSecond 8 [(0, .inr (.inr (.inl 0))), (1, .inr (.inr (.inl 81))), (2, .inl a1)] [.inl x5] h _
    refine N_if_eq (a := x5.toInt) 17 rfl rfl rfl (fun c7 => ?_) (fun c7 => ?_)
    · refine R_bipush (-2) rfl rfl ?_
      exact R_iret rfl rfl rfl ⟨rfl, _, rfl, trivial⟩
    · exfalso; omega
  · have b8 : (0 : Int) ≤ (h.1 17 0).toInt ∧ (h.1 17 0).toInt ≤ 60 := hI.1 17 0
    show RUN d_X8_atSecond 8 [(0, .inr (.inr (.inl 0))), (1, .inr (.inr (.inl 81))), (2, .inl a1)] [.inl x5] h _
    refine N_if_eq (a := x5.toInt) 17 rfl rfl rfl (fun c9 => ?_) (fun c9 => ?_)
    · refine R_bipush (-2) rfl rfl ?_
      exact R_iret rfl rfl rfl ⟨rfl, _, rfl, trivial⟩
    · exfalso; omega
  · have b10 : (0 : Int) ≤ (h.1 17 0).toInt ∧ (h.1 17 0).toInt ≤ 60 := hI.1 17 0
    show RUN d_X8_atSecond 8 [(0, .inr (.inr (.inl 0))), (1, .inr (.inr (.inl 81))), (2, .inl a1)] [.inl x5] h _
    refine N_if_eq (a := x5.toInt) 17 rfl rfl rfl (fun c11 => ?_) (fun c11 => ?_)
    · exfalso; omega
    · refine R_aload_n (k := 1) rfl rfl rfl ?_
      refine R_iload_n (k := 2) rfl rfl rfl ?_
      refine R_iald rfl sh_81 ⟨by omega, by omega⟩ ?_
      refine N_any (fun x12 => ?_)
      refine R_goto 19 rfl rfl ?_
      exact R_iret rfl rfl rfl ⟨rfl, _, rfl, trivial⟩
abbrev q_X8_atSecond_7 (h : PH) (a1 : Int32) : Option PV → PH → Prop := fun r h' => h = h' ∧ ∃ z : Int32, r = some (.inl z) ∧ ((True))
set_option maxHeartbeats 4000000 in
set_option maxRecDepth 100000 in
theorem k_X8_atSecond_7 (h : PH) (hI : INV h) (a1 : Int32) : CALL d_X8_atSecond [.inr (.inr (.inl 0)), .inr (.inr (.inl 82)), .inl a1] h (q_X8_atSecond_7 h a1) := by
  show RUN d_X8_atSecond 0 [(0, .inr (.inr (.inl 0))), (1, .inr (.inr (.inl 82))), (2, .inl a1)] [] h _
  have b1 := i_rng a1
  refine R_aload_n (k := 0) rfl rfl rfl ?_
  refine R_getf_r (j := 3) rfl ft_8_28 sh_0 rfl ?_
  refine R_iload_n (k := 2) rfl rfl rfl ?_
  refine R_callV (v := .inr (.inr (.inl 16))) (As := [.inl a1]) (rest := []) rfl mt_8_i150 pp_X1_hasSecond (by decide) rfl rfl rfl (Nat.le_of_ble_eq_true rfl) (Nat.le_of_ble_eq_true rfl) ((k_X1_hasSecond h hI a1).mono (fun r2 h3 p4 => ?_))
  obtain ⟨rfl, x5, rfl, q6 | q6 | q6⟩ := p4
  · show RUN d_X8_atSecond 8 [(0, .inr (.inr (.inl 0))), (1, .inr (.inr (.inl 82))), (2, .inl a1)] [.inl x5] h _
    refine N_if_eq (a := x5.toInt) 17 rfl rfl rfl (fun c7 => ?_) (fun c7 => ?_)
    · refine R_bipush (-2) rfl rfl ?_
      exact R_iret rfl rfl rfl ⟨rfl, _, rfl, trivial⟩
    · exfalso; omega
  · have b8 : (0 : Int) ≤ (h.1 17 0).toInt ∧ (h.1 17 0).toInt ≤ 60 := hI.1 17 0
    show RUN d_X8_atSecond 8 [(0, .inr (.inr (.inl 0))), (1, .inr (.inr (.inl 82))), (2, .inl a1)] [.inl x5] h _
    refine N_if_eq (a := x5.toInt) 17 rfl rfl rfl (fun c9 => ?_) (fun c9 => ?_)
    · refine R_bipush (-2) rfl rfl ?_
      exact R_iret rfl rfl rfl ⟨rfl, _, rfl, trivial⟩
    · exfalso; omega
  · have b10 : (0 : Int) ≤ (h.1 17 0).toInt ∧ (h.1 17 0).toInt ≤ 60 := hI.1 17 0
    show RUN d_X8_atSecond 8 [(0, .inr (.inr (.inl 0))), (1, .inr (.inr (.inl 82))), (2, .inl a1)] [.inl x5] h _
    refine N_if_eq (a := x5.toInt) 17 rfl rfl rfl (fun c11 => ?_) (fun c11 => ?_)
    · exfalso; omega
    · refine R_aload_n (k := 1) rfl rfl rfl ?_
      refine R_iload_n (k := 2) rfl rfl rfl ?_
      refine R_iald rfl sh_82 ⟨by omega, by omega⟩ ?_
      refine N_any (fun x12 => ?_)
      refine R_goto 19 rfl rfl ?_
      exact R_iret rfl rfl rfl ⟨rfl, _, rfl, trivial⟩
abbrev q_X8_atSecond_3 (h : PH) (a1 : Int32) : Option PV → PH → Prop := fun r h' => h = h' ∧ ∃ z : Int32, r = some (.inl z) ∧ ((True))
set_option maxHeartbeats 4000000 in
set_option maxRecDepth 100000 in
theorem k_X8_atSecond_3 (h : PH) (hI : INV h) (a1 : Int32) : CALL d_X8_atSecond [.inr (.inr (.inl 0)), .inr (.inr (.inl 83)), .inl a1] h (q_X8_atSecond_3 h a1) := by
  show RUN d_X8_atSecond 0 [(0, .inr (.inr (.inl 0))), (1, .inr (.inr (.inl 83))), (2, .inl a1)] [] h _
  have b1 := i_rng a1
  refine R_aload_n (k := 0) rfl rfl rfl ?_
  refine R_getf_r (j := 3) rfl ft_8_28 sh_0 rfl ?_
  refine R_iload_n (k := 2) rfl rfl rfl ?_
  refine R_callV (v := .inr (.inr (.inl 16))) (As := [.inl a1]) (rest := []) rfl mt_8_i150 pp_X1_hasSecond (by decide) rfl rfl rfl (Nat.le_of_ble_eq_true rfl) (Nat.le_of_ble_eq_true rfl) ((k_X1_hasSecond h hI a1).mono (fun r2 h3 p4 => ?_))
  obtain ⟨rfl, x5, rfl, q6 | q6 | q6⟩ := p4
  · show RUN d_X8_atSecond 8 [(0, .inr (.inr (.inl 0))), (1, .inr (.inr (.inl 83))), (2, .inl a1)] [.inl x5] h _
    refine N_if_eq (a := x5.toInt) 17 rfl rfl rfl (fun c7 => ?_) (fun c7 => ?_)
    · refine R_bipush (-2) rfl rfl ?_
      exact R_iret rfl rfl rfl ⟨rfl, _, rfl, trivial⟩
    · exfalso; omega
  · have b8 : (0 : Int) ≤ (h.1 17 0).toInt ∧ (h.1 17 0).toInt ≤ 60 := hI.1 17 0
    show RUN d_X8_atSecond 8 [(0, .inr (.inr (.inl 0))), (1, .inr (.inr (.inl 83))), (2, .inl a1)] [.inl x5] h _
    refine N_if_eq (a := x5.toInt) 17 rfl rfl rfl (fun c9 => ?_) (fun c9 => ?_)
    · refine R_bipush (-2) rfl rfl ?_
      exact R_iret rfl rfl rfl ⟨rfl, _, rfl, trivial⟩
    · exfalso; omega
  · have b10 : (0 : Int) ≤ (h.1 17 0).toInt ∧ (h.1 17 0).toInt ≤ 60 := hI.1 17 0
    show RUN d_X8_atSecond 8 [(0, .inr (.inr (.inl 0))), (1, .inr (.inr (.inl 83))), (2, .inl a1)] [.inl x5] h _
    refine N_if_eq (a := x5.toInt) 17 rfl rfl rfl (fun c11 => ?_) (fun c11 => ?_)
    · exfalso; omega
    · refine R_aload_n (k := 1) rfl rfl rfl ?_
      refine R_iload_n (k := 2) rfl rfl rfl ?_
      refine R_iald rfl sh_83 ⟨by omega, by omega⟩ ?_
      refine N_any (fun x12 => ?_)
      refine R_goto 19 rfl rfl ?_
      exact R_iret rfl rfl rfl ⟨rfl, _, rfl, trivial⟩
abbrev q_X8_atSecond_4 (h : PH) (a1 : Int32) : Option PV → PH → Prop := fun r h' => h = h' ∧ ∃ z : Int32, r = some (.inl z) ∧ ((True))
set_option maxHeartbeats 4000000 in
set_option maxRecDepth 100000 in
theorem k_X8_atSecond_4 (h : PH) (hI : INV h) (a1 : Int32) : CALL d_X8_atSecond [.inr (.inr (.inl 0)), .inr (.inr (.inl 84)), .inl a1] h (q_X8_atSecond_4 h a1) := by
  show RUN d_X8_atSecond 0 [(0, .inr (.inr (.inl 0))), (1, .inr (.inr (.inl 84))), (2, .inl a1)] [] h _
  have b1 := i_rng a1
  refine R_aload_n (k := 0) rfl rfl rfl ?_
  refine R_getf_r (j := 3) rfl ft_8_28 sh_0 rfl ?_
  refine R_iload_n (k := 2) rfl rfl rfl ?_
  refine R_callV (v := .inr (.inr (.inl 16))) (As := [.inl a1]) (rest := []) rfl mt_8_i150 pp_X1_hasSecond (by decide) rfl rfl rfl (Nat.le_of_ble_eq_true rfl) (Nat.le_of_ble_eq_true rfl) ((k_X1_hasSecond h hI a1).mono (fun r2 h3 p4 => ?_))
  obtain ⟨rfl, x5, rfl, q6 | q6 | q6⟩ := p4
  · show RUN d_X8_atSecond 8 [(0, .inr (.inr (.inl 0))), (1, .inr (.inr (.inl 84))), (2, .inl a1)] [.inl x5] h _
    refine N_if_eq (a := x5.toInt) 17 rfl rfl rfl (fun c7 => ?_) (fun c7 => ?_)
    · refine R_bipush (-2) rfl rfl ?_
      exact R_iret rfl rfl rfl ⟨rfl, _, rfl, trivial⟩
    · exfalso; omega
  · have b8 : (0 : Int) ≤ (h.1 17 0).toInt ∧ (h.1 17 0).toInt ≤ 60 := hI.1 17 0
    show RUN d_X8_atSecond 8 [(0, .inr (.inr (.inl 0))), (1, .inr (.inr (.inl 84))), (2, .inl a1)] [.inl x5] h _
    refine N_if_eq (a := x5.toInt) 17 rfl rfl rfl (fun c9 => ?_) (fun c9 => ?_)
    · refine R_bipush (-2) rfl rfl ?_
      exact R_iret rfl rfl rfl ⟨rfl, _, rfl, trivial⟩
    · exfalso; omega
  · have b10 : (0 : Int) ≤ (h.1 17 0).toInt ∧ (h.1 17 0).toInt ≤ 60 := hI.1 17 0
    show RUN d_X8_atSecond 8 [(0, .inr (.inr (.inl 0))), (1, .inr (.inr (.inl 84))), (2, .inl a1)] [.inl x5] h _
    refine N_if_eq (a := x5.toInt) 17 rfl rfl rfl (fun c11 => ?_) (fun c11 => ?_)
    · exfalso; omega
    · refine R_aload_n (k := 1) rfl rfl rfl ?_
      refine R_iload_n (k := 2) rfl rfl rfl ?_
      refine R_iald rfl sh_84 ⟨by omega, by omega⟩ ?_
      refine N_any (fun x12 => ?_)
      refine R_goto 19 rfl rfl ?_
      exact R_iret rfl rfl rfl ⟨rfl, _, rfl, trivial⟩
abbrev q_X8_atSecond_5 (h : PH) (a1 : Int32) : Option PV → PH → Prop := fun r h' => h = h' ∧ ∃ z : Int32, r = some (.inl z) ∧ ((True))
set_option maxHeartbeats 4000000 in
set_option maxRecDepth 100000 in
theorem k_X8_atSecond_5 (h : PH) (hI : INV h) (a1 : Int32) : CALL d_X8_atSecond [.inr (.inr (.inl 0)), .inr (.inr (.inl 85)), .inl a1] h (q_X8_atSecond_5 h a1) := by
  show RUN d_X8_atSecond 0 [(0, .inr (.inr (.inl 0))), (1, .inr (.inr (.inl 85))), (2, .inl a1)] [] h _
  have b1 := i_rng a1
  refine R_aload_n (k := 0) rfl rfl rfl ?_
  refine R_getf_r (j := 3) rfl ft_8_28 sh_0 rfl ?_
  refine R_iload_n (k := 2) rfl rfl rfl ?_
  refine R_callV (v := .inr (.inr (.inl 16))) (As := [.inl a1]) (rest := []) rfl mt_8_i150 pp_X1_hasSecond (by decide) rfl rfl rfl (Nat.le_of_ble_eq_true rfl) (Nat.le_of_ble_eq_true rfl) ((k_X1_hasSecond h hI a1).mono (fun r2 h3 p4 => ?_))
  obtain ⟨rfl, x5, rfl, q6 | q6 | q6⟩ := p4
  · show RUN d_X8_atSecond 8 [(0, .inr (.inr (.inl 0))), (1, .inr (.inr (.inl 85))), (2, .inl a1)] [.inl x5] h _
    refine N_if_eq (a := x5.toInt) 17 rfl rfl rfl (fun c7 => ?_) (fun c7 => ?_)
    · refine R_bipush (-2) rfl rfl ?_
      exact R_iret rfl rfl rfl ⟨rfl, _, rfl, trivial⟩
    · exfalso; omega
  · have b8 : (0 : Int) ≤ (h.1 17 0).toInt ∧ (h.1 17 0).toInt ≤ 60 := hI.1 17 0
    show RUN d_X8_atSecond 8 [(0, .inr (.inr (.inl 0))), (1, .inr (.inr (.inl 85))), (2, .inl a1)] [.inl x5] h _
    refine N_if_eq (a := x5.toInt) 17 rfl rfl rfl (fun c9 => ?_) (fun c9 => ?_)
    · refine R_bipush (-2) rfl rfl ?_
      exact R_iret rfl rfl rfl ⟨rfl, _, rfl, trivial⟩
    · exfalso; omega
  · have b10 : (0 : Int) ≤ (h.1 17 0).toInt ∧ (h.1 17 0).toInt ≤ 60 := hI.1 17 0
    show RUN d_X8_atSecond 8 [(0, .inr (.inr (.inl 0))), (1, .inr (.inr (.inl 85))), (2, .inl a1)] [.inl x5] h _
    refine N_if_eq (a := x5.toInt) 17 rfl rfl rfl (fun c11 => ?_) (fun c11 => ?_)
    · exfalso; omega
    · refine R_aload_n (k := 1) rfl rfl rfl ?_
      refine R_iload_n (k := 2) rfl rfl rfl ?_
      refine R_iald rfl sh_85 ⟨by omega, by omega⟩ ?_
      refine N_any (fun x12 => ?_)
      refine R_goto 19 rfl rfl ?_
      exact R_iret rfl rfl rfl ⟨rfl, _, rfl, trivial⟩
abbrev q_X8_busy (h : PH) (a0 : Int32) : Option PV → PH → Prop := fun r h' => INV h' ∧ FR [0, 70, 71, 72, 73, 74, 75, 76, 77, 78, 79, 80, 81, 82, 83, 84, 85, 86] h h' ∧ ∃ z : Int32, r = some (.inl z) ∧ ((True))
set_option maxHeartbeats 4000000 in
set_option maxRecDepth 100000 in
theorem k_X8_busy (h : PH) (hI : INV h) (a0 : Int32) : CALL d_X8_busy [.inr (.inr (.inl 0)), .inl a0] h (q_X8_busy h a0) := by
  show RUN d_X8_busy 0 [(0, .inr (.inr (.inl 0))), (1, .inl a0)] [] h _
  have b1 := i_rng a0
  have fr : FR [0, 70, 71, 72, 73, 74, 75, 76, 77, 78, 79, 80, 81, 82, 83, 84, 85, 86] h h := FR.rf _ _
  refine R_aload_n (k := 0) rfl rfl rfl ?_
  refine R_aload_n (k := 0) rfl rfl rfl ?_
  refine R_callV (v := .inr (.inr (.inl 0))) (As := []) (rest := [.inr (.inr (.inl 0))]) rfl mt_8_i153 pp_X8_told (by decide) rfl rfl rfl (Nat.le_of_ble_eq_true rfl) (Nat.le_of_ble_eq_true rfl) ((k_X8_told h hI).mono (fun r2 h3 p4 => ?_))
  obtain ⟨hJ, fj, rfl⟩ := p4
  have f5 := fj
  have fr := fr.trans fj (by decide)
  have hI := hJ
  show RUN d_X8_busy 5 [(0, .inr (.inr (.inl 0))), (1, .inl a0)] [.inr (.inr (.inl 75)), .inr (.inr (.inl 0))] h3 _
  refine R_getf_r (j := 1) rfl ft_8_157 sh_75 rfl ?_
  refine R_iload_n (k := 1) rfl rfl rfl ?_
  refine R_callV (v := .inr (.inr (.inl 0))) (As := [.inr (.inr (.inl 77)), .inl a0]) (rest := []) rfl mt_8_i171 pp_X8_atSecond (by decide) rfl rfl rfl (Nat.le_of_ble_eq_true rfl) (Nat.le_of_ble_eq_true rfl) ((k_X8_atSecond h3 hI a0).mono (fun r6 h7 p8 => ?_))
  obtain ⟨rfl, x9, rfl, q10⟩ := p8
  show RUN d_X8_busy 12 [(0, .inr (.inr (.inl 0))), (1, .inl a0)] [.inl x9] h3 _
  exact R_iret rfl rfl rfl ⟨hI, fr, _, rfl, trivial⟩
abbrev q_X8_waits (h : PH) (a0 : Int32) : Option PV → PH → Prop := fun r h' => INV h' ∧ FR [0, 70, 71, 72, 73, 74, 75, 76, 77, 78, 79, 80, 81, 82, 83, 84, 85, 86] h h' ∧ ∃ z : Int32, r = some (.inl z) ∧ ((True))
set_option maxHeartbeats 4000000 in
set_option maxRecDepth 100000 in
theorem k_X8_waits (h : PH) (hI : INV h) (a0 : Int32) : CALL d_X8_waits [.inr (.inr (.inl 0)), .inl a0] h (q_X8_waits h a0) := by
  show RUN d_X8_waits 0 [(0, .inr (.inr (.inl 0))), (1, .inl a0)] [] h _
  have b1 := i_rng a0
  have fr : FR [0, 70, 71, 72, 73, 74, 75, 76, 77, 78, 79, 80, 81, 82, 83, 84, 85, 86] h h := FR.rf _ _
  refine R_aload_n (k := 0) rfl rfl rfl ?_
  refine R_aload_n (k := 0) rfl rfl rfl ?_
  refine R_callV (v := .inr (.inr (.inl 0))) (As := []) (rest := [.inr (.inr (.inl 0))]) rfl mt_8_i153 pp_X8_told (by decide) rfl rfl rfl (Nat.le_of_ble_eq_true rfl) (Nat.le_of_ble_eq_true rfl) ((k_X8_told h hI).mono (fun r2 h3 p4 => ?_))
  obtain ⟨hJ, fj, rfl⟩ := p4
  have f5 := fj
  have fr := fr.trans fj (by decide)
  have hI := hJ
  show RUN d_X8_waits 5 [(0, .inr (.inr (.inl 0))), (1, .inl a0)] [.inr (.inr (.inl 75)), .inr (.inr (.inl 0))] h3 _
  refine R_getf_r (j := 2) rfl ft_8_175 sh_75 rfl ?_
  refine R_iload_n (k := 1) rfl rfl rfl ?_
  refine R_callV (v := .inr (.inr (.inl 0))) (As := [.inr (.inr (.inl 78)), .inl a0]) (rest := []) rfl mt_8_i171 pp_X8_atSecond (by decide) rfl rfl rfl (Nat.le_of_ble_eq_true rfl) (Nat.le_of_ble_eq_true rfl) ((k_X8_atSecond_1 h3 hI a0).mono (fun r6 h7 p8 => ?_))
  obtain ⟨rfl, x9, rfl, q10⟩ := p8
  show RUN d_X8_waits 12 [(0, .inr (.inr (.inl 0))), (1, .inl a0)] [.inl x9] h3 _
  exact R_iret rfl rfl rfl ⟨hI, fr, _, rfl, trivial⟩
abbrev q_X8_secondsWith_1 (h : PH) (a1 : Int32) : Option PV → PH → Prop := fun r h' => h = h' ∧ ∃ z : Int32, r = some (.inl z) ∧ ((True))
set_option maxHeartbeats 4000000 in
set_option maxRecDepth 100000 in
theorem k_X8_secondsWith_1 (h : PH) (hI : INV h) (a1 : Int32) (h1a : 0 ≤ a1.toInt ∧ a1.toInt ≤ 5) : CALL d_X8_secondsWith [.inr (.inr (.inl 0)), .inr (.inr (.inl 77)), .inl a1] h (q_X8_secondsWith_1 h a1) := by
  show RUN d_X8_secondsWith 0 [(0, .inr (.inr (.inl 0))), (1, .inr (.inr (.inl 77))), (2, .inl a1)] [] h _
  refine R_iconst 0 rfl rfl ?_
  refine R_istore_n (k := 3) rfl [(3, .inl 0), (0, .inr (.inr (.inl 0))), (1, .inr (.inr (.inl 77))), (2, .inl a1)] rfl rfl (by decide) ?_
  refine R_iconst 0 rfl rfl ?_
  refine R_istore (k := 4) [(4, .inl 0), (3, .inl 0), (0, .inr (.inr (.inl 0))), (1, .inr (.inr (.inl 77))), (2, .inl a1)] rfl rfl (by decide) ?_
  have lp2 : ∀ (n1 : Nat) (x3 : Int32) (x4 : Int32), 0 ≤ x4.toInt ∧ x4.toInt ≤ 2147483647 → (2147483647 - x4.toInt).toNat < n1 → RUN d_X8_secondsWith 5 [(4, .inl x4), (3, .inl x3), (0, .inr (.inr (.inl 0))), (1, .inr (.inr (.inl 77))), (2, .inl a1)] [] h (q_X8_secondsWith_1 h a1) := by
    intro n1
    induction n1 with
    | zero => intro x3 x4 m6 hz; exact absurd hz (Nat.not_lt_zero _)
    | succ n1 ih5 =>
      intro x3 x4 m6 hz
      refine R_iload (k := 4) rfl rfl ?_
      refine R_aload_n (k := 0) rfl rfl rfl ?_
      refine R_getf_r (j := 3) rfl ft_8_28 sh_0 rfl ?_
      refine R_getf_r (j := 0) rfl ft_8_109 sh_16 rfl ?_
      refine R_iconst 0 rfl rfl ?_
      refine R_iald rfl sh_17 (by decide) ?_
      have b7 : (0 : Int) ≤ (h.1 17 0).toInt ∧ (h.1 17 0).toInt ≤ 60 := hI.1 17 0
      show RUN d_X8_secondsWith 16 [(4, .inl x4), (3, .inl x3), (0, .inr (.inr (.inl 0))), (1, .inr (.inr (.inl 77))), (2, .inl a1)] [.inl (h.1 17 0), .inl x4] h _
      refine N_icmp_ge (a := x4.toInt) (b := (h.1 17 0).toInt) 40 rfl rfl rfl rfl (fun c8 => ?_) (fun c8 => ?_)
      · refine R_iload_n (k := 3) rfl rfl rfl ?_
        exact R_iret rfl rfl rfl ⟨rfl, _, rfl, trivial⟩
      · refine R_aload_n (k := 1) rfl rfl rfl ?_
        refine R_iload (k := 4) rfl rfl ?_
        refine R_iald rfl sh_77 ⟨by omega, by omega⟩ ?_
        refine N_any (fun x9 => ?_)
        refine N_i2l rfl (fun w10 q11 => ?_)
        refine R_iload_n (k := 2) rfl rfl rfl ?_
        refine R_callS (As := [.inr (.inl w10), .inl a1]) (rest := []) rfl mt_8_i160 (by decide) pp_X8_hasBit (by decide) rfl rfl (Nat.le_of_ble_eq_true rfl) (Nat.le_of_ble_eq_true rfl) ((k_X8_hasBit h hI w10 a1).mono (fun r12 h13 p14 => ?_))
        obtain ⟨rfl, x15, rfl, q16 | q16⟩ := p14
        · show RUN d_X8_secondsWith 28 [(4, .inl x4), (3, .inl x3), (0, .inr (.inr (.inl 0))), (1, .inr (.inr (.inl 77))), (2, .inl a1)] [.inl x15] h _
          refine N_if_eq (a := x15.toInt) 34 rfl rfl rfl (fun c17 => ?_) (fun c17 => ?_)
          · refine N_iinc (a := x4.toInt) (c := 1) (fun w => [(4, .inl w), (3, .inl x3), (0, .inr (.inr (.inl 0))), (1, .inr (.inr (.inl 77))), (2, .inl a1)]) rfl rfl (fun _ => rfl) (by decide) rfl (by decide) (by omega) (fun x18 q19 => ?_)
            refine R_goto 5 rfl rfl ?_
            exact RUN_weak (psub_cons rfl (psub_cons rfl (psub_cons rfl (psub_cons rfl (psub_cons rfl (psub_nil _)))))) (ih5 x3 x18 (by omega) (by omega))
          · exfalso; omega
        · show RUN d_X8_secondsWith 28 [(4, .inl x4), (3, .inl x3), (0, .inr (.inr (.inl 0))), (1, .inr (.inr (.inl 77))), (2, .inl a1)] [.inl x15] h _
          refine N_if_eq (a := x15.toInt) 34 rfl rfl rfl (fun c20 => ?_) (fun c20 => ?_)
          · exfalso; omega
          · have b21 := i_rng x3
            refine N_iinc_any (fun w => [(3, .inl w), (4, .inl x4), (0, .inr (.inr (.inl 0))), (1, .inr (.inr (.inl 77))), (2, .inl a1)]) rfl rfl (fun _ => rfl) (by decide) (fun x22 => ?_)
            refine N_iinc (a := x4.toInt) (c := 1) (fun w => [(4, .inl w), (3, .inl x22), (0, .inr (.inr (.inl 0))), (1, .inr (.inr (.inl 77))), (2, .inl a1)]) rfl rfl (fun _ => rfl) (by decide) rfl (by decide) (by omega) (fun x23 q24 => ?_)
            refine R_goto 5 rfl rfl ?_
            exact RUN_weak (psub_cons rfl (psub_cons rfl (psub_cons rfl (psub_cons rfl (psub_cons rfl (psub_nil _)))))) (ih5 x22 x23 (by omega) (by omega))
  exact lp2 _ (0 : Int32) (0 : Int32) (by decide) (Nat.lt_succ_self _)
abbrev q_X8_secondsWith (h : PH) (a1 : Int32) : Option PV → PH → Prop := fun r h' => h = h' ∧ ∃ z : Int32, r = some (.inl z) ∧ ((True))
set_option maxHeartbeats 4000000 in
set_option maxRecDepth 100000 in
theorem k_X8_secondsWith (h : PH) (hI : INV h) (a1 : Int32) (h1a : 0 ≤ a1.toInt ∧ a1.toInt ≤ 5) : CALL d_X8_secondsWith [.inr (.inr (.inl 0)), .inr (.inr (.inl 78)), .inl a1] h (q_X8_secondsWith h a1) := by
  show RUN d_X8_secondsWith 0 [(0, .inr (.inr (.inl 0))), (1, .inr (.inr (.inl 78))), (2, .inl a1)] [] h _
  refine R_iconst 0 rfl rfl ?_
  refine R_istore_n (k := 3) rfl [(3, .inl 0), (0, .inr (.inr (.inl 0))), (1, .inr (.inr (.inl 78))), (2, .inl a1)] rfl rfl (by decide) ?_
  refine R_iconst 0 rfl rfl ?_
  refine R_istore (k := 4) [(4, .inl 0), (3, .inl 0), (0, .inr (.inr (.inl 0))), (1, .inr (.inr (.inl 78))), (2, .inl a1)] rfl rfl (by decide) ?_
  have lp2 : ∀ (n1 : Nat) (x3 : Int32) (x4 : Int32), 0 ≤ x4.toInt ∧ x4.toInt ≤ 2147483647 → (2147483647 - x4.toInt).toNat < n1 → RUN d_X8_secondsWith 5 [(4, .inl x4), (3, .inl x3), (0, .inr (.inr (.inl 0))), (1, .inr (.inr (.inl 78))), (2, .inl a1)] [] h (q_X8_secondsWith h a1) := by
    intro n1
    induction n1 with
    | zero => intro x3 x4 m6 hz; exact absurd hz (Nat.not_lt_zero _)
    | succ n1 ih5 =>
      intro x3 x4 m6 hz
      refine R_iload (k := 4) rfl rfl ?_
      refine R_aload_n (k := 0) rfl rfl rfl ?_
      refine R_getf_r (j := 3) rfl ft_8_28 sh_0 rfl ?_
      refine R_getf_r (j := 0) rfl ft_8_109 sh_16 rfl ?_
      refine R_iconst 0 rfl rfl ?_
      refine R_iald rfl sh_17 (by decide) ?_
      have b7 : (0 : Int) ≤ (h.1 17 0).toInt ∧ (h.1 17 0).toInt ≤ 60 := hI.1 17 0
      show RUN d_X8_secondsWith 16 [(4, .inl x4), (3, .inl x3), (0, .inr (.inr (.inl 0))), (1, .inr (.inr (.inl 78))), (2, .inl a1)] [.inl (h.1 17 0), .inl x4] h _
      refine N_icmp_ge (a := x4.toInt) (b := (h.1 17 0).toInt) 40 rfl rfl rfl rfl (fun c8 => ?_) (fun c8 => ?_)
      · refine R_iload_n (k := 3) rfl rfl rfl ?_
        exact R_iret rfl rfl rfl ⟨rfl, _, rfl, trivial⟩
      · refine R_aload_n (k := 1) rfl rfl rfl ?_
        refine R_iload (k := 4) rfl rfl ?_
        refine R_iald rfl sh_78 ⟨by omega, by omega⟩ ?_
        refine N_any (fun x9 => ?_)
        refine N_i2l rfl (fun w10 q11 => ?_)
        refine R_iload_n (k := 2) rfl rfl rfl ?_
        refine R_callS (As := [.inr (.inl w10), .inl a1]) (rest := []) rfl mt_8_i160 (by decide) pp_X8_hasBit (by decide) rfl rfl (Nat.le_of_ble_eq_true rfl) (Nat.le_of_ble_eq_true rfl) ((k_X8_hasBit h hI w10 a1).mono (fun r12 h13 p14 => ?_))
        obtain ⟨rfl, x15, rfl, q16 | q16⟩ := p14
        · show RUN d_X8_secondsWith 28 [(4, .inl x4), (3, .inl x3), (0, .inr (.inr (.inl 0))), (1, .inr (.inr (.inl 78))), (2, .inl a1)] [.inl x15] h _
          refine N_if_eq (a := x15.toInt) 34 rfl rfl rfl (fun c17 => ?_) (fun c17 => ?_)
          · refine N_iinc (a := x4.toInt) (c := 1) (fun w => [(4, .inl w), (3, .inl x3), (0, .inr (.inr (.inl 0))), (1, .inr (.inr (.inl 78))), (2, .inl a1)]) rfl rfl (fun _ => rfl) (by decide) rfl (by decide) (by omega) (fun x18 q19 => ?_)
            refine R_goto 5 rfl rfl ?_
            exact RUN_weak (psub_cons rfl (psub_cons rfl (psub_cons rfl (psub_cons rfl (psub_cons rfl (psub_nil _)))))) (ih5 x3 x18 (by omega) (by omega))
          · exfalso; omega
        · show RUN d_X8_secondsWith 28 [(4, .inl x4), (3, .inl x3), (0, .inr (.inr (.inl 0))), (1, .inr (.inr (.inl 78))), (2, .inl a1)] [.inl x15] h _
          refine N_if_eq (a := x15.toInt) 34 rfl rfl rfl (fun c20 => ?_) (fun c20 => ?_)
          · exfalso; omega
          · have b21 := i_rng x3
            refine N_iinc_any (fun w => [(3, .inl w), (4, .inl x4), (0, .inr (.inr (.inl 0))), (1, .inr (.inr (.inl 78))), (2, .inl a1)]) rfl rfl (fun _ => rfl) (by decide) (fun x22 => ?_)
            refine N_iinc (a := x4.toInt) (c := 1) (fun w => [(4, .inl w), (3, .inl x22), (0, .inr (.inr (.inl 0))), (1, .inr (.inr (.inl 78))), (2, .inl a1)]) rfl rfl (fun _ => rfl) (by decide) rfl (by decide) (by omega) (fun x23 q24 => ?_)
            refine R_goto 5 rfl rfl ?_
            exact RUN_weak (psub_cons rfl (psub_cons rfl (psub_cons rfl (psub_cons rfl (psub_cons rfl (psub_nil _)))))) (ih5 x22 x23 (by omega) (by omega))
  exact lp2 _ (0 : Int32) (0 : Int32) (by decide) (Nat.lt_succ_self _)
abbrev q_X8_secondsWith_2 (h : PH) (a1 : Int32) : Option PV → PH → Prop := fun r h' => h = h' ∧ ∃ z : Int32, r = some (.inl z) ∧ ((True))
set_option maxHeartbeats 4000000 in
set_option maxRecDepth 100000 in
theorem k_X8_secondsWith_2 (h : PH) (hI : INV h) (a1 : Int32) (h1a : 0 ≤ a1.toInt ∧ a1.toInt ≤ 5) : CALL d_X8_secondsWith [.inr (.inr (.inl 0)), .inr (.inr (.inl 80)), .inl a1] h (q_X8_secondsWith_2 h a1) := by
  show RUN d_X8_secondsWith 0 [(0, .inr (.inr (.inl 0))), (1, .inr (.inr (.inl 80))), (2, .inl a1)] [] h _
  refine R_iconst 0 rfl rfl ?_
  refine R_istore_n (k := 3) rfl [(3, .inl 0), (0, .inr (.inr (.inl 0))), (1, .inr (.inr (.inl 80))), (2, .inl a1)] rfl rfl (by decide) ?_
  refine R_iconst 0 rfl rfl ?_
  refine R_istore (k := 4) [(4, .inl 0), (3, .inl 0), (0, .inr (.inr (.inl 0))), (1, .inr (.inr (.inl 80))), (2, .inl a1)] rfl rfl (by decide) ?_
  have lp2 : ∀ (n1 : Nat) (x3 : Int32) (x4 : Int32), 0 ≤ x4.toInt ∧ x4.toInt ≤ 2147483647 → (2147483647 - x4.toInt).toNat < n1 → RUN d_X8_secondsWith 5 [(4, .inl x4), (3, .inl x3), (0, .inr (.inr (.inl 0))), (1, .inr (.inr (.inl 80))), (2, .inl a1)] [] h (q_X8_secondsWith_2 h a1) := by
    intro n1
    induction n1 with
    | zero => intro x3 x4 m6 hz; exact absurd hz (Nat.not_lt_zero _)
    | succ n1 ih5 =>
      intro x3 x4 m6 hz
      refine R_iload (k := 4) rfl rfl ?_
      refine R_aload_n (k := 0) rfl rfl rfl ?_
      refine R_getf_r (j := 3) rfl ft_8_28 sh_0 rfl ?_
      refine R_getf_r (j := 0) rfl ft_8_109 sh_16 rfl ?_
      refine R_iconst 0 rfl rfl ?_
      refine R_iald rfl sh_17 (by decide) ?_
      have b7 : (0 : Int) ≤ (h.1 17 0).toInt ∧ (h.1 17 0).toInt ≤ 60 := hI.1 17 0
      show RUN d_X8_secondsWith 16 [(4, .inl x4), (3, .inl x3), (0, .inr (.inr (.inl 0))), (1, .inr (.inr (.inl 80))), (2, .inl a1)] [.inl (h.1 17 0), .inl x4] h _
      refine N_icmp_ge (a := x4.toInt) (b := (h.1 17 0).toInt) 40 rfl rfl rfl rfl (fun c8 => ?_) (fun c8 => ?_)
      · refine R_iload_n (k := 3) rfl rfl rfl ?_
        exact R_iret rfl rfl rfl ⟨rfl, _, rfl, trivial⟩
      · refine R_aload_n (k := 1) rfl rfl rfl ?_
        refine R_iload (k := 4) rfl rfl ?_
        refine R_iald rfl sh_80 ⟨by omega, by omega⟩ ?_
        refine N_any (fun x9 => ?_)
        refine N_i2l rfl (fun w10 q11 => ?_)
        refine R_iload_n (k := 2) rfl rfl rfl ?_
        refine R_callS (As := [.inr (.inl w10), .inl a1]) (rest := []) rfl mt_8_i160 (by decide) pp_X8_hasBit (by decide) rfl rfl (Nat.le_of_ble_eq_true rfl) (Nat.le_of_ble_eq_true rfl) ((k_X8_hasBit h hI w10 a1).mono (fun r12 h13 p14 => ?_))
        obtain ⟨rfl, x15, rfl, q16 | q16⟩ := p14
        · show RUN d_X8_secondsWith 28 [(4, .inl x4), (3, .inl x3), (0, .inr (.inr (.inl 0))), (1, .inr (.inr (.inl 80))), (2, .inl a1)] [.inl x15] h _
          refine N_if_eq (a := x15.toInt) 34 rfl rfl rfl (fun c17 => ?_) (fun c17 => ?_)
          · refine N_iinc (a := x4.toInt) (c := 1) (fun w => [(4, .inl w), (3, .inl x3), (0, .inr (.inr (.inl 0))), (1, .inr (.inr (.inl 80))), (2, .inl a1)]) rfl rfl (fun _ => rfl) (by decide) rfl (by decide) (by omega) (fun x18 q19 => ?_)
            refine R_goto 5 rfl rfl ?_
            exact RUN_weak (psub_cons rfl (psub_cons rfl (psub_cons rfl (psub_cons rfl (psub_cons rfl (psub_nil _)))))) (ih5 x3 x18 (by omega) (by omega))
          · exfalso; omega
        · show RUN d_X8_secondsWith 28 [(4, .inl x4), (3, .inl x3), (0, .inr (.inr (.inl 0))), (1, .inr (.inr (.inl 80))), (2, .inl a1)] [.inl x15] h _
          refine N_if_eq (a := x15.toInt) 34 rfl rfl rfl (fun c20 => ?_) (fun c20 => ?_)
          · exfalso; omega
          · have b21 := i_rng x3
            refine N_iinc_any (fun w => [(3, .inl w), (4, .inl x4), (0, .inr (.inr (.inl 0))), (1, .inr (.inr (.inl 80))), (2, .inl a1)]) rfl rfl (fun _ => rfl) (by decide) (fun x22 => ?_)
            refine N_iinc (a := x4.toInt) (c := 1) (fun w => [(4, .inl w), (3, .inl x22), (0, .inr (.inr (.inl 0))), (1, .inr (.inr (.inl 80))), (2, .inl a1)]) rfl rfl (fun _ => rfl) (by decide) rfl (by decide) (by omega) (fun x23 q24 => ?_)
            refine R_goto 5 rfl rfl ?_
            exact RUN_weak (psub_cons rfl (psub_cons rfl (psub_cons rfl (psub_cons rfl (psub_cons rfl (psub_nil _)))))) (ih5 x22 x23 (by omega) (by omega))
  exact lp2 _ (0 : Int32) (0 : Int32) (by decide) (Nat.lt_succ_self _)
abbrev q_X8_stays (h : PH) (a0 : Int32) : Option PV → PH → Prop := fun r h' => INV h' ∧ FR [0, 70, 71, 72, 73, 74, 75, 76, 77, 78, 79, 80, 81, 82, 83, 84, 85, 86] h h' ∧ ∃ z : Int32, r = some (.inl z) ∧ ((True))
set_option maxHeartbeats 4000000 in
set_option maxRecDepth 100000 in
theorem k_X8_stays (h : PH) (hI : INV h) (a0 : Int32) : CALL d_X8_stays [.inr (.inr (.inl 0)), .inl a0] h (q_X8_stays h a0) := by
  show RUN d_X8_stays 0 [(0, .inr (.inr (.inl 0))), (1, .inl a0)] [] h _
  have b1 := i_rng a0
  have fr : FR [0, 70, 71, 72, 73, 74, 75, 76, 77, 78, 79, 80, 81, 82, 83, 84, 85, 86] h h := FR.rf _ _
  refine R_aload_n (k := 0) rfl rfl rfl ?_
  refine R_getf_r (j := 3) rfl ft_8_28 sh_0 rfl ?_
  refine R_iload_n (k := 1) rfl rfl rfl ?_
  refine R_callV (v := .inr (.inr (.inl 16))) (As := [.inl a0]) (rest := []) rfl mt_8_i119 pp_X1_hasHand (by decide) rfl rfl rfl (Nat.le_of_ble_eq_true rfl) (Nat.le_of_ble_eq_true rfl) ((k_X1_hasHand h hI a0).mono (fun r2 h3 p4 => ?_))
  obtain ⟨rfl, x5, rfl, q6 | q6 | q6⟩ := p4
  · show RUN d_X8_stays 8 [(0, .inr (.inr (.inl 0))), (1, .inl a0)] [.inl x5] h _
    refine N_if_eq (a := x5.toInt) 26 rfl rfl rfl (fun c7 => ?_) (fun c7 => ?_)
    · refine R_bipush (-2) rfl rfl ?_
      exact R_iret rfl rfl rfl ⟨hI, fr, _, rfl, trivial⟩
    · exfalso; omega
  · have b8 : (0 : Int) ≤ (h.1 17 5).toInt ∧ (h.1 17 5).toInt ≤ 6 := hI.1 17 5
    show RUN d_X8_stays 8 [(0, .inr (.inr (.inl 0))), (1, .inl a0)] [.inl x5] h _
    refine N_if_eq (a := x5.toInt) 26 rfl rfl rfl (fun c9 => ?_) (fun c9 => ?_)
    · refine R_bipush (-2) rfl rfl ?_
      exact R_iret rfl rfl rfl ⟨hI, fr, _, rfl, trivial⟩
    · exfalso; omega
  · have b10 : (0 : Int) ≤ (h.1 17 5).toInt ∧ (h.1 17 5).toInt ≤ 6 := hI.1 17 5
    show RUN d_X8_stays 8 [(0, .inr (.inr (.inl 0))), (1, .inl a0)] [.inl x5] h _
    refine N_if_eq (a := x5.toInt) 26 rfl rfl rfl (fun c11 => ?_) (fun c11 => ?_)
    · exfalso; omega
    · refine R_aload_n (k := 0) rfl rfl rfl ?_
      refine R_aload_n (k := 0) rfl rfl rfl ?_
      refine R_callV (v := .inr (.inr (.inl 0))) (As := []) (rest := [.inr (.inr (.inl 0))]) rfl mt_8_i153 pp_X8_told (by decide) rfl rfl rfl (Nat.le_of_ble_eq_true rfl) (Nat.le_of_ble_eq_true rfl) ((k_X8_told h hI).mono (fun r12 h13 p14 => ?_))
      obtain ⟨hJ, fj, rfl⟩ := p14
      have f15 := fj
      have fr := fr.trans fj (by decide)
      have hI := hJ
      have s16 : (h13.1 17 5).toInt = (h.1 17 5).toInt := by rw [(f15 17 (by decide)).1]
      show RUN d_X8_stays 16 [(0, .inr (.inr (.inl 0))), (1, .inl a0)] [.inr (.inr (.inl 75)), .inr (.inr (.inl 0))] h13 _
      refine R_getf_r (j := 2) rfl ft_8_175 sh_75 rfl ?_
      refine R_iload_n (k := 1) rfl rfl rfl ?_
      refine R_callV (v := .inr (.inr (.inl 0))) (As := [.inr (.inr (.inl 78)), .inl a0]) (rest := []) rfl mt_8_i200 pp_X8_secondsWith (by decide) rfl rfl rfl (Nat.le_of_ble_eq_true rfl) (Nat.le_of_ble_eq_true rfl) ((k_X8_secondsWith h13 hI a0 (by omega)).mono (fun r17 h18 p19 => ?_))
      obtain ⟨rfl, x20, rfl, q21⟩ := p19
      show RUN d_X8_stays 23 [(0, .inr (.inr (.inl 0))), (1, .inl a0)] [.inl x20] h13 _
      refine R_goto 28 rfl rfl ?_
      exact R_iret rfl rfl rfl ⟨hI, fr, _, rfl, trivial⟩
abbrev q_X9_staysOf (h : PH) (a0 : Int32) : Option PV → PH → Prop := fun r h' => h = h' ∧ ∃ z : Int32, r = some (.inl z) ∧ ((True))
set_option maxHeartbeats 4000000 in
set_option maxRecDepth 100000 in
theorem k_X9_staysOf (h : PH) (hI : INV h) (a0 : Int32) (h0a : 0 ≤ a0.toInt ∧ a0.toInt ≤ 2147483647) : CALL d_X9_staysOf [.inr (.inr (.inl 96)), .inl a0] h (q_X9_staysOf h a0) := by
  show RUN d_X9_staysOf 0 [(0, .inr (.inr (.inl 96))), (1, .inl a0)] [] h _
  refine R_iconst 0 rfl rfl ?_
  refine R_istore_n (k := 2) rfl [(2, .inl 0), (0, .inr (.inr (.inl 96))), (1, .inl a0)] rfl rfl (by decide) ?_
  refine R_iconst 0 rfl rfl ?_
  refine R_istore_n (k := 3) rfl [(3, .inl 0), (2, .inl 0), (0, .inr (.inr (.inl 96))), (1, .inl a0)] rfl rfl (by decide) ?_
  have lp2 : ∀ (n1 : Nat) (x3 : Int32) (x4 : Int32), 0 ≤ x4.toInt ∧ x4.toInt ≤ 2147483647 → (2147483647 - x4.toInt).toNat < n1 → RUN d_X9_staysOf 4 [(3, .inl x4), (2, .inl x3), (0, .inr (.inr (.inl 96))), (1, .inl a0)] [] h (q_X9_staysOf h a0) := by
    intro n1
    induction n1 with
    | zero => intro x3 x4 m6 hz; exact absurd hz (Nat.not_lt_zero _)
    | succ n1 ih5 =>
      intro x3 x4 m6 hz
      refine R_iload_n (k := 3) rfl rfl rfl ?_
      refine R_aload_n (k := 0) rfl rfl rfl ?_
      refine R_callV (v := .inr (.inr (.inl 96))) (As := []) (rest := [.inl x4]) rfl mt_9_i129 pp_X9_last (by decide) rfl rfl rfl (Nat.le_of_ble_eq_true rfl) (Nat.le_of_ble_eq_true rfl) ((k_X9_last h hI).mono (fun r7 h8 p9 => ?_))
      obtain ⟨rfl, x10, rfl, q11⟩ := p9
      show RUN d_X9_staysOf 9 [(3, .inl x4), (2, .inl x3), (0, .inr (.inr (.inl 96))), (1, .inl a0)] [.inl x10, .inl x4] h _
      refine N_icmp_gt (a := x4.toInt) (b := x10.toInt) 31 rfl rfl rfl rfl (fun c12 => ?_) (fun c12 => ?_)
      · refine R_iload_n (k := 2) rfl rfl rfl ?_
        exact R_iret rfl rfl rfl ⟨rfl, _, rfl, trivial⟩
      · refine R_iload_n (k := 2) rfl rfl rfl ?_
        refine R_aload_n (k := 0) rfl rfl rfl ?_
        refine R_getf_r (j := 31) rfl ft_9_73 sh_96 rfl ?_
        refine R_iload_n (k := 3) rfl rfl rfl ?_
        refine R_iald rfl sh_116 ⟨by omega, by omega⟩ ?_
        refine N_any (fun x13 => ?_)
        refine R_iload_n (k := 1) rfl rfl rfl ?_
        have b14 := i_rng a0
        refine R_callS (As := [.inl x13, .inl a0]) (rest := [.inl x3]) rfl mt_9_i292 (by decide) pp_X9_bit (by decide) rfl rfl (Nat.le_of_ble_eq_true rfl) (Nat.le_of_ble_eq_true rfl) ((k_X9_bit h hI x13 a0 (by omega)).mono (fun r15 h16 p17 => ?_))
        obtain ⟨rfl, x18, rfl, q19⟩ := p17
        show RUN d_X9_staysOf 23 [(3, .inl x4), (2, .inl x3), (0, .inr (.inr (.inl 96))), (1, .inl a0)] [.inl x18, .inl x3] h _
        have b20 := i_rng x3
        refine R_iadd rfl ?_
        refine N_any (fun x21 => ?_)
        refine R_istore_n (k := 2) rfl [(2, .inl x21), (3, .inl x4), (0, .inr (.inr (.inl 96))), (1, .inl a0)] rfl rfl (by decide) ?_
        refine N_iinc (a := x4.toInt) (c := 1) (fun w => [(3, .inl w), (2, .inl x21), (0, .inr (.inr (.inl 96))), (1, .inl a0)]) rfl rfl (fun _ => rfl) (by decide) rfl (by decide) (by omega) (fun x22 q23 => ?_)
        refine R_goto 4 rfl rfl ?_
        exact RUN_weak (psub_cons rfl (psub_cons rfl (psub_cons rfl (psub_cons rfl (psub_nil _))))) (ih5 x21 x22 (by omega) (by omega))
  exact lp2 _ (0 : Int32) (0 : Int32) (by decide) (Nat.lt_succ_self _)
abbrev q_X8_secondsIdle (h : PH) (a0 : Int32) : Option PV → PH → Prop := fun r h' => INV h' ∧ FR [0, 70, 71, 72, 73, 74, 75, 76, 77, 78, 79, 80, 81, 82, 83, 84, 85, 86] h h' ∧ ∃ z : Int32, r = some (.inl z) ∧ ((True))
set_option maxHeartbeats 4000000 in
set_option maxRecDepth 100000 in
theorem k_X8_secondsIdle (h : PH) (hI : INV h) (a0 : Int32) (h0a : 0 ≤ a0.toInt ∧ a0.toInt ≤ 5) : CALL d_X8_secondsIdle [.inr (.inr (.inl 0)), .inl a0] h (q_X8_secondsIdle h a0) := by
  show RUN d_X8_secondsIdle 0 [(0, .inr (.inr (.inl 0))), (1, .inl a0)] [] h _
  have fr : FR [0, 70, 71, 72, 73, 74, 75, 76, 77, 78, 79, 80, 81, 82, 83, 84, 85, 86] h h := FR.rf _ _
  refine R_aload_n (k := 0) rfl rfl rfl ?_
  refine R_getf_r (j := 3) rfl ft_8_28 sh_0 rfl ?_
  refine R_getf_r (j := 0) rfl ft_8_109 sh_16 rfl ?_
  refine R_iconst 0 rfl rfl ?_
  refine R_iald rfl sh_17 (by decide) ?_
  have b1 : (0 : Int) ≤ (h.1 17 0).toInt ∧ (h.1 17 0).toInt ≤ 60 := hI.1 17 0
  show RUN d_X8_secondsIdle 9 [(0, .inr (.inr (.inl 0))), (1, .inl a0)] [.inl (h.1 17 0)] h _
  refine R_aload_n (k := 0) rfl rfl rfl ?_
  refine R_aload_n (k := 0) rfl rfl rfl ?_
  refine R_callV (v := .inr (.inr (.inl 0))) (As := []) (rest := [.inr (.inr (.inl 0)), .inl (h.1 17 0)]) rfl mt_8_i153 pp_X8_told (by decide) rfl rfl rfl (Nat.le_of_ble_eq_true rfl) (Nat.le_of_ble_eq_true rfl) ((k_X8_told h hI).mono (fun r2 h3 p4 => ?_))
  obtain ⟨hJ, fj, rfl⟩ := p4
  have f5 := fj
  have fr := fr.trans fj (by decide)
  have hI := hJ
  have s6 : (h3.1 17 0).toInt = (h.1 17 0).toInt := by rw [(f5 17 (by decide)).1]
  show RUN d_X8_secondsIdle 14 [(0, .inr (.inr (.inl 0))), (1, .inl a0)] [.inr (.inr (.inl 75)), .inr (.inr (.inl 0)), .inl (h.1 17 0)] h3 _
  refine R_getf_r (j := 1) rfl ft_8_157 sh_75 rfl ?_
  refine R_iload_n (k := 1) rfl rfl rfl ?_
  refine R_callV (v := .inr (.inr (.inl 0))) (As := [.inr (.inr (.inl 77)), .inl a0]) (rest := [.inl (h.1 17 0)]) rfl mt_8_i200 pp_X8_secondsWith (by decide) rfl rfl rfl (Nat.le_of_ble_eq_true rfl) (Nat.le_of_ble_eq_true rfl) ((k_X8_secondsWith_1 h3 hI a0 (by omega)).mono (fun r7 h8 p9 => ?_))
  obtain ⟨rfl, x10, rfl, q11⟩ := p9
  show RUN d_X8_secondsIdle 21 [(0, .inr (.inr (.inl 0))), (1, .inl a0)] [.inl x10, .inl (h.1 17 0)] h3 _
  have b12 := i_rng x10
  refine R_isub rfl ?_
  refine N_any (fun x13 => ?_)
  exact R_iret rfl rfl rfl ⟨hI, fr, _, rfl, trivial⟩
abbrev q_X8_idle (h : PH) (a0 : Int32) : Option PV → PH → Prop := fun r h' => INV h' ∧ FR [0, 70, 71, 72, 73, 74, 75, 76, 77, 78, 79, 80, 81, 82, 83, 84, 85, 86] h h' ∧ ∃ z : Int32, r = some (.inl z) ∧ ((True))
set_option maxHeartbeats 4000000 in
set_option maxRecDepth 100000 in
theorem k_X8_idle (h : PH) (hI : INV h) (a0 : Int32) : CALL d_X8_idle [.inr (.inr (.inl 0)), .inl a0] h (q_X8_idle h a0) := by
  show RUN d_X8_idle 0 [(0, .inr (.inr (.inl 0))), (1, .inl a0)] [] h _
  have b1 := i_rng a0
  have fr : FR [0, 70, 71, 72, 73, 74, 75, 76, 77, 78, 79, 80, 81, 82, 83, 84, 85, 86] h h := FR.rf _ _
  refine R_aload_n (k := 0) rfl rfl rfl ?_
  refine R_getf_r (j := 3) rfl ft_8_28 sh_0 rfl ?_
  refine R_iload_n (k := 1) rfl rfl rfl ?_
  refine R_callV (v := .inr (.inr (.inl 16))) (As := [.inl a0]) (rest := []) rfl mt_8_i119 pp_X1_hasHand (by decide) rfl rfl rfl (Nat.le_of_ble_eq_true rfl) (Nat.le_of_ble_eq_true rfl) ((k_X1_hasHand h hI a0).mono (fun r2 h3 p4 => ?_))
  obtain ⟨rfl, x5, rfl, q6 | q6 | q6⟩ := p4
  · show RUN d_X8_idle 8 [(0, .inr (.inr (.inl 0))), (1, .inl a0)] [.inl x5] h _
    refine N_if_eq (a := x5.toInt) 19 rfl rfl rfl (fun c7 => ?_) (fun c7 => ?_)
    · refine R_bipush (-2) rfl rfl ?_
      exact R_iret rfl rfl rfl ⟨hI, fr, _, rfl, trivial⟩
    · exfalso; omega
  · have b8 : (0 : Int) ≤ (h.1 17 5).toInt ∧ (h.1 17 5).toInt ≤ 6 := hI.1 17 5
    show RUN d_X8_idle 8 [(0, .inr (.inr (.inl 0))), (1, .inl a0)] [.inl x5] h _
    refine N_if_eq (a := x5.toInt) 19 rfl rfl rfl (fun c9 => ?_) (fun c9 => ?_)
    · refine R_bipush (-2) rfl rfl ?_
      exact R_iret rfl rfl rfl ⟨hI, fr, _, rfl, trivial⟩
    · exfalso; omega
  · have b10 : (0 : Int) ≤ (h.1 17 5).toInt ∧ (h.1 17 5).toInt ≤ 6 := hI.1 17 5
    show RUN d_X8_idle 8 [(0, .inr (.inr (.inl 0))), (1, .inl a0)] [.inl x5] h _
    refine N_if_eq (a := x5.toInt) 19 rfl rfl rfl (fun c11 => ?_) (fun c11 => ?_)
    · exfalso; omega
    · refine R_aload_n (k := 0) rfl rfl rfl ?_
      refine R_iload_n (k := 1) rfl rfl rfl ?_
      refine R_callV (v := .inr (.inr (.inl 0))) (As := [.inl a0]) (rest := []) rfl mt_8_i203 pp_X8_secondsIdle (by decide) rfl rfl rfl (Nat.le_of_ble_eq_true rfl) (Nat.le_of_ble_eq_true rfl) ((k_X8_secondsIdle h hI a0 (by omega)).mono (fun r12 h13 p14 => ?_))
      obtain ⟨hJ, fj, x15, rfl, q16⟩ := p14
      have f17 := fj
      have fr := fr.trans fj (by decide)
      have hI := hJ
      have s18 : (h13.1 17 5).toInt = (h.1 17 5).toInt := by rw [(f17 17 (by decide)).1]
      show RUN d_X8_idle 16 [(0, .inr (.inr (.inl 0))), (1, .inl a0)] [.inl x15] h13 _
      refine R_goto 21 rfl rfl ?_
      exact R_iret rfl rfl rfl ⟨hI, fr, _, rfl, trivial⟩
abbrev q_X8_river (h : PH) (a0 : Int32) : Option PV → PH → Prop := fun r h' => INV h' ∧ FR [0, 70, 71, 72, 73, 74, 75, 76, 77, 78, 79, 80, 81, 82, 83, 84, 85, 86] h h' ∧ ∃ z : Int32, r = some (.inl z) ∧ ((True))
set_option maxHeartbeats 4000000 in
set_option maxRecDepth 100000 in
theorem k_X8_river (h : PH) (hI : INV h) (a0 : Int32) : CALL d_X8_river [.inr (.inr (.inl 0)), .inl a0] h (q_X8_river h a0) := by
  show RUN d_X8_river 0 [(0, .inr (.inr (.inl 0))), (1, .inl a0)] [] h _
  have b1 := i_rng a0
  have fr : FR [0, 70, 71, 72, 73, 74, 75, 76, 77, 78, 79, 80, 81, 82, 83, 84, 85, 86] h h := FR.rf _ _
  refine R_aload_n (k := 0) rfl rfl rfl ?_
  refine R_aload_n (k := 0) rfl rfl rfl ?_
  refine R_callV (v := .inr (.inr (.inl 0))) (As := []) (rest := [.inr (.inr (.inl 0))]) rfl mt_8_i153 pp_X8_told (by decide) rfl rfl rfl (Nat.le_of_ble_eq_true rfl) (Nat.le_of_ble_eq_true rfl) ((k_X8_told h hI).mono (fun r2 h3 p4 => ?_))
  obtain ⟨hJ, fj, rfl⟩ := p4
  have f5 := fj
  have fr := fr.trans fj (by decide)
  have hI := hJ
  show RUN d_X8_river 5 [(0, .inr (.inr (.inl 0))), (1, .inl a0)] [.inr (.inr (.inl 75)), .inr (.inr (.inl 0))] h3 _
  refine R_getf_r (j := 5) rfl ft_8_181 sh_75 rfl ?_
  refine R_iload_n (k := 1) rfl rfl rfl ?_
  refine R_callV (v := .inr (.inr (.inl 0))) (As := [.inr (.inr (.inl 81)), .inl a0]) (rest := []) rfl mt_8_i171 pp_X8_atSecond (by decide) rfl rfl rfl (Nat.le_of_ble_eq_true rfl) (Nat.le_of_ble_eq_true rfl) ((k_X8_atSecond_2 h3 hI a0).mono (fun r6 h7 p8 => ?_))
  obtain ⟨rfl, x9, rfl, q10⟩ := p8
  show RUN d_X8_river 12 [(0, .inr (.inr (.inl 0))), (1, .inl a0)] [.inl x9] h3 _
  exact R_iret rfl rfl rfl ⟨hI, fr, _, rfl, trivial⟩
abbrev q_X8_thrown (h : PH) (a0 : Int32) : Option PV → PH → Prop := fun r h' => INV h' ∧ FR [0, 70, 71, 72, 73, 74, 75, 76, 77, 78, 79, 80, 81, 82, 83, 84, 85, 86] h h' ∧ ∃ z : Int32, r = some (.inl z) ∧ ((True))
set_option maxHeartbeats 4000000 in
set_option maxRecDepth 100000 in
theorem k_X8_thrown (h : PH) (hI : INV h) (a0 : Int32) : CALL d_X8_thrown [.inr (.inr (.inl 0)), .inl a0] h (q_X8_thrown h a0) := by
  show RUN d_X8_thrown 0 [(0, .inr (.inr (.inl 0))), (1, .inl a0)] [] h _
  have b1 := i_rng a0
  have fr : FR [0, 70, 71, 72, 73, 74, 75, 76, 77, 78, 79, 80, 81, 82, 83, 84, 85, 86] h h := FR.rf _ _
  refine R_aload_n (k := 0) rfl rfl rfl ?_
  refine R_aload_n (k := 0) rfl rfl rfl ?_
  refine R_callV (v := .inr (.inr (.inl 0))) (As := []) (rest := [.inr (.inr (.inl 0))]) rfl mt_8_i153 pp_X8_told (by decide) rfl rfl rfl (Nat.le_of_ble_eq_true rfl) (Nat.le_of_ble_eq_true rfl) ((k_X8_told h hI).mono (fun r2 h3 p4 => ?_))
  obtain ⟨hJ, fj, rfl⟩ := p4
  have f5 := fj
  have fr := fr.trans fj (by decide)
  have hI := hJ
  show RUN d_X8_thrown 5 [(0, .inr (.inr (.inl 0))), (1, .inl a0)] [.inr (.inr (.inl 75)), .inr (.inr (.inl 0))] h3 _
  refine R_getf_r (j := 7) rfl ft_8_187 sh_75 rfl ?_
  refine R_iload_n (k := 1) rfl rfl rfl ?_
  refine R_callV (v := .inr (.inr (.inl 0))) (As := [.inr (.inr (.inl 83)), .inl a0]) (rest := []) rfl mt_8_i171 pp_X8_atSecond (by decide) rfl rfl rfl (Nat.le_of_ble_eq_true rfl) (Nat.le_of_ble_eq_true rfl) ((k_X8_atSecond_3 h3 hI a0).mono (fun r6 h7 p8 => ?_))
  obtain ⟨rfl, x9, rfl, q10⟩ := p8
  show RUN d_X8_thrown 12 [(0, .inr (.inr (.inl 0))), (1, .inl a0)] [.inl x9] h3 _
  exact R_iret rfl rfl rfl ⟨hI, fr, _, rfl, trivial⟩
abbrev q_X6_waterTo (h : PH) (a0 : Int32) : Option PV → PH → Prop := fun r h' => h = h' ∧ ∃ z : Int32, r = some (.inl z) ∧ ((True))
set_option maxHeartbeats 4000000 in
set_option maxRecDepth 100000 in
theorem k_X6_waterTo (h : PH) (hI : INV h) (a0 : Int32) (h0a : 0 ≤ a0.toInt ∧ a0.toInt ≤ 59) : CALL d_X6_waterTo [.inr (.inr (.inl 75)), .inl a0] h (q_X6_waterTo h a0) := by
  show RUN d_X6_waterTo 0 [(0, .inr (.inr (.inl 75))), (1, .inl a0)] [] h _
  refine R_aload_n (k := 0) rfl rfl rfl ?_
  refine R_getf_r (j := 7) rfl ft_6_33 sh_75 rfl ?_
  refine R_iload_n (k := 1) rfl rfl rfl ?_
  refine R_iald rfl sh_83 ⟨by omega, by omega⟩ ?_
  refine N_any (fun x1 => ?_)
  refine R_aload_n (k := 0) rfl rfl rfl ?_
  refine R_getf_i (j := 12) rfl ft_6_49 sh_75 rfl ?_
  have b2 := i_rng x1
  have b3 := i_rng (h.1 75 12)
  refine R_imul rfl ?_
  refine N_any (fun x4 => ?_)
  exact R_iret rfl rfl rfl ⟨rfl, _, rfl, trivial⟩
abbrev q_X8_water (h : PH) (a0 : Int32) : Option PV → PH → Prop := fun r h' => INV h' ∧ FR [0, 70, 71, 72, 73, 74, 75, 76, 77, 78, 79, 80, 81, 82, 83, 84, 85, 86] h h' ∧ ∃ z : Int32, r = some (.inl z) ∧ ((True))
set_option maxHeartbeats 4000000 in
set_option maxRecDepth 100000 in
theorem k_X8_water (h : PH) (hI : INV h) (a0 : Int32) : CALL d_X8_water [.inr (.inr (.inl 0)), .inl a0] h (q_X8_water h a0) := by
  show RUN d_X8_water 0 [(0, .inr (.inr (.inl 0))), (1, .inl a0)] [] h _
  have b1 := i_rng a0
  have fr : FR [0, 70, 71, 72, 73, 74, 75, 76, 77, 78, 79, 80, 81, 82, 83, 84, 85, 86] h h := FR.rf _ _
  refine R_aload_n (k := 0) rfl rfl rfl ?_
  refine R_getf_r (j := 3) rfl ft_8_28 sh_0 rfl ?_
  refine R_iload_n (k := 1) rfl rfl rfl ?_
  refine R_callV (v := .inr (.inr (.inl 16))) (As := [.inl a0]) (rest := []) rfl mt_8_i150 pp_X1_hasSecond (by decide) rfl rfl rfl (Nat.le_of_ble_eq_true rfl) (Nat.le_of_ble_eq_true rfl) ((k_X1_hasSecond h hI a0).mono (fun r2 h3 p4 => ?_))
  obtain ⟨rfl, x5, rfl, q6 | q6 | q6⟩ := p4
  · show RUN d_X8_water 8 [(0, .inr (.inr (.inl 0))), (1, .inl a0)] [.inl x5] h _
    refine N_if_eq (a := x5.toInt) 22 rfl rfl rfl (fun c7 => ?_) (fun c7 => ?_)
    · refine R_bipush (-2) rfl rfl ?_
      exact R_iret rfl rfl rfl ⟨hI, fr, _, rfl, trivial⟩
    · exfalso; omega
  · have b8 : (0 : Int) ≤ (h.1 17 0).toInt ∧ (h.1 17 0).toInt ≤ 60 := hI.1 17 0
    show RUN d_X8_water 8 [(0, .inr (.inr (.inl 0))), (1, .inl a0)] [.inl x5] h _
    refine N_if_eq (a := x5.toInt) 22 rfl rfl rfl (fun c9 => ?_) (fun c9 => ?_)
    · refine R_bipush (-2) rfl rfl ?_
      exact R_iret rfl rfl rfl ⟨hI, fr, _, rfl, trivial⟩
    · exfalso; omega
  · have b10 : (0 : Int) ≤ (h.1 17 0).toInt ∧ (h.1 17 0).toInt ≤ 60 := hI.1 17 0
    show RUN d_X8_water 8 [(0, .inr (.inr (.inl 0))), (1, .inl a0)] [.inl x5] h _
    refine N_if_eq (a := x5.toInt) 22 rfl rfl rfl (fun c11 => ?_) (fun c11 => ?_)
    · exfalso; omega
    · refine R_aload_n (k := 0) rfl rfl rfl ?_
      refine R_callV (v := .inr (.inr (.inl 0))) (As := []) (rest := []) rfl mt_8_i153 pp_X8_told (by decide) rfl rfl rfl (Nat.le_of_ble_eq_true rfl) (Nat.le_of_ble_eq_true rfl) ((k_X8_told h hI).mono (fun r12 h13 p14 => ?_))
      obtain ⟨hJ, fj, rfl⟩ := p14
      have f15 := fj
      have fr := fr.trans fj (by decide)
      have hI := hJ
      have s16 : (h13.1 17 0).toInt = (h.1 17 0).toInt := by rw [(f15 17 (by decide)).1]
      show RUN d_X8_water 15 [(0, .inr (.inr (.inl 0))), (1, .inl a0)] [.inr (.inr (.inl 75))] h13 _
      refine R_iload_n (k := 1) rfl rfl rfl ?_
      refine R_callV (v := .inr (.inr (.inl 75))) (As := [.inl a0]) (rest := []) rfl mt_8_i196 pp_X6_waterTo (by decide) rfl rfl rfl (Nat.le_of_ble_eq_true rfl) (Nat.le_of_ble_eq_true rfl) ((k_X6_waterTo h13 hI a0 (by omega)).mono (fun r17 h18 p19 => ?_))
      obtain ⟨rfl, x20, rfl, q21⟩ := p19
      show RUN d_X8_water 19 [(0, .inr (.inr (.inl 0))), (1, .inl a0)] [.inl x20] h13 _
      refine R_goto 24 rfl rfl ?_
      exact R_iret rfl rfl rfl ⟨hI, fr, _, rfl, trivial⟩
abbrev q_X8_spilt (h : PH) (a0 : Int32) : Option PV → PH → Prop := fun r h' => INV h' ∧ FR [0, 70, 71, 72, 73, 74, 75, 76, 77, 78, 79, 80, 81, 82, 83, 84, 85, 86] h h' ∧ ∃ z : Int32, r = some (.inl z) ∧ ((True))
set_option maxHeartbeats 4000000 in
set_option maxRecDepth 100000 in
theorem k_X8_spilt (h : PH) (hI : INV h) (a0 : Int32) : CALL d_X8_spilt [.inr (.inr (.inl 0)), .inl a0] h (q_X8_spilt h a0) := by
  show RUN d_X8_spilt 0 [(0, .inr (.inr (.inl 0))), (1, .inl a0)] [] h _
  have b1 := i_rng a0
  have fr : FR [0, 70, 71, 72, 73, 74, 75, 76, 77, 78, 79, 80, 81, 82, 83, 84, 85, 86] h h := FR.rf _ _
  refine R_aload_n (k := 0) rfl rfl rfl ?_
  refine R_aload_n (k := 0) rfl rfl rfl ?_
  refine R_callV (v := .inr (.inr (.inl 0))) (As := []) (rest := [.inr (.inr (.inl 0))]) rfl mt_8_i153 pp_X8_told (by decide) rfl rfl rfl (Nat.le_of_ble_eq_true rfl) (Nat.le_of_ble_eq_true rfl) ((k_X8_told h hI).mono (fun r2 h3 p4 => ?_))
  obtain ⟨hJ, fj, rfl⟩ := p4
  have f5 := fj
  have fr := fr.trans fj (by decide)
  have hI := hJ
  show RUN d_X8_spilt 5 [(0, .inr (.inr (.inl 0))), (1, .inl a0)] [.inr (.inr (.inl 75)), .inr (.inr (.inl 0))] h3 _
  refine R_getf_r (j := 8) rfl ft_8_190 sh_75 rfl ?_
  refine R_iload_n (k := 1) rfl rfl rfl ?_
  refine R_callV (v := .inr (.inr (.inl 0))) (As := [.inr (.inr (.inl 84)), .inl a0]) (rest := []) rfl mt_8_i171 pp_X8_atSecond (by decide) rfl rfl rfl (Nat.le_of_ble_eq_true rfl) (Nat.le_of_ble_eq_true rfl) ((k_X8_atSecond_4 h3 hI a0).mono (fun r6 h7 p8 => ?_))
  obtain ⟨rfl, x9, rfl, q10⟩ := p8
  show RUN d_X8_spilt 12 [(0, .inr (.inr (.inl 0))), (1, .inl a0)] [.inl x9] h3 _
  exact R_iret rfl rfl rfl ⟨hI, fr, _, rfl, trivial⟩
abbrev q_X8_fire (h : PH) (a0 : Int32) : Option PV → PH → Prop := fun r h' => INV h' ∧ FR [0, 70, 71, 72, 73, 74, 75, 76, 77, 78, 79, 80, 81, 82, 83, 84, 85, 86] h h' ∧ ∃ z : Int32, r = some (.inl z) ∧ ((True))
set_option maxHeartbeats 4000000 in
set_option maxRecDepth 100000 in
theorem k_X8_fire (h : PH) (hI : INV h) (a0 : Int32) : CALL d_X8_fire [.inr (.inr (.inl 0)), .inl a0] h (q_X8_fire h a0) := by
  show RUN d_X8_fire 0 [(0, .inr (.inr (.inl 0))), (1, .inl a0)] [] h _
  have b1 := i_rng a0
  have fr : FR [0, 70, 71, 72, 73, 74, 75, 76, 77, 78, 79, 80, 81, 82, 83, 84, 85, 86] h h := FR.rf _ _
  refine R_aload_n (k := 0) rfl rfl rfl ?_
  refine R_aload_n (k := 0) rfl rfl rfl ?_
  refine R_callV (v := .inr (.inr (.inl 0))) (As := []) (rest := [.inr (.inr (.inl 0))]) rfl mt_8_i153 pp_X8_told (by decide) rfl rfl rfl (Nat.le_of_ble_eq_true rfl) (Nat.le_of_ble_eq_true rfl) ((k_X8_told h hI).mono (fun r2 h3 p4 => ?_))
  obtain ⟨hJ, fj, rfl⟩ := p4
  have f5 := fj
  have fr := fr.trans fj (by decide)
  have hI := hJ
  show RUN d_X8_fire 5 [(0, .inr (.inr (.inl 0))), (1, .inl a0)] [.inr (.inr (.inl 75)), .inr (.inr (.inl 0))] h3 _
  refine R_getf_r (j := 9) rfl ft_8_193 sh_75 rfl ?_
  refine R_iload_n (k := 1) rfl rfl rfl ?_
  refine R_callV (v := .inr (.inr (.inl 0))) (As := [.inr (.inr (.inl 85)), .inl a0]) (rest := []) rfl mt_8_i171 pp_X8_atSecond (by decide) rfl rfl rfl (Nat.le_of_ble_eq_true rfl) (Nat.le_of_ble_eq_true rfl) ((k_X8_atSecond_5 h3 hI a0).mono (fun r6 h7 p8 => ?_))
  obtain ⟨rfl, x9, rfl, q10⟩ := p8
  show RUN d_X8_fire 12 [(0, .inr (.inr (.inl 0))), (1, .inl a0)] [.inl x9] h3 _
  exact R_iret rfl rfl rfl ⟨hI, fr, _, rfl, trivial⟩
abbrev q_X9_goFire (h : PH) (a0 : Int32) : Option PV → PH → Prop := fun r h' => INV h' ∧ FR [120] h h' ∧ ∃ z : Int32, r = some (.inl z) ∧ (((-1) ≤ z.toInt ∧ z.toInt ≤ 2147483647))
set_option maxHeartbeats 4000000 in
set_option maxRecDepth 100000 in
theorem k_X9_goFire (h : PH) (hI : INV h) (a0 : Int32) : CALL d_X9_goFire [.inr (.inr (.inl 96)), .inl a0] h (q_X9_goFire h a0) := by
  show RUN d_X9_goFire 0 [(0, .inr (.inr (.inl 96))), (1, .inl a0)] [] h _
  have b1 := i_rng a0
  have fr : FR [120] h h := FR.rf _ _
  refine R_iconst (-1) rfl rfl ?_
  refine R_istore_n (k := 2) rfl [(2, .inl (-1)), (0, .inr (.inr (.inl 96))), (1, .inl a0)] rfl rfl (by decide) ?_
  refine R_iload_n (k := 1) rfl rfl rfl ?_
  refine R_istore_n (k := 3) rfl [(3, .inl a0), (2, .inl (-1)), (0, .inr (.inr (.inl 96))), (1, .inl a0)] rfl rfl (by decide) ?_
  refine R_iconst 0 rfl rfl ?_
  refine R_istore (k := 4) [(4, .inl 0), (3, .inl a0), (2, .inl (-1)), (0, .inr (.inr (.inl 96))), (1, .inl a0)] rfl rfl (by decide) ?_
  have lp3 : ∀ (n2 : Nat) (h4 : PH) (x6 : Int32) (x7 : Int32) (x8 : Int32), INV h4 → FR [120] h h4 → FR [120] h h4 → (-1) ≤ x7.toInt ∧ x7.toInt ≤ 2147483647 → 0 ≤ x8.toInt ∧ x8.toInt ≤ 2147483647 → (2147483647 - x8.toInt).toNat < n2 → RUN d_X9_goFire 7 [(4, .inl x8), (3, .inl x6), (2, .inl x7), (0, .inr (.inr (.inl 96))), (1, .inl a0)] [] h4 (q_X9_goFire h a0) := by
    intro n2
    induction n2 with
    | zero => intro h4 x6 x7 x8 m10 m11 m12 m13 m14 hz; exact absurd hz (Nat.not_lt_zero _)
    | succ n2 ih9 =>
      intro h4 x6 x7 x8 hI fr fl5 m13 m14 hz
      refine R_iload (k := 4) rfl rfl ?_
      refine R_aload_n (k := 0) rfl rfl rfl ?_
      refine R_callV (v := .inr (.inr (.inl 96))) (As := []) (rest := [.inl x8]) rfl mt_9_i129 pp_X9_last (by decide) rfl rfl rfl (Nat.le_of_ble_eq_true rfl) (Nat.le_of_ble_eq_true rfl) ((k_X9_last h4 hI).mono (fun r15 h16 p17 => ?_))
      obtain ⟨rfl, x18, rfl, q19⟩ := p17
      show RUN d_X9_goFire 13 [(4, .inl x8), (3, .inl x6), (2, .inl x7), (0, .inr (.inr (.inl 96))), (1, .inl a0)] [.inl x18, .inl x8] h4 _
      refine N_icmp_gt (a := x8.toInt) (b := x18.toInt) 102 rfl rfl rfl rfl (fun c20 => ?_) (fun c20 => ?_)
      · refine R_iload_n (k := 2) rfl rfl rfl ?_
        have b21 := i_rng x7
        exact R_iret rfl rfl rfl ⟨hI, fr, _, rfl, by omega⟩
      · refine R_iload (k := 4) rfl rfl ?_
        refine N_if_ne (a := x8.toInt) 30 rfl rfl rfl (fun c22 => ?_) (fun c22 => ?_)
        · refine R_aload_n (k := 0) rfl rfl rfl ?_
          refine R_getf_r (j := 29) rfl ft_9_67 sh_96 rfl ?_
          refine R_iload (k := 4) rfl rfl ?_
          refine R_iald rfl sh_114 ⟨by omega, by omega⟩ ?_
          refine N_any (fun x23 => ?_)
          refine R_aload_n (k := 0) rfl rfl rfl ?_
          refine R_getf_r (j := 29) rfl ft_9_67 sh_96 rfl ?_
          refine R_iload (k := 4) rfl rfl ?_
          refine R_iconst 1 rfl rfl ?_
          refine N_isub (a := x8.toInt) (b := 1) rfl rfl (by decide) (by omega) (fun x24 q25 => ?_)
          refine R_iald rfl sh_114 ⟨by omega, by omega⟩ ?_
          refine N_any (fun x26 => ?_)
          have b27 := i_rng x23
          have b28 := i_rng x26
          refine R_isub rfl ?_
          refine N_any (fun x29 => ?_)
          refine R_istore (k := 5) [(5, .inl x29), (4, .inl x8), (3, .inl x6), (2, .inl x7), (0, .inr (.inr (.inl 96))), (1, .inl a0)] rfl rfl (by decide) ?_
          refine R_iload_n (k := 2) rfl rfl rfl ?_
          refine R_iconst (-1) rfl rfl ?_
          refine N_icmp_ne (a := x7.toInt) (b := (-1)) 79 rfl rfl rfl (by decide) (fun c30 => ?_) (fun c30 => ?_)
          · refine R_aload_n (k := 0) rfl rfl rfl ?_
            refine R_getf_r (j := 38) rfl ft_9_85 sh_96 rfl ?_
            refine R_iload (k := 4) rfl rfl ?_
            refine R_iload_n (k := 2) rfl rfl rfl ?_
            refine R_iconst (-1) rfl rfl ?_
            refine N_icmp_ne (a := x7.toInt) (b := (-1)) 94 rfl rfl rfl (by decide) (fun c31 => ?_) (fun c31 => ?_)
            · refine R_iconst 0 rfl rfl ?_
              refine K_iast (a := x8.toInt) (lo := (-2147483648)) (hi' := 2147483647) rfl sh_120 rfl ⟨by omega, by omega⟩ hI (by decide) rfl (by decide) fr (by decide) (fun h32 g33 hI fr => ?_)
              have fl5 : FR [120] h h32 := by rw [g33]; exact FR_wI _ _ fl5 (by decide)
              refine N_iinc (a := x8.toInt) (c := 1) (fun w => [(4, .inl w), (5, .inl x29), (3, .inl x6), (2, .inl x7), (0, .inr (.inr (.inl 96))), (1, .inl a0)]) rfl rfl (fun _ => rfl) (by decide) rfl (by decide) (by omega) (fun x34 q35 => ?_)
              refine R_goto 7 rfl rfl ?_
              have b36 := i_rng x7
              exact RUN_weak (psub_cons rfl (psub_cons rfl (psub_cons rfl (psub_cons rfl (psub_cons rfl (psub_nil _)))))) (ih9 h32 x6 x7 x34 hI fr fl5 (by omega) (by omega) (by omega))
            · exfalso; omega
          · refine R_iload_n (k := 3) rfl rfl rfl ?_
            refine R_iload (k := 5) rfl rfl ?_
            have b37 := i_rng x6
            have b38 := i_rng x29
            refine R_isub rfl ?_
            refine N_any (fun x39 => ?_)
            refine R_istore_n (k := 3) rfl [(3, .inl x39), (5, .inl x29), (4, .inl x8), (2, .inl x7), (0, .inr (.inr (.inl 96))), (1, .inl a0)] rfl rfl (by decide) ?_
            refine R_iload_n (k := 3) rfl rfl rfl ?_
            refine N_if_le (a := x39.toInt) 76 rfl rfl rfl (fun c40 => ?_) (fun c40 => ?_)
            · refine R_iload (k := 4) rfl rfl ?_
              refine R_istore_n (k := 2) rfl [(2, .inl x8), (3, .inl x39), (5, .inl x29), (4, .inl x8), (0, .inr (.inr (.inl 96))), (1, .inl a0)] rfl rfl (by decide) ?_
              refine R_aload_n (k := 0) rfl rfl rfl ?_
              refine R_getf_r (j := 38) rfl ft_9_85 sh_96 rfl ?_
              refine R_iload (k := 4) rfl rfl ?_
              refine R_iload_n (k := 2) rfl rfl rfl ?_
              refine R_iconst (-1) rfl rfl ?_
              refine N_icmp_ne (a := x8.toInt) (b := (-1)) 94 rfl rfl rfl (by decide) (fun c41 => ?_) (fun c41 => ?_)
              · refine R_iconst 0 rfl rfl ?_
                refine K_iast (a := x8.toInt) (lo := (-2147483648)) (hi' := 2147483647) rfl sh_120 rfl ⟨by omega, by omega⟩ hI (by decide) rfl (by decide) fr (by decide) (fun h42 g43 hI fr => ?_)
                have fl5 : FR [120] h h42 := by rw [g43]; exact FR_wI _ _ fl5 (by decide)
                refine N_iinc (a := x8.toInt) (c := 1) (fun w => [(4, .inl w), (2, .inl x8), (3, .inl x39), (5, .inl x29), (0, .inr (.inr (.inl 96))), (1, .inl a0)]) rfl rfl (fun _ => rfl) (by decide) rfl (by decide) (by omega) (fun x44 q45 => ?_)
                refine R_goto 7 rfl rfl ?_
                exact RUN_weak (psub_cons rfl (psub_cons rfl (psub_cons rfl (psub_cons rfl (psub_cons rfl (psub_nil _)))))) (ih9 h42 x39 x8 x44 hI fr fl5 (by omega) (by omega) (by omega))
              · exfalso; omega
            · refine R_iload_n (k := 3) rfl rfl rfl ?_
              refine R_aload_n (k := 0) rfl rfl rfl ?_
              refine R_getf_r (j := 1) rfl ft_9_9 sh_96 rfl ?_
              refine R_bipush 8 rfl rfl ?_
              refine R_iald rfl sh_97 (by decide) ?_
              show RUN d_X9_goFire 71 [(3, .inl x39), (5, .inl x29), (4, .inl x8), (2, .inl x7), (0, .inr (.inr (.inl 96))), (1, .inl a0)] [.inl (h4.1 97 8), .inl x39] h4 _
              have b46 := i_rng x39
              have b47 := i_rng (h4.1 97 8)
              refine R_iadd rfl ?_
              refine N_any (fun x48 => ?_)
              refine R_istore_n (k := 3) rfl [(3, .inl x48), (5, .inl x29), (4, .inl x8), (2, .inl x7), (0, .inr (.inr (.inl 96))), (1, .inl a0)] rfl rfl (by decide) ?_
              refine R_goto 79 rfl rfl ?_
              refine R_aload_n (k := 0) rfl rfl rfl ?_
              refine R_getf_r (j := 38) rfl ft_9_85 sh_96 rfl ?_
              refine R_iload (k := 4) rfl rfl ?_
              refine R_iload_n (k := 2) rfl rfl rfl ?_
              refine R_iconst (-1) rfl rfl ?_
              refine N_icmp_ne (a := x7.toInt) (b := (-1)) 94 rfl rfl rfl (by decide) (fun c49 => ?_) (fun c49 => ?_)
              · exfalso; omega
              · refine R_iload_n (k := 3) rfl rfl rfl ?_
                refine R_goto 95 rfl rfl ?_
                refine K_iast (a := x8.toInt) (lo := (-2147483648)) (hi' := 2147483647) rfl sh_120 rfl ⟨by omega, by omega⟩ hI (by decide) rfl (i_rng _) fr (by decide) (fun h50 g51 hI fr => ?_)
                have fl5 : FR [120] h h50 := by rw [g51]; exact FR_wI _ _ fl5 (by decide)
                have s52 : (h50.1 97 8).toInt = (h4.1 97 8).toInt := by rw [g51, wI_ne _ _ _ (by decide)]
                refine N_iinc (a := x8.toInt) (c := 1) (fun w => [(4, .inl w), (3, .inl x48), (5, .inl x29), (2, .inl x7), (0, .inr (.inr (.inl 96))), (1, .inl a0)]) rfl rfl (fun _ => rfl) (by decide) rfl (by decide) (by omega) (fun x53 q54 => ?_)
                refine R_goto 7 rfl rfl ?_
                exact RUN_weak (psub_cons rfl (psub_cons rfl (psub_cons rfl (psub_cons rfl (psub_cons rfl (psub_nil _)))))) (ih9 h50 x48 x7 x53 hI fr fl5 (by omega) (by omega) (by omega))
        · refine R_aload_n (k := 0) rfl rfl rfl ?_
          refine R_getf_r (j := 29) rfl ft_9_67 sh_96 rfl ?_
          refine R_iconst 0 rfl rfl ?_
          refine R_iald rfl sh_114 (by decide) ?_
          show RUN d_X9_goFire 27 [(4, .inl x8), (3, .inl x6), (2, .inl x7), (0, .inr (.inr (.inl 96))), (1, .inl a0)] [.inl (h4.1 114 0)] h4 _
          refine R_goto 47 rfl rfl ?_
          refine R_istore (k := 5) [(5, .inl (h4.1 114 0)), (4, .inl x8), (3, .inl x6), (2, .inl x7), (0, .inr (.inr (.inl 96))), (1, .inl a0)] rfl rfl (by decide) ?_
          refine R_iload_n (k := 2) rfl rfl rfl ?_
          refine R_iconst (-1) rfl rfl ?_
          refine N_icmp_ne (a := x7.toInt) (b := (-1)) 79 rfl rfl rfl (by decide) (fun c55 => ?_) (fun c55 => ?_)
          · refine R_aload_n (k := 0) rfl rfl rfl ?_
            refine R_getf_r (j := 38) rfl ft_9_85 sh_96 rfl ?_
            refine R_iload (k := 4) rfl rfl ?_
            refine R_iload_n (k := 2) rfl rfl rfl ?_
            refine R_iconst (-1) rfl rfl ?_
            refine N_icmp_ne (a := x7.toInt) (b := (-1)) 94 rfl rfl rfl (by decide) (fun c56 => ?_) (fun c56 => ?_)
            · refine R_iconst 0 rfl rfl ?_
              refine K_iast (a := x8.toInt) (lo := (-2147483648)) (hi' := 2147483647) rfl sh_120 rfl ⟨by omega, by omega⟩ hI (by decide) rfl (by decide) fr (by decide) (fun h57 g58 hI fr => ?_)
              have fl5 : FR [120] h h57 := by rw [g58]; exact FR_wI _ _ fl5 (by decide)
              have s59 : (h57.1 114 0).toInt = (h4.1 114 0).toInt := by rw [g58, wI_ne _ _ _ (by decide)]
              refine N_iinc (a := x8.toInt) (c := 1) (fun w => [(4, .inl w), (5, .inl (h4.1 114 0)), (3, .inl x6), (2, .inl x7), (0, .inr (.inr (.inl 96))), (1, .inl a0)]) rfl rfl (fun _ => rfl) (by decide) rfl (by decide) (by omega) (fun x60 q61 => ?_)
              refine R_goto 7 rfl rfl ?_
              have b62 := i_rng x7
              exact RUN_weak (psub_cons rfl (psub_cons rfl (psub_cons rfl (psub_cons rfl (psub_cons rfl (psub_nil _)))))) (ih9 h57 x6 x7 x60 hI fr fl5 (by omega) (by omega) (by omega))
            · exfalso; omega
          · refine R_iload_n (k := 3) rfl rfl rfl ?_
            refine R_iload (k := 5) rfl rfl ?_
            have b63 := i_rng x6
            have b64 := i_rng (h4.1 114 0)
            refine R_isub rfl ?_
            refine N_any (fun x65 => ?_)
            refine R_istore_n (k := 3) rfl [(3, .inl x65), (5, .inl (h4.1 114 0)), (4, .inl x8), (2, .inl x7), (0, .inr (.inr (.inl 96))), (1, .inl a0)] rfl rfl (by decide) ?_
            refine R_iload_n (k := 3) rfl rfl rfl ?_
            refine N_if_le (a := x65.toInt) 76 rfl rfl rfl (fun c66 => ?_) (fun c66 => ?_)
            · refine R_iload (k := 4) rfl rfl ?_
              refine R_istore_n (k := 2) rfl [(2, .inl x8), (3, .inl x65), (5, .inl (h4.1 114 0)), (4, .inl x8), (0, .inr (.inr (.inl 96))), (1, .inl a0)] rfl rfl (by decide) ?_
              refine R_aload_n (k := 0) rfl rfl rfl ?_
              refine R_getf_r (j := 38) rfl ft_9_85 sh_96 rfl ?_
              refine R_iload (k := 4) rfl rfl ?_
              refine R_iload_n (k := 2) rfl rfl rfl ?_
              refine R_iconst (-1) rfl rfl ?_
              refine N_icmp_ne (a := x8.toInt) (b := (-1)) 94 rfl rfl rfl (by decide) (fun c67 => ?_) (fun c67 => ?_)
              · refine R_iconst 0 rfl rfl ?_
                refine K_iast (a := x8.toInt) (lo := (-2147483648)) (hi' := 2147483647) rfl sh_120 rfl ⟨by omega, by omega⟩ hI (by decide) rfl (by decide) fr (by decide) (fun h68 g69 hI fr => ?_)
                have fl5 : FR [120] h h68 := by rw [g69]; exact FR_wI _ _ fl5 (by decide)
                have s70 : (h68.1 114 0).toInt = (h4.1 114 0).toInt := by rw [g69, wI_ne _ _ _ (by decide)]
                refine N_iinc (a := x8.toInt) (c := 1) (fun w => [(4, .inl w), (2, .inl x8), (3, .inl x65), (5, .inl (h4.1 114 0)), (0, .inr (.inr (.inl 96))), (1, .inl a0)]) rfl rfl (fun _ => rfl) (by decide) rfl (by decide) (by omega) (fun x71 q72 => ?_)
                refine R_goto 7 rfl rfl ?_
                exact RUN_weak (psub_cons rfl (psub_cons rfl (psub_cons rfl (psub_cons rfl (psub_cons rfl (psub_nil _)))))) (ih9 h68 x65 x8 x71 hI fr fl5 (by omega) (by omega) (by omega))
              · exfalso; omega
            · refine R_iload_n (k := 3) rfl rfl rfl ?_
              refine R_aload_n (k := 0) rfl rfl rfl ?_
              refine R_getf_r (j := 1) rfl ft_9_9 sh_96 rfl ?_
              refine R_bipush 8 rfl rfl ?_
              refine R_iald rfl sh_97 (by decide) ?_
              show RUN d_X9_goFire 71 [(3, .inl x65), (5, .inl (h4.1 114 0)), (4, .inl x8), (2, .inl x7), (0, .inr (.inr (.inl 96))), (1, .inl a0)] [.inl (h4.1 97 8), .inl x65] h4 _
              have b73 := i_rng x65
              have b74 := i_rng (h4.1 97 8)
              refine R_iadd rfl ?_
              refine N_any (fun x75 => ?_)
              refine R_istore_n (k := 3) rfl [(3, .inl x75), (5, .inl (h4.1 114 0)), (4, .inl x8), (2, .inl x7), (0, .inr (.inr (.inl 96))), (1, .inl a0)] rfl rfl (by decide) ?_
              refine R_goto 79 rfl rfl ?_
              refine R_aload_n (k := 0) rfl rfl rfl ?_
              refine R_getf_r (j := 38) rfl ft_9_85 sh_96 rfl ?_
              refine R_iload (k := 4) rfl rfl ?_
              refine R_iload_n (k := 2) rfl rfl rfl ?_
              refine R_iconst (-1) rfl rfl ?_
              refine N_icmp_ne (a := x7.toInt) (b := (-1)) 94 rfl rfl rfl (by decide) (fun c76 => ?_) (fun c76 => ?_)
              · exfalso; omega
              · refine R_iload_n (k := 3) rfl rfl rfl ?_
                refine R_goto 95 rfl rfl ?_
                refine K_iast (a := x8.toInt) (lo := (-2147483648)) (hi' := 2147483647) rfl sh_120 rfl ⟨by omega, by omega⟩ hI (by decide) rfl (i_rng _) fr (by decide) (fun h77 g78 hI fr => ?_)
                have fl5 : FR [120] h h77 := by rw [g78]; exact FR_wI _ _ fl5 (by decide)
                have s79 : (h77.1 114 0).toInt = (h4.1 114 0).toInt := by rw [g78, wI_ne _ _ _ (by decide)]
                have s80 : (h77.1 97 8).toInt = (h4.1 97 8).toInt := by rw [g78, wI_ne _ _ _ (by decide)]
                refine N_iinc (a := x8.toInt) (c := 1) (fun w => [(4, .inl w), (3, .inl x75), (5, .inl (h4.1 114 0)), (2, .inl x7), (0, .inr (.inr (.inl 96))), (1, .inl a0)]) rfl rfl (fun _ => rfl) (by decide) rfl (by decide) (by omega) (fun x81 q82 => ?_)
                refine R_goto 7 rfl rfl ?_
                exact RUN_weak (psub_cons rfl (psub_cons rfl (psub_cons rfl (psub_cons rfl (psub_cons rfl (psub_nil _)))))) (ih9 h77 x75 x7 x81 hI fr fl5 (by omega) (by omega) (by omega))
  exact lp3 _ h a0 ((-1) : Int32) (0 : Int32) hI fr (FR.rf _ _) (by decide) (by decide) (Nat.lt_succ_self _)
abbrev q_X1_stands (h : PH)  : Option PV → PH → Prop := fun r h' => h = h' ∧ ∃ z : Int32, r = some (.inl z) ∧ ((z.toInt = 0 ∧ (h.1 17 10).toInt ≤ 0) ∨ (z.toInt = 1 ∧ 1 ≤ (h.1 17 0).toInt ∧ (h.1 17 0).toInt ≤ 60 ∧ 1 ≤ (h.1 17 10).toInt))
set_option maxHeartbeats 4000000 in
set_option maxRecDepth 100000 in
theorem k_X1_stands (h : PH) (hI : INV h)  : CALL d_X1_stands [.inr (.inr (.inl 16))] h (q_X1_stands h) := by
  show RUN d_X1_stands 0 [(0, .inr (.inr (.inl 16)))] [] h _
  refine R_aload_n (k := 0) rfl rfl rfl ?_
  refine R_getf_r (j := 0) rfl ft_1_9 sh_16 rfl ?_
  refine R_bipush 10 rfl rfl ?_
  refine R_iald rfl sh_17 (by decide) ?_
  have b1 : (0 : Int) ≤ (h.1 17 0).toInt ∧ (h.1 17 0).toInt ≤ 60 := hI.1 17 0
  have e2 : 0 < (h.1 17 10).toInt → 1 ≤ (h.1 17 0).toInt := hI.2.1
  show RUN d_X1_stands 7 [(0, .inr (.inr (.inl 16)))] [.inl (h.1 17 10)] h _
  refine N_if_le (a := (h.1 17 10).toInt) 14 rfl rfl rfl (fun c3 => ?_) (fun c3 => ?_)
  · refine R_iconst 0 rfl rfl ?_
    exact R_iret rfl rfl rfl ⟨rfl, _, rfl, by rw [show (0 : Int32).toInt = 0 from rfl]; omega⟩
  · refine R_iconst 1 rfl rfl ?_
    refine R_goto 15 rfl rfl ?_
    exact R_iret rfl rfl rfl ⟨rfl, _, rfl, by rw [show (1 : Int32).toInt = 1 from rfl]; omega⟩
abbrev q_X8_outBy (h : PH) (a0 : Int64) (a1 : Int32) : Option PV → PH → Prop := fun r h' => h = h' ∧ ∃ z : Int32, r = some (.inl z) ∧ (((-1) ≤ z.toInt ∧ z.toInt ≤ 59))
set_option maxHeartbeats 4000000 in
set_option maxRecDepth 100000 in
theorem k_X8_outBy (h : PH) (hI : INV h) (a0 : Int64) (a1 : Int32) : CALL d_X8_outBy [.inr (.inr (.inl 0)), .inr (.inl a0), .inl a1] h (q_X8_outBy h a0 a1) := by
  show RUN d_X8_outBy 0 [(0, .inr (.inr (.inl 0))), (1, .inr (.inl a0)), (3, .inl a1)] [] h _
  have b1 := i_rng a1
  refine R_aload_n (k := 0) rfl rfl rfl ?_
  refine R_getf_r (j := 3) rfl ft_8_28 sh_0 rfl ?_
  refine R_getf_r (j := 0) rfl ft_8_109 sh_16 rfl ?_
  refine R_bipush 7 rfl rfl ?_
  refine R_iald rfl sh_17 (by decide) ?_
  show RUN d_X8_outBy 10 [(0, .inr (.inr (.inl 0))), (1, .inr (.inl a0)), (3, .inl a1)] [.inl (h.1 17 7)] h _
  refine R_istore (k := 4) [(4, .inl (h.1 17 7)), (0, .inr (.inr (.inl 0))), (1, .inr (.inl a0)), (3, .inl a1)] rfl rfl (by decide) ?_
  refine R_iconst 0 rfl rfl ?_
  refine R_istore (k := 5) [(5, .inl 0), (4, .inl (h.1 17 7)), (0, .inr (.inr (.inl 0))), (1, .inr (.inl a0)), (3, .inl a1)] rfl rfl (by decide) ?_
  have lp3 : ∀ (n2 : Nat) (x4 : Int32) (x5 : Int32), 0 ≤ x5.toInt ∧ x5.toInt ≤ 2147483647 → (2147483647 - x5.toInt).toNat < n2 → RUN d_X8_outBy 15 [(5, .inl x5), (4, .inl x4), (0, .inr (.inr (.inl 0))), (1, .inr (.inl a0)), (3, .inl a1)] [] h (q_X8_outBy h a0 a1) := by
    intro n2
    induction n2 with
    | zero => intro x4 x5 m7 hz; exact absurd hz (Nat.not_lt_zero _)
    | succ n2 ih6 =>
      intro x4 x5 m7 hz
      refine R_iload (k := 5) rfl rfl ?_
      refine R_aload_n (k := 0) rfl rfl rfl ?_
      refine R_getf_r (j := 3) rfl ft_8_28 sh_0 rfl ?_
      refine R_getf_r (j := 0) rfl ft_8_109 sh_16 rfl ?_
      refine R_iconst 0 rfl rfl ?_
      refine R_iald rfl sh_17 (by decide) ?_
      have b8 : (0 : Int) ≤ (h.1 17 0).toInt ∧ (h.1 17 0).toInt ≤ 60 := hI.1 17 0
      show RUN d_X8_outBy 26 [(5, .inl x5), (4, .inl x4), (0, .inr (.inr (.inl 0))), (1, .inr (.inl a0)), (3, .inl a1)] [.inl (h.1 17 0), .inl x5] h _
      refine N_icmp_ge (a := x5.toInt) (b := (h.1 17 0).toInt) 74 rfl rfl rfl rfl (fun c9 => ?_) (fun c9 => ?_)
      · refine R_iconst (-1) rfl rfl ?_
        exact R_iret rfl rfl rfl ⟨rfl, _, rfl, by rw [show ((-1) : Int32).toInt = (-1) from rfl]; omega⟩
      · refine R_iload (k := 4) rfl rfl ?_
        refine R_lload_n (k := 1) rfl rfl rfl ?_
        refine R_iload (k := 5) rfl rfl ?_
        refine R_callS (As := [.inr (.inl a0), .inl x5]) (rest := [.inl x4]) rfl mt_8_i160 (by decide) pp_X8_hasBit (by decide) rfl rfl (Nat.le_of_ble_eq_true rfl) (Nat.le_of_ble_eq_true rfl) ((k_X8_hasBit h hI a0 x5).mono (fun r10 h11 p12 => ?_))
        obtain ⟨rfl, x13, rfl, q14 | q14⟩ := p12
        · show RUN d_X8_outBy 37 [(5, .inl x5), (4, .inl x4), (0, .inr (.inr (.inl 0))), (1, .inr (.inl a0)), (3, .inl a1)] [.inl x13, .inl x4] h _
          refine N_if_eq (a := x13.toInt) 44 rfl rfl rfl (fun c15 => ?_) (fun c15 => ?_)
          · refine R_iconst 0 rfl rfl ?_
            refine R_aload_n (k := 0) rfl rfl rfl ?_
            refine R_getf_r (j := 3) rfl ft_8_28 sh_0 rfl ?_
            refine R_getf_r (j := 0) rfl ft_8_109 sh_16 rfl ?_
            refine R_bipush 8 rfl rfl ?_
            refine R_iald rfl sh_17 (by decide) ?_
            show RUN d_X8_outBy 55 [(5, .inl x5), (4, .inl x4), (0, .inr (.inr (.inl 0))), (1, .inr (.inl a0)), (3, .inl a1)] [.inl (h.1 17 8), .inl 0, .inl x4] h _
            have k16 : (0 : Int32).toInt = 0 := by decide
            refine R_callS (As := [.inl x4, .inl 0, .inl (h.1 17 8)]) (rest := []) rfl mt_8_i422 (by decide) pp_X8_burnsOn (by decide) rfl rfl (Nat.le_of_ble_eq_true rfl) (Nat.le_of_ble_eq_true rfl) ((k_X8_burnsOn h hI x4 (0 : Int32) (h.1 17 8)).mono (fun r17 h18 p19 => ?_))
            obtain ⟨rfl, x20, rfl, q21⟩ := p19
            show RUN d_X8_outBy 58 [(5, .inl x5), (4, .inl x4), (0, .inr (.inr (.inl 0))), (1, .inr (.inl a0)), (3, .inl a1)] [.inl x20] h _
            refine R_istore (k := 4) [(4, .inl x20), (5, .inl x5), (0, .inr (.inr (.inl 0))), (1, .inr (.inl a0)), (3, .inl a1)] rfl rfl (by decide) ?_
            refine R_iload (k := 4) rfl rfl ?_
            refine N_if_ne (a := x20.toInt) 68 rfl rfl rfl (fun c22 => ?_) (fun c22 => ?_)
            · refine N_iinc (a := x5.toInt) (c := 1) (fun w => [(5, .inl w), (4, .inl x20), (0, .inr (.inr (.inl 0))), (1, .inr (.inl a0)), (3, .inl a1)]) rfl rfl (fun _ => rfl) (by decide) rfl (by decide) (by omega) (fun x23 q24 => ?_)
              refine R_goto 15 rfl rfl ?_
              exact RUN_weak (psub_cons rfl (psub_cons rfl (psub_cons rfl (psub_cons rfl (psub_cons rfl (psub_nil _)))))) (ih6 x20 x23 (by omega) (by omega))
            · refine R_iload (k := 5) rfl rfl ?_
              exact R_iret rfl rfl rfl ⟨rfl, _, rfl, by omega⟩
          · exfalso; omega
        · show RUN d_X8_outBy 37 [(5, .inl x5), (4, .inl x4), (0, .inr (.inr (.inl 0))), (1, .inr (.inl a0)), (3, .inl a1)] [.inl x13, .inl x4] h _
          refine N_if_eq (a := x13.toInt) 44 rfl rfl rfl (fun c25 => ?_) (fun c25 => ?_)
          · exfalso; omega
          · refine R_iload_n (k := 3) rfl rfl rfl ?_
            refine R_goto 45 rfl rfl ?_
            refine R_aload_n (k := 0) rfl rfl rfl ?_
            refine R_getf_r (j := 3) rfl ft_8_28 sh_0 rfl ?_
            refine R_getf_r (j := 0) rfl ft_8_109 sh_16 rfl ?_
            refine R_bipush 8 rfl rfl ?_
            refine R_iald rfl sh_17 (by decide) ?_
            show RUN d_X8_outBy 55 [(5, .inl x5), (4, .inl x4), (0, .inr (.inr (.inl 0))), (1, .inr (.inl a0)), (3, .inl a1)] [.inl (h.1 17 8), .inl a1, .inl x4] h _
            refine R_callS (As := [.inl x4, .inl a1, .inl (h.1 17 8)]) (rest := []) rfl mt_8_i422 (by decide) pp_X8_burnsOn (by decide) rfl rfl (Nat.le_of_ble_eq_true rfl) (Nat.le_of_ble_eq_true rfl) ((k_X8_burnsOn h hI x4 a1 (h.1 17 8)).mono (fun r26 h27 p28 => ?_))
            obtain ⟨rfl, x29, rfl, q30⟩ := p28
            show RUN d_X8_outBy 58 [(5, .inl x5), (4, .inl x4), (0, .inr (.inr (.inl 0))), (1, .inr (.inl a0)), (3, .inl a1)] [.inl x29] h _
            refine R_istore (k := 4) [(4, .inl x29), (5, .inl x5), (0, .inr (.inr (.inl 0))), (1, .inr (.inl a0)), (3, .inl a1)] rfl rfl (by decide) ?_
            refine R_iload (k := 4) rfl rfl ?_
            refine N_if_ne (a := x29.toInt) 68 rfl rfl rfl (fun c31 => ?_) (fun c31 => ?_)
            · refine N_iinc (a := x5.toInt) (c := 1) (fun w => [(5, .inl w), (4, .inl x29), (0, .inr (.inr (.inl 0))), (1, .inr (.inl a0)), (3, .inl a1)]) rfl rfl (fun _ => rfl) (by decide) rfl (by decide) (by omega) (fun x32 q33 => ?_)
              refine R_goto 15 rfl rfl ?_
              exact RUN_weak (psub_cons rfl (psub_cons rfl (psub_cons rfl (psub_cons rfl (psub_cons rfl (psub_nil _)))))) (ih6 x29 x32 (by omega) (by omega))
            · refine R_iload (k := 5) rfl rfl ?_
              exact R_iret rfl rfl rfl ⟨rfl, _, rfl, by omega⟩
  exact lp3 _ (h.1 17 7) (0 : Int32) (by decide) (Nat.lt_succ_self _)
abbrev q_X8_out (h : PH)  : Option PV → PH → Prop := fun r h' => INV h' ∧ FR [0, 70, 71, 72, 73, 74, 75, 76, 77, 78, 79, 80, 81, 82, 83, 84, 85, 86] h h' ∧ ∃ z : Int32, r = some (.inl z) ∧ (((-2) ≤ z.toInt ∧ z.toInt ≤ 59))
set_option maxHeartbeats 4000000 in
set_option maxRecDepth 100000 in
theorem k_X8_out (h : PH) (hI : INV h)  : CALL d_X8_out [.inr (.inr (.inl 0))] h (q_X8_out h) := by
  show RUN d_X8_out 0 [(0, .inr (.inr (.inl 0)))] [] h _
  have fr : FR [0, 70, 71, 72, 73, 74, 75, 76, 77, 78, 79, 80, 81, 82, 83, 84, 85, 86] h h := FR.rf _ _
  refine R_aload_n (k := 0) rfl rfl rfl ?_
  refine R_getf_r (j := 3) rfl ft_8_28 sh_0 rfl ?_
  refine R_callV (v := .inr (.inr (.inl 16))) (As := []) (rest := []) rfl mt_8_i146 pp_X1_stands (by decide) rfl rfl rfl (Nat.le_of_ble_eq_true rfl) (Nat.le_of_ble_eq_true rfl) ((k_X1_stands h hI).mono (fun r1 h2 p3 => ?_))
  obtain ⟨rfl, x4, rfl, q5 | q5⟩ := p3
  · have b6 : (0 : Int) ≤ (h.1 17 0).toInt ∧ (h.1 17 0).toInt ≤ 60 := hI.1 17 0
    have e7 : 0 < (h.1 17 10).toInt → 1 ≤ (h.1 17 0).toInt := hI.2.1
    show RUN d_X8_out 7 [(0, .inr (.inr (.inl 0)))] [.inl x4] h _
    refine N_if_eq (a := x4.toInt) 31 rfl rfl rfl (fun c8 => ?_) (fun c8 => ?_)
    · refine R_bipush (-2) rfl rfl ?_
      exact R_iret rfl rfl rfl ⟨hI, fr, _, rfl, by rw [show ((-2) : Int32).toInt = (-2) from rfl]; omega⟩
    · exfalso; omega
  · have b9 : (0 : Int) ≤ (h.1 17 0).toInt ∧ (h.1 17 0).toInt ≤ 60 := hI.1 17 0
    have e10 : 0 < (h.1 17 10).toInt → 1 ≤ (h.1 17 0).toInt := hI.2.1
    show RUN d_X8_out 7 [(0, .inr (.inr (.inl 0)))] [.inl x4] h _
    refine N_if_eq (a := x4.toInt) 31 rfl rfl rfl (fun c11 => ?_) (fun c11 => ?_)
    · exfalso; omega
    · refine R_aload_n (k := 0) rfl rfl rfl ?_
      refine R_aload_n (k := 0) rfl rfl rfl ?_
      refine R_callV (v := .inr (.inr (.inl 0))) (As := []) (rest := [.inr (.inr (.inl 0))]) rfl mt_8_i153 pp_X8_told (by decide) rfl rfl rfl (Nat.le_of_ble_eq_true rfl) (Nat.le_of_ble_eq_true rfl) ((k_X8_told h hI).mono (fun r12 h13 p14 => ?_))
      obtain ⟨hJ, fj, rfl⟩ := p14
      have f15 := fj
      have fr := fr.trans fj (by decide)
      have hI := hJ
      have s16 : (h13.1 17 0).toInt = (h.1 17 0).toInt := by rw [(f15 17 (by decide)).1]
      have s17 : (h13.1 17 10).toInt = (h.1 17 10).toInt := by rw [(f15 17 (by decide)).1]
      show RUN d_X8_out 15 [(0, .inr (.inr (.inl 0)))] [.inr (.inr (.inl 75)), .inr (.inr (.inl 0))] h13 _
      refine R_getf_l (j := 11) rfl ft_8_212 sh_75 rfl ?_
      refine N_anyL (fun w18 => ?_)
      refine R_aload_n (k := 0) rfl rfl rfl ?_
      refine R_getf_r (j := 8) rfl ft_8_56 sh_0 rfl ?_
      refine R_getf_i (j := 12) rfl ft_8_216 sh_75 rfl ?_
      refine R_callV (v := .inr (.inr (.inl 0))) (As := [.inr (.inl w18), .inl (h13.1 75 12)]) (rest := []) rfl mt_8_i219 pp_X8_outBy (by decide) rfl rfl rfl (Nat.le_of_ble_eq_true rfl) (Nat.le_of_ble_eq_true rfl) ((k_X8_outBy h13 hI w18 (h13.1 75 12)).mono (fun r19 h20 p21 => ?_))
      obtain ⟨rfl, x22, rfl, q23⟩ := p21
      show RUN d_X8_out 28 [(0, .inr (.inr (.inl 0)))] [.inl x22] h13 _
      refine R_goto 33 rfl rfl ?_
      exact R_iret rfl rfl rfl ⟨hI, fr, _, rfl, by omega⟩
abbrev q_X8_worst (h : PH)  : Option PV → PH → Prop := fun r h' => INV h' ∧ FR [0, 70, 71, 72, 73, 74, 75, 76, 77, 78, 79, 80, 81, 82, 83, 84, 85, 86] h h' ∧ ∃ z : Int32, r = some (.inl z) ∧ (((-2) ≤ z.toInt ∧ z.toInt ≤ 2147483647))
set_option maxHeartbeats 4000000 in
set_option maxRecDepth 100000 in
theorem k_X8_worst (h : PH) (hI : INV h)  : CALL d_X8_worst [.inr (.inr (.inl 0))] h (q_X8_worst h) := by
  show RUN d_X8_worst 0 [(0, .inr (.inr (.inl 0)))] [] h _
  have fr : FR [0, 70, 71, 72, 73, 74, 75, 76, 77, 78, 79, 80, 81, 82, 83, 84, 85, 86] h h := FR.rf _ _
  refine R_aload_n (k := 0) rfl rfl rfl ?_
  refine R_getf_r (j := 3) rfl ft_8_28 sh_0 rfl ?_
  refine R_callV (v := .inr (.inr (.inl 16))) (As := []) (rest := []) rfl mt_8_i146 pp_X1_stands (by decide) rfl rfl rfl (Nat.le_of_ble_eq_true rfl) (Nat.le_of_ble_eq_true rfl) ((k_X1_stands h hI).mono (fun r1 h2 p3 => ?_))
  obtain ⟨rfl, x4, rfl, q5 | q5⟩ := p3
  · have b6 : (0 : Int) ≤ (h.1 17 0).toInt ∧ (h.1 17 0).toInt ≤ 60 := hI.1 17 0
    have e7 : 0 < (h.1 17 10).toInt → 1 ≤ (h.1 17 0).toInt := hI.2.1
    show RUN d_X8_worst 7 [(0, .inr (.inr (.inl 0)))] [.inl x4] h _
    refine N_if_ne (a := x4.toInt) 13 rfl rfl rfl (fun c8 => ?_) (fun c8 => ?_)
    · exfalso; omega
    · refine R_bipush (-2) rfl rfl ?_
      exact R_iret rfl rfl rfl ⟨hI, fr, _, rfl, by rw [show ((-2) : Int32).toInt = (-2) from rfl]; omega⟩
  · have b9 : (0 : Int) ≤ (h.1 17 0).toInt ∧ (h.1 17 0).toInt ≤ 60 := hI.1 17 0
    have e10 : 0 < (h.1 17 10).toInt → 1 ≤ (h.1 17 0).toInt := hI.2.1
    show RUN d_X8_worst 7 [(0, .inr (.inr (.inl 0)))] [.inl x4] h _
    refine N_if_ne (a := x4.toInt) 13 rfl rfl rfl (fun c11 => ?_) (fun c11 => ?_)
    · refine R_aload_n (k := 0) rfl rfl rfl ?_
      refine R_callV (v := .inr (.inr (.inl 0))) (As := []) (rest := []) rfl mt_8_i153 pp_X8_told (by decide) rfl rfl rfl (Nat.le_of_ble_eq_true rfl) (Nat.le_of_ble_eq_true rfl) ((k_X8_told h hI).mono (fun r12 h13 p14 => ?_))
      obtain ⟨hJ, fj, rfl⟩ := p14
      have f15 := fj
      have fr := fr.trans fj (by decide)
      have hI := hJ
      have s16 : (h13.1 17 0).toInt = (h.1 17 0).toInt := by rw [(f15 17 (by decide)).1]
      have s17 : (h13.1 17 10).toInt = (h.1 17 10).toInt := by rw [(f15 17 (by decide)).1]
      show RUN d_X8_worst 17 [(0, .inr (.inr (.inl 0)))] [.inr (.inr (.inl 75))] h13 _
      refine R_getf_r (j := 9) rfl ft_8_193 sh_75 rfl ?_
      refine R_astore_n (k := 1) rfl [(1, .inr (.inr (.inl 85))), (0, .inr (.inr (.inl 0)))] rfl rfl (by decide) ?_
      refine R_iconst 0 rfl rfl ?_
      refine R_istore_n (k := 2) rfl [(2, .inl 0), (1, .inr (.inr (.inl 85))), (0, .inr (.inr (.inl 0)))] rfl rfl (by decide) ?_
      refine R_iconst 0 rfl rfl ?_
      refine R_istore_n (k := 3) rfl [(3, .inl 0), (2, .inl 0), (1, .inr (.inr (.inl 85))), (0, .inr (.inr (.inl 0)))] rfl rfl (by decide) ?_
      have lp19 : ∀ (n18 : Nat) (x20 : Int32) (x21 : Int32), 0 ≤ x20.toInt ∧ x20.toInt ≤ 2147483647 → 0 ≤ x21.toInt ∧ x21.toInt ≤ 2147483647 → (2147483647 - x21.toInt).toNat < n18 → RUN d_X8_worst 25 [(3, .inl x21), (2, .inl x20), (1, .inr (.inr (.inl 85))), (0, .inr (.inr (.inl 0)))] [] h13 (q_X8_worst h) := by
        intro n18
        induction n18 with
        | zero => intro x20 x21 m23 m24 hz; exact absurd hz (Nat.not_lt_zero _)
        | succ n18 ih22 =>
          intro x20 x21 m23 m24 hz
          refine R_iload_n (k := 3) rfl rfl rfl ?_
          refine R_aload_n (k := 0) rfl rfl rfl ?_
          refine R_getf_r (j := 3) rfl ft_8_28 sh_0 rfl ?_
          refine R_getf_r (j := 0) rfl ft_8_109 sh_16 rfl ?_
          refine R_iconst 0 rfl rfl ?_
          refine R_iald rfl sh_17 (by decide) ?_
          show RUN d_X8_worst 35 [(3, .inl x21), (2, .inl x20), (1, .inr (.inr (.inl 85))), (0, .inr (.inr (.inl 0)))] [.inl (h13.1 17 0), .inl x21] h13 _
          refine N_icmp_ge (a := x21.toInt) (b := (h13.1 17 0).toInt) 52 rfl rfl rfl rfl (fun c25 => ?_) (fun c25 => ?_)
          · refine R_iload_n (k := 2) rfl rfl rfl ?_
            have b26 := i_rng x20
            exact R_iret rfl rfl rfl ⟨hI, fr, _, rfl, by omega⟩
          · refine R_iload_n (k := 2) rfl rfl rfl ?_
            refine R_aload_n (k := 1) rfl rfl rfl ?_
            refine R_iload_n (k := 3) rfl rfl rfl ?_
            refine R_iald rfl sh_85 ⟨by omega, by omega⟩ ?_
            refine N_any (fun x27 => ?_)
            refine N_max (a := x20.toInt) (b := x27.toInt) rfl mt_8_i223 rfl rfl ⟨by decide, by decide, Nat.le_of_ble_eq_true rfl⟩ (fun x28 q29 => ?_)
            refine R_istore_n (k := 2) rfl [(2, .inl x28), (3, .inl x21), (1, .inr (.inr (.inl 85))), (0, .inr (.inr (.inl 0)))] rfl rfl (by decide) ?_
            refine N_iinc (a := x21.toInt) (c := 1) (fun w => [(3, .inl w), (2, .inl x28), (1, .inr (.inr (.inl 85))), (0, .inr (.inr (.inl 0)))]) rfl rfl (fun _ => rfl) (by decide) rfl (by decide) (by omega) (fun x30 q31 => ?_)
            refine R_goto 25 rfl rfl ?_
            have b32 := i_rng x28
            exact RUN_weak (psub_cons rfl (psub_cons rfl (psub_cons rfl (psub_cons rfl (psub_nil _))))) (ih22 x28 x30 (by omega) (by omega) (by omega))
      exact lp19 _ (0 : Int32) (0 : Int32) (by decide) (by decide) (Nat.lt_succ_self _)
    · exfalso; omega
abbrev q_X8_when (h : PH) (a0 : Int32) : Option PV → PH → Prop := fun r h' => INV h' ∧ FR [0, 70, 71, 72, 73, 74, 75, 76, 77, 78, 79, 80, 81, 82, 83, 84, 85, 86] h h' ∧ ∃ z : Int32, r = some (.inl z) ∧ (((-2) ≤ z.toInt ∧ z.toInt ≤ 59))
set_option maxHeartbeats 4000000 in
set_option maxRecDepth 100000 in
theorem k_X8_when (h : PH) (hI : INV h) (a0 : Int32) : CALL d_X8_when [.inr (.inr (.inl 0)), .inl a0] h (q_X8_when h a0) := by
  show RUN d_X8_when 0 [(0, .inr (.inr (.inl 0))), (1, .inl a0)] [] h _
  have b1 := i_rng a0
  have fr : FR [0, 70, 71, 72, 73, 74, 75, 76, 77, 78, 79, 80, 81, 82, 83, 84, 85, 86] h h := FR.rf _ _
  refine R_iload_n (k := 1) rfl rfl rfl ?_
  refine N_if_lt (a := a0.toInt) 14 rfl rfl rfl (fun c2 => ?_) (fun c2 => ?_)
  · refine R_bipush (-2) rfl rfl ?_
    exact R_iret rfl rfl rfl ⟨hI, fr, _, rfl, by rw [show ((-2) : Int32).toInt = (-2) from rfl]; omega⟩
  · refine R_aload_n (k := 0) rfl rfl rfl ?_
    refine R_getf_r (j := 3) rfl ft_8_28 sh_0 rfl ?_
    refine R_callV (v := .inr (.inr (.inl 16))) (As := []) (rest := []) rfl mt_8_i146 pp_X1_stands (by decide) rfl rfl rfl (Nat.le_of_ble_eq_true rfl) (Nat.le_of_ble_eq_true rfl) ((k_X1_stands h hI).mono (fun r3 h4 p5 => ?_))
    obtain ⟨rfl, x6, rfl, q7 | q7⟩ := p5
    · have b8 : (0 : Int) ≤ (h.1 17 0).toInt ∧ (h.1 17 0).toInt ≤ 60 := hI.1 17 0
      have e9 : 0 < (h.1 17 10).toInt → 1 ≤ (h.1 17 0).toInt := hI.2.1
      show RUN d_X8_when 11 [(0, .inr (.inr (.inl 0))), (1, .inl a0)] [.inl x6] h _
      refine N_if_ne (a := x6.toInt) 17 rfl rfl rfl (fun c10 => ?_) (fun c10 => ?_)
      · exfalso; omega
      · refine R_bipush (-2) rfl rfl ?_
        exact R_iret rfl rfl rfl ⟨hI, fr, _, rfl, by rw [show ((-2) : Int32).toInt = (-2) from rfl]; omega⟩
    · have b11 : (0 : Int) ≤ (h.1 17 0).toInt ∧ (h.1 17 0).toInt ≤ 60 := hI.1 17 0
      have e12 : 0 < (h.1 17 10).toInt → 1 ≤ (h.1 17 0).toInt := hI.2.1
      show RUN d_X8_when 11 [(0, .inr (.inr (.inl 0))), (1, .inl a0)] [.inl x6] h _
      refine N_if_ne (a := x6.toInt) 17 rfl rfl rfl (fun c13 => ?_) (fun c13 => ?_)
      · refine R_aload_n (k := 0) rfl rfl rfl ?_
        refine R_callV (v := .inr (.inr (.inl 0))) (As := []) (rest := []) rfl mt_8_i153 pp_X8_told (by decide) rfl rfl rfl (Nat.le_of_ble_eq_true rfl) (Nat.le_of_ble_eq_true rfl) ((k_X8_told h hI).mono (fun r14 h15 p16 => ?_))
        obtain ⟨hJ, fj, rfl⟩ := p16
        have f17 := fj
        have fr := fr.trans fj (by decide)
        have hI := hJ
        have s18 : (h15.1 17 0).toInt = (h.1 17 0).toInt := by rw [(f17 17 (by decide)).1]
        have s19 : (h15.1 17 10).toInt = (h.1 17 10).toInt := by rw [(f17 17 (by decide)).1]
        show RUN d_X8_when 21 [(0, .inr (.inr (.inl 0))), (1, .inl a0)] [.inr (.inr (.inl 75))] h15 _
        refine R_getf_r (j := 7) rfl ft_8_187 sh_75 rfl ?_
        refine R_astore_n (k := 2) rfl [(2, .inr (.inr (.inl 83))), (0, .inr (.inr (.inl 0))), (1, .inl a0)] rfl rfl (by decide) ?_
        refine R_iconst 0 rfl rfl ?_
        refine R_istore_n (k := 3) rfl [(3, .inl 0), (2, .inr (.inr (.inl 83))), (0, .inr (.inr (.inl 0))), (1, .inl a0)] rfl rfl (by decide) ?_
        have lp21 : ∀ (n20 : Nat) (x22 : Int32), 0 ≤ x22.toInt ∧ x22.toInt ≤ 2147483647 → (2147483647 - x22.toInt).toNat < n20 → RUN d_X8_when 27 [(3, .inl x22), (2, .inr (.inr (.inl 83))), (0, .inr (.inr (.inl 0))), (1, .inl a0)] [] h15 (q_X8_when h a0) := by
          intro n20
          induction n20 with
          | zero => intro x22 m24 hz; exact absurd hz (Nat.not_lt_zero _)
          | succ n20 ih23 =>
            intro x22 m24 hz
            refine R_iload_n (k := 3) rfl rfl rfl ?_
            refine R_aload_n (k := 0) rfl rfl rfl ?_
            refine R_getf_r (j := 3) rfl ft_8_28 sh_0 rfl ?_
            refine R_getf_r (j := 0) rfl ft_8_109 sh_16 rfl ?_
            refine R_iconst 0 rfl rfl ?_
            refine R_iald rfl sh_17 (by decide) ?_
            show RUN d_X8_when 37 [(3, .inl x22), (2, .inr (.inr (.inl 83))), (0, .inr (.inr (.inl 0))), (1, .inl a0)] [.inl (h15.1 17 0), .inl x22] h15 _
            refine N_icmp_ge (a := x22.toInt) (b := (h15.1 17 0).toInt) 55 rfl rfl rfl rfl (fun c25 => ?_) (fun c25 => ?_)
            · refine R_iconst (-1) rfl rfl ?_
              exact R_iret rfl rfl rfl ⟨hI, fr, _, rfl, by rw [show ((-1) : Int32).toInt = (-1) from rfl]; omega⟩
            · refine R_aload_n (k := 2) rfl rfl rfl ?_
              refine R_iload_n (k := 3) rfl rfl rfl ?_
              refine R_iald rfl sh_83 ⟨by omega, by omega⟩ ?_
              refine N_any (fun x26 => ?_)
              refine R_iload_n (k := 1) rfl rfl rfl ?_
              refine N_icmp_le (a := x26.toInt) (b := a0.toInt) 49 rfl rfl rfl rfl (fun c27 => ?_) (fun c27 => ?_)
              · refine N_iinc (a := x22.toInt) (c := 1) (fun w => [(3, .inl w), (2, .inr (.inr (.inl 83))), (0, .inr (.inr (.inl 0))), (1, .inl a0)]) rfl rfl (fun _ => rfl) (by decide) rfl (by decide) (by omega) (fun x28 q29 => ?_)
                refine R_goto 27 rfl rfl ?_
                exact RUN_weak (psub_cons rfl (psub_cons rfl (psub_cons rfl (psub_cons rfl (psub_nil _))))) (ih23 x28 (by omega) (by omega))
              · refine R_iload_n (k := 3) rfl rfl rfl ?_
                exact R_iret rfl rfl rfl ⟨hI, fr, _, rfl, by omega⟩
        exact lp21 _ (0 : Int32) (by decide) (Nat.lt_succ_self _)
      · exfalso; omega
abbrev q_X8_gap (h : PH)  : Option PV → PH → Prop := fun r h' => INV h' ∧ FR [0, 70, 71, 72, 73, 74, 75, 76, 77, 78, 79, 80, 81, 82, 83, 84, 85, 86] h h' ∧ ∃ z : Int32, r = some (.inl z) ∧ (((-2) ≤ z.toInt ∧ z.toInt ≤ 2147483647))
set_option maxHeartbeats 4000000 in
set_option maxRecDepth 100000 in
theorem k_X8_gap (h : PH) (hI : INV h)  : CALL d_X8_gap [.inr (.inr (.inl 0))] h (q_X8_gap h) := by
  show RUN d_X8_gap 0 [(0, .inr (.inr (.inl 0)))] [] h _
  have fr : FR [0, 70, 71, 72, 73, 74, 75, 76, 77, 78, 79, 80, 81, 82, 83, 84, 85, 86] h h := FR.rf _ _
  refine R_aload_n (k := 0) rfl rfl rfl ?_
  refine R_getf_r (j := 3) rfl ft_8_28 sh_0 rfl ?_
  refine R_callV (v := .inr (.inr (.inl 16))) (As := []) (rest := []) rfl mt_8_i146 pp_X1_stands (by decide) rfl rfl rfl (Nat.le_of_ble_eq_true rfl) (Nat.le_of_ble_eq_true rfl) ((k_X1_stands h hI).mono (fun r1 h2 p3 => ?_))
  obtain ⟨rfl, x4, rfl, q5 | q5⟩ := p3
  · have b6 : (0 : Int) ≤ (h.1 17 0).toInt ∧ (h.1 17 0).toInt ≤ 60 := hI.1 17 0
    have e7 : 0 < (h.1 17 10).toInt → 1 ≤ (h.1 17 0).toInt := hI.2.1
    show RUN d_X8_gap 7 [(0, .inr (.inr (.inl 0)))] [.inl x4] h _
    refine N_if_ne (a := x4.toInt) 13 rfl rfl rfl (fun c8 => ?_) (fun c8 => ?_)
    · exfalso; omega
    · refine R_bipush (-2) rfl rfl ?_
      exact R_iret rfl rfl rfl ⟨hI, fr, _, rfl, by rw [show ((-2) : Int32).toInt = (-2) from rfl]; omega⟩
  · have b9 : (0 : Int) ≤ (h.1 17 0).toInt ∧ (h.1 17 0).toInt ≤ 60 := hI.1 17 0
    have e10 : 0 < (h.1 17 10).toInt → 1 ≤ (h.1 17 0).toInt := hI.2.1
    show RUN d_X8_gap 7 [(0, .inr (.inr (.inl 0)))] [.inl x4] h _
    refine N_if_ne (a := x4.toInt) 13 rfl rfl rfl (fun c11 => ?_) (fun c11 => ?_)
    · refine R_aload_n (k := 0) rfl rfl rfl ?_
      refine R_callV (v := .inr (.inr (.inl 0))) (As := []) (rest := []) rfl mt_8_i153 pp_X8_told (by decide) rfl rfl rfl (Nat.le_of_ble_eq_true rfl) (Nat.le_of_ble_eq_true rfl) ((k_X8_told h hI).mono (fun r12 h13 p14 => ?_))
      obtain ⟨hJ, fj, rfl⟩ := p14
      have f15 := fj
      have fr := fr.trans fj (by decide)
      have hI := hJ
      have s16 : (h13.1 17 0).toInt = (h.1 17 0).toInt := by rw [(f15 17 (by decide)).1]
      have s17 : (h13.1 17 10).toInt = (h.1 17 10).toInt := by rw [(f15 17 (by decide)).1]
      show RUN d_X8_gap 17 [(0, .inr (.inr (.inl 0)))] [.inr (.inr (.inl 75))] h13 _
      refine R_getf_l (j := 11) rfl ft_8_212 sh_75 rfl ?_
      refine N_anyL (fun w18 => ?_)
      refine R_lstore_n (k := 1) rfl [(1, .inr (.inl w18)), (0, .inr (.inr (.inl 0)))] rfl rfl (by decide) ?_
      refine R_iconst 0 rfl rfl ?_
      refine R_istore_n (k := 3) rfl [(3, .inl 0), (1, .inr (.inl w18)), (0, .inr (.inr (.inl 0)))] rfl rfl (by decide) ?_
      refine R_iconst 0 rfl rfl ?_
      refine R_istore (k := 4) [(4, .inl 0), (3, .inl 0), (1, .inr (.inl w18)), (0, .inr (.inr (.inl 0)))] rfl rfl (by decide) ?_
      refine R_iconst 0 rfl rfl ?_
      refine R_istore (k := 5) [(5, .inl 0), (4, .inl 0), (3, .inl 0), (1, .inr (.inl w18)), (0, .inr (.inr (.inl 0)))] rfl rfl (by decide) ?_
      have lp20 : ∀ (n19 : Nat) (x21 : Int32) (x22 : Int32) (x23 : Int32), 0 ≤ x22.toInt ∧ x22.toInt ≤ 2147483647 → 0 ≤ x23.toInt ∧ x23.toInt ≤ 2147483647 → (2147483647 - x23.toInt).toNat < n19 → RUN d_X8_gap 29 [(5, .inl x23), (4, .inl x21), (3, .inl x22), (1, .inr (.inl w18)), (0, .inr (.inr (.inl 0)))] [] h13 (q_X8_gap h) := by
        intro n19
        induction n19 with
        | zero => intro x21 x22 x23 m25 m26 hz; exact absurd hz (Nat.not_lt_zero _)
        | succ n19 ih24 =>
          intro x21 x22 x23 m25 m26 hz
          refine R_iload (k := 5) rfl rfl ?_
          refine R_aload_n (k := 0) rfl rfl rfl ?_
          refine R_getf_r (j := 3) rfl ft_8_28 sh_0 rfl ?_
          refine R_getf_r (j := 0) rfl ft_8_109 sh_16 rfl ?_
          refine R_iconst 0 rfl rfl ?_
          refine R_iald rfl sh_17 (by decide) ?_
          show RUN d_X8_gap 40 [(5, .inl x23), (4, .inl x21), (3, .inl x22), (1, .inr (.inl w18)), (0, .inr (.inr (.inl 0)))] [.inl (h13.1 17 0), .inl x23] h13 _
          refine N_icmp_ge (a := x23.toInt) (b := (h13.1 17 0).toInt) 75 rfl rfl rfl rfl (fun c27 => ?_) (fun c27 => ?_)
          · refine R_iload_n (k := 3) rfl rfl rfl ?_
            have b28 := i_rng x22
            exact R_iret rfl rfl rfl ⟨hI, fr, _, rfl, by omega⟩
          · refine R_lload_n (k := 1) rfl rfl rfl ?_
            refine R_iload (k := 5) rfl rfl ?_
            refine R_callS (As := [.inr (.inl w18), .inl x23]) (rest := []) rfl mt_8_i160 (by decide) pp_X8_hasBit (by decide) rfl rfl (Nat.le_of_ble_eq_true rfl) (Nat.le_of_ble_eq_true rfl) ((k_X8_hasBit h13 hI w18 x23).mono (fun r29 h30 p31 => ?_))
            obtain ⟨rfl, x32, rfl, q33 | q33⟩ := p31
            · show RUN d_X8_gap 49 [(5, .inl x23), (4, .inl x21), (3, .inl x22), (1, .inr (.inl w18)), (0, .inr (.inr (.inl 0)))] [.inl x32] h13 _
              refine N_if_eq (a := x32.toInt) 56 rfl rfl rfl (fun c34 => ?_) (fun c34 => ?_)
              · refine R_iload (k := 4) rfl rfl ?_
                refine R_iconst 1 rfl rfl ?_
                have b35 := i_rng x21
                refine R_iadd rfl ?_
                refine N_any (fun x36 => ?_)
                refine R_istore (k := 4) [(4, .inl x36), (5, .inl x23), (3, .inl x22), (1, .inr (.inl w18)), (0, .inr (.inr (.inl 0)))] rfl rfl (by decide) ?_
                refine R_iload_n (k := 3) rfl rfl rfl ?_
                refine R_iload (k := 4) rfl rfl ?_
                refine N_max (a := x22.toInt) (b := x36.toInt) rfl mt_8_i223 rfl rfl ⟨by decide, by decide, Nat.le_of_ble_eq_true rfl⟩ (fun x37 q38 => ?_)
                refine R_istore_n (k := 3) rfl [(3, .inl x37), (4, .inl x36), (5, .inl x23), (1, .inr (.inl w18)), (0, .inr (.inr (.inl 0)))] rfl rfl (by decide) ?_
                refine N_iinc (a := x23.toInt) (c := 1) (fun w => [(5, .inl w), (3, .inl x37), (4, .inl x36), (1, .inr (.inl w18)), (0, .inr (.inr (.inl 0)))]) rfl rfl (fun _ => rfl) (by decide) rfl (by decide) (by omega) (fun x39 q40 => ?_)
                refine R_goto 29 rfl rfl ?_
                have b41 := i_rng x37
                exact RUN_weak (psub_cons rfl (psub_cons rfl (psub_cons rfl (psub_cons rfl (psub_cons rfl (psub_nil _)))))) (ih24 x36 x37 x39 (by omega) (by omega) (by omega))
              · exfalso; omega
            · show RUN d_X8_gap 49 [(5, .inl x23), (4, .inl x21), (3, .inl x22), (1, .inr (.inl w18)), (0, .inr (.inr (.inl 0)))] [.inl x32] h13 _
              refine N_if_eq (a := x32.toInt) 56 rfl rfl rfl (fun c42 => ?_) (fun c42 => ?_)
              · exfalso; omega
              · refine R_iconst 0 rfl rfl ?_
                refine R_goto 60 rfl rfl ?_
                refine R_istore (k := 4) [(4, .inl 0), (5, .inl x23), (3, .inl x22), (1, .inr (.inl w18)), (0, .inr (.inr (.inl 0)))] rfl rfl (by decide) ?_
                refine R_iload_n (k := 3) rfl rfl rfl ?_
                refine R_iload (k := 4) rfl rfl ?_
                refine N_max (a := x22.toInt) (b := 0) rfl mt_8_i223 rfl (by decide) ⟨by decide, by decide, Nat.le_of_ble_eq_true rfl⟩ (fun x43 q44 => ?_)
                refine R_istore_n (k := 3) rfl [(3, .inl x43), (4, .inl 0), (5, .inl x23), (1, .inr (.inl w18)), (0, .inr (.inr (.inl 0)))] rfl rfl (by decide) ?_
                refine N_iinc (a := x23.toInt) (c := 1) (fun w => [(5, .inl w), (3, .inl x43), (4, .inl 0), (1, .inr (.inl w18)), (0, .inr (.inr (.inl 0)))]) rfl rfl (fun _ => rfl) (by decide) rfl (by decide) (by omega) (fun x45 q46 => ?_)
                refine R_goto 29 rfl rfl ?_
                have b47 := i_rng x43
                exact RUN_weak (psub_cons rfl (psub_cons rfl (psub_cons rfl (psub_cons rfl (psub_cons rfl (psub_nil _)))))) (ih24 (0 : Int32) x43 x45 (by omega) (by omega) (by omega))
      exact lp20 _ (0 : Int32) (0 : Int32) (0 : Int32) (by decide) (by decide) (Nat.lt_succ_self _)
    · exfalso; omega
abbrev q_X8_ready (h : PH) (a0 : Int32) : Option PV → PH → Prop := fun r h' => INV h' ∧ FR [0, 70, 71, 72, 73, 74, 75, 76, 77, 78, 79, 80, 81, 82, 83, 84, 85, 86] h h' ∧ ∃ z : Int32, r = some (.inl z) ∧ ((True))
set_option maxHeartbeats 4000000 in
set_option maxRecDepth 100000 in
theorem k_X8_ready (h : PH) (hI : INV h) (a0 : Int32) : CALL d_X8_ready [.inr (.inr (.inl 0)), .inl a0] h (q_X8_ready h a0) := by
  show RUN d_X8_ready 0 [(0, .inr (.inr (.inl 0))), (1, .inl a0)] [] h _
  have b1 := i_rng a0
  have fr : FR [0, 70, 71, 72, 73, 74, 75, 76, 77, 78, 79, 80, 81, 82, 83, 84, 85, 86] h h := FR.rf _ _
  refine R_aload_n (k := 0) rfl rfl rfl ?_
  refine R_aload_n (k := 0) rfl rfl rfl ?_
  refine R_callV (v := .inr (.inr (.inl 0))) (As := []) (rest := [.inr (.inr (.inl 0))]) rfl mt_8_i153 pp_X8_told (by decide) rfl rfl rfl (Nat.le_of_ble_eq_true rfl) (Nat.le_of_ble_eq_true rfl) ((k_X8_told h hI).mono (fun r2 h3 p4 => ?_))
  obtain ⟨hJ, fj, rfl⟩ := p4
  have f5 := fj
  have fr := fr.trans fj (by decide)
  have hI := hJ
  show RUN d_X8_ready 5 [(0, .inr (.inr (.inl 0))), (1, .inl a0)] [.inr (.inr (.inl 75)), .inr (.inr (.inl 0))] h3 _
  refine R_getf_r (j := 3) rfl ft_8_178 sh_75 rfl ?_
  refine R_iload_n (k := 1) rfl rfl rfl ?_
  refine R_callV (v := .inr (.inr (.inl 0))) (As := [.inr (.inr (.inl 79)), .inl a0]) (rest := []) rfl mt_8_i171 pp_X8_atSecond (by decide) rfl rfl rfl (Nat.le_of_ble_eq_true rfl) (Nat.le_of_ble_eq_true rfl) ((k_X8_atSecond_6 h3 hI a0).mono (fun r6 h7 p8 => ?_))
  obtain ⟨rfl, x9, rfl, q10⟩ := p8
  show RUN d_X8_ready 12 [(0, .inr (.inr (.inl 0))), (1, .inl a0)] [.inl x9] h3 _
  exact R_iret rfl rfl rfl ⟨hI, fr, _, rfl, trivial⟩
abbrev q_X8_mostBusy (h : PH)  : Option PV → PH → Prop := fun r h' => INV h' ∧ FR [0, 70, 71, 72, 73, 74, 75, 76, 77, 78, 79, 80, 81, 82, 83, 84, 85, 86] h h' ∧ ∃ z : Int32, r = some (.inl z) ∧ ((0 ≤ z.toInt ∧ z.toInt ≤ 63))
set_option maxHeartbeats 4000000 in
set_option maxRecDepth 100000 in
theorem k_X8_mostBusy (h : PH) (hI : INV h)  : CALL d_X8_mostBusy [.inr (.inr (.inl 0))] h (q_X8_mostBusy h) := by
  show RUN d_X8_mostBusy 0 [(0, .inr (.inr (.inl 0)))] [] h _
  have fr : FR [0, 70, 71, 72, 73, 74, 75, 76, 77, 78, 79, 80, 81, 82, 83, 84, 85, 86] h h := FR.rf _ _
  refine R_aload_n (k := 0) rfl rfl rfl ?_
  refine R_callV (v := .inr (.inr (.inl 0))) (As := []) (rest := []) rfl mt_8_i153 pp_X8_told (by decide) rfl rfl rfl (Nat.le_of_ble_eq_true rfl) (Nat.le_of_ble_eq_true rfl) ((k_X8_told h hI).mono (fun r1 h2 p3 => ?_))
  obtain ⟨hJ, fj, rfl⟩ := p3
  have f4 := fj
  have fr := fr.trans fj (by decide)
  have hI := hJ
  show RUN d_X8_mostBusy 4 [(0, .inr (.inr (.inl 0)))] [.inr (.inr (.inl 75))] h2 _
  refine R_getf_r (j := 1) rfl ft_8_157 sh_75 rfl ?_
  refine R_astore_n (k := 1) rfl [(1, .inr (.inr (.inl 77))), (0, .inr (.inr (.inl 0)))] rfl rfl (by decide) ?_
  refine R_iconst 0 rfl rfl ?_
  refine R_istore_n (k := 2) rfl [(2, .inl 0), (1, .inr (.inr (.inl 77))), (0, .inr (.inr (.inl 0)))] rfl rfl (by decide) ?_
  refine R_iconst 0 rfl rfl ?_
  refine R_istore_n (k := 3) rfl [(3, .inl 0), (2, .inl 0), (1, .inr (.inr (.inl 77))), (0, .inr (.inr (.inl 0)))] rfl rfl (by decide) ?_
  have lp6 : ∀ (n5 : Nat) (x7 : Int32) (x8 : Int32), 0 ≤ x7.toInt ∧ x7.toInt ≤ 63 → 0 ≤ x8.toInt ∧ x8.toInt ≤ 2147483647 → (2147483647 - x8.toInt).toNat < n5 → RUN d_X8_mostBusy 12 [(3, .inl x8), (2, .inl x7), (1, .inr (.inr (.inl 77))), (0, .inr (.inr (.inl 0)))] [] h2 (q_X8_mostBusy h) := by
    intro n5
    induction n5 with
    | zero => intro x7 x8 m10 m11 hz; exact absurd hz (Nat.not_lt_zero _)
    | succ n5 ih9 =>
      intro x7 x8 m10 m11 hz
      refine R_iload_n (k := 3) rfl rfl rfl ?_
      refine R_aload_n (k := 0) rfl rfl rfl ?_
      refine R_getf_r (j := 3) rfl ft_8_28 sh_0 rfl ?_
      refine R_getf_r (j := 0) rfl ft_8_109 sh_16 rfl ?_
      refine R_iconst 0 rfl rfl ?_
      refine R_iald rfl sh_17 (by decide) ?_
      have b12 : (0 : Int) ≤ (h2.1 17 0).toInt ∧ (h2.1 17 0).toInt ≤ 60 := hI.1 17 0
      show RUN d_X8_mostBusy 22 [(3, .inl x8), (2, .inl x7), (1, .inr (.inr (.inl 77))), (0, .inr (.inr (.inl 0)))] [.inl (h2.1 17 0), .inl x8] h2 _
      refine N_icmp_ge (a := x8.toInt) (b := (h2.1 17 0).toInt) 42 rfl rfl rfl rfl (fun c13 => ?_) (fun c13 => ?_)
      · refine R_iload_n (k := 2) rfl rfl rfl ?_
        exact R_iret rfl rfl rfl ⟨hI, fr, _, rfl, by omega⟩
      · refine R_iload_n (k := 2) rfl rfl rfl ?_
        refine R_aload_n (k := 1) rfl rfl rfl ?_
        refine R_iload_n (k := 3) rfl rfl rfl ?_
        refine R_iald rfl sh_77 ⟨by omega, by omega⟩ ?_
        refine N_any (fun x14 => ?_)
        refine R_callS (As := [.inl x14]) (rest := [.inl x7]) rfl mt_8_i232 (by decide) pp_J6_bitCount_0f7a4 (by decide) rfl rfl (Nat.le_of_ble_eq_true rfl) (Nat.le_of_ble_eq_true rfl) ((k_J6_bitCount_0f7a4 h2 hI x14).mono (fun r15 h16 p17 => ?_))
        obtain ⟨rfl, x18, rfl, q19⟩ := p17
        show RUN d_X8_mostBusy 32 [(3, .inl x8), (2, .inl x7), (1, .inr (.inr (.inl 77))), (0, .inr (.inr (.inl 0)))] [.inl x18, .inl x7] h2 _
        refine N_max (a := x7.toInt) (b := x18.toInt) rfl mt_8_i223 rfl rfl ⟨by decide, by decide, Nat.le_of_ble_eq_true rfl⟩ (fun x20 q21 => ?_)
        refine R_istore_n (k := 2) rfl [(2, .inl x20), (3, .inl x8), (1, .inr (.inr (.inl 77))), (0, .inr (.inr (.inl 0)))] rfl rfl (by decide) ?_
        refine N_iinc (a := x8.toInt) (c := 1) (fun w => [(3, .inl w), (2, .inl x20), (1, .inr (.inr (.inl 77))), (0, .inr (.inr (.inl 0)))]) rfl rfl (fun _ => rfl) (by decide) rfl (by decide) (by omega) (fun x22 q23 => ?_)
        refine R_goto 12 rfl rfl ?_
        exact RUN_weak (psub_cons rfl (psub_cons rfl (psub_cons rfl (psub_cons rfl (psub_nil _))))) (ih9 x20 x22 (by omega) (by omega) (by omega))
  exact lp6 _ (0 : Int32) (0 : Int32) (by decide) (by decide) (Nat.lt_succ_self _)
abbrev q_X8_crowded (h : PH)  : Option PV → PH → Prop := fun r h' => INV h' ∧ FR [0, 70, 71, 72, 73, 74, 75, 76, 77, 78, 79, 80, 81, 82, 83, 84, 85, 86] h h' ∧ ∃ z : Int32, r = some (.inl z) ∧ (((-2) ≤ z.toInt ∧ z.toInt ≤ 2147483647))
set_option maxHeartbeats 4000000 in
set_option maxRecDepth 100000 in
theorem k_X8_crowded (h : PH) (hI : INV h)  : CALL d_X8_crowded [.inr (.inr (.inl 0))] h (q_X8_crowded h) := by
  show RUN d_X8_crowded 0 [(0, .inr (.inr (.inl 0)))] [] h _
  have fr : FR [0, 70, 71, 72, 73, 74, 75, 76, 77, 78, 79, 80, 81, 82, 83, 84, 85, 86] h h := FR.rf _ _
  refine R_aload_n (k := 0) rfl rfl rfl ?_
  refine R_getf_r (j := 3) rfl ft_8_28 sh_0 rfl ?_
  refine R_callV (v := .inr (.inr (.inl 16))) (As := []) (rest := []) rfl mt_8_i146 pp_X1_stands (by decide) rfl rfl rfl (Nat.le_of_ble_eq_true rfl) (Nat.le_of_ble_eq_true rfl) ((k_X1_stands h hI).mono (fun r1 h2 p3 => ?_))
  obtain ⟨rfl, x4, rfl, q5 | q5⟩ := p3
  · have b6 : (0 : Int) ≤ (h.1 17 0).toInt ∧ (h.1 17 0).toInt ≤ 60 := hI.1 17 0
    have e7 : 0 < (h.1 17 10).toInt → 1 ≤ (h.1 17 0).toInt := hI.2.1
    show RUN d_X8_crowded 7 [(0, .inr (.inr (.inl 0)))] [.inl x4] h _
    refine N_if_ne (a := x4.toInt) 13 rfl rfl rfl (fun c8 => ?_) (fun c8 => ?_)
    · exfalso; omega
    · refine R_bipush (-2) rfl rfl ?_
      exact R_iret rfl rfl rfl ⟨hI, fr, _, rfl, by rw [show ((-2) : Int32).toInt = (-2) from rfl]; omega⟩
  · have b9 : (0 : Int) ≤ (h.1 17 0).toInt ∧ (h.1 17 0).toInt ≤ 60 := hI.1 17 0
    have e10 : 0 < (h.1 17 10).toInt → 1 ≤ (h.1 17 0).toInt := hI.2.1
    show RUN d_X8_crowded 7 [(0, .inr (.inr (.inl 0)))] [.inl x4] h _
    refine N_if_ne (a := x4.toInt) 13 rfl rfl rfl (fun c11 => ?_) (fun c11 => ?_)
    · refine R_aload_n (k := 0) rfl rfl rfl ?_
      refine R_callV (v := .inr (.inr (.inl 0))) (As := []) (rest := []) rfl mt_8_i228 pp_X8_mostBusy (by decide) rfl rfl rfl (Nat.le_of_ble_eq_true rfl) (Nat.le_of_ble_eq_true rfl) ((k_X8_mostBusy h hI).mono (fun r12 h13 p14 => ?_))
      obtain ⟨hJ, fj, x15, rfl, q16⟩ := p14
      have f17 := fj
      have fr := fr.trans fj (by decide)
      have hI := hJ
      have s18 : (h13.1 17 0).toInt = (h.1 17 0).toInt := by rw [(f17 17 (by decide)).1]
      have s19 : (h13.1 17 10).toInt = (h.1 17 10).toInt := by rw [(f17 17 (by decide)).1]
      show RUN d_X8_crowded 17 [(0, .inr (.inr (.inl 0)))] [.inl x15] h13 _
      refine R_istore_n (k := 1) rfl [(1, .inl x15), (0, .inr (.inr (.inl 0)))] rfl rfl (by decide) ?_
      refine R_iconst 0 rfl rfl ?_
      refine R_istore_n (k := 2) rfl [(2, .inl 0), (1, .inl x15), (0, .inr (.inr (.inl 0)))] rfl rfl (by decide) ?_
      have lp21 : ∀ (n20 : Nat) (x22 : Int32), 0 ≤ x22.toInt ∧ x22.toInt ≤ 2147483647 → (2147483647 - x22.toInt).toNat < n20 → RUN d_X8_crowded 20 [(2, .inl x22), (1, .inl x15), (0, .inr (.inr (.inl 0)))] [] h13 (q_X8_crowded h) := by
        intro n20
        induction n20 with
        | zero => intro x22 m24 hz; exact absurd hz (Nat.not_lt_zero _)
        | succ n20 ih23 =>
          intro x22 m24 hz
          refine R_iload_n (k := 2) rfl rfl rfl ?_
          refine R_aload_n (k := 0) rfl rfl rfl ?_
          refine R_getf_r (j := 3) rfl ft_8_28 sh_0 rfl ?_
          refine R_getf_r (j := 0) rfl ft_8_109 sh_16 rfl ?_
          refine R_iconst 0 rfl rfl ?_
          refine R_iald rfl sh_17 (by decide) ?_
          show RUN d_X8_crowded 30 [(2, .inl x22), (1, .inl x15), (0, .inr (.inr (.inl 0)))] [.inl (h13.1 17 0), .inl x22] h13 _
          refine R_iconst 1 rfl rfl ?_
          refine N_isub (a := (h13.1 17 0).toInt) (b := 1) rfl rfl (by decide) (by omega) (fun x25 q26 => ?_)
          refine N_icmp_ge (a := x22.toInt) (b := x25.toInt) 57 rfl rfl rfl rfl (fun c27 => ?_) (fun c27 => ?_)
          · refine R_iload_n (k := 2) rfl rfl rfl ?_
            have b28 := i_rng x22
            exact R_iret rfl rfl rfl ⟨hI, fr, _, rfl, by omega⟩
          · refine R_aload_n (k := 0) rfl rfl rfl ?_
            refine R_getf_r (j := 8) rfl ft_8_56 sh_0 rfl ?_
            refine R_getf_r (j := 1) rfl ft_8_157 sh_75 rfl ?_
            refine R_iload_n (k := 2) rfl rfl rfl ?_
            refine R_iald rfl sh_77 ⟨by omega, by omega⟩ ?_
            refine N_any (fun x29 => ?_)
            refine R_callS (As := [.inl x29]) (rest := []) rfl mt_8_i232 (by decide) pp_J6_bitCount_0f7a4 (by decide) rfl rfl (Nat.le_of_ble_eq_true rfl) (Nat.le_of_ble_eq_true rfl) ((k_J6_bitCount_0f7a4 h13 hI x29).mono (fun r30 h31 p32 => ?_))
            obtain ⟨rfl, x33, rfl, q34⟩ := p32
            show RUN d_X8_crowded 47 [(2, .inl x22), (1, .inl x15), (0, .inr (.inr (.inl 0)))] [.inl x33] h13 _
            refine R_iload_n (k := 1) rfl rfl rfl ?_
            refine N_icmp_eq (a := x33.toInt) (b := x15.toInt) 57 rfl rfl rfl rfl (fun c35 => ?_) (fun c35 => ?_)
            · refine R_iload_n (k := 2) rfl rfl rfl ?_
              exact R_iret rfl rfl rfl ⟨hI, fr, _, rfl, by omega⟩
            · refine N_iinc (a := x22.toInt) (c := 1) (fun w => [(2, .inl w), (1, .inl x15), (0, .inr (.inr (.inl 0)))]) rfl rfl (fun _ => rfl) (by decide) rfl (by decide) (by omega) (fun x36 q37 => ?_)
              refine R_goto 20 rfl rfl ?_
              exact RUN_weak (psub_cons rfl (psub_cons rfl (psub_cons rfl (psub_nil _)))) (ih23 x36 (by omega) (by omega))
      exact lp21 _ (0 : Int32) (by decide) (Nat.lt_succ_self _)
    · exfalso; omega
abbrev q_X9_bits (h : PH) (a0 : Int32) : Option PV → PH → Prop := fun r h' => h = h' ∧ ∃ z : Int32, r = some (.inl z) ∧ ((True))
set_option maxHeartbeats 4000000 in
set_option maxRecDepth 100000 in
theorem k_X9_bits (h : PH) (hI : INV h) (a0 : Int32) : CALL d_X9_bits [.inl a0] h (q_X9_bits h a0) := by
  show RUN d_X9_bits 0 [(0, .inl a0)] [] h _
  have b1 := i_rng a0
  refine R_iconst 0 rfl rfl ?_
  refine R_istore_n (k := 1) rfl [(1, .inl 0), (0, .inl a0)] rfl rfl (by decide) ?_
  refine R_iconst 0 rfl rfl ?_
  refine R_istore_n (k := 2) rfl [(2, .inl 0), (1, .inl 0), (0, .inl a0)] rfl rfl (by decide) ?_
  have lp3 : ∀ (n2 : Nat) (x4 : Int32) (x5 : Int32), 0 ≤ x5.toInt ∧ x5.toInt ≤ 2147483647 → (2147483647 - x5.toInt).toNat < n2 → RUN d_X9_bits 4 [(2, .inl x5), (1, .inl x4), (0, .inl a0)] [] h (q_X9_bits h a0) := by
    intro n2
    induction n2 with
    | zero => intro x4 x5 m7 hz; exact absurd hz (Nat.not_lt_zero _)
    | succ n2 ih6 =>
      intro x4 x5 m7 hz
      refine R_iload_n (k := 2) rfl rfl rfl ?_
      refine R_bipush 6 rfl rfl ?_
      refine N_icmp_ge (a := x5.toInt) (b := 6) 24 rfl rfl rfl (by decide) (fun c8 => ?_) (fun c8 => ?_)
      · refine R_iload_n (k := 1) rfl rfl rfl ?_
        exact R_iret rfl rfl rfl ⟨rfl, _, rfl, trivial⟩
      · refine R_iload_n (k := 1) rfl rfl rfl ?_
        refine R_iload_n (k := 0) rfl rfl rfl ?_
        refine R_iload_n (k := 2) rfl rfl rfl ?_
        refine R_ishr rfl ?_
        refine N_any (fun x9 => ?_)
        refine R_iconst 1 rfl rfl ?_
        refine N_iand (b := 1) rfl (by decide) (by omega) (fun x10 q11 => ?_)
        have b12 := i_rng x4
        refine R_iadd rfl ?_
        refine N_any (fun x13 => ?_)
        refine R_istore_n (k := 1) rfl [(1, .inl x13), (2, .inl x5), (0, .inl a0)] rfl rfl (by decide) ?_
        refine N_iinc (a := x5.toInt) (c := 1) (fun w => [(2, .inl w), (1, .inl x13), (0, .inl a0)]) rfl rfl (fun _ => rfl) (by decide) rfl (by decide) (by omega) (fun x14 q15 => ?_)
        refine R_goto 4 rfl rfl ?_
        exact RUN_weak (psub_cons rfl (psub_cons rfl (psub_cons rfl (psub_nil _)))) (ih6 x13 x14 (by omega) (by omega))
  exact lp3 _ (0 : Int32) (0 : Int32) (by decide) (Nat.lt_succ_self _)
abbrev q_X8_road (h : PH) (a0 : Int32) : Option PV → PH → Prop := fun r h' => INV h' ∧ FR [0, 70, 71, 72, 73, 74, 75, 76, 77, 78, 79, 80, 81, 82, 83, 84, 85, 86] h h' ∧ ∃ z : Int32, r = some (.inl z) ∧ ((True))
set_option maxHeartbeats 4000000 in
set_option maxRecDepth 100000 in
theorem k_X8_road (h : PH) (hI : INV h) (a0 : Int32) : CALL d_X8_road [.inr (.inr (.inl 0)), .inl a0] h (q_X8_road h a0) := by
  show RUN d_X8_road 0 [(0, .inr (.inr (.inl 0))), (1, .inl a0)] [] h _
  have b1 := i_rng a0
  have fr : FR [0, 70, 71, 72, 73, 74, 75, 76, 77, 78, 79, 80, 81, 82, 83, 84, 85, 86] h h := FR.rf _ _
  refine R_aload_n (k := 0) rfl rfl rfl ?_
  refine R_aload_n (k := 0) rfl rfl rfl ?_
  refine R_callV (v := .inr (.inr (.inl 0))) (As := []) (rest := [.inr (.inr (.inl 0))]) rfl mt_8_i153 pp_X8_told (by decide) rfl rfl rfl (Nat.le_of_ble_eq_true rfl) (Nat.le_of_ble_eq_true rfl) ((k_X8_told h hI).mono (fun r2 h3 p4 => ?_))
  obtain ⟨hJ, fj, rfl⟩ := p4
  have f5 := fj
  have fr := fr.trans fj (by decide)
  have hI := hJ
  show RUN d_X8_road 5 [(0, .inr (.inr (.inl 0))), (1, .inl a0)] [.inr (.inr (.inl 75)), .inr (.inr (.inl 0))] h3 _
  refine R_getf_r (j := 6) rfl ft_8_184 sh_75 rfl ?_
  refine R_iload_n (k := 1) rfl rfl rfl ?_
  refine R_callV (v := .inr (.inr (.inl 0))) (As := [.inr (.inr (.inl 82)), .inl a0]) (rest := []) rfl mt_8_i171 pp_X8_atSecond (by decide) rfl rfl rfl (Nat.le_of_ble_eq_true rfl) (Nat.le_of_ble_eq_true rfl) ((k_X8_atSecond_7 h3 hI a0).mono (fun r6 h7 p8 => ?_))
  obtain ⟨rfl, x9, rfl, q10⟩ := p8
  show RUN d_X8_road 12 [(0, .inr (.inr (.inl 0))), (1, .inl a0)] [.inl x9] h3 _
  exact R_iret rfl rfl rfl ⟨hI, fr, _, rfl, trivial⟩
