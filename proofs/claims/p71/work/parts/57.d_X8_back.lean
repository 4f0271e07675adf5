abbrev qg_X8_back (h : PH) (a0 : Int32) : Option PV → PH → Prop := fun r h' => INV h' ∧ FR [0, 17, 18, 19, 20, 21, 22, 23, 24, 25, 26, 27] h h' ∧ (True) ∧ ∃ z : Int32, r = some (.inl z) ∧ ((((-6) ≤ z.toInt ∧ z.toInt ≤ 0)) ∧ (z = s_back a0.toInt (h.1 65 a0.toNatClampNeg).toInt) ∧ True)
set_option maxHeartbeats 4000000 in
set_option maxRecDepth 100000 in
theorem g_X8_back (h : PH) (hI : INV h) (a0 : Int32) : CALL d_X8_back [.inr (.inr (.inl 0)), .inl a0] h (qg_X8_back h a0) := by
  show RUN d_X8_back 0 [(0, .inr (.inr (.inl 0))), (1, .inl a0)] [] h _
  have b1 := i_rng a0
  have fr : FR [0, 17, 18, 19, 20, 21, 22, 23, 24, 25, 26, 27] h h := FR.rf _ _
  refine R_iload_n (k := 1) rfl rfl rfl ?_
  refine N_if_lt (a := a0.toInt) 9 rfl rfl rfl (fun c2 => ?_) (fun c2 => ?_)
  · refine R_bipush (-2) rfl rfl ?_
    have k3 : ((-2) : Int32).toInt = (-2) := by decide
    exact R_iret rfl rfl rfl ⟨hI, fr, trivial, _, rfl, ⟨by rw [show ((-2) : Int32).toInt = (-2) from rfl] <;> omega, (by unfold s_back; rw [if_neg (by omega)]), trivial⟩⟩
  · refine R_iload_n (k := 1) rfl rfl rfl ?_
    refine R_iconst 3 rfl rfl ?_
    refine N_icmp_lt (a := a0.toInt) (b := 3) 12 rfl rfl rfl (by decide) (fun c4 => ?_) (fun c4 => ?_)
    · refine R_aload_n (k := 0) rfl rfl rfl ?_
      refine R_getf_r (j := 5) rfl ft_8_35 sh_0 rfl ?_
      refine R_iload_n (k := 1) rfl rfl rfl ?_
      refine R_zald rfl sh_65 ⟨by omega, by omega⟩ ?_
      refine N_eq (fun x5 e6 => ?_)
      refine N_if_ne (a := x5.toInt) 24 rfl rfl rfl (fun c7 => ?_) (fun c7 => ?_)
      · refine R_aload_n (k := 0) rfl rfl rfl ?_
        refine R_getf_r (j := 3) rfl ft_8_28 sh_0 rfl ?_
        refine R_aload_n (k := 0) rfl rfl rfl ?_
        refine R_getf_r (j := 4) rfl ft_8_31 sh_0 rfl ?_
        refine R_iload_n (k := 1) rfl rfl rfl ?_
        rcases (show a0.toInt = 0 ∨ a0.toInt = 1 ∨ a0.toInt = 2 by omega) with c8 | c8 | c8
        · refine R_aald 28 rfl sh_64 ⟨by omega, by show a0.toInt < (3 : Int); omega⟩ (by rw [tnc (n := 0) c8]; rfl) ?_
          refine R_callV (v := .inr (.inr (.inl 16))) (As := [.inr (.inr (.inl 28))]) (rest := []) rfl mt_8_i102 pp_X1_copyFrom (by decide) rfl rfl rfl (Nat.le_of_ble_eq_true rfl) (Nat.le_of_ble_eq_true rfl) ((k_X1_copyFrom_4 h hI).mono (fun r9 h10 p11 => ?_))
          obtain ⟨hJ, fj, -, rfl⟩ := p11
          have f12 := fj
          have fr := fr.trans fj (by decide)
          have hI := hJ
          show RUN d_X8_back 37 [(0, .inr (.inr (.inl 0))), (1, .inl a0)] [] h10 _
          refine R_aload_n (k := 0) rfl rfl rfl ?_
          refine R_callV (v := .inr (.inr (.inl 0))) (As := []) (rest := []) rfl mt_8_i106 pp_X8_forgetAll (by decide) rfl rfl rfl (Nat.le_of_ble_eq_true rfl) (Nat.le_of_ble_eq_true rfl) ((k_X8_forgetAll h10 hI).mono (fun r13 h14 p15 => ?_))
          obtain ⟨hJ, fj, -, rfl⟩ := p15
          have f16 := fj
          have fr := fr.trans fj (by decide)
          have hI := hJ
          show RUN d_X8_back 41 [(0, .inr (.inr (.inl 0))), (1, .inl a0)] [] h14 _
          refine R_iconst 0 rfl rfl ?_
          have k17 : (0 : Int32).toInt = 0 := by decide
          exact R_iret rfl rfl rfl ⟨hI, fr, trivial, _, rfl, ⟨by rw [show (0 : Int32).toInt = 0 from rfl] <;> omega, (by unfold s_back; rw [if_pos (by omega), if_neg (by rw [← e6]; omega)]), trivial⟩⟩
        · refine R_aald 40 rfl sh_64 ⟨by omega, by show a0.toInt < (3 : Int); omega⟩ (by rw [tnc (n := 1) c8]; rfl) ?_
          refine R_callV (v := .inr (.inr (.inl 16))) (As := [.inr (.inr (.inl 40))]) (rest := []) rfl mt_8_i102 pp_X1_copyFrom (by decide) rfl rfl rfl (Nat.le_of_ble_eq_true rfl) (Nat.le_of_ble_eq_true rfl) ((k_X1_copyFrom_5 h hI).mono (fun r18 h19 p20 => ?_))
          obtain ⟨hJ, fj, -, rfl⟩ := p20
          have f21 := fj
          have fr := fr.trans fj (by decide)
          have hI := hJ
          show RUN d_X8_back 37 [(0, .inr (.inr (.inl 0))), (1, .inl a0)] [] h19 _
          refine R_aload_n (k := 0) rfl rfl rfl ?_
          refine R_callV (v := .inr (.inr (.inl 0))) (As := []) (rest := []) rfl mt_8_i106 pp_X8_forgetAll (by decide) rfl rfl rfl (Nat.le_of_ble_eq_true rfl) (Nat.le_of_ble_eq_true rfl) ((k_X8_forgetAll h19 hI).mono (fun r22 h23 p24 => ?_))
          obtain ⟨hJ, fj, -, rfl⟩ := p24
          have f25 := fj
          have fr := fr.trans fj (by decide)
          have hI := hJ
          show RUN d_X8_back 41 [(0, .inr (.inr (.inl 0))), (1, .inl a0)] [] h23 _
          refine R_iconst 0 rfl rfl ?_
          have k26 : (0 : Int32).toInt = 0 := by decide
          exact R_iret rfl rfl rfl ⟨hI, fr, trivial, _, rfl, ⟨by rw [show (0 : Int32).toInt = 0 from rfl] <;> omega, (by unfold s_back; rw [if_pos (by omega), if_neg (by rw [← e6]; omega)]), trivial⟩⟩
        · refine R_aald 52 rfl sh_64 ⟨by omega, by show a0.toInt < (3 : Int); omega⟩ (by rw [tnc (n := 2) c8]; rfl) ?_
          refine R_callV (v := .inr (.inr (.inl 16))) (As := [.inr (.inr (.inl 52))]) (rest := []) rfl mt_8_i102 pp_X1_copyFrom (by decide) rfl rfl rfl (Nat.le_of_ble_eq_true rfl) (Nat.le_of_ble_eq_true rfl) ((k_X1_copyFrom_6 h hI).mono (fun r27 h28 p29 => ?_))
          obtain ⟨hJ, fj, -, rfl⟩ := p29
          have f30 := fj
          have fr := fr.trans fj (by decide)
          have hI := hJ
          show RUN d_X8_back 37 [(0, .inr (.inr (.inl 0))), (1, .inl a0)] [] h28 _
          refine R_aload_n (k := 0) rfl rfl rfl ?_
          refine R_callV (v := .inr (.inr (.inl 0))) (As := []) (rest := []) rfl mt_8_i106 pp_X8_forgetAll (by decide) rfl rfl rfl (Nat.le_of_ble_eq_true rfl) (Nat.le_of_ble_eq_true rfl) ((k_X8_forgetAll h28 hI).mono (fun r31 h32 p33 => ?_))
          obtain ⟨hJ, fj, -, rfl⟩ := p33
          have f34 := fj
          have fr := fr.trans fj (by decide)
          have hI := hJ
          show RUN d_X8_back 41 [(0, .inr (.inr (.inl 0))), (1, .inl a0)] [] h32 _
          refine R_iconst 0 rfl rfl ?_
          have k35 : (0 : Int32).toInt = 0 := by decide
          exact R_iret rfl rfl rfl ⟨hI, fr, trivial, _, rfl, ⟨by rw [show (0 : Int32).toInt = 0 from rfl] <;> omega, (by unfold s_back; rw [if_pos (by omega), if_neg (by rw [← e6]; omega)]), trivial⟩⟩
      · refine R_bipush (-6) rfl rfl ?_
        have k36 : ((-6) : Int32).toInt = (-6) := by decide
        exact R_iret rfl rfl rfl ⟨hI, fr, trivial, _, rfl, ⟨by rw [show ((-6) : Int32).toInt = (-6) from rfl] <;> omega, (by unfold s_back; rw [if_pos (by omega), if_pos (by rw [← e6]; omega)]), trivial⟩⟩
    · refine R_bipush (-2) rfl rfl ?_
      have k37 : ((-2) : Int32).toInt = (-2) := by decide
      exact R_iret rfl rfl rfl ⟨hI, fr, trivial, _, rfl, ⟨by rw [show ((-2) : Int32).toInt = (-2) from rfl] <;> omega, (by unfold s_back; rw [if_neg (by omega)]), trivial⟩⟩
