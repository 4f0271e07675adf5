abbrev qg_X8_paste (h : PH) (a0 : Int32) (a1 : Int32) (a2 : Int32) (a3 : Int32) (a4 : Int32) : Option PV → PH → Prop := fun r h' => INV h' ∧ FR [67] h h' ∧ (True) ∧ ∃ z : Int32, r = some (.inl z) ∧ ((((-8) ≤ z.toInt ∧ z.toInt ≤ 0)) ∧ (z = s_paste a0.toInt a1.toInt a2.toInt a3.toInt a4.toInt (h.1 68 a0.toNatClampNeg).toInt (h.1 68 a2.toNatClampNeg).toInt (h.1 69 a0.toNatClampNeg).toInt (h.1 69 a2.toNatClampNeg).toInt) ∧ True)
set_option maxHeartbeats 4000000 in
set_option maxRecDepth 100000 in
theorem g_X8_paste (h : PH) (hI : INV h) (a0 : Int32) (a1 : Int32) (a2 : Int32) (a3 : Int32) (a4 : Int32) : CALL d_X8_paste [.inr (.inr (.inl 0)), .inl a0, .inl a1, .inl a2, .inl a3, .inl a4] h (qg_X8_paste h a0 a1 a2 a3 a4) := by
  show RUN d_X8_paste 0 [(0, .inr (.inr (.inl 0))), (1, .inl a0), (2, .inl a1), (3, .inl a2), (4, .inl a3), (5, .inl a4)] [] h _
  have b1 := i_rng a0
  have b2 := i_rng a1
  have b3 := i_rng a2
  have b4 := i_rng a3
  have b5 := i_rng a4
  have fr : FR [67] h h := FR.rf _ _
  refine R_aload_n (k := 0) rfl rfl rfl ?_
  refine R_getf_r (j := 6) rfl ft_8_42 sh_0 rfl ?_
  refine R_iload_n (k := 1) rfl rfl rfl ?_
  refine R_callV (v := .inr (.inr (.inl 66))) (As := [.inl a0]) (rest := []) rfl mt_8_i386 pp_X5_isSlot (by decide) rfl rfl rfl (Nat.le_of_ble_eq_true rfl) (Nat.le_of_ble_eq_true rfl) ((k_X5_isSlot h hI a0).mono (fun r6 h7 p8 => ?_))
  obtain ⟨rfl, x9, rfl, q10 | q10 | q10⟩ := p8
  · show RUN d_X8_paste 8 [(0, .inr (.inr (.inl 0))), (1, .inl a0), (2, .inl a1), (3, .inl a2), (4, .inl a3), (5, .inl a4)] [.inl x9] h _
    refine N_if_eq (a := x9.toInt) 22 rfl rfl rfl (fun c11 => ?_) (fun c11 => ?_)
    · refine R_bipush (-2) rfl rfl ?_
      have k12 : ((-2) : Int32).toInt = (-2) := by decide
      exact R_iret rfl rfl rfl ⟨hI, fr, trivial, _, rfl, ⟨by rw [show ((-2) : Int32).toInt = (-2) from rfl] <;> omega, (by unfold s_paste; rw [if_neg (by omega)]), trivial⟩⟩
    · exfalso; omega
  · show RUN d_X8_paste 8 [(0, .inr (.inr (.inl 0))), (1, .inl a0), (2, .inl a1), (3, .inl a2), (4, .inl a3), (5, .inl a4)] [.inl x9] h _
    refine N_if_eq (a := x9.toInt) 22 rfl rfl rfl (fun c13 => ?_) (fun c13 => ?_)
    · refine R_bipush (-2) rfl rfl ?_
      have k14 : ((-2) : Int32).toInt = (-2) := by decide
      exact R_iret rfl rfl rfl ⟨hI, fr, trivial, _, rfl, ⟨by rw [show ((-2) : Int32).toInt = (-2) from rfl] <;> omega, (by unfold s_paste; rw [if_neg (by omega)]), trivial⟩⟩
    · exfalso; omega
  · show RUN d_X8_paste 8 [(0, .inr (.inr (.inl 0))), (1, .inl a0), (2, .inl a1), (3, .inl a2), (4, .inl a3), (5, .inl a4)] [.inl x9] h _
    refine N_if_eq (a := x9.toInt) 22 rfl rfl rfl (fun c15 => ?_) (fun c15 => ?_)
    · exfalso; omega
    · refine R_aload_n (k := 0) rfl rfl rfl ?_
      refine R_getf_r (j := 6) rfl ft_8_42 sh_0 rfl ?_
      refine R_iload_n (k := 3) rfl rfl rfl ?_
      refine R_callV (v := .inr (.inr (.inl 66))) (As := [.inl a2]) (rest := []) rfl mt_8_i386 pp_X5_isSlot (by decide) rfl rfl rfl (Nat.le_of_ble_eq_true rfl) (Nat.le_of_ble_eq_true rfl) ((k_X5_isSlot h hI a2).mono (fun r16 h17 p18 => ?_))
      obtain ⟨rfl, x19, rfl, q20 | q20 | q20⟩ := p18
      · show RUN d_X8_paste 19 [(0, .inr (.inr (.inl 0))), (1, .inl a0), (2, .inl a1), (3, .inl a2), (4, .inl a3), (5, .inl a4)] [.inl x19] h _
        refine N_if_ne (a := x19.toInt) 25 rfl rfl rfl (fun c21 => ?_) (fun c21 => ?_)
        · exfalso; omega
        · refine R_bipush (-2) rfl rfl ?_
          have k22 : ((-2) : Int32).toInt = (-2) := by decide
          exact R_iret rfl rfl rfl ⟨hI, fr, trivial, _, rfl, ⟨by rw [show ((-2) : Int32).toInt = (-2) from rfl] <;> omega, (by unfold s_paste; rw [if_neg (by omega)]), trivial⟩⟩
      · show RUN d_X8_paste 19 [(0, .inr (.inr (.inl 0))), (1, .inl a0), (2, .inl a1), (3, .inl a2), (4, .inl a3), (5, .inl a4)] [.inl x19] h _
        refine N_if_ne (a := x19.toInt) 25 rfl rfl rfl (fun c23 => ?_) (fun c23 => ?_)
        · exfalso; omega
        · refine R_bipush (-2) rfl rfl ?_
          have k24 : ((-2) : Int32).toInt = (-2) := by decide
          exact R_iret rfl rfl rfl ⟨hI, fr, trivial, _, rfl, ⟨by rw [show ((-2) : Int32).toInt = (-2) from rfl] <;> omega, (by unfold s_paste; rw [if_neg (by omega)]), trivial⟩⟩
      · show RUN d_X8_paste 19 [(0, .inr (.inr (.inl 0))), (1, .inl a0), (2, .inl a1), (3, .inl a2), (4, .inl a3), (5, .inl a4)] [.inl x19] h _
        refine N_if_ne (a := x19.toInt) 25 rfl rfl rfl (fun c25 => ?_) (fun c25 => ?_)
        · refine R_aload_n (k := 0) rfl rfl rfl ?_
          refine R_getf_r (j := 6) rfl ft_8_42 sh_0 rfl ?_
          refine R_iload_n (k := 1) rfl rfl rfl ?_
          refine R_callV (v := .inr (.inr (.inl 66))) (As := [.inl a0]) (rest := []) rfl mt_8_i392 pp_X5_hasRow (by decide) rfl rfl rfl (Nat.le_of_ble_eq_true rfl) (Nat.le_of_ble_eq_true rfl) ((g_X5_hasRow h hI a0 (by omega)).mono (fun r26 h27 p28 => ?_))
          obtain ⟨rfl, x31, rfl, (q32 | q32), zq29, zq30, -⟩ := p28
          · show RUN d_X8_paste 33 [(0, .inr (.inr (.inl 0))), (1, .inl a0), (2, .inl a1), (3, .inl a2), (4, .inl a3), (5, .inl a4)] [.inl x31] h _
            refine N_if_eq (a := x31.toInt) 47 rfl rfl rfl (fun c33 => ?_) (fun c33 => ?_)
            · refine R_bipush (-6) rfl rfl ?_
              have k34 : ((-6) : Int32).toInt = (-6) := by decide
              exact R_iret rfl rfl rfl ⟨hI, fr, trivial, _, rfl, ⟨by rw [show ((-6) : Int32).toInt = (-6) from rfl] <;> omega, (by unfold s_paste; rw [if_pos (by omega), if_pos (Or.inl (zq30 (by omega)))]), trivial⟩⟩
            · exfalso; omega
          · show RUN d_X8_paste 33 [(0, .inr (.inr (.inl 0))), (1, .inl a0), (2, .inl a1), (3, .inl a2), (4, .inl a3), (5, .inl a4)] [.inl x31] h _
            refine N_if_eq (a := x31.toInt) 47 rfl rfl rfl (fun c35 => ?_) (fun c35 => ?_)
            · exfalso; omega
            · refine R_aload_n (k := 0) rfl rfl rfl ?_
              refine R_getf_r (j := 6) rfl ft_8_42 sh_0 rfl ?_
              refine R_iload_n (k := 3) rfl rfl rfl ?_
              refine R_callV (v := .inr (.inr (.inl 66))) (As := [.inl a2]) (rest := []) rfl mt_8_i392 pp_X5_hasRow (by decide) rfl rfl rfl (Nat.le_of_ble_eq_true rfl) (Nat.le_of_ble_eq_true rfl) ((g_X5_hasRow h hI a2 (by omega)).mono (fun r36 h37 p38 => ?_))
              obtain ⟨rfl, x41, rfl, (q42 | q42), zq39, zq40, -⟩ := p38
              · show RUN d_X8_paste 44 [(0, .inr (.inr (.inl 0))), (1, .inl a0), (2, .inl a1), (3, .inl a2), (4, .inl a3), (5, .inl a4)] [.inl x41] h _
                refine N_if_ne (a := x41.toInt) 50 rfl rfl rfl (fun c43 => ?_) (fun c43 => ?_)
                · exfalso; omega
                · refine R_bipush (-6) rfl rfl ?_
                  have k44 : ((-6) : Int32).toInt = (-6) := by decide
                  exact R_iret rfl rfl rfl ⟨hI, fr, trivial, _, rfl, ⟨by rw [show ((-6) : Int32).toInt = (-6) from rfl] <;> omega, (by unfold s_paste; rw [if_pos (by omega), if_pos (Or.inr (zq40 (by omega)))]), trivial⟩⟩
              · show RUN d_X8_paste 44 [(0, .inr (.inr (.inl 0))), (1, .inl a0), (2, .inl a1), (3, .inl a2), (4, .inl a3), (5, .inl a4)] [.inl x41] h _
                refine N_if_ne (a := x41.toInt) 50 rfl rfl rfl (fun c45 => ?_) (fun c45 => ?_)
                · refine R_aload_n (k := 0) rfl rfl rfl ?_
                  refine R_getf_r (j := 6) rfl ft_8_42 sh_0 rfl ?_
                  refine R_getf_r (j := 2) rfl ft_8_401 sh_66 rfl ?_
                  refine R_iload_n (k := 1) rfl rfl rfl ?_
                  refine R_iald rfl sh_69 ⟨by omega, by omega⟩ ?_
                  refine N_eq (fun x46 e47 => ?_)
                  refine R_aload_n (k := 0) rfl rfl rfl ?_
                  refine R_getf_r (j := 6) rfl ft_8_42 sh_0 rfl ?_
                  refine R_getf_r (j := 2) rfl ft_8_401 sh_66 rfl ?_
                  refine R_iload_n (k := 3) rfl rfl rfl ?_
                  refine R_iald rfl sh_69 ⟨by omega, by omega⟩ ?_
                  refine N_eq (fun x48 e49 => ?_)
                  refine N_icmp_eq (a := x46.toInt) (b := x48.toInt) 74 rfl rfl rfl rfl (fun c50 => ?_) (fun c50 => ?_)
                  · refine R_aload_n (k := 0) rfl rfl rfl ?_
                    refine R_getf_r (j := 6) rfl ft_8_42 sh_0 rfl ?_
                    refine R_iload_n (k := 1) rfl rfl rfl ?_
                    refine R_iload_n (k := 2) rfl rfl rfl ?_
                    refine R_iload (k := 5) rfl rfl ?_
                    refine R_callV (v := .inr (.inr (.inl 66))) (As := [.inl a0, .inl a1, .inl a4]) (rest := []) rfl mt_8_i404 pp_X5_hasCells (by decide) rfl rfl rfl (Nat.le_of_ble_eq_true rfl) (Nat.le_of_ble_eq_true rfl) ((g_X5_hasCells h hI a0 a1 a4 (by omega)).mono (fun r51 h52 p53 => ?_))
                    obtain ⟨rfl, x56, rfl, (q57 | q57 | q57 | q57), zq54, zq55, -⟩ := p53
                    · show RUN d_X8_paste 85 [(0, .inr (.inr (.inl 0))), (1, .inl a0), (2, .inl a1), (3, .inl a2), (4, .inl a3), (5, .inl a4)] [.inl x56] h _
                      refine N_if_eq (a := x56.toInt) 103 rfl rfl rfl (fun c58 => ?_) (fun c58 => ?_)
                      · refine R_bipush (-7) rfl rfl ?_
                        have k59 : ((-7) : Int32).toInt = (-7) := by decide
                        have nc60 := zq55 (by omega)
                        exact R_iret rfl rfl rfl ⟨hI, fr, trivial, _, rfl, ⟨by rw [show ((-7) : Int32).toInt = (-7) from rfl] <;> omega, (by unfold s_paste; rw [if_pos (by omega), if_neg (fun hc => Or.elim hc (zq29 (by omega)) (zq39 (by omega))), if_pos (by rw [← e47, ← e49]; omega), if_neg (by omega)]), trivial⟩⟩
                      · exfalso; omega
                    · show RUN d_X8_paste 85 [(0, .inr (.inr (.inl 0))), (1, .inl a0), (2, .inl a1), (3, .inl a2), (4, .inl a3), (5, .inl a4)] [.inl x56] h _
                      refine N_if_eq (a := x56.toInt) 103 rfl rfl rfl (fun c61 => ?_) (fun c61 => ?_)
                      · refine R_bipush (-7) rfl rfl ?_
                        have k62 : ((-7) : Int32).toInt = (-7) := by decide
                        have nc63 := zq55 (by omega)
                        exact R_iret rfl rfl rfl ⟨hI, fr, trivial, _, rfl, ⟨by rw [show ((-7) : Int32).toInt = (-7) from rfl] <;> omega, (by unfold s_paste; rw [if_pos (by omega), if_neg (fun hc => Or.elim hc (zq29 (by omega)) (zq39 (by omega))), if_pos (by rw [← e47, ← e49]; omega), if_neg (by omega)]), trivial⟩⟩
                      · exfalso; omega
                    · show RUN d_X8_paste 85 [(0, .inr (.inr (.inl 0))), (1, .inl a0), (2, .inl a1), (3, .inl a2), (4, .inl a3), (5, .inl a4)] [.inl x56] h _
                      refine N_if_eq (a := x56.toInt) 103 rfl rfl rfl (fun c64 => ?_) (fun c64 => ?_)
                      · refine R_bipush (-7) rfl rfl ?_
                        have k65 : ((-7) : Int32).toInt = (-7) := by decide
                        have nc66 := zq55 (by omega)
                        exact R_iret rfl rfl rfl ⟨hI, fr, trivial, _, rfl, ⟨by rw [show ((-7) : Int32).toInt = (-7) from rfl] <;> omega, (by unfold s_paste; rw [if_pos (by omega), if_neg (fun hc => Or.elim hc (zq29 (by omega)) (zq39 (by omega))), if_pos (by rw [← e47, ← e49]; omega), if_neg (by omega)]), trivial⟩⟩
                      · exfalso; omega
                    · show RUN d_X8_paste 85 [(0, .inr (.inr (.inl 0))), (1, .inl a0), (2, .inl a1), (3, .inl a2), (4, .inl a3), (5, .inl a4)] [.inl x56] h _
                      refine N_if_eq (a := x56.toInt) 103 rfl rfl rfl (fun c67 => ?_) (fun c67 => ?_)
                      · exfalso; omega
                      · refine R_aload_n (k := 0) rfl rfl rfl ?_
                        refine R_getf_r (j := 6) rfl ft_8_42 sh_0 rfl ?_
                        refine R_iload_n (k := 3) rfl rfl rfl ?_
                        refine R_iload (k := 4) rfl rfl ?_
                        refine R_iload (k := 5) rfl rfl ?_
                        refine R_callV (v := .inr (.inr (.inl 66))) (As := [.inl a2, .inl a3, .inl a4]) (rest := []) rfl mt_8_i404 pp_X5_hasCells (by decide) rfl rfl rfl (Nat.le_of_ble_eq_true rfl) (Nat.le_of_ble_eq_true rfl) ((g_X5_hasCells h hI a2 a3 a4 (by omega)).mono (fun r68 h69 p70 => ?_))
                        obtain ⟨rfl, x73, rfl, (q74 | q74 | q74 | q74), zq71, zq72, -⟩ := p70
                        · show RUN d_X8_paste 100 [(0, .inr (.inr (.inl 0))), (1, .inl a0), (2, .inl a1), (3, .inl a2), (4, .inl a3), (5, .inl a4)] [.inl x73] h _
                          refine N_if_ne (a := x73.toInt) 106 rfl rfl rfl (fun c75 => ?_) (fun c75 => ?_)
                          · exfalso; omega
                          · refine R_bipush (-7) rfl rfl ?_
                            have k76 : ((-7) : Int32).toInt = (-7) := by decide
                            have nc77 := zq72 (by omega)
                            exact R_iret rfl rfl rfl ⟨hI, fr, trivial, _, rfl, ⟨by rw [show ((-7) : Int32).toInt = (-7) from rfl] <;> omega, (by unfold s_paste; rw [if_pos (by omega), if_neg (fun hc => Or.elim hc (zq29 (by omega)) (zq39 (by omega))), if_pos (by rw [← e47, ← e49]; omega), if_neg (by omega)]), trivial⟩⟩
                        · exfalso; omega
                        · show RUN d_X8_paste 100 [(0, .inr (.inr (.inl 0))), (1, .inl a0), (2, .inl a1), (3, .inl a2), (4, .inl a3), (5, .inl a4)] [.inl x73] h _
                          refine N_if_ne (a := x73.toInt) 106 rfl rfl rfl (fun c78 => ?_) (fun c78 => ?_)
                          · exfalso; omega
                          · refine R_bipush (-7) rfl rfl ?_
                            have k79 : ((-7) : Int32).toInt = (-7) := by decide
                            have nc80 := zq72 (by omega)
                            exact R_iret rfl rfl rfl ⟨hI, fr, trivial, _, rfl, ⟨by rw [show ((-7) : Int32).toInt = (-7) from rfl] <;> omega, (by unfold s_paste; rw [if_pos (by omega), if_neg (fun hc => Or.elim hc (zq29 (by omega)) (zq39 (by omega))), if_pos (by rw [← e47, ← e49]; omega), if_neg (by omega)]), trivial⟩⟩
                        · show RUN d_X8_paste 100 [(0, .inr (.inr (.inl 0))), (1, .inl a0), (2, .inl a1), (3, .inl a2), (4, .inl a3), (5, .inl a4)] [.inl x73] h _
                          refine N_if_ne (a := x73.toInt) 106 rfl rfl rfl (fun c81 => ?_) (fun c81 => ?_)
                          · refine R_aload_n (k := 0) rfl rfl rfl ?_
                            refine R_getf_r (j := 6) rfl ft_8_42 sh_0 rfl ?_
                            refine R_iload_n (k := 1) rfl rfl rfl ?_
                            refine R_iload_n (k := 2) rfl rfl rfl ?_
                            refine R_iload_n (k := 3) rfl rfl rfl ?_
                            refine R_iload (k := 4) rfl rfl ?_
                            refine R_iload (k := 5) rfl rfl ?_
                            refine R_callV (v := .inr (.inr (.inl 66))) (As := [.inl a0, .inl a1, .inl a2, .inl a3, .inl a4]) (rest := []) rfl mt_8_i408 pp_X5_copyCells (by decide) rfl rfl rfl (Nat.le_of_ble_eq_true rfl) (Nat.le_of_ble_eq_true rfl) ((k_X5_copyCells h hI a0 a1 a2 a3 a4 (by omega) (by omega) (by omega) (by omega) (by omega) (by omega) (by omega)).mono (fun r82 h83 p84 => ?_))
                            obtain ⟨hJ, fj, -, rfl⟩ := p84
                            have f85 := fj
                            have fr := fr.trans fj (by decide)
                            have hI := hJ
                            show RUN d_X8_paste 120 [(0, .inr (.inr (.inl 0))), (1, .inl a0), (2, .inl a1), (3, .inl a2), (4, .inl a3), (5, .inl a4)] [] h83 _
                            refine R_iconst 0 rfl rfl ?_
                            have k86 : (0 : Int32).toInt = 0 := by decide
                            have nc87 := zq54 (by omega)
                            have nc88 := zq71 (by omega)
                            exact R_iret rfl rfl rfl ⟨hI, fr, trivial, _, rfl, ⟨by rw [show (0 : Int32).toInt = 0 from rfl] <;> omega, (by unfold s_paste; rw [if_pos (by omega), if_neg (fun hc => Or.elim hc (zq29 (by omega)) (zq39 (by omega))), if_pos (by rw [← e47, ← e49]; omega), if_pos (by omega)]), trivial⟩⟩
                          · exfalso; omega
                  · refine R_bipush (-8) rfl rfl ?_
                    have k89 : ((-8) : Int32).toInt = (-8) := by decide
                    exact R_iret rfl rfl rfl ⟨hI, fr, trivial, _, rfl, ⟨by rw [show ((-8) : Int32).toInt = (-8) from rfl] <;> omega, (by unfold s_paste; rw [if_pos (by omega), if_neg (fun hc => Or.elim hc (zq29 (by omega)) (zq39 (by omega))), if_neg (by rw [← e47, ← e49]; omega)]), trivial⟩⟩
                · exfalso; omega
        · exfalso; omega
