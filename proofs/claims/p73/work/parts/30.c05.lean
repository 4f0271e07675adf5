abbrev q_X8_rests (h : PH) (a0 : Int32) (a1 : Int32) : Option PV → PH → Prop := fun r h' => INV h' ∧ FR [70, 71, 72, 73, 74] h h' ∧ ∃ z : Int32, r = some (.inl z) ∧ ((True))
set_option maxHeartbeats 4000000 in
set_option maxRecDepth 100000 in
theorem k_X8_rests (h : PH) (hI : INV h) (a0 : Int32) (a1 : Int32) : CALL d_X8_rests [.inr (.inr (.inl 0)), .inl a0, .inl a1] h (q_X8_rests h a0 a1) := by
  show RUN d_X8_rests 0 [(0, .inr (.inr (.inl 0))), (1, .inl a0), (2, .inl a1)] [] h _
  have b1 := i_rng a0
  have b2 := i_rng a1
  have fr : FR [70, 71, 72, 73, 74] h h := FR.rf _ _
  refine R_aload_n (k := 0) rfl rfl rfl ?_
  refine R_getf_r (j := 3) rfl ft_8_28 sh_0 rfl ?_
  refine R_iload_n (k := 1) rfl rfl rfl ?_
  refine R_callV (v := .inr (.inr (.inl 16))) (As := [.inl a0]) (rest := []) rfl mt_8_i119 pp_X1_hasHand (by decide) rfl rfl rfl (Nat.le_of_ble_eq_true rfl) (Nat.le_of_ble_eq_true rfl) ((k_X1_hasHand h hI a0).mono (fun r3 h4 p5 => ?_))
  obtain ⟨rfl, x6, rfl, q7 | q7 | q7⟩ := p5
  · show RUN d_X8_rests 8 [(0, .inr (.inr (.inl 0))), (1, .inl a0), (2, .inl a1)] [.inl x6] h _
    refine N_if_eq (a := x6.toInt) 27 rfl rfl rfl (fun c8 => ?_) (fun c8 => ?_)
    · refine R_bipush (-2) rfl rfl ?_
      exact R_iret rfl rfl rfl ⟨hI, fr, _, rfl, trivial⟩
    · exfalso; omega
  · have b9 : (0 : Int) ≤ (h.1 17 5).toInt ∧ (h.1 17 5).toInt ≤ 6 := hI.1 17 5
    show RUN d_X8_rests 8 [(0, .inr (.inr (.inl 0))), (1, .inl a0), (2, .inl a1)] [.inl x6] h _
    refine N_if_eq (a := x6.toInt) 27 rfl rfl rfl (fun c10 => ?_) (fun c10 => ?_)
    · refine R_bipush (-2) rfl rfl ?_
      exact R_iret rfl rfl rfl ⟨hI, fr, _, rfl, trivial⟩
    · exfalso; omega
  · have b11 : (0 : Int) ≤ (h.1 17 5).toInt ∧ (h.1 17 5).toInt ≤ 6 := hI.1 17 5
    show RUN d_X8_rests 8 [(0, .inr (.inr (.inl 0))), (1, .inl a0), (2, .inl a1)] [.inl x6] h _
    refine N_if_eq (a := x6.toInt) 27 rfl rfl rfl (fun c12 => ?_) (fun c12 => ?_)
    · exfalso; omega
    · refine R_aload_n (k := 0) rfl rfl rfl ?_
      refine R_getf_r (j := 3) rfl ft_8_28 sh_0 rfl ?_
      refine R_iload_n (k := 2) rfl rfl rfl ?_
      refine R_callV (v := .inr (.inr (.inl 16))) (As := [.inl a1]) (rest := []) rfl mt_8_i119 pp_X1_hasHand (by decide) rfl rfl rfl (Nat.le_of_ble_eq_true rfl) (Nat.le_of_ble_eq_true rfl) ((k_X1_hasHand h hI a1).mono (fun r13 h14 p15 => ?_))
      obtain ⟨rfl, x16, rfl, q17 | q17 | q17⟩ := p15
      · show RUN d_X8_rests 19 [(0, .inr (.inr (.inl 0))), (1, .inl a0), (2, .inl a1)] [.inl x16] h _
        refine N_if_eq (a := x16.toInt) 27 rfl rfl rfl (fun c18 => ?_) (fun c18 => ?_)
        · refine R_bipush (-2) rfl rfl ?_
          exact R_iret rfl rfl rfl ⟨hI, fr, _, rfl, trivial⟩
        · exfalso; omega
      · show RUN d_X8_rests 19 [(0, .inr (.inr (.inl 0))), (1, .inl a0), (2, .inl a1)] [.inl x16] h _
        refine N_if_eq (a := x16.toInt) 27 rfl rfl rfl (fun c19 => ?_) (fun c19 => ?_)
        · refine R_bipush (-2) rfl rfl ?_
          exact R_iret rfl rfl rfl ⟨hI, fr, _, rfl, trivial⟩
        · exfalso; omega
      · show RUN d_X8_rests 19 [(0, .inr (.inr (.inl 0))), (1, .inl a0), (2, .inl a1)] [.inl x16] h _
        refine N_if_eq (a := x16.toInt) 27 rfl rfl rfl (fun c20 => ?_) (fun c20 => ?_)
        · exfalso; omega
        · refine R_iload_n (k := 1) rfl rfl rfl ?_
          refine R_iload_n (k := 2) rfl rfl rfl ?_
          refine N_icmp_ne (a := a0.toInt) (b := a1.toInt) 30 rfl rfl rfl rfl (fun c21 => ?_) (fun c21 => ?_)
          · refine R_iconst 0 rfl rfl ?_
            refine R_istore_n (k := 3) rfl [(3, .inl 0), (0, .inr (.inr (.inl 0))), (1, .inl a0), (2, .inl a1)] rfl rfl (by decide) ?_
            refine R_iconst 0 rfl rfl ?_
            refine R_istore (k := 4) [(4, .inl 0), (3, .inl 0), (0, .inr (.inr (.inl 0))), (1, .inl a0), (2, .inl a1)] rfl rfl (by decide) ?_
            have lp23 : ∀ (n22 : Nat) (h24 : PH) (x26 : Int32) (x27 : Int32), INV h24 → FR [70, 71, 72, 73, 74] h h24 → FR [70, 71, 72, 73, 74] h h24 → 0 ≤ x27.toInt ∧ x27.toInt ≤ 4 → (4 - x27.toInt).toNat < n22 → RUN d_X8_rests 35 [(4, .inl x27), (3, .inl x26), (0, .inr (.inr (.inl 0))), (1, .inl a0), (2, .inl a1)] [] h24 (q_X8_rests h a0 a1) := by
              intro n22
              induction n22 with
              | zero => intro h24 x26 x27 m29 m30 m31 m32 hz; exact absurd hz (Nat.not_lt_zero _)
              | succ n22 ih28 =>
                intro h24 x26 x27 hI fr fl25 m32 hz
                have s33 : (h24.1 17 5).toInt = (h.1 17 5).toInt := by rw [(fl25 17 (by decide)).1]
                refine R_iload (k := 4) rfl rfl ?_
                refine R_iconst 4 rfl rfl ?_
                refine N_icmp_ge (a := x27.toInt) (b := 4) 128 rfl rfl rfl (by decide) (fun c34 => ?_) (fun c34 => ?_)
                · refine R_iload_n (k := 3) rfl rfl rfl ?_
                  exact R_iret rfl rfl rfl ⟨hI, fr, _, rfl, trivial⟩
                · refine R_iload (k := 4) rfl rfl ?_
                  refine R_iconst 1 rfl rfl ?_
                  refine N_iand (b := 1) rfl (by decide) (by omega) (fun x35 q36 => ?_)
                  refine R_istore (k := 5) [(5, .inl x35), (4, .inl x27), (3, .inl x26), (0, .inr (.inr (.inl 0))), (1, .inl a0), (2, .inl a1)] rfl rfl (by decide) ?_
                  refine R_iload (k := 4) rfl rfl ?_
                  refine R_iconst 1 rfl rfl ?_
                  refine R_ishr rfl ?_
                  refine N_any (fun x37 => ?_)
                  refine R_istore (k := 6) [(6, .inl x37), (5, .inl x35), (4, .inl x27), (3, .inl x26), (0, .inr (.inr (.inl 0))), (1, .inl a0), (2, .inl a1)] rfl rfl (by decide) ?_
                  refine R_aload_n (k := 0) rfl rfl rfl ?_
                  refine R_iload_n (k := 1) rfl rfl rfl ?_
                  refine R_iload_n (k := 2) rfl rfl rfl ?_
                  refine R_iload (k := 5) rfl rfl ?_
                  refine R_iload (k := 6) rfl rfl ?_
                  refine R_callV (v := .inr (.inr (.inl 0))) (As := [.inl a0, .inl a1, .inl x35, .inl x37]) (rest := []) rfl mt_8_i338 pp_X8_getsBy (by decide) rfl rfl rfl (Nat.le_of_ble_eq_true rfl) (Nat.le_of_ble_eq_true rfl) ((k_X8_getsBy h24 hI a0 a1 x35 x37 (by omega) (by omega)).mono (fun r38 h39 p40 => ?_))
                  obtain ⟨hJ, fj, x41, rfl, q42⟩ := p40
                  have f43 := fj
                  have fr := fr.trans fj (by decide)
                  have hI := hJ
                  have fl25 : FR [70, 71, 72, 73, 74] h h39 := fl25.trans fj (by decide)
                  have s44 : (h39.1 17 5).toInt = (h24.1 17 5).toInt := by rw [(f43 17 (by decide)).1]
                  show RUN d_X8_rests 63 [(6, .inl x37), (5, .inl x35), (4, .inl x27), (3, .inl x26), (0, .inr (.inr (.inl 0))), (1, .inl a0), (2, .inl a1)] [.inl x41] h39 _
                  refine R_aload_n (k := 0) rfl rfl rfl ?_
                  refine R_iload_n (k := 1) rfl rfl rfl ?_
                  refine R_iload_n (k := 2) rfl rfl rfl ?_
                  refine R_iconst 1 rfl rfl ?_
                  refine R_iload (k := 5) rfl rfl ?_
                  refine N_isub (a := 1) (b := x35.toInt) rfl (by decide) rfl (by omega) (fun x45 q46 => ?_)
                  refine R_iload (k := 6) rfl rfl ?_
                  refine R_callV (v := .inr (.inr (.inl 0))) (As := [.inl a0, .inl a1, .inl x45, .inl x37]) (rest := [.inl x41]) rfl mt_8_i338 pp_X8_getsBy (by decide) rfl rfl rfl (Nat.le_of_ble_eq_true rfl) (Nat.le_of_ble_eq_true rfl) ((k_X8_getsBy h39 hI a0 a1 x45 x37 (by omega) (by omega)).mono (fun r47 h48 p49 => ?_))
                  obtain ⟨hJ, fj, x50, rfl, q51⟩ := p49
                  have f52 := fj
                  have fr := fr.trans fj (by decide)
                  have hI := hJ
                  have fl25 : FR [70, 71, 72, 73, 74] h h48 := fl25.trans fj (by decide)
                  have s53 : (h48.1 17 5).toInt = (h39.1 17 5).toInt := by rw [(f52 17 (by decide)).1]
                  show RUN d_X8_rests 75 [(6, .inl x37), (5, .inl x35), (4, .inl x27), (3, .inl x26), (0, .inr (.inr (.inl 0))), (1, .inl a0), (2, .inl a1)] [.inl x50, .inl x41] h48 _
                  refine N_icmp_lt (a := x41.toInt) (b := x50.toInt) 107 rfl rfl rfl rfl (fun c54 => ?_) (fun c54 => ?_)
                  · refine R_iconst 0 rfl rfl ?_
                    refine R_istore (k := 7) [(7, .inl 0), (6, .inl x37), (5, .inl x35), (4, .inl x27), (3, .inl x26), (0, .inr (.inr (.inl 0))), (1, .inl a0), (2, .inl a1)] rfl rfl (by decide) ?_
                    refine R_iload (k := 7) rfl rfl ?_
                    refine N_if_eq (a := 0) 122 rfl rfl (by decide) (fun c55 => ?_) (fun c55 => ?_)
                    · refine N_iinc (a := x27.toInt) (c := 1) (fun w => [(4, .inl w), (7, .inl 0), (6, .inl x37), (5, .inl x35), (3, .inl x26), (0, .inr (.inr (.inl 0))), (1, .inl a0), (2, .inl a1)]) rfl rfl (fun _ => rfl) (by decide) rfl (by decide) (by omega) (fun x56 q57 => ?_)
                      refine R_goto 35 rfl rfl ?_
                      exact RUN_weak (psub_cons rfl (psub_cons rfl (psub_cons rfl (psub_cons rfl (psub_cons rfl (psub_nil _)))))) (ih28 h48 x26 x56 hI fr fl25 (by omega) (by omega))
                    · exfalso; omega
                  · refine R_aload_n (k := 0) rfl rfl rfl ?_
                    refine R_iload_n (k := 2) rfl rfl rfl ?_
                    refine R_iload_n (k := 1) rfl rfl rfl ?_
                    refine R_iload (k := 6) rfl rfl ?_
                    refine R_iload (k := 5) rfl rfl ?_
                    refine R_callV (v := .inr (.inr (.inl 0))) (As := [.inl a1, .inl a0, .inl x37, .inl x35]) (rest := []) rfl mt_8_i338 pp_X8_getsBy (by decide) rfl rfl rfl (Nat.le_of_ble_eq_true rfl) (Nat.le_of_ble_eq_true rfl) ((k_X8_getsBy h48 hI a1 a0 x37 x35 (by omega) (by omega)).mono (fun r58 h59 p60 => ?_))
                    obtain ⟨hJ, fj, x61, rfl, q62⟩ := p60
                    have f63 := fj
                    have fr := fr.trans fj (by decide)
                    have hI := hJ
                    have fl25 : FR [70, 71, 72, 73, 74] h h59 := fl25.trans fj (by decide)
                    have s64 : (h59.1 17 5).toInt = (h48.1 17 5).toInt := by rw [(f63 17 (by decide)).1]
                    show RUN d_X8_rests 88 [(6, .inl x37), (5, .inl x35), (4, .inl x27), (3, .inl x26), (0, .inr (.inr (.inl 0))), (1, .inl a0), (2, .inl a1)] [.inl x61] h59 _
                    refine R_aload_n (k := 0) rfl rfl rfl ?_
                    refine R_iload_n (k := 2) rfl rfl rfl ?_
                    refine R_iload_n (k := 1) rfl rfl rfl ?_
                    refine R_iconst 1 rfl rfl ?_
                    refine R_iload (k := 6) rfl rfl ?_
                    have b65 := i_rng x37
                    refine R_isub rfl ?_
                    refine N_any (fun x66 => ?_)
                    refine R_iload (k := 5) rfl rfl ?_
                    refine R_callV (v := .inr (.inr (.inl 0))) (As := [.inl a1, .inl a0, .inl x66, .inl x35]) (rest := [.inl x61]) rfl mt_8_i338 pp_X8_getsBy (by decide) rfl rfl rfl (Nat.le_of_ble_eq_true rfl) (Nat.le_of_ble_eq_true rfl) ((k_X8_getsBy h59 hI a1 a0 x66 x35 (by omega) (by omega)).mono (fun r67 h68 p69 => ?_))
                    obtain ⟨hJ, fj, x70, rfl, q71⟩ := p69
                    have f72 := fj
                    have fr := fr.trans fj (by decide)
                    have hI := hJ
                    have fl25 : FR [70, 71, 72, 73, 74] h h68 := fl25.trans fj (by decide)
                    have s73 : (h68.1 17 5).toInt = (h59.1 17 5).toInt := by rw [(f72 17 (by decide)).1]
                    show RUN d_X8_rests 100 [(6, .inl x37), (5, .inl x35), (4, .inl x27), (3, .inl x26), (0, .inr (.inr (.inl 0))), (1, .inl a0), (2, .inl a1)] [.inl x70, .inl x61] h68 _
                    refine N_icmp_lt (a := x61.toInt) (b := x70.toInt) 107 rfl rfl rfl rfl (fun c74 => ?_) (fun c74 => ?_)
                    · refine R_iconst 0 rfl rfl ?_
                      refine R_istore (k := 7) [(7, .inl 0), (6, .inl x37), (5, .inl x35), (4, .inl x27), (3, .inl x26), (0, .inr (.inr (.inl 0))), (1, .inl a0), (2, .inl a1)] rfl rfl (by decide) ?_
                      refine R_iload (k := 7) rfl rfl ?_
                      refine N_if_eq (a := 0) 122 rfl rfl (by decide) (fun c75 => ?_) (fun c75 => ?_)
                      · refine N_iinc (a := x27.toInt) (c := 1) (fun w => [(4, .inl w), (7, .inl 0), (6, .inl x37), (5, .inl x35), (3, .inl x26), (0, .inr (.inr (.inl 0))), (1, .inl a0), (2, .inl a1)]) rfl rfl (fun _ => rfl) (by decide) rfl (by decide) (by omega) (fun x76 q77 => ?_)
                        refine R_goto 35 rfl rfl ?_
                        exact RUN_weak (psub_cons rfl (psub_cons rfl (psub_cons rfl (psub_cons rfl (psub_cons rfl (psub_nil _)))))) (ih28 h68 x26 x76 hI fr fl25 (by omega) (by omega))
                      · exfalso; omega
                    · refine R_iconst 1 rfl rfl ?_
                      refine R_goto 108 rfl rfl ?_
                      refine R_istore (k := 7) [(7, .inl 1), (6, .inl x37), (5, .inl x35), (4, .inl x27), (3, .inl x26), (0, .inr (.inr (.inl 0))), (1, .inl a0), (2, .inl a1)] rfl rfl (by decide) ?_
                      refine R_iload (k := 7) rfl rfl ?_
                      refine N_if_eq (a := 1) 122 rfl rfl (by decide) (fun c78 => ?_) (fun c78 => ?_)
                      · exfalso; omega
                      · refine R_iload_n (k := 3) rfl rfl rfl ?_
                        refine R_iconst 1 rfl rfl ?_
                        refine R_iload (k := 4) rfl rfl ?_
                        refine N_ishl1 (b := x27.toInt) rfl rfl (by omega) (fun x79 q80 => ?_)
                        refine R_ior rfl ?_
                        refine N_any (fun x81 => ?_)
                        refine R_istore_n (k := 3) rfl [(3, .inl x81), (7, .inl 1), (6, .inl x37), (5, .inl x35), (4, .inl x27), (0, .inr (.inr (.inl 0))), (1, .inl a0), (2, .inl a1)] rfl rfl (by decide) ?_
                        refine N_iinc (a := x27.toInt) (c := 1) (fun w => [(4, .inl w), (3, .inl x81), (7, .inl 1), (6, .inl x37), (5, .inl x35), (0, .inr (.inr (.inl 0))), (1, .inl a0), (2, .inl a1)]) rfl rfl (fun _ => rfl) (by decide) rfl (by decide) (by omega) (fun x82 q83 => ?_)
                        refine R_goto 35 rfl rfl ?_
                        exact RUN_weak (psub_cons rfl (psub_cons rfl (psub_cons rfl (psub_cons rfl (psub_cons rfl (psub_nil _)))))) (ih28 h68 x81 x82 hI fr fl25 (by omega) (by omega))
            exact lp23 _ h (0 : Int32) (0 : Int32) hI fr (FR.rf _ _) (by decide) (Nat.lt_succ_self _)
          · refine R_bipush (-2) rfl rfl ?_
            exact R_iret rfl rfl rfl ⟨hI, fr, _, rfl, trivial⟩
abbrev q_X9_areTwo (h : PH) (a0 : Int32) (a1 : Int32) : Option PV → PH → Prop := fun r h' => h = h' ∧ ∃ z : Int32, r = some (.inl z) ∧ ((z.toInt = 0 ∧ a0.toInt ≤ (-1)) ∨ (z.toInt = 0 ∧ 0 ≤ a0.toInt ∧ (h.1 97 5).toInt ≤ a0.toInt + 0) ∨ (z.toInt = 0 ∧ 0 ≤ a0.toInt ∧ a0.toInt ≤ 5 ∧ a1.toInt ≤ (-1) ∧ 1 ≤ (h.1 97 5).toInt ∧ (h.1 97 5).toInt ≤ 6 ∧ a0.toInt ≤ (h.1 97 5).toInt + (-1)) ∨ (z.toInt = 0 ∧ 0 ≤ a0.toInt ∧ a0.toInt ≤ 5 ∧ 1 ≤ a1.toInt ∧ 1 ≤ (h.1 97 5).toInt ∧ (h.1 97 5).toInt ≤ 6 ∧ a0.toInt ≤ (h.1 97 5).toInt + (-1) ∧ (h.1 97 5).toInt ≤ a1.toInt + 0) ∨ (z.toInt = 0 ∧ 0 ≤ a0.toInt ∧ a0.toInt ≤ 5 ∧ 0 ≤ a1.toInt ∧ a1.toInt ≤ 5 ∧ 1 ≤ (h.1 97 5).toInt ∧ (h.1 97 5).toInt ≤ 6 ∧ a0.toInt ≤ (h.1 97 5).toInt + (-1) ∧ a1.toInt ≤ (h.1 97 5).toInt + (-1)) ∨ (z.toInt = 1 ∧ 0 ≤ a0.toInt ∧ a0.toInt ≤ 5 ∧ 0 ≤ a1.toInt ∧ a1.toInt ≤ 5 ∧ 1 ≤ (h.1 97 5).toInt ∧ (h.1 97 5).toInt ≤ 6 ∧ a0.toInt ≤ (h.1 97 5).toInt + (-1) ∧ a1.toInt ≤ (h.1 97 5).toInt + (-1)))
set_option maxHeartbeats 4000000 in
set_option maxRecDepth 100000 in
theorem k_X9_areTwo (h : PH) (hI : INV h) (a0 : Int32) (a1 : Int32) : CALL d_X9_areTwo [.inr (.inr (.inl 96)), .inl a0, .inl a1] h (q_X9_areTwo h a0 a1) := by
  show RUN d_X9_areTwo 0 [(0, .inr (.inr (.inl 96))), (1, .inl a0), (2, .inl a1)] [] h _
  have b1 := i_rng a0
  have b2 := i_rng a1
  refine R_aload_n (k := 0) rfl rfl rfl ?_
  refine R_iload_n (k := 1) rfl rfl rfl ?_
  refine R_callV (v := .inr (.inr (.inl 96))) (As := [.inl a0]) (rest := []) rfl mt_9_i314 pp_X9_isHand (by decide) rfl rfl rfl (Nat.le_of_ble_eq_true rfl) (Nat.le_of_ble_eq_true rfl) ((k_X9_isHand h hI a0).mono (fun r3 h4 p5 => ?_))
  obtain ⟨rfl, x6, rfl, q7 | q7 | q7⟩ := p5
  · show RUN d_X9_areTwo 5 [(0, .inr (.inr (.inl 96))), (1, .inl a0), (2, .inl a1)] [.inl x6] h _
    refine N_if_eq (a := x6.toInt) 25 rfl rfl rfl (fun c8 => ?_) (fun c8 => ?_)
    · refine R_iconst 0 rfl rfl ?_
      exact R_iret rfl rfl rfl ⟨rfl, _, rfl, by rw [show (0 : Int32).toInt = 0 from rfl]; omega⟩
    · exfalso; omega
  · have b9 : (0 : Int) ≤ (h.1 97 5).toInt ∧ (h.1 97 5).toInt ≤ 6 := hI.1 97 5
    show RUN d_X9_areTwo 5 [(0, .inr (.inr (.inl 96))), (1, .inl a0), (2, .inl a1)] [.inl x6] h _
    refine N_if_eq (a := x6.toInt) 25 rfl rfl rfl (fun c10 => ?_) (fun c10 => ?_)
    · refine R_iconst 0 rfl rfl ?_
      exact R_iret rfl rfl rfl ⟨rfl, _, rfl, by rw [show (0 : Int32).toInt = 0 from rfl]; omega⟩
    · exfalso; omega
  · have b11 : (0 : Int) ≤ (h.1 97 5).toInt ∧ (h.1 97 5).toInt ≤ 6 := hI.1 97 5
    show RUN d_X9_areTwo 5 [(0, .inr (.inr (.inl 96))), (1, .inl a0), (2, .inl a1)] [.inl x6] h _
    refine N_if_eq (a := x6.toInt) 25 rfl rfl rfl (fun c12 => ?_) (fun c12 => ?_)
    · exfalso; omega
    · refine R_aload_n (k := 0) rfl rfl rfl ?_
      refine R_iload_n (k := 2) rfl rfl rfl ?_
      refine R_callV (v := .inr (.inr (.inl 96))) (As := [.inl a1]) (rest := []) rfl mt_9_i314 pp_X9_isHand (by decide) rfl rfl rfl (Nat.le_of_ble_eq_true rfl) (Nat.le_of_ble_eq_true rfl) ((k_X9_isHand h hI a1).mono (fun r13 h14 p15 => ?_))
      obtain ⟨rfl, x16, rfl, q17 | q17 | q17⟩ := p15
      · show RUN d_X9_areTwo 13 [(0, .inr (.inr (.inl 96))), (1, .inl a0), (2, .inl a1)] [.inl x16] h _
        refine N_if_eq (a := x16.toInt) 25 rfl rfl rfl (fun c18 => ?_) (fun c18 => ?_)
        · refine R_iconst 0 rfl rfl ?_
          exact R_iret rfl rfl rfl ⟨rfl, _, rfl, by rw [show (0 : Int32).toInt = 0 from rfl]; omega⟩
        · exfalso; omega
      · show RUN d_X9_areTwo 13 [(0, .inr (.inr (.inl 96))), (1, .inl a0), (2, .inl a1)] [.inl x16] h _
        refine N_if_eq (a := x16.toInt) 25 rfl rfl rfl (fun c19 => ?_) (fun c19 => ?_)
        · refine R_iconst 0 rfl rfl ?_
          exact R_iret rfl rfl rfl ⟨rfl, _, rfl, by rw [show (0 : Int32).toInt = 0 from rfl]; omega⟩
        · exfalso; omega
      · show RUN d_X9_areTwo 13 [(0, .inr (.inr (.inl 96))), (1, .inl a0), (2, .inl a1)] [.inl x16] h _
        refine N_if_eq (a := x16.toInt) 25 rfl rfl rfl (fun c20 => ?_) (fun c20 => ?_)
        · exfalso; omega
        · refine R_iload_n (k := 1) rfl rfl rfl ?_
          refine R_iload_n (k := 2) rfl rfl rfl ?_
          refine N_icmp_eq (a := a0.toInt) (b := a1.toInt) 25 rfl rfl rfl rfl (fun c21 => ?_) (fun c21 => ?_)
          · refine R_iconst 0 rfl rfl ?_
            exact R_iret rfl rfl rfl ⟨rfl, _, rfl, by rw [show (0 : Int32).toInt = 0 from rfl]; omega⟩
          · refine R_iconst 1 rfl rfl ?_
            refine R_goto 26 rfl rfl ?_
            exact R_iret rfl rfl rfl ⟨rfl, _, rfl, by rw [show (1 : Int32).toInt = 1 from rfl]; omega⟩
abbrev q_X8_gets (h : PH) (a0 : Int32) (a1 : Int32) (a2 : Int32) (a3 : Int32) : Option PV → PH → Prop := fun r h' => INV h' ∧ FR [70, 71, 72, 73, 74] h h' ∧ ∃ z : Int32, r = some (.inl z) ∧ ((True))
set_option maxHeartbeats 4000000 in
set_option maxRecDepth 100000 in
theorem k_X8_gets (h : PH) (hI : INV h) (a0 : Int32) (a1 : Int32) (a2 : Int32) (a3 : Int32) : CALL d_X8_gets [.inr (.inr (.inl 0)), .inl a0, .inl a1, .inl a2, .inl a3] h (q_X8_gets h a0 a1 a2 a3) := by
  show RUN d_X8_gets 0 [(0, .inr (.inr (.inl 0))), (1, .inl a0), (2, .inl a1), (3, .inl a2), (4, .inl a3)] [] h _
  have b1 := i_rng a0
  have b2 := i_rng a1
  have b3 := i_rng a2
  have b4 := i_rng a3
  have fr : FR [70, 71, 72, 73, 74] h h := FR.rf _ _
  refine R_aload_n (k := 0) rfl rfl rfl ?_
  refine R_getf_r (j := 3) rfl ft_8_28 sh_0 rfl ?_
  refine R_iload_n (k := 1) rfl rfl rfl ?_
  refine R_callV (v := .inr (.inr (.inl 16))) (As := [.inl a0]) (rest := []) rfl mt_8_i119 pp_X1_hasHand (by decide) rfl rfl rfl (Nat.le_of_ble_eq_true rfl) (Nat.le_of_ble_eq_true rfl) ((k_X1_hasHand h hI a0).mono (fun r5 h6 p7 => ?_))
  obtain ⟨rfl, x8, rfl, q9 | q9 | q9⟩ := p7
  · show RUN d_X8_gets 8 [(0, .inr (.inr (.inl 0))), (1, .inl a0), (2, .inl a1), (3, .inl a2), (4, .inl a3)] [.inl x8] h _
    refine N_if_eq (a := x8.toInt) 42 rfl rfl rfl (fun c10 => ?_) (fun c10 => ?_)
    · refine R_sipush (-1000) rfl rfl ?_
      exact R_iret rfl rfl rfl ⟨hI, fr, _, rfl, trivial⟩
    · exfalso; omega
  · have b11 : (0 : Int) ≤ (h.1 17 5).toInt ∧ (h.1 17 5).toInt ≤ 6 := hI.1 17 5
    show RUN d_X8_gets 8 [(0, .inr (.inr (.inl 0))), (1, .inl a0), (2, .inl a1), (3, .inl a2), (4, .inl a3)] [.inl x8] h _
    refine N_if_eq (a := x8.toInt) 42 rfl rfl rfl (fun c12 => ?_) (fun c12 => ?_)
    · refine R_sipush (-1000) rfl rfl ?_
      exact R_iret rfl rfl rfl ⟨hI, fr, _, rfl, trivial⟩
    · exfalso; omega
  · have b13 : (0 : Int) ≤ (h.1 17 5).toInt ∧ (h.1 17 5).toInt ≤ 6 := hI.1 17 5
    show RUN d_X8_gets 8 [(0, .inr (.inr (.inl 0))), (1, .inl a0), (2, .inl a1), (3, .inl a2), (4, .inl a3)] [.inl x8] h _
    refine N_if_eq (a := x8.toInt) 42 rfl rfl rfl (fun c14 => ?_) (fun c14 => ?_)
    · exfalso; omega
    · refine R_aload_n (k := 0) rfl rfl rfl ?_
      refine R_getf_r (j := 3) rfl ft_8_28 sh_0 rfl ?_
      refine R_iload_n (k := 2) rfl rfl rfl ?_
      refine R_callV (v := .inr (.inr (.inl 16))) (As := [.inl a1]) (rest := []) rfl mt_8_i119 pp_X1_hasHand (by decide) rfl rfl rfl (Nat.le_of_ble_eq_true rfl) (Nat.le_of_ble_eq_true rfl) ((k_X1_hasHand h hI a1).mono (fun r15 h16 p17 => ?_))
      obtain ⟨rfl, x18, rfl, q19 | q19 | q19⟩ := p17
      · show RUN d_X8_gets 19 [(0, .inr (.inr (.inl 0))), (1, .inl a0), (2, .inl a1), (3, .inl a2), (4, .inl a3)] [.inl x18] h _
        refine N_if_eq (a := x18.toInt) 42 rfl rfl rfl (fun c20 => ?_) (fun c20 => ?_)
        · refine R_sipush (-1000) rfl rfl ?_
          exact R_iret rfl rfl rfl ⟨hI, fr, _, rfl, trivial⟩
        · exfalso; omega
      · show RUN d_X8_gets 19 [(0, .inr (.inr (.inl 0))), (1, .inl a0), (2, .inl a1), (3, .inl a2), (4, .inl a3)] [.inl x18] h _
        refine N_if_eq (a := x18.toInt) 42 rfl rfl rfl (fun c21 => ?_) (fun c21 => ?_)
        · refine R_sipush (-1000) rfl rfl ?_
          exact R_iret rfl rfl rfl ⟨hI, fr, _, rfl, trivial⟩
        · exfalso; omega
      · show RUN d_X8_gets 19 [(0, .inr (.inr (.inl 0))), (1, .inl a0), (2, .inl a1), (3, .inl a2), (4, .inl a3)] [.inl x18] h _
        refine N_if_eq (a := x18.toInt) 42 rfl rfl rfl (fun c22 => ?_) (fun c22 => ?_)
        · exfalso; omega
        · refine R_iload_n (k := 1) rfl rfl rfl ?_
          refine R_iload_n (k := 2) rfl rfl rfl ?_
          refine N_icmp_eq (a := a0.toInt) (b := a1.toInt) 42 rfl rfl rfl rfl (fun c23 => ?_) (fun c23 => ?_)
          · refine R_sipush (-1000) rfl rfl ?_
            exact R_iret rfl rfl rfl ⟨hI, fr, _, rfl, trivial⟩
          · refine R_iload_n (k := 3) rfl rfl rfl ?_
            refine R_callS (As := [.inl a2]) (rest := []) rfl mt_8_i122 (by decide) pp_X8_isEither (by decide) rfl rfl (Nat.le_of_ble_eq_true rfl) (Nat.le_of_ble_eq_true rfl) ((k_X8_isEither h hI a2).mono (fun r24 h25 p26 => ?_))
            obtain ⟨rfl, x27, rfl, q28 | q28 | q28⟩ := p26
            · show RUN d_X8_gets 31 [(0, .inr (.inr (.inl 0))), (1, .inl a0), (2, .inl a1), (3, .inl a2), (4, .inl a3)] [.inl x27] h _
              refine N_if_eq (a := x27.toInt) 42 rfl rfl rfl (fun c29 => ?_) (fun c29 => ?_)
              · exfalso; omega
              · refine R_iload (k := 4) rfl rfl ?_
                refine R_callS (As := [.inl a3]) (rest := []) rfl mt_8_i122 (by decide) pp_X8_isEither (by decide) rfl rfl (Nat.le_of_ble_eq_true rfl) (Nat.le_of_ble_eq_true rfl) ((k_X8_isEither h hI a3).mono (fun r30 h31 p32 => ?_))
                obtain ⟨rfl, x33, rfl, q34 | q34 | q34⟩ := p32
                · show RUN d_X8_gets 39 [(0, .inr (.inr (.inl 0))), (1, .inl a0), (2, .inl a1), (3, .inl a2), (4, .inl a3)] [.inl x33] h _
                  refine N_if_ne (a := x33.toInt) 46 rfl rfl rfl (fun c35 => ?_) (fun c35 => ?_)
                  · refine R_aload_n (k := 0) rfl rfl rfl ?_
                    refine R_iload_n (k := 1) rfl rfl rfl ?_
                    refine R_iload_n (k := 2) rfl rfl rfl ?_
                    refine R_iload_n (k := 3) rfl rfl rfl ?_
                    refine R_iload (k := 4) rfl rfl ?_
                    refine R_callV (v := .inr (.inr (.inl 0))) (As := [.inl a0, .inl a1, .inl a2, .inl a3]) (rest := []) rfl mt_8_i338 pp_X8_getsBy (by decide) rfl rfl rfl (Nat.le_of_ble_eq_true rfl) (Nat.le_of_ble_eq_true rfl) ((k_X8_getsBy h hI a0 a1 a2 a3 (by omega) (by omega)).mono (fun r36 h37 p38 => ?_))
                    obtain ⟨hJ, fj, x39, rfl, q40⟩ := p38
                    have f41 := fj
                    have fr := fr.trans fj (by decide)
                    have hI := hJ
                    have s42 : (h37.1 17 5).toInt = (h.1 17 5).toInt := by rw [(f41 17 (by decide)).1]
                    show RUN d_X8_gets 55 [(0, .inr (.inr (.inl 0))), (1, .inl a0), (2, .inl a1), (3, .inl a2), (4, .inl a3)] [.inl x39] h37 _
                    exact R_iret rfl rfl rfl ⟨hI, fr, _, rfl, trivial⟩
                  · exfalso; omega
                · show RUN d_X8_gets 39 [(0, .inr (.inr (.inl 0))), (1, .inl a0), (2, .inl a1), (3, .inl a2), (4, .inl a3)] [.inl x33] h _
                  refine N_if_ne (a := x33.toInt) 46 rfl rfl rfl (fun c43 => ?_) (fun c43 => ?_)
                  · exfalso; omega
                  · refine R_sipush (-1000) rfl rfl ?_
                    exact R_iret rfl rfl rfl ⟨hI, fr, _, rfl, trivial⟩
                · show RUN d_X8_gets 39 [(0, .inr (.inr (.inl 0))), (1, .inl a0), (2, .inl a1), (3, .inl a2), (4, .inl a3)] [.inl x33] h _
                  refine N_if_ne (a := x33.toInt) 46 rfl rfl rfl (fun c44 => ?_) (fun c44 => ?_)
                  · refine R_aload_n (k := 0) rfl rfl rfl ?_
                    refine R_iload_n (k := 1) rfl rfl rfl ?_
                    refine R_iload_n (k := 2) rfl rfl rfl ?_
                    refine R_iload_n (k := 3) rfl rfl rfl ?_
                    refine R_iload (k := 4) rfl rfl ?_
                    refine R_callV (v := .inr (.inr (.inl 0))) (As := [.inl a0, .inl a1, .inl a2, .inl a3]) (rest := []) rfl mt_8_i338 pp_X8_getsBy (by decide) rfl rfl rfl (Nat.le_of_ble_eq_true rfl) (Nat.le_of_ble_eq_true rfl) ((k_X8_getsBy h hI a0 a1 a2 a3 (by omega) (by omega)).mono (fun r45 h46 p47 => ?_))
                    obtain ⟨hJ, fj, x48, rfl, q49⟩ := p47
                    have f50 := fj
                    have fr := fr.trans fj (by decide)
                    have hI := hJ
                    have s51 : (h46.1 17 5).toInt = (h.1 17 5).toInt := by rw [(f50 17 (by decide)).1]
                    show RUN d_X8_gets 55 [(0, .inr (.inr (.inl 0))), (1, .inl a0), (2, .inl a1), (3, .inl a2), (4, .inl a3)] [.inl x48] h46 _
                    exact R_iret rfl rfl rfl ⟨hI, fr, _, rfl, trivial⟩
                  · exfalso; omega
            · show RUN d_X8_gets 31 [(0, .inr (.inr (.inl 0))), (1, .inl a0), (2, .inl a1), (3, .inl a2), (4, .inl a3)] [.inl x27] h _
              refine N_if_eq (a := x27.toInt) 42 rfl rfl rfl (fun c52 => ?_) (fun c52 => ?_)
              · refine R_sipush (-1000) rfl rfl ?_
                exact R_iret rfl rfl rfl ⟨hI, fr, _, rfl, trivial⟩
              · exfalso; omega
            · show RUN d_X8_gets 31 [(0, .inr (.inr (.inl 0))), (1, .inl a0), (2, .inl a1), (3, .inl a2), (4, .inl a3)] [.inl x27] h _
              refine N_if_eq (a := x27.toInt) 42 rfl rfl rfl (fun c53 => ?_) (fun c53 => ?_)
              · exfalso; omega
              · refine R_iload (k := 4) rfl rfl ?_
                refine R_callS (As := [.inl a3]) (rest := []) rfl mt_8_i122 (by decide) pp_X8_isEither (by decide) rfl rfl (Nat.le_of_ble_eq_true rfl) (Nat.le_of_ble_eq_true rfl) ((k_X8_isEither h hI a3).mono (fun r54 h55 p56 => ?_))
                obtain ⟨rfl, x57, rfl, q58 | q58 | q58⟩ := p56
                · show RUN d_X8_gets 39 [(0, .inr (.inr (.inl 0))), (1, .inl a0), (2, .inl a1), (3, .inl a2), (4, .inl a3)] [.inl x57] h _
                  refine N_if_ne (a := x57.toInt) 46 rfl rfl rfl (fun c59 => ?_) (fun c59 => ?_)
                  · refine R_aload_n (k := 0) rfl rfl rfl ?_
                    refine R_iload_n (k := 1) rfl rfl rfl ?_
                    refine R_iload_n (k := 2) rfl rfl rfl ?_
                    refine R_iload_n (k := 3) rfl rfl rfl ?_
                    refine R_iload (k := 4) rfl rfl ?_
                    refine R_callV (v := .inr (.inr (.inl 0))) (As := [.inl a0, .inl a1, .inl a2, .inl a3]) (rest := []) rfl mt_8_i338 pp_X8_getsBy (by decide) rfl rfl rfl (Nat.le_of_ble_eq_true rfl) (Nat.le_of_ble_eq_true rfl) ((k_X8_getsBy h hI a0 a1 a2 a3 (by omega) (by omega)).mono (fun r60 h61 p62 => ?_))
                    obtain ⟨hJ, fj, x63, rfl, q64⟩ := p62
                    have f65 := fj
                    have fr := fr.trans fj (by decide)
                    have hI := hJ
                    have s66 : (h61.1 17 5).toInt = (h.1 17 5).toInt := by rw [(f65 17 (by decide)).1]
                    show RUN d_X8_gets 55 [(0, .inr (.inr (.inl 0))), (1, .inl a0), (2, .inl a1), (3, .inl a2), (4, .inl a3)] [.inl x63] h61 _
                    exact R_iret rfl rfl rfl ⟨hI, fr, _, rfl, trivial⟩
                  · exfalso; omega
                · show RUN d_X8_gets 39 [(0, .inr (.inr (.inl 0))), (1, .inl a0), (2, .inl a1), (3, .inl a2), (4, .inl a3)] [.inl x57] h _
                  refine N_if_ne (a := x57.toInt) 46 rfl rfl rfl (fun c67 => ?_) (fun c67 => ?_)
                  · exfalso; omega
                  · refine R_sipush (-1000) rfl rfl ?_
                    exact R_iret rfl rfl rfl ⟨hI, fr, _, rfl, trivial⟩
                · show RUN d_X8_gets 39 [(0, .inr (.inr (.inl 0))), (1, .inl a0), (2, .inl a1), (3, .inl a2), (4, .inl a3)] [.inl x57] h _
                  refine N_if_ne (a := x57.toInt) 46 rfl rfl rfl (fun c68 => ?_) (fun c68 => ?_)
                  · refine R_aload_n (k := 0) rfl rfl rfl ?_
                    refine R_iload_n (k := 1) rfl rfl rfl ?_
                    refine R_iload_n (k := 2) rfl rfl rfl ?_
                    refine R_iload_n (k := 3) rfl rfl rfl ?_
                    refine R_iload (k := 4) rfl rfl ?_
                    refine R_callV (v := .inr (.inr (.inl 0))) (As := [.inl a0, .inl a1, .inl a2, .inl a3]) (rest := []) rfl mt_8_i338 pp_X8_getsBy (by decide) rfl rfl rfl (Nat.le_of_ble_eq_true rfl) (Nat.le_of_ble_eq_true rfl) ((k_X8_getsBy h hI a0 a1 a2 a3 (by omega) (by omega)).mono (fun r69 h70 p71 => ?_))
                    obtain ⟨hJ, fj, x72, rfl, q73⟩ := p71
                    have f74 := fj
                    have fr := fr.trans fj (by decide)
                    have hI := hJ
                    have s75 : (h70.1 17 5).toInt = (h.1 17 5).toInt := by rw [(f74 17 (by decide)).1]
                    show RUN d_X8_gets 55 [(0, .inr (.inr (.inl 0))), (1, .inl a0), (2, .inl a1), (3, .inl a2), (4, .inl a3)] [.inl x72] h70 _
                    exact R_iret rfl rfl rfl ⟨hI, fr, _, rfl, trivial⟩
                  · exfalso; omega
abbrev q_X8_isSlipSecond (h : PH) (a0 : Int32) : Option PV → PH → Prop := fun r h' => h = h' ∧ ∃ z : Int32, r = some (.inl z) ∧ ((z.toInt = 0 ∧ a0.toInt ≤ (-1)) ∨ (z.toInt = 0 ∧ 0 ≤ a0.toInt ∧ (h.1 17 0).toInt ≤ a0.toInt + 0) ∨ (z.toInt = 0 ∧ 8 ≤ a0.toInt ∧ a0.toInt ≤ 59 ∧ 9 ≤ (h.1 17 0).toInt ∧ (h.1 17 0).toInt ≤ 60 ∧ a0.toInt ≤ (h.1 17 0).toInt + (-1)) ∨ (z.toInt = 1 ∧ 0 ≤ a0.toInt ∧ a0.toInt ≤ 7 ∧ 1 ≤ (h.1 17 0).toInt ∧ (h.1 17 0).toInt ≤ 60 ∧ a0.toInt ≤ (h.1 17 0).toInt + (-1)))
set_option maxHeartbeats 4000000 in
set_option maxRecDepth 100000 in
theorem k_X8_isSlipSecond (h : PH) (hI : INV h) (a0 : Int32) : CALL d_X8_isSlipSecond [.inr (.inr (.inl 0)), .inl a0] h (q_X8_isSlipSecond h a0) := by
  show RUN d_X8_isSlipSecond 0 [(0, .inr (.inr (.inl 0))), (1, .inl a0)] [] h _
  have b1 := i_rng a0
  refine R_aload_n (k := 0) rfl rfl rfl ?_
  refine R_getf_r (j := 3) rfl ft_8_28 sh_0 rfl ?_
  refine R_iload_n (k := 1) rfl rfl rfl ?_
  refine R_callV (v := .inr (.inr (.inl 16))) (As := [.inl a0]) (rest := []) rfl mt_8_i150 pp_X1_hasSecond (by decide) rfl rfl rfl (Nat.le_of_ble_eq_true rfl) (Nat.le_of_ble_eq_true rfl) ((k_X1_hasSecond h hI a0).mono (fun r2 h3 p4 => ?_))
  obtain ⟨rfl, x5, rfl, q6 | q6 | q6⟩ := p4
  · show RUN d_X8_isSlipSecond 8 [(0, .inr (.inr (.inl 0))), (1, .inl a0)] [.inl x5] h _
    refine N_if_eq (a := x5.toInt) 21 rfl rfl rfl (fun c7 => ?_) (fun c7 => ?_)
    · refine R_iconst 0 rfl rfl ?_
      exact R_iret rfl rfl rfl ⟨rfl, _, rfl, by rw [show (0 : Int32).toInt = 0 from rfl]; omega⟩
    · exfalso; omega
  · have b8 : (0 : Int) ≤ (h.1 17 0).toInt ∧ (h.1 17 0).toInt ≤ 60 := hI.1 17 0
    show RUN d_X8_isSlipSecond 8 [(0, .inr (.inr (.inl 0))), (1, .inl a0)] [.inl x5] h _
    refine N_if_eq (a := x5.toInt) 21 rfl rfl rfl (fun c9 => ?_) (fun c9 => ?_)
    · refine R_iconst 0 rfl rfl ?_
      exact R_iret rfl rfl rfl ⟨rfl, _, rfl, by rw [show (0 : Int32).toInt = 0 from rfl]; omega⟩
    · exfalso; omega
  · have b10 : (0 : Int) ≤ (h.1 17 0).toInt ∧ (h.1 17 0).toInt ≤ 60 := hI.1 17 0
    show RUN d_X8_isSlipSecond 8 [(0, .inr (.inr (.inl 0))), (1, .inl a0)] [.inl x5] h _
    refine N_if_eq (a := x5.toInt) 21 rfl rfl rfl (fun c11 => ?_) (fun c11 => ?_)
    · exfalso; omega
    · refine R_iload_n (k := 1) rfl rfl rfl ?_
      refine R_bipush 7 rfl rfl ?_
      refine N_icmp_gt (a := a0.toInt) (b := 7) 21 rfl rfl rfl (by decide) (fun c12 => ?_) (fun c12 => ?_)
      · refine R_iconst 0 rfl rfl ?_
        exact R_iret rfl rfl rfl ⟨rfl, _, rfl, by rw [show (0 : Int32).toInt = 0 from rfl]; omega⟩
      · refine R_iconst 1 rfl rfl ?_
        refine R_goto 22 rfl rfl ?_
        exact R_iret rfl rfl rfl ⟨rfl, _, rfl, by rw [show (1 : Int32).toInt = 1 from rfl]; omega⟩
abbrev q_X8_power (h : PH) (a0 : Int64) (a1 : Int32) : Option PV → PH → Prop := fun r h' => h = h' ∧ ∃ z : Int64, r = some (.inr (.inl z))
set_option maxHeartbeats 4000000 in
set_option maxRecDepth 100000 in
theorem k_X8_power (h : PH) (hI : INV h) (a0 : Int64) (a1 : Int32) (h1a : (-62) ≤ a1.toInt ∧ a1.toInt ≤ 63) : CALL d_X8_power [.inr (.inl a0), .inl a1] h (q_X8_power h a0 a1) := by
  show RUN d_X8_power 0 [(0, .inr (.inl a0)), (2, .inl a1)] [] h _
  refine R_lconst 1 rfl rfl ?_
  refine R_lstore_n (k := 3) rfl [(3, .inr (.inl 1)), (0, .inr (.inl a0)), (2, .inl a1)] rfl rfl (by decide) ?_
  refine R_iconst 0 rfl rfl ?_
  refine R_istore (k := 5) [(5, .inl 0), (3, .inr (.inl 1)), (0, .inr (.inl a0)), (2, .inl a1)] rfl rfl (by decide) ?_
  have lp2 : ∀ (n1 : Nat) (w3 : Int64) (x4 : Int32), 0 ≤ x4.toInt ∧ x4.toInt ≤ 2147483647 → (2147483647 - x4.toInt).toNat < n1 → RUN d_X8_power 5 [(5, .inl x4), (3, .inr (.inl w3)), (0, .inr (.inl a0)), (2, .inl a1)] [] h (q_X8_power h a0 a1) := by
    intro n1
    induction n1 with
    | zero => intro w3 x4 m6 hz; exact absurd hz (Nat.not_lt_zero _)
    | succ n1 ih5 =>
      intro w3 x4 m6 hz
      refine R_iload (k := 5) rfl rfl ?_
      refine R_iload_n (k := 2) rfl rfl rfl ?_
      refine N_icmp_ge (a := x4.toInt) (b := a1.toInt) 21 rfl rfl rfl rfl (fun c7 => ?_) (fun c7 => ?_)
      · refine R_lload_n (k := 3) rfl rfl rfl ?_
        exact R_lret rfl rfl ⟨rfl, _, rfl⟩
      · refine R_lload_n (k := 3) rfl rfl rfl ?_
        refine R_lload_n (k := 0) rfl rfl rfl ?_
        refine R_lmul rfl ?_
        refine N_anyL (fun w8 => ?_)
        refine R_lstore_n (k := 3) rfl [(3, .inr (.inl w8)), (5, .inl x4), (0, .inr (.inl a0)), (2, .inl a1)] rfl rfl (by decide) ?_
        refine N_iinc (a := x4.toInt) (c := 1) (fun w => [(5, .inl w), (3, .inr (.inl w8)), (0, .inr (.inl a0)), (2, .inl a1)]) rfl rfl (fun _ => rfl) (by decide) rfl (by decide) (by omega) (fun x9 q10 => ?_)
        refine R_goto 5 rfl rfl ?_
        exact RUN_weak (psub_cons rfl (psub_cons rfl (psub_cons rfl (psub_cons rfl (psub_nil _))))) (ih5 w8 x9 (by omega) (by omega))
  exact lp2 _ (1 : Int64) (0 : Int32) (by decide) (Nat.lt_succ_self _)
abbrev q_X8_weight (h : PH) (a0 : Int32) (a1 : Int32) : Option PV → PH → Prop := fun r h' => h = h' ∧ ∃ z : Int64, r = some (.inr (.inl z))
set_option maxHeartbeats 4000000 in
set_option maxRecDepth 100000 in
theorem k_X8_weight (h : PH) (hI : INV h) (a0 : Int32) (a1 : Int32) (h0a : 0 ≤ a0.toInt ∧ a0.toInt ≤ 255) (h1a : 1 ≤ a1.toInt ∧ a1.toInt ≤ 8) : CALL d_X8_weight [.inr (.inr (.inl 0)), .inl a0, .inl a1] h (q_X8_weight h a0 a1) := by
  show RUN d_X8_weight 0 [(0, .inr (.inr (.inl 0))), (1, .inl a0), (2, .inl a1)] [] h _
  refine R_aload_n (k := 0) rfl rfl rfl ?_
  refine R_getf_r (j := 3) rfl ft_8_28 sh_0 rfl ?_
  refine R_getf_r (j := 0) rfl ft_8_109 sh_16 rfl ?_
  refine R_iconst 4 rfl rfl ?_
  refine R_iald rfl sh_17 (by decide) ?_
  show RUN d_X8_weight 9 [(0, .inr (.inr (.inl 0))), (1, .inl a0), (2, .inl a1)] [.inl (h.1 17 4)] h _
  refine R_istore_n (k := 3) rfl [(3, .inl (h.1 17 4)), (0, .inr (.inr (.inl 0))), (1, .inl a0), (2, .inl a1)] rfl rfl (by decide) ?_
  refine R_iload_n (k := 1) rfl rfl rfl ?_
  refine R_callS (As := [.inl a0]) (rest := []) rfl mt_8_i232 (by decide) pp_J6_bitCount_0f7a4 (by decide) rfl rfl (Nat.le_of_ble_eq_true rfl) (Nat.le_of_ble_eq_true rfl) ((k_J6_bitCount_0f7a4 h hI a0).mono (fun r1 h2 p3 => ?_))
  obtain ⟨rfl, x4, rfl, q5⟩ := p3
  show RUN d_X8_weight 14 [(3, .inl (h.1 17 4)), (0, .inr (.inr (.inl 0))), (1, .inl a0), (2, .inl a1)] [.inl x4] h _
  refine R_istore (k := 4) [(4, .inl x4), (3, .inl (h.1 17 4)), (0, .inr (.inr (.inl 0))), (1, .inl a0), (2, .inl a1)] rfl rfl (by decide) ?_
  refine R_iload_n (k := 3) rfl rfl rfl ?_
  refine N_i2l rfl (fun w6 q7 => ?_)
  refine R_iload (k := 4) rfl rfl ?_
  refine R_callS (As := [.inr (.inl w6), .inl x4]) (rest := []) rfl mt_8_i362 (by decide) pp_X8_power (by decide) rfl rfl (Nat.le_of_ble_eq_true rfl) (Nat.le_of_ble_eq_true rfl) ((k_X8_power h hI w6 x4 (by omega)).mono (fun r8 h9 p10 => ?_))
  obtain ⟨rfl, w11, rfl⟩ := p10
  show RUN d_X8_weight 23 [(4, .inl x4), (3, .inl (h.1 17 4)), (0, .inr (.inr (.inl 0))), (1, .inl a0), (2, .inl a1)] [.inr (.inl w11)] h _
  refine R_bipush 10 rfl rfl ?_
  refine R_iload_n (k := 3) rfl rfl rfl ?_
  have b12 := i_rng (h.1 17 4)
  refine R_isub rfl ?_
  refine N_any (fun x13 => ?_)
  refine N_i2l rfl (fun w14 q15 => ?_)
  refine R_iload_n (k := 2) rfl rfl rfl ?_
  refine R_iload (k := 4) rfl rfl ?_
  refine N_isub (a := a1.toInt) (b := x4.toInt) rfl rfl rfl (by omega) (fun x16 q17 => ?_)
  refine R_callS (As := [.inr (.inl w14), .inl x16]) (rest := [.inr (.inl w11)]) rfl mt_8_i362 (by decide) pp_X8_power (by decide) rfl rfl (Nat.le_of_ble_eq_true rfl) (Nat.le_of_ble_eq_true rfl) ((k_X8_power h hI w14 x16 (by omega)).mono (fun r18 h19 p20 => ?_))
  obtain ⟨rfl, w21, rfl⟩ := p20
  show RUN d_X8_weight 35 [(4, .inl x4), (3, .inl (h.1 17 4)), (0, .inr (.inr (.inl 0))), (1, .inl a0), (2, .inl a1)] [.inr (.inl w21), .inr (.inl w11)] h _
  refine R_lmul rfl ?_
  refine N_anyL (fun w22 => ?_)
  exact R_lret rfl rfl ⟨rfl, _, rfl⟩
abbrev q_X9_isSlips (h : PH) (a0 : Int32) (a1 : Int32) : Option PV → PH → Prop := fun r h' => h = h' ∧ ∃ z : Int32, r = some (.inl z) ∧ ((z.toInt = 0 ∧ a0.toInt ≤ (-1)) ∨ (z.toInt = 0 ∧ 0 ≤ a0.toInt) ∨ (z.toInt = 0 ∧ 8 ≤ a0.toInt ∧ a0.toInt ≤ 59) ∨ (z.toInt = 0 ∧ 0 ≤ a0.toInt ∧ a0.toInt ≤ 7 ∧ a1.toInt ≤ (-1)) ∨ (z.toInt = 0 ∧ 0 ≤ a0.toInt ∧ a0.toInt ≤ 7 ∧ 2 ≤ a1.toInt) ∨ (z.toInt = 1 ∧ 0 ≤ a0.toInt ∧ a0.toInt ≤ 7 ∧ 0 ≤ a1.toInt ∧ a1.toInt ≤ 1))
set_option maxHeartbeats 4000000 in
set_option maxRecDepth 100000 in
theorem k_X9_isSlips (h : PH) (hI : INV h) (a0 : Int32) (a1 : Int32) : CALL d_X9_isSlips [.inr (.inr (.inl 96)), .inl a0, .inl a1] h (q_X9_isSlips h a0 a1) := by
  show RUN d_X9_isSlips 0 [(0, .inr (.inr (.inl 96))), (1, .inl a0), (2, .inl a1)] [] h _
  have b1 := i_rng a0
  have b2 := i_rng a1
  refine R_aload_n (k := 0) rfl rfl rfl ?_
  refine R_iload_n (k := 1) rfl rfl rfl ?_
  refine N_i2l rfl (fun w3 q4 => ?_)
  refine R_callV (v := .inr (.inr (.inl 96))) (As := [.inr (.inl w3)]) (rest := []) rfl mt_9_i310 pp_X9_isSecond (by decide) rfl rfl rfl (Nat.le_of_ble_eq_true rfl) (Nat.le_of_ble_eq_true rfl) ((k_X9_isSecond h hI w3).mono (fun r5 h6 p7 => ?_))
  obtain ⟨rfl, x8, rfl, q9 | q9 | q9⟩ := p7
  · show RUN d_X9_isSlips 6 [(0, .inr (.inr (.inl 96))), (1, .inl a0), (2, .inl a1)] [.inl x8] h _
    refine N_if_eq (a := x8.toInt) 35 rfl rfl rfl (fun c10 => ?_) (fun c10 => ?_)
    · refine R_iconst 0 rfl rfl ?_
      exact R_iret rfl rfl rfl ⟨rfl, _, rfl, by rw [show (0 : Int32).toInt = 0 from rfl]; omega⟩
    · exfalso; omega
  · show RUN d_X9_isSlips 6 [(0, .inr (.inr (.inl 96))), (1, .inl a0), (2, .inl a1)] [.inl x8] h _
    refine N_if_eq (a := x8.toInt) 35 rfl rfl rfl (fun c11 => ?_) (fun c11 => ?_)
    · refine R_iconst 0 rfl rfl ?_
      exact R_iret rfl rfl rfl ⟨rfl, _, rfl, by rw [show (0 : Int32).toInt = 0 from rfl]; omega⟩
    · exfalso; omega
  · show RUN d_X9_isSlips 6 [(0, .inr (.inr (.inl 96))), (1, .inl a0), (2, .inl a1)] [.inl x8] h _
    refine N_if_eq (a := x8.toInt) 35 rfl rfl rfl (fun c12 => ?_) (fun c12 => ?_)
    · exfalso; omega
    · refine R_iload_n (k := 1) rfl rfl rfl ?_
      refine N_i2l rfl (fun w13 q14 => ?_)
      refine R_lconst 0 rfl rfl ?_
      refine R_ldc2 (x := 7) rfl kt_9_489 ?_
      have k15 : (0 : Int64).toInt = 0 := by decide
      have k16 : (7 : Int64).toInt = 7 := by decide
      refine R_callS (As := [.inr (.inl w13), .inr (.inl 0), .inr (.inl 7)]) (rest := []) rfl mt_9_i125 (by decide) pp_X9_in (by decide) rfl rfl (Nat.le_of_ble_eq_true rfl) (Nat.le_of_ble_eq_true rfl) ((k_X9_in h hI w13 (0 : Int64) (7 : Int64)).mono (fun r17 h18 p19 => ?_))
      obtain ⟨rfl, x20, rfl, q21 | q21 | q21⟩ := p19
      · exfalso; omega
      · show RUN d_X9_isSlips 18 [(0, .inr (.inr (.inl 96))), (1, .inl a0), (2, .inl a1)] [.inl x20] h _
        refine N_if_eq (a := x20.toInt) 35 rfl rfl rfl (fun c22 => ?_) (fun c22 => ?_)
        · refine R_iconst 0 rfl rfl ?_
          exact R_iret rfl rfl rfl ⟨rfl, _, rfl, by rw [show (0 : Int32).toInt = 0 from rfl]; omega⟩
        · exfalso; omega
      · show RUN d_X9_isSlips 18 [(0, .inr (.inr (.inl 96))), (1, .inl a0), (2, .inl a1)] [.inl x20] h _
        refine N_if_eq (a := x20.toInt) 35 rfl rfl rfl (fun c23 => ?_) (fun c23 => ?_)
        · exfalso; omega
        · refine R_iload_n (k := 2) rfl rfl rfl ?_
          refine N_i2l rfl (fun w24 q25 => ?_)
          refine R_lconst 0 rfl rfl ?_
          refine R_lconst 1 rfl rfl ?_
          have k26 : (0 : Int64).toInt = 0 := by decide
          have k27 : (1 : Int64).toInt = 1 := by decide
          refine R_callS (As := [.inr (.inl w24), .inr (.inl 0), .inr (.inl 1)]) (rest := []) rfl mt_9_i125 (by decide) pp_X9_in (by decide) rfl rfl (Nat.le_of_ble_eq_true rfl) (Nat.le_of_ble_eq_true rfl) ((k_X9_in h hI w24 (0 : Int64) (1 : Int64)).mono (fun r28 h29 p30 => ?_))
          obtain ⟨rfl, x31, rfl, q32 | q32 | q32⟩ := p30
          · show RUN d_X9_isSlips 28 [(0, .inr (.inr (.inl 96))), (1, .inl a0), (2, .inl a1)] [.inl x31] h _
            refine N_if_eq (a := x31.toInt) 35 rfl rfl rfl (fun c33 => ?_) (fun c33 => ?_)
            · refine R_iconst 0 rfl rfl ?_
              exact R_iret rfl rfl rfl ⟨rfl, _, rfl, by rw [show (0 : Int32).toInt = 0 from rfl]; omega⟩
            · exfalso; omega
          · show RUN d_X9_isSlips 28 [(0, .inr (.inr (.inl 96))), (1, .inl a0), (2, .inl a1)] [.inl x31] h _
            refine N_if_eq (a := x31.toInt) 35 rfl rfl rfl (fun c34 => ?_) (fun c34 => ?_)
            · refine R_iconst 0 rfl rfl ?_
              exact R_iret rfl rfl rfl ⟨rfl, _, rfl, by rw [show (0 : Int32).toInt = 0 from rfl]; omega⟩
            · exfalso; omega
          · show RUN d_X9_isSlips 28 [(0, .inr (.inr (.inl 96))), (1, .inl a0), (2, .inl a1)] [.inl x31] h _
            refine N_if_eq (a := x31.toInt) 35 rfl rfl rfl (fun c35 => ?_) (fun c35 => ?_)
            · exfalso; omega
            · refine R_iconst 1 rfl rfl ?_
              refine R_goto 36 rfl rfl ?_
              exact R_iret rfl rfl rfl ⟨rfl, _, rfl, by rw [show (1 : Int32).toInt = 1 from rfl]; omega⟩
abbrev q_X8_isSeed (h : PH) (a0 : Int32) : Option PV → PH → Prop := fun r h' => h = h' ∧ ∃ z : Int32, r = some (.inl z) ∧ ((z.toInt = 0 ∧ a0.toInt ≤ (-1)) ∨ (z.toInt = 0 ∧ 2000000001 ≤ a0.toInt) ∨ (z.toInt = 1 ∧ 0 ≤ a0.toInt ∧ a0.toInt ≤ 2000000000))
set_option maxHeartbeats 4000000 in
set_option maxRecDepth 100000 in
theorem k_X8_isSeed (h : PH) (hI : INV h) (a0 : Int32) : CALL d_X8_isSeed [.inl a0] h (q_X8_isSeed h a0) := by
  show RUN d_X8_isSeed 0 [(0, .inl a0)] [] h _
  have b1 := i_rng a0
  refine R_iload_n (k := 0) rfl rfl rfl ?_
  refine N_if_lt (a := a0.toInt) 15 rfl rfl rfl (fun c2 => ?_) (fun c2 => ?_)
  · refine R_iconst 0 rfl rfl ?_
    exact R_iret rfl rfl rfl ⟨rfl, _, rfl, by rw [show (0 : Int32).toInt = 0 from rfl]; omega⟩
  · refine R_iload_n (k := 0) rfl rfl rfl ?_
    refine R_ldcw_i (x := 2000000000) rfl kt_8_443 ?_
    refine N_icmp_gt (a := a0.toInt) (b := 2000000000) 15 rfl rfl rfl (by decide) (fun c3 => ?_) (fun c3 => ?_)
    · refine R_iconst 0 rfl rfl ?_
      exact R_iret rfl rfl rfl ⟨rfl, _, rfl, by rw [show (0 : Int32).toInt = 0 from rfl]; omega⟩
    · refine R_iconst 1 rfl rfl ?_
      refine R_goto 16 rfl rfl ?_
      exact R_iret rfl rfl rfl ⟨rfl, _, rfl, by rw [show (1 : Int32).toInt = 1 from rfl]; omega⟩
abbrev q_X8_slipsFrom (h : PH) (a0 : Int64) : Option PV → PH → Prop := fun r h' => h = h' ∧ ∃ z : Int64, r = some (.inr (.inl z))
set_option maxHeartbeats 4000000 in
set_option maxRecDepth 100000 in
theorem k_X8_slipsFrom (h : PH) (hI : INV h) (a0 : Int64) : CALL d_X8_slipsFrom [.inr (.inr (.inl 0)), .inr (.inl a0)] h (q_X8_slipsFrom h a0) := by
  show RUN d_X8_slipsFrom 0 [(0, .inr (.inr (.inl 0))), (1, .inr (.inl a0))] [] h _
  refine R_lconst 0 rfl rfl ?_
  refine R_lstore_n (k := 3) rfl [(3, .inr (.inl 0)), (0, .inr (.inr (.inl 0))), (1, .inr (.inl a0))] rfl rfl (by decide) ?_
  refine R_lload_n (k := 1) rfl rfl rfl ?_
  refine R_lstore (k := 5) [(5, .inr (.inl a0)), (3, .inr (.inl 0)), (0, .inr (.inr (.inl 0))), (1, .inr (.inl a0))] rfl rfl (by decide) ?_
  refine R_iconst 0 rfl rfl ?_
  refine R_istore (k := 7) [(7, .inl 0), (5, .inr (.inl a0)), (3, .inr (.inl 0)), (0, .inr (.inr (.inl 0))), (1, .inr (.inl a0))] rfl rfl (by decide) ?_
  have lp2 : ∀ (n1 : Nat) (w3 : Int64) (w4 : Int64) (x5 : Int32), 0 ≤ x5.toInt ∧ x5.toInt ≤ 2147483647 → (2147483647 - x5.toInt).toNat < n1 → RUN d_X8_slipsFrom 8 [(7, .inl x5), (5, .inr (.inl w3)), (3, .inr (.inl w4)), (0, .inr (.inr (.inl 0))), (1, .inr (.inl a0))] [] h (q_X8_slipsFrom h a0) := by
    intro n1
    induction n1 with
    | zero => intro w3 w4 x5 m7 hz; exact absurd hz (Nat.not_lt_zero _)
    | succ n1 ih6 =>
      intro w3 w4 x5 m7 hz
      refine R_iload (k := 7) rfl rfl ?_
      refine R_aload_n (k := 0) rfl rfl rfl ?_
      refine R_getf_r (j := 3) rfl ft_8_28 sh_0 rfl ?_
      refine R_getf_r (j := 0) rfl ft_8_109 sh_16 rfl ?_
      refine R_iconst 0 rfl rfl ?_
      refine R_iald rfl sh_17 (by decide) ?_
      have b8 : (0 : Int) ≤ (h.1 17 0).toInt ∧ (h.1 17 0).toInt ≤ 60 := hI.1 17 0
      show RUN d_X8_slipsFrom 19 [(7, .inl x5), (5, .inr (.inl w3)), (3, .inr (.inl w4)), (0, .inr (.inr (.inl 0))), (1, .inr (.inl a0))] [.inl (h.1 17 0), .inl x5] h _
      refine N_icmp_ge (a := x5.toInt) (b := (h.1 17 0).toInt) 74 rfl rfl rfl rfl (fun c9 => ?_) (fun c9 => ?_)
      · refine R_lload_n (k := 3) rfl rfl rfl ?_
        exact R_lret rfl rfl ⟨rfl, _, rfl⟩
      · refine R_ldc2 (x := 1103515245) rfl kt_8_444 ?_
        refine R_lload (k := 5) rfl rfl ?_
        refine R_lmul rfl ?_
        refine N_anyL (fun w10 => ?_)
        refine R_ldc2 (x := 12345) rfl kt_8_446 ?_
        refine R_ladd rfl ?_
        refine N_anyL (fun w11 => ?_)
        refine R_ldc2 (x := 2147483647) rfl kt_8_448 ?_
        refine R_land rfl ?_
        refine N_anyL (fun w12 => ?_)
        refine R_lstore (k := 5) [(5, .inr (.inl w12)), (7, .inl x5), (3, .inr (.inl w4)), (0, .inr (.inr (.inl 0))), (1, .inr (.inl a0))] rfl rfl (by decide) ?_
        refine R_lload (k := 5) rfl rfl ?_
        refine R_bipush 16 rfl rfl ?_
        refine R_lshr rfl ?_
        refine N_anyL (fun w13 => ?_)
        refine R_ldc2 (x := 10) rfl kt_8_360 ?_
        refine R_lrem rfl (by decide) ?_
        refine N_anyL (fun w14 => ?_)
        refine R_aload_n (k := 0) rfl rfl rfl ?_
        refine R_getf_r (j := 3) rfl ft_8_28 sh_0 rfl ?_
        refine R_getf_r (j := 0) rfl ft_8_109 sh_16 rfl ?_
        refine R_iconst 4 rfl rfl ?_
        refine R_iald rfl sh_17 (by decide) ?_
        show RUN d_X8_slipsFrom 56 [(5, .inr (.inl w12)), (7, .inl x5), (3, .inr (.inl w4)), (0, .inr (.inr (.inl 0))), (1, .inr (.inl a0))] [.inl (h.1 17 4), .inr (.inl w14)] h _
        refine N_i2l rfl (fun w15 q16 => ?_)
        refine N_lcmp (a := w14.toInt) (b := w15.toInt) rfl rfl rfl (fun x17 q18 => ?_)
        refine N_if_ge (a := x17.toInt) 68 rfl rfl rfl (fun c19 => ?_) (fun c19 => ?_)
        · refine N_iinc (a := x5.toInt) (c := 1) (fun w => [(7, .inl w), (5, .inr (.inl w12)), (3, .inr (.inl w4)), (0, .inr (.inr (.inl 0))), (1, .inr (.inl a0))]) rfl rfl (fun _ => rfl) (by decide) rfl (by decide) (by omega) (fun x20 q21 => ?_)
          refine R_goto 8 rfl rfl ?_
          exact RUN_weak (psub_cons rfl (psub_cons rfl (psub_cons rfl (psub_cons rfl (psub_cons rfl (psub_nil _)))))) (ih6 w12 w4 x20 (by omega) (by omega))
        · refine R_lload_n (k := 3) rfl rfl rfl ?_
          refine R_lconst 1 rfl rfl ?_
          refine R_iload (k := 7) rfl rfl ?_
          refine R_lshl rfl ?_
          refine N_anyL (fun w22 => ?_)
          refine R_lor rfl ?_
          refine N_anyL (fun w23 => ?_)
          refine R_lstore_n (k := 3) rfl [(3, .inr (.inl w23)), (5, .inr (.inl w12)), (7, .inl x5), (0, .inr (.inr (.inl 0))), (1, .inr (.inl a0))] rfl rfl (by decide) ?_
          refine N_iinc (a := x5.toInt) (c := 1) (fun w => [(7, .inl w), (3, .inr (.inl w23)), (5, .inr (.inl w12)), (0, .inr (.inr (.inl 0))), (1, .inr (.inl a0))]) rfl rfl (fun _ => rfl) (by decide) rfl (by decide) (by omega) (fun x24 q25 => ?_)
          refine R_goto 8 rfl rfl ?_
          exact RUN_weak (psub_cons rfl (psub_cons rfl (psub_cons rfl (psub_cons rfl (psub_cons rfl (psub_nil _)))))) (ih6 w12 w23 x24 (by omega) (by omega))
  exact lp2 _ a0 (0 : Int64) (0 : Int32) (by decide) (Nat.lt_succ_self _)
abbrev q_X8_drawn (h : PH) (a0 : Int32) (a1 : Int32) : Option PV → PH → Prop := fun r h' => INV h' ∧ FR [70, 71, 72, 73, 74] h h' ∧ ∃ z : Int32, r = some (.inl z) ∧ (((-2) ≤ z.toInt ∧ z.toInt ≤ 127))
set_option maxHeartbeats 4000000 in
set_option maxRecDepth 100000 in
theorem k_X8_drawn (h : PH) (hI : INV h) (a0 : Int32) (a1 : Int32) : CALL d_X8_drawn [.inr (.inr (.inl 0)), .inl a0, .inl a1] h (q_X8_drawn h a0 a1) := by
  show RUN d_X8_drawn 0 [(0, .inr (.inr (.inl 0))), (1, .inl a0), (2, .inl a1)] [] h _
  have b1 := i_rng a0
  have b2 := i_rng a1
  have fr : FR [70, 71, 72, 73, 74] h h := FR.rf _ _
  refine R_aload_n (k := 0) rfl rfl rfl ?_
  refine R_getf_r (j := 3) rfl ft_8_28 sh_0 rfl ?_
  refine R_callV (v := .inr (.inr (.inl 16))) (As := []) (rest := []) rfl mt_8_i146 pp_X1_stands (by decide) rfl rfl rfl (Nat.le_of_ble_eq_true rfl) (Nat.le_of_ble_eq_true rfl) ((k_X1_stands h hI).mono (fun r3 h4 p5 => ?_))
  obtain ⟨rfl, x6, rfl, q7 | q7⟩ := p5
  · have b8 : (0 : Int) ≤ (h.1 17 0).toInt ∧ (h.1 17 0).toInt ≤ 60 := hI.1 17 0
    have e9 : 0 < (h.1 17 10).toInt → 1 ≤ (h.1 17 0).toInt := hI.2.1
    show RUN d_X8_drawn 7 [(0, .inr (.inr (.inl 0))), (1, .inl a0), (2, .inl a1)] [.inl x6] h _
    refine N_if_eq (a := x6.toInt) 26 rfl rfl rfl (fun c10 => ?_) (fun c10 => ?_)
    · refine R_bipush (-2) rfl rfl ?_
      exact R_iret rfl rfl rfl ⟨hI, fr, _, rfl, by rw [show ((-2) : Int32).toInt = (-2) from rfl]; omega⟩
    · exfalso; omega
  · have b11 : (0 : Int) ≤ (h.1 17 0).toInt ∧ (h.1 17 0).toInt ≤ 60 := hI.1 17 0
    have e12 : 0 < (h.1 17 10).toInt → 1 ≤ (h.1 17 0).toInt := hI.2.1
    show RUN d_X8_drawn 7 [(0, .inr (.inr (.inl 0))), (1, .inl a0), (2, .inl a1)] [.inl x6] h _
    refine N_if_eq (a := x6.toInt) 26 rfl rfl rfl (fun c13 => ?_) (fun c13 => ?_)
    · exfalso; omega
    · refine R_iload_n (k := 1) rfl rfl rfl ?_
      refine R_callS (As := [.inl a0]) (rest := []) rfl mt_8_i366 (by decide) pp_X8_isSeed (by decide) rfl rfl (Nat.le_of_ble_eq_true rfl) (Nat.le_of_ble_eq_true rfl) ((k_X8_isSeed h hI a0).mono (fun r14 h15 p16 => ?_))
      obtain ⟨rfl, x17, rfl, q18 | q18 | q18⟩ := p16
      · show RUN d_X8_drawn 14 [(0, .inr (.inr (.inl 0))), (1, .inl a0), (2, .inl a1)] [.inl x17] h _
        refine N_if_eq (a := x17.toInt) 26 rfl rfl rfl (fun c19 => ?_) (fun c19 => ?_)
        · refine R_bipush (-2) rfl rfl ?_
          exact R_iret rfl rfl rfl ⟨hI, fr, _, rfl, by rw [show ((-2) : Int32).toInt = (-2) from rfl]; omega⟩
        · exfalso; omega
      · show RUN d_X8_drawn 14 [(0, .inr (.inr (.inl 0))), (1, .inl a0), (2, .inl a1)] [.inl x17] h _
        refine N_if_eq (a := x17.toInt) 26 rfl rfl rfl (fun c20 => ?_) (fun c20 => ?_)
        · refine R_bipush (-2) rfl rfl ?_
          exact R_iret rfl rfl rfl ⟨hI, fr, _, rfl, by rw [show ((-2) : Int32).toInt = (-2) from rfl]; omega⟩
        · exfalso; omega
      · show RUN d_X8_drawn 14 [(0, .inr (.inr (.inl 0))), (1, .inl a0), (2, .inl a1)] [.inl x17] h _
        refine N_if_eq (a := x17.toInt) 26 rfl rfl rfl (fun c21 => ?_) (fun c21 => ?_)
        · exfalso; omega
        · refine R_iload_n (k := 2) rfl rfl rfl ?_
          refine N_if_lt (a := a1.toInt) 26 rfl rfl rfl (fun c22 => ?_) (fun c22 => ?_)
          · refine R_bipush (-2) rfl rfl ?_
            exact R_iret rfl rfl rfl ⟨hI, fr, _, rfl, by rw [show ((-2) : Int32).toInt = (-2) from rfl]; omega⟩
          · refine R_iload_n (k := 2) rfl rfl rfl ?_
            refine R_iconst 2 rfl rfl ?_
            refine N_icmp_le (a := a1.toInt) (b := 2) 29 rfl rfl rfl (by decide) (fun c23 => ?_) (fun c23 => ?_)
            · refine R_aload_n (k := 0) rfl rfl rfl ?_
              refine R_iload_n (k := 1) rfl rfl rfl ?_
              refine N_i2l rfl (fun w24 q25 => ?_)
              refine R_callV (v := .inr (.inr (.inl 0))) (As := [.inr (.inl w24)]) (rest := []) rfl mt_8_i369 pp_X8_slipsFrom (by decide) rfl rfl rfl (Nat.le_of_ble_eq_true rfl) (Nat.le_of_ble_eq_true rfl) ((k_X8_slipsFrom h hI w24).mono (fun r26 h27 p28 => ?_))
              obtain ⟨rfl, w29, rfl⟩ := p28
              show RUN d_X8_drawn 35 [(0, .inr (.inr (.inl 0))), (1, .inl a0), (2, .inl a1)] [.inr (.inl w29)] h _
              refine R_lstore_n (k := 3) rfl [(3, .inr (.inl w29)), (0, .inr (.inr (.inl 0))), (1, .inl a0), (2, .inl a1)] rfl rfl (by decide) ?_
              refine R_iload_n (k := 2) rfl rfl rfl ?_
              refine N_if_ne (a := a1.toInt) 45 rfl rfl rfl (fun c30 => ?_) (fun c30 => ?_)
              · refine R_aload_n (k := 0) rfl rfl rfl ?_
                refine R_callV (v := .inr (.inr (.inl 0))) (As := []) (rest := []) rfl mt_8_i237 pp_X8_lineAsNow (by decide) rfl rfl rfl (Nat.le_of_ble_eq_true rfl) (Nat.le_of_ble_eq_true rfl) ((k_X8_lineAsNow h hI).mono (fun r31 h32 p33 => ?_))
                obtain ⟨hJ, fj, rfl⟩ := p33
                have f34 := fj
                have fr := fr.trans fj (by decide)
                have hI := hJ
                have s35 : (h32.1 17 0).toInt = (h.1 17 0).toInt := by rw [(f34 17 (by decide)).1]
                have s36 : (h32.1 17 10).toInt = (h.1 17 10).toInt := by rw [(f34 17 (by decide)).1]
                show RUN d_X8_drawn 49 [(3, .inr (.inl w29)), (0, .inr (.inr (.inl 0))), (1, .inl a0), (2, .inl a1)] [] h32 _
                refine R_aload_n (k := 0) rfl rfl rfl ?_
                refine R_getf_r (j := 7) rfl ft_8_49 sh_0 rfl ?_
                refine R_aload_n (k := 0) rfl rfl rfl ?_
                refine R_getf_r (j := 3) rfl ft_8_28 sh_0 rfl ?_
                refine R_getf_r (j := 0) rfl ft_8_109 sh_16 rfl ?_
                refine R_iconst 0 rfl rfl ?_
                refine R_iald rfl sh_17 (by decide) ?_
                show RUN d_X8_drawn 62 [(3, .inr (.inl w29)), (0, .inr (.inr (.inl 0))), (1, .inl a0), (2, .inl a1)] [.inl (h32.1 17 0), .inr (.inr (.inl 70))] h32 _
                refine R_lload_n (k := 3) rfl rfl rfl ?_
                refine R_callV (v := .inr (.inr (.inl 70))) (As := [.inl (h32.1 17 0), .inr (.inl w29)]) (rest := []) rfl mt_8_i347 pp_X2_play (by decide) rfl rfl rfl (Nat.le_of_ble_eq_true rfl) (Nat.le_of_ble_eq_true rfl) ((k_X2_play h32 hI (h32.1 17 0) w29 (by omega)).mono (fun r37 h38 p39 => ?_))
                obtain ⟨hJ, fj, w40, rfl⟩ := p39
                have f41 := fj
                have fr := fr.trans fj (by decide)
                have hI := hJ
                have s42 : (h38.1 17 0).toInt = (h32.1 17 0).toInt := by rw [(f41 17 (by decide)).1]
                have s43 : (h38.1 17 10).toInt = (h32.1 17 10).toInt := by rw [(f41 17 (by decide)).1]
                show RUN d_X8_drawn 66 [(3, .inr (.inl w29)), (0, .inr (.inr (.inl 0))), (1, .inl a0), (2, .inl a1)] [.inr (.inl w40)] h38 _
                refine R_lstore (k := 5) [(5, .inr (.inl w40)), (3, .inr (.inl w29)), (0, .inr (.inr (.inl 0))), (1, .inl a0), (2, .inl a1)] rfl rfl (by decide) ?_
                refine R_iload_n (k := 2) rfl rfl rfl ?_
                refine R_iconst 1 rfl rfl ?_
                refine N_icmp_ne (a := a1.toInt) (b := 1) 81 rfl rfl rfl (by decide) (fun c44 => ?_) (fun c44 => ?_)
                · refine R_aload_n (k := 0) rfl rfl rfl ?_
                  refine R_lload (k := 5) rfl rfl ?_
                  refine R_aload_n (k := 0) rfl rfl rfl ?_
                  refine R_getf_r (j := 7) rfl ft_8_49 sh_0 rfl ?_
                  refine R_callV (v := .inr (.inr (.inl 70))) (As := []) (rest := [.inr (.inl w40), .inr (.inr (.inl 0))]) rfl mt_8_i247 pp_X2_poured (by decide) rfl rfl rfl (Nat.le_of_ble_eq_true rfl) (Nat.le_of_ble_eq_true rfl) ((k_X2_poured h38 hI).mono (fun r45 h46 p47 => ?_))
                  obtain ⟨rfl, x48, rfl, q49⟩ := p47
                  show RUN d_X8_drawn 91 [(5, .inr (.inl w40)), (3, .inr (.inl w29)), (0, .inr (.inr (.inl 0))), (1, .inl a0), (2, .inl a1)] [.inl x48, .inr (.inl w40), .inr (.inr (.inl 0))] h38 _
                  refine R_callV (v := .inr (.inr (.inl 0))) (As := [.inr (.inl w40), .inl x48]) (rest := []) rfl mt_8_i219 pp_X8_outBy (by decide) rfl rfl rfl (Nat.le_of_ble_eq_true rfl) (Nat.le_of_ble_eq_true rfl) ((k_X8_outBy h38 hI w40 x48).mono (fun r50 h51 p52 => ?_))
                  obtain ⟨rfl, x53, rfl, q54⟩ := p52
                  show RUN d_X8_drawn 94 [(5, .inr (.inl w40)), (3, .inr (.inl w29)), (0, .inr (.inr (.inl 0))), (1, .inl a0), (2, .inl a1)] [.inl x53] h38 _
                  exact R_iret rfl rfl rfl ⟨hI, fr, _, rfl, by omega⟩
                · refine R_lload (k := 5) rfl rfl ?_
                  refine R_callS (As := [.inr (.inl w40)]) (rest := []) rfl mt_8_i351 (by decide) pp_J13_bitCount_95d88 (by decide) rfl rfl (Nat.le_of_ble_eq_true rfl) (Nat.le_of_ble_eq_true rfl) ((k_J13_bitCount_95d88 h38 hI w40).mono (fun r55 h56 p57 => ?_))
                  obtain ⟨rfl, x58, rfl, q59⟩ := p57
                  show RUN d_X8_drawn 78 [(5, .inr (.inl w40)), (3, .inr (.inl w29)), (0, .inr (.inr (.inl 0))), (1, .inl a0), (2, .inl a1)] [.inl x58] h38 _
                  refine R_goto 94 rfl rfl ?_
                  exact R_iret rfl rfl rfl ⟨hI, fr, _, rfl, by omega⟩
              · refine R_lload_n (k := 3) rfl rfl rfl ?_
                refine R_callS (As := [.inr (.inl w29)]) (rest := []) rfl mt_8_i351 (by decide) pp_J13_bitCount_95d88 (by decide) rfl rfl (Nat.le_of_ble_eq_true rfl) (Nat.le_of_ble_eq_true rfl) ((k_J13_bitCount_95d88 h hI w29).mono (fun r60 h61 p62 => ?_))
                obtain ⟨rfl, x63, rfl, q64⟩ := p62
                show RUN d_X8_drawn 44 [(3, .inr (.inl w29)), (0, .inr (.inr (.inl 0))), (1, .inl a0), (2, .inl a1)] [.inl x63] h _
                exact R_iret rfl rfl rfl ⟨hI, fr, _, rfl, by omega⟩
            · refine R_bipush (-2) rfl rfl ?_
              exact R_iret rfl rfl rfl ⟨hI, fr, _, rfl, by rw [show ((-2) : Int32).toInt = (-2) from rfl]; omega⟩
abbrev q_X9_isSeed (h : PH) (a0 : Int32) : Option PV → PH → Prop := fun r h' => h = h' ∧ ∃ z : Int32, r = some (.inl z) ∧ ((z.toInt = 0 ∧ a0.toInt ≤ (-1)) ∨ (z.toInt = 0 ∧ 2000000001 ≤ a0.toInt) ∨ (z.toInt = 1 ∧ 0 ≤ a0.toInt ∧ a0.toInt ≤ 2000000000))
set_option maxHeartbeats 4000000 in
set_option maxRecDepth 100000 in
theorem k_X9_isSeed (h : PH) (hI : INV h) (a0 : Int32) : CALL d_X9_isSeed [.inl a0] h (q_X9_isSeed h a0) := by
  show RUN d_X9_isSeed 0 [(0, .inl a0)] [] h _
  have b1 := i_rng a0
  refine R_iload_n (k := 0) rfl rfl rfl ?_
  refine N_i2l rfl (fun w2 q3 => ?_)
  refine R_lconst 0 rfl rfl ?_
  refine R_ldc2 (x := 2000000000) rfl kt_9_516 ?_
  have k4 : (0 : Int64).toInt = 0 := by decide
  have k5 : (2000000000 : Int64).toInt = 2000000000 := by decide
  refine R_callS (As := [.inr (.inl w2), .inr (.inl 0), .inr (.inl 2000000000)]) (rest := []) rfl mt_9_i125 (by decide) pp_X9_in (by decide) rfl rfl (Nat.le_of_ble_eq_true rfl) (Nat.le_of_ble_eq_true rfl) ((k_X9_in h hI w2 (0 : Int64) (2000000000 : Int64)).mono (fun r6 h7 p8 => ?_))
  obtain ⟨rfl, x9, rfl, q10 | q10 | q10⟩ := p8
  · show RUN d_X9_isSeed 9 [(0, .inl a0)] [.inl x9] h _
    exact R_iret rfl rfl (nar_z (by omega)) ⟨rfl, _, rfl, by omega⟩
  · show RUN d_X9_isSeed 9 [(0, .inl a0)] [.inl x9] h _
    exact R_iret rfl rfl (nar_z (by omega)) ⟨rfl, _, rfl, by omega⟩
  · show RUN d_X9_isSeed 9 [(0, .inl a0)] [.inl x9] h _
    exact R_iret rfl rfl (nar_z (by omega)) ⟨rfl, _, rfl, by omega⟩
abbrev q_X8_luck (h : PH) (a0 : Int32) (a1 : Int32) : Option PV → PH → Prop := fun r h' => INV h' ∧ FR [70, 71, 72, 73, 74] h h' ∧ ∃ z : Int32, r = some (.inl z) ∧ ((True))
set_option maxHeartbeats 4000000 in
set_option maxRecDepth 100000 in
theorem k_X8_luck (h : PH) (hI : INV h) (a0 : Int32) (a1 : Int32) : CALL d_X8_luck [.inr (.inr (.inl 0)), .inl a0, .inl a1] h (q_X8_luck h a0 a1) := by
  show RUN d_X8_luck 0 [(0, .inr (.inr (.inl 0))), (1, .inl a0), (2, .inl a1)] [] h _
  have b1 := i_rng a0
  have b2 := i_rng a1
  have fr : FR [70, 71, 72, 73, 74] h h := FR.rf _ _
  refine R_aload_n (k := 0) rfl rfl rfl ?_
  refine R_getf_r (j := 3) rfl ft_8_28 sh_0 rfl ?_
  refine R_callV (v := .inr (.inr (.inl 16))) (As := []) (rest := []) rfl mt_8_i146 pp_X1_stands (by decide) rfl rfl rfl (Nat.le_of_ble_eq_true rfl) (Nat.le_of_ble_eq_true rfl) ((k_X1_stands h hI).mono (fun r3 h4 p5 => ?_))
  obtain ⟨rfl, x6, rfl, q7 | q7⟩ := p5
  · have b8 : (0 : Int) ≤ (h.1 17 0).toInt ∧ (h.1 17 0).toInt ≤ 60 := hI.1 17 0
    have e9 : 0 < (h.1 17 10).toInt → 1 ≤ (h.1 17 0).toInt := hI.2.1
    show RUN d_X8_luck 7 [(0, .inr (.inr (.inl 0))), (1, .inl a0), (2, .inl a1)] [.inl x6] h _
    refine N_if_eq (a := x6.toInt) 28 rfl rfl rfl (fun c10 => ?_) (fun c10 => ?_)
    · refine R_bipush (-2) rfl rfl ?_
      exact R_iret rfl rfl rfl ⟨hI, fr, _, rfl, trivial⟩
    · exfalso; omega
  · have b11 : (0 : Int) ≤ (h.1 17 0).toInt ∧ (h.1 17 0).toInt ≤ 60 := hI.1 17 0
    have e12 : 0 < (h.1 17 10).toInt → 1 ≤ (h.1 17 0).toInt := hI.2.1
    show RUN d_X8_luck 7 [(0, .inr (.inr (.inl 0))), (1, .inl a0), (2, .inl a1)] [.inl x6] h _
    refine N_if_eq (a := x6.toInt) 28 rfl rfl rfl (fun c13 => ?_) (fun c13 => ?_)
    · exfalso; omega
    · refine R_iload_n (k := 1) rfl rfl rfl ?_
      refine R_callS (As := [.inl a0]) (rest := []) rfl mt_8_i366 (by decide) pp_X8_isSeed (by decide) rfl rfl (Nat.le_of_ble_eq_true rfl) (Nat.le_of_ble_eq_true rfl) ((k_X8_isSeed h hI a0).mono (fun r14 h15 p16 => ?_))
      obtain ⟨rfl, x17, rfl, q18 | q18 | q18⟩ := p16
      · show RUN d_X8_luck 14 [(0, .inr (.inr (.inl 0))), (1, .inl a0), (2, .inl a1)] [.inl x17] h _
        refine N_if_eq (a := x17.toInt) 28 rfl rfl rfl (fun c19 => ?_) (fun c19 => ?_)
        · refine R_bipush (-2) rfl rfl ?_
          exact R_iret rfl rfl rfl ⟨hI, fr, _, rfl, trivial⟩
        · exfalso; omega
      · show RUN d_X8_luck 14 [(0, .inr (.inr (.inl 0))), (1, .inl a0), (2, .inl a1)] [.inl x17] h _
        refine N_if_eq (a := x17.toInt) 28 rfl rfl rfl (fun c20 => ?_) (fun c20 => ?_)
        · refine R_bipush (-2) rfl rfl ?_
          exact R_iret rfl rfl rfl ⟨hI, fr, _, rfl, trivial⟩
        · exfalso; omega
      · show RUN d_X8_luck 14 [(0, .inr (.inr (.inl 0))), (1, .inl a0), (2, .inl a1)] [.inl x17] h _
        refine N_if_eq (a := x17.toInt) 28 rfl rfl rfl (fun c21 => ?_) (fun c21 => ?_)
        · exfalso; omega
        · refine R_iload_n (k := 2) rfl rfl rfl ?_
          refine R_iconst 1 rfl rfl ?_
          refine N_icmp_lt (a := a1.toInt) (b := 1) 28 rfl rfl rfl (by decide) (fun c22 => ?_) (fun c22 => ?_)
          · refine R_bipush (-2) rfl rfl ?_
            exact R_iret rfl rfl rfl ⟨hI, fr, _, rfl, trivial⟩
          · refine R_iload_n (k := 2) rfl rfl rfl ?_
            refine R_bipush 20 rfl rfl ?_
            refine N_icmp_le (a := a1.toInt) (b := 20) 31 rfl rfl rfl (by decide) (fun c23 => ?_) (fun c23 => ?_)
            · refine R_aload_n (k := 0) rfl rfl rfl ?_
              refine R_callV (v := .inr (.inr (.inl 0))) (As := []) (rest := []) rfl mt_8_i237 pp_X8_lineAsNow (by decide) rfl rfl rfl (Nat.le_of_ble_eq_true rfl) (Nat.le_of_ble_eq_true rfl) ((k_X8_lineAsNow h hI).mono (fun r24 h25 p26 => ?_))
              obtain ⟨hJ, fj, rfl⟩ := p26
              have f27 := fj
              have fr := fr.trans fj (by decide)
              have hI := hJ
              have s28 : (h25.1 17 0).toInt = (h.1 17 0).toInt := by rw [(f27 17 (by decide)).1]
              have s29 : (h25.1 17 10).toInt = (h.1 17 10).toInt := by rw [(f27 17 (by decide)).1]
              show RUN d_X8_luck 35 [(0, .inr (.inr (.inl 0))), (1, .inl a0), (2, .inl a1)] [] h25 _
              refine R_iconst 0 rfl rfl ?_
              refine R_istore_n (k := 3) rfl [(3, .inl 0), (0, .inr (.inr (.inl 0))), (1, .inl a0), (2, .inl a1)] rfl rfl (by decide) ?_
              refine R_iconst 0 rfl rfl ?_
              refine R_istore (k := 4) [(4, .inl 0), (3, .inl 0), (0, .inr (.inr (.inl 0))), (1, .inl a0), (2, .inl a1)] rfl rfl (by decide) ?_
              have lp31 : ∀ (n30 : Nat) (h32 : PH) (x34 : Int32) (x35 : Int32), INV h32 → FR [70, 71, 72, 73, 74] h h32 → FR [70, 74] h25 h32 → 0 ≤ x35.toInt ∧ x35.toInt ≤ 2147483647 → (2147483647 - x35.toInt).toNat < n30 → RUN d_X8_luck 40 [(4, .inl x35), (3, .inl x34), (0, .inr (.inr (.inl 0))), (1, .inl a0), (2, .inl a1)] [] h32 (q_X8_luck h a0 a1) := by
                intro n30
                induction n30 with
                | zero => intro h32 x34 x35 m37 m38 m39 m40 hz; exact absurd hz (Nat.not_lt_zero _)
                | succ n30 ih36 =>
                  intro h32 x34 x35 hI fr fl33 m40 hz
                  have s41 : (h32.1 17 0).toInt = (h25.1 17 0).toInt := by rw [(fl33 17 (by decide)).1]
                  have s42 : (h32.1 17 10).toInt = (h25.1 17 10).toInt := by rw [(fl33 17 (by decide)).1]
                  refine R_iload (k := 4) rfl rfl ?_
                  refine R_iload_n (k := 2) rfl rfl rfl ?_
                  refine N_icmp_ge (a := x35.toInt) (b := a1.toInt) 100 rfl rfl rfl rfl (fun c43 => ?_) (fun c43 => ?_)
                  · refine R_iload_n (k := 3) rfl rfl rfl ?_
                    exact R_iret rfl rfl rfl ⟨hI, fr, _, rfl, trivial⟩
                  · refine R_aload_n (k := 0) rfl rfl rfl ?_
                    refine R_getf_r (j := 7) rfl ft_8_49 sh_0 rfl ?_
                    refine R_aload_n (k := 0) rfl rfl rfl ?_
                    refine R_getf_r (j := 3) rfl ft_8_28 sh_0 rfl ?_
                    refine R_getf_r (j := 0) rfl ft_8_109 sh_16 rfl ?_
                    refine R_iconst 0 rfl rfl ?_
                    refine R_iald rfl sh_17 (by decide) ?_
                    show RUN d_X8_luck 59 [(4, .inl x35), (3, .inl x34), (0, .inr (.inr (.inl 0))), (1, .inl a0), (2, .inl a1)] [.inl (h32.1 17 0), .inr (.inr (.inl 70))] h32 _
                    refine R_aload_n (k := 0) rfl rfl rfl ?_
                    refine R_iload_n (k := 1) rfl rfl rfl ?_
                    refine N_i2l rfl (fun w44 q45 => ?_)
                    refine R_iload (k := 4) rfl rfl ?_
                    refine N_i2l rfl (fun w46 q47 => ?_)
                    refine R_ladd rfl ?_
                    refine N_anyL (fun w48 => ?_)
                    refine R_callV (v := .inr (.inr (.inl 0))) (As := [.inr (.inl w48)]) (rest := [.inl (h32.1 17 0), .inr (.inr (.inl 70))]) rfl mt_8_i369 pp_X8_slipsFrom (by decide) rfl rfl rfl (Nat.le_of_ble_eq_true rfl) (Nat.le_of_ble_eq_true rfl) ((k_X8_slipsFrom h32 hI w48).mono (fun r49 h50 p51 => ?_))
                    obtain ⟨rfl, w52, rfl⟩ := p51
                    show RUN d_X8_luck 69 [(4, .inl x35), (3, .inl x34), (0, .inr (.inr (.inl 0))), (1, .inl a0), (2, .inl a1)] [.inr (.inl w52), .inl (h32.1 17 0), .inr (.inr (.inl 70))] h32 _
                    refine R_callV (v := .inr (.inr (.inl 70))) (As := [.inl (h32.1 17 0), .inr (.inl w52)]) (rest := []) rfl mt_8_i347 pp_X2_play (by decide) rfl rfl rfl (Nat.le_of_ble_eq_true rfl) (Nat.le_of_ble_eq_true rfl) ((k_X2_play h32 hI (h32.1 17 0) w52 (by omega)).mono (fun r53 h54 p55 => ?_))
                    obtain ⟨hJ, fj, w56, rfl⟩ := p55
                    have f57 := fj
                    have fr := fr.trans fj (by decide)
                    have hI := hJ
                    have fl33 : FR [70, 74] h25 h54 := fl33.trans fj (by decide)
                    have s58 : (h54.1 17 0).toInt = (h32.1 17 0).toInt := by rw [(f57 17 (by decide)).1]
                    have s59 : (h54.1 17 10).toInt = (h32.1 17 10).toInt := by rw [(f57 17 (by decide)).1]
                    show RUN d_X8_luck 72 [(4, .inl x35), (3, .inl x34), (0, .inr (.inr (.inl 0))), (1, .inl a0), (2, .inl a1)] [.inr (.inl w56)] h54 _
                    refine R_lstore (k := 5) [(5, .inr (.inl w56)), (4, .inl x35), (3, .inl x34), (0, .inr (.inr (.inl 0))), (1, .inl a0), (2, .inl a1)] rfl rfl (by decide) ?_
                    refine R_aload_n (k := 0) rfl rfl rfl ?_
                    refine R_lload (k := 5) rfl rfl ?_
                    refine R_aload_n (k := 0) rfl rfl rfl ?_
                    refine R_getf_r (j := 7) rfl ft_8_49 sh_0 rfl ?_
                    refine R_callV (v := .inr (.inr (.inl 70))) (As := []) (rest := [.inr (.inl w56), .inr (.inr (.inl 0))]) rfl mt_8_i247 pp_X2_poured (by decide) rfl rfl rfl (Nat.le_of_ble_eq_true rfl) (Nat.le_of_ble_eq_true rfl) ((k_X2_poured h54 hI).mono (fun r60 h61 p62 => ?_))
                    obtain ⟨rfl, x63, rfl, q64⟩ := p62
                    show RUN d_X8_luck 84 [(5, .inr (.inl w56)), (4, .inl x35), (3, .inl x34), (0, .inr (.inr (.inl 0))), (1, .inl a0), (2, .inl a1)] [.inl x63, .inr (.inl w56), .inr (.inr (.inl 0))] h54 _
                    refine R_callV (v := .inr (.inr (.inl 0))) (As := [.inr (.inl w56), .inl x63]) (rest := []) rfl mt_8_i219 pp_X8_outBy (by decide) rfl rfl rfl (Nat.le_of_ble_eq_true rfl) (Nat.le_of_ble_eq_true rfl) ((k_X8_outBy h54 hI w56 x63).mono (fun r65 h66 p67 => ?_))
                    obtain ⟨rfl, x68, rfl, q69⟩ := p67
                    show RUN d_X8_luck 87 [(5, .inr (.inl w56)), (4, .inl x35), (3, .inl x34), (0, .inr (.inr (.inl 0))), (1, .inl a0), (2, .inl a1)] [.inl x68] h54 _
                    refine R_iconst (-1) rfl rfl ?_
                    refine N_icmp_eq (a := x68.toInt) (b := (-1)) 94 rfl rfl rfl (by decide) (fun c70 => ?_) (fun c70 => ?_)
                    · refine N_iinc (a := x35.toInt) (c := 1) (fun w => [(4, .inl w), (5, .inr (.inl w56)), (3, .inl x34), (0, .inr (.inr (.inl 0))), (1, .inl a0), (2, .inl a1)]) rfl rfl (fun _ => rfl) (by decide) rfl (by decide) (by omega) (fun x71 q72 => ?_)
                      refine R_goto 40 rfl rfl ?_
                      exact RUN_weak (psub_cons rfl (psub_cons rfl (psub_cons rfl (psub_cons rfl (psub_cons rfl (psub_nil _)))))) (ih36 h54 x34 x71 hI fr fl33 (by omega) (by omega))
                    · have b73 := i_rng x34
                      refine N_iinc_any (fun w => [(3, .inl w), (5, .inr (.inl w56)), (4, .inl x35), (0, .inr (.inr (.inl 0))), (1, .inl a0), (2, .inl a1)]) rfl rfl (fun _ => rfl) (by decide) (fun x74 => ?_)
                      refine N_iinc (a := x35.toInt) (c := 1) (fun w => [(4, .inl w), (3, .inl x74), (5, .inr (.inl w56)), (0, .inr (.inr (.inl 0))), (1, .inl a0), (2, .inl a1)]) rfl rfl (fun _ => rfl) (by decide) rfl (by decide) (by omega) (fun x75 q76 => ?_)
                      refine R_goto 40 rfl rfl ?_
                      exact RUN_weak (psub_cons rfl (psub_cons rfl (psub_cons rfl (psub_cons rfl (psub_cons rfl (psub_nil _)))))) (ih36 h54 x74 x75 hI fr fl33 (by omega) (by omega))
              exact lp31 _ h25 (0 : Int32) (0 : Int32) hI fr (FR.rf _ _) (by decide) (Nat.lt_succ_self _)
            · refine R_bipush (-2) rfl rfl ?_
              exact R_iret rfl rfl rfl ⟨hI, fr, _, rfl, trivial⟩
abbrev q_X5_rowsThere (h : PH)  : Option PV → PH → Prop := fun r h' => h = h' ∧ ∃ z : Int32, r = some (.inl z) ∧ ((True))
set_option maxHeartbeats 4000000 in
set_option maxRecDepth 100000 in
theorem k_X5_rowsThere (h : PH) (hI : INV h)  : CALL d_X5_rowsThere [.inr (.inr (.inl 66))] h (q_X5_rowsThere h) := by
  show RUN d_X5_rowsThere 0 [(0, .inr (.inr (.inl 66)))] [] h _
  refine R_iconst 0 rfl rfl ?_
  refine R_istore_n (k := 1) rfl [(1, .inl 0), (0, .inr (.inr (.inl 66)))] rfl rfl (by decide) ?_
  refine R_iconst 0 rfl rfl ?_
  refine R_istore_n (k := 2) rfl [(2, .inl 0), (1, .inl 0), (0, .inr (.inr (.inl 66)))] rfl rfl (by decide) ?_
  have lp2 : ∀ (n1 : Nat) (x3 : Int32) (x4 : Int32), 0 ≤ x4.toInt ∧ x4.toInt ≤ 4 → (4 - x4.toInt).toNat < n1 → RUN d_X5_rowsThere 4 [(2, .inl x4), (1, .inl x3), (0, .inr (.inr (.inl 66)))] [] h (q_X5_rowsThere h) := by
    intro n1
    induction n1 with
    | zero => intro x3 x4 m6 hz; exact absurd hz (Nat.not_lt_zero _)
    | succ n1 ih5 =>
      intro x3 x4 m6 hz
      refine R_iload_n (k := 2) rfl rfl rfl ?_
      refine R_iconst 4 rfl rfl ?_
      refine N_icmp_ge (a := x4.toInt) (b := 4) 26 rfl rfl rfl (by decide) (fun c7 => ?_) (fun c7 => ?_)
      · refine R_iload_n (k := 1) rfl rfl rfl ?_
        exact R_iret rfl rfl rfl ⟨rfl, _, rfl, trivial⟩
      · refine R_aload_n (k := 0) rfl rfl rfl ?_
        refine R_iload_n (k := 2) rfl rfl rfl ?_
        refine R_callV (v := .inr (.inr (.inl 66))) (As := [.inl x4]) (rest := []) rfl mt_5_i22 pp_X5_hasRow (by decide) rfl rfl rfl (Nat.le_of_ble_eq_true rfl) (Nat.le_of_ble_eq_true rfl) ((k_X5_hasRow h hI x4 (by omega)).mono (fun r8 h9 p10 => ?_))
        obtain ⟨rfl, x11, rfl, q12 | q12⟩ := p10
        · show RUN d_X5_rowsThere 14 [(2, .inl x4), (1, .inl x3), (0, .inr (.inr (.inl 66)))] [.inl x11] h _
          refine N_if_eq (a := x11.toInt) 20 rfl rfl rfl (fun c13 => ?_) (fun c13 => ?_)
          · refine N_iinc (a := x4.toInt) (c := 1) (fun w => [(2, .inl w), (1, .inl x3), (0, .inr (.inr (.inl 66)))]) rfl rfl (fun _ => rfl) (by decide) rfl (by decide) (by omega) (fun x14 q15 => ?_)
            refine R_goto 4 rfl rfl ?_
            exact RUN_weak (psub_cons rfl (psub_cons rfl (psub_cons rfl (psub_nil _)))) (ih5 x3 x14 (by omega) (by omega))
          · exfalso; omega
        · show RUN d_X5_rowsThere 14 [(2, .inl x4), (1, .inl x3), (0, .inr (.inr (.inl 66)))] [.inl x11] h _
          refine N_if_eq (a := x11.toInt) 20 rfl rfl rfl (fun c16 => ?_) (fun c16 => ?_)
          · exfalso; omega
          · have b17 := i_rng x3
            refine N_iinc_any (fun w => [(1, .inl w), (2, .inl x4), (0, .inr (.inr (.inl 66)))]) rfl rfl (fun _ => rfl) (by decide) (fun x18 => ?_)
            refine N_iinc (a := x4.toInt) (c := 1) (fun w => [(2, .inl w), (1, .inl x18), (0, .inr (.inr (.inl 66)))]) rfl rfl (fun _ => rfl) (by decide) rfl (by decide) (by omega) (fun x19 q20 => ?_)
            refine R_goto 4 rfl rfl ?_
            exact RUN_weak (psub_cons rfl (psub_cons rfl (psub_cons rfl (psub_nil _)))) (ih5 x18 x19 (by omega) (by omega))
  exact lp2 _ (0 : Int32) (0 : Int32) (by decide) (Nat.lt_succ_self _)
abbrev q_X8_count (h : PH) (a0 : Int32) : Option PV → PH → Prop := fun r h' => h = h' ∧ ∃ z : Int32, r = some (.inl z) ∧ ((True))
set_option maxHeartbeats 4000000 in
set_option maxRecDepth 100000 in
theorem k_X8_count (h : PH) (hI : INV h) (a0 : Int32) : CALL d_X8_count [.inr (.inr (.inl 0)), .inl a0] h (q_X8_count h a0) := by
  show RUN d_X8_count 0 [(0, .inr (.inr (.inl 0))), (1, .inl a0)] [] h _
  have b1 := i_rng a0
  refine R_iload_n (k := 1) rfl rfl rfl ?_
  refine N_if_lt (a := a0.toInt) 20 rfl rfl rfl (fun c2 => ?_) (fun c2 => ?_)
  · refine R_iload_n (k := 1) rfl rfl rfl ?_
    refine R_bipush 11 rfl rfl ?_
    refine N_icmp_ne (a := a0.toInt) (b := 11) 34 rfl rfl rfl (by decide) (fun c3 => ?_) (fun c3 => ?_)
    · refine R_iload_n (k := 1) rfl rfl rfl ?_
      refine R_bipush 12 rfl rfl ?_
      refine N_icmp_ne (a := a0.toInt) (b := 12) 50 rfl rfl rfl (by decide) (fun c4 => ?_) (fun c4 => ?_)
      · refine R_iconst (-1) rfl rfl ?_
        exact R_iret rfl rfl rfl ⟨rfl, _, rfl, trivial⟩
      · exfalso; omega
    · exfalso; omega
  · refine R_iload_n (k := 1) rfl rfl rfl ?_
    refine R_bipush 11 rfl rfl ?_
    refine N_icmp_ge (a := a0.toInt) (b := 11) 20 rfl rfl rfl (by decide) (fun c5 => ?_) (fun c5 => ?_)
    · refine R_iload_n (k := 1) rfl rfl rfl ?_
      refine R_bipush 11 rfl rfl ?_
      refine N_icmp_ne (a := a0.toInt) (b := 11) 34 rfl rfl rfl (by decide) (fun c6 => ?_) (fun c6 => ?_)
      · refine R_iload_n (k := 1) rfl rfl rfl ?_
        refine R_bipush 12 rfl rfl ?_
        refine N_icmp_ne (a := a0.toInt) (b := 12) 50 rfl rfl rfl (by decide) (fun c7 => ?_) (fun c7 => ?_)
        · refine R_iconst (-1) rfl rfl ?_
          exact R_iret rfl rfl rfl ⟨rfl, _, rfl, trivial⟩
        · refine R_aload_n (k := 0) rfl rfl rfl ?_
          refine R_getf_r (j := 6) rfl ft_8_42 sh_0 rfl ?_
          refine R_callV (v := .inr (.inr (.inl 66))) (As := []) (rest := []) rfl mt_8_i383 pp_X5_rowsThere (by decide) rfl rfl rfl (Nat.le_of_ble_eq_true rfl) (Nat.le_of_ble_eq_true rfl) ((k_X5_rowsThere h hI).mono (fun r8 h9 p10 => ?_))
          obtain ⟨rfl, x11, rfl, q12⟩ := p10
          show RUN d_X8_count 47 [(0, .inr (.inr (.inl 0))), (1, .inl a0)] [.inl x11] h _
          refine R_goto 51 rfl rfl ?_
          exact R_iret rfl rfl rfl ⟨rfl, _, rfl, trivial⟩
      · refine R_aload_n (k := 0) rfl rfl rfl ?_
        refine R_getf_r (j := 1) rfl ft_8_20 sh_0 rfl ?_
        refine R_getf_i (j := 1) rfl ft_8_94 sh_2 rfl ?_
        have b13 : (0 : Int) ≤ (h.1 2 1).toInt ∧ (h.1 2 1).toInt ≤ 500 := hI.1 2 1
        exact R_iret rfl rfl rfl ⟨rfl, _, rfl, trivial⟩
    · refine R_aload_n (k := 0) rfl rfl rfl ?_
      refine R_getf_r (j := 3) rfl ft_8_28 sh_0 rfl ?_
      refine R_getf_r (j := 0) rfl ft_8_109 sh_16 rfl ?_
      refine R_iload_n (k := 1) rfl rfl rfl ?_
      refine R_iald rfl sh_17 ⟨by omega, by omega⟩ ?_
      refine N_any (fun x14 => ?_)
      exact R_iret rfl rfl rfl ⟨rfl, _, rfl, trivial⟩
abbrev q_X9_count (h : PH) (a0 : Int32) : Option PV → PH → Prop := fun r h' => h = h' ∧ ∃ z : Int32, r = some (.inl z) ∧ ((True))
set_option maxHeartbeats 4000000 in
set_option maxRecDepth 100000 in
theorem k_X9_count (h : PH) (hI : INV h) (a0 : Int32) : CALL d_X9_count [.inr (.inr (.inl 96)), .inl a0] h (q_X9_count h a0) := by
  show RUN d_X9_count 0 [(0, .inr (.inr (.inl 96))), (1, .inl a0)] [] h _
  have b1 := i_rng a0
  refine R_iload_n (k := 1) rfl rfl rfl ?_
  refine N_i2l rfl (fun w2 q3 => ?_)
  refine R_lconst 0 rfl rfl ?_
  refine R_ldc2 (x := 10) rfl kt_9_514 ?_
  have k4 : (0 : Int64).toInt = 0 := by decide
  have k5 : (10 : Int64).toInt = 10 := by decide
  refine R_callS (As := [.inr (.inl w2), .inr (.inl 0), .inr (.inl 10)]) (rest := []) rfl mt_9_i125 (by decide) pp_X9_in (by decide) rfl rfl (Nat.le_of_ble_eq_true rfl) (Nat.le_of_ble_eq_true rfl) ((k_X9_in h hI w2 (0 : Int64) (10 : Int64)).mono (fun r6 h7 p8 => ?_))
  obtain ⟨rfl, x9, rfl, q10 | q10 | q10⟩ := p8
  · show RUN d_X9_count 9 [(0, .inr (.inr (.inl 96))), (1, .inl a0)] [.inl x9] h _
    refine N_if_eq (a := x9.toInt) 19 rfl rfl rfl (fun c11 => ?_) (fun c11 => ?_)
    · refine R_iload_n (k := 1) rfl rfl rfl ?_
      refine R_bipush 11 rfl rfl ?_
      refine N_icmp_ne (a := a0.toInt) (b := 11) 30 rfl rfl rfl (by decide) (fun c12 => ?_) (fun c12 => ?_)
      · refine R_iload_n (k := 1) rfl rfl rfl ?_
        refine R_bipush 12 rfl rfl ?_
        refine N_icmp_eq (a := a0.toInt) (b := 12) 38 rfl rfl rfl (by decide) (fun c13 => ?_) (fun c13 => ?_)
        · exfalso; omega
        · refine R_iconst (-1) rfl rfl ?_
          exact R_iret rfl rfl rfl ⟨rfl, _, rfl, trivial⟩
      · exfalso; omega
    · exfalso; omega
  · show RUN d_X9_count 9 [(0, .inr (.inr (.inl 96))), (1, .inl a0)] [.inl x9] h _
    refine N_if_eq (a := x9.toInt) 19 rfl rfl rfl (fun c14 => ?_) (fun c14 => ?_)
    · refine R_iload_n (k := 1) rfl rfl rfl ?_
      refine R_bipush 11 rfl rfl ?_
      refine N_icmp_ne (a := a0.toInt) (b := 11) 30 rfl rfl rfl (by decide) (fun c15 => ?_) (fun c15 => ?_)
      · refine R_iload_n (k := 1) rfl rfl rfl ?_
        refine R_bipush 12 rfl rfl ?_
        refine N_icmp_eq (a := a0.toInt) (b := 12) 38 rfl rfl rfl (by decide) (fun c16 => ?_) (fun c16 => ?_)
        · refine R_iconst 0 rfl rfl ?_
          refine R_istore_n (k := 2) rfl [(2, .inl 0), (0, .inr (.inr (.inl 96))), (1, .inl a0)] rfl rfl (by decide) ?_
          refine R_iconst 0 rfl rfl ?_
          refine R_istore_n (k := 3) rfl [(3, .inl 0), (2, .inl 0), (0, .inr (.inr (.inl 96))), (1, .inl a0)] rfl rfl (by decide) ?_
          have lp18 : ∀ (n17 : Nat) (x19 : Int32) (x20 : Int32), 0 ≤ x20.toInt ∧ x20.toInt ≤ 4 → (4 - x20.toInt).toNat < n17 → RUN d_X9_count 42 [(3, .inl x20), (2, .inl x19), (0, .inr (.inr (.inl 96))), (1, .inl a0)] [] h (q_X9_count h a0) := by
            intro n17
            induction n17 with
            | zero => intro x19 x20 m22 hz; exact absurd hz (Nat.not_lt_zero _)
            | succ n17 ih21 =>
              intro x19 x20 m22 hz
              refine R_iload_n (k := 3) rfl rfl rfl ?_
              refine R_iconst 4 rfl rfl ?_
              refine N_icmp_ge (a := x20.toInt) (b := 4) 71 rfl rfl rfl (by decide) (fun c23 => ?_) (fun c23 => ?_)
              · refine R_iload_n (k := 2) rfl rfl rfl ?_
                exact R_iret rfl rfl rfl ⟨rfl, _, rfl, trivial⟩
              · refine R_iload_n (k := 2) rfl rfl rfl ?_
                refine R_aload_n (k := 0) rfl rfl rfl ?_
                refine R_getf_r (j := 57) rfl ft_9_107 sh_96 rfl ?_
                refine R_iload_n (k := 3) rfl rfl rfl ?_
                refine R_iald rfl sh_127 ⟨by omega, by omega⟩ ?_
                refine N_bd (lo := (-1)) (hi := 60) (hI.1 127 _) (fun x24 q25 => ?_)
                refine R_iconst (-1) rfl rfl ?_
                refine N_icmp_ne (a := x24.toInt) (b := (-1)) 62 rfl rfl rfl (by decide) (fun c26 => ?_) (fun c26 => ?_)
                · refine R_iconst 1 rfl rfl ?_
                  have b27 := i_rng x19
                  refine R_iadd rfl ?_
                  refine N_any (fun x28 => ?_)
                  refine R_istore_n (k := 2) rfl [(2, .inl x28), (3, .inl x20), (0, .inr (.inr (.inl 96))), (1, .inl a0)] rfl rfl (by decide) ?_
                  refine N_iinc (a := x20.toInt) (c := 1) (fun w => [(3, .inl w), (2, .inl x28), (0, .inr (.inr (.inl 96))), (1, .inl a0)]) rfl rfl (fun _ => rfl) (by decide) rfl (by decide) (by omega) (fun x29 q30 => ?_)
                  refine R_goto 42 rfl rfl ?_
                  exact RUN_weak (psub_cons rfl (psub_cons rfl (psub_cons rfl (psub_cons rfl (psub_nil _))))) (ih21 x28 x29 (by omega) (by omega))
                · refine R_iconst 0 rfl rfl ?_
                  refine R_goto 63 rfl rfl ?_
                  have b31 := i_rng x19
                  refine N_iadd (a := x19.toInt) (b := 0) rfl rfl (by decide) (by omega) (fun x32 q33 => ?_)
                  refine R_istore_n (k := 2) rfl [(2, .inl x32), (3, .inl x20), (0, .inr (.inr (.inl 96))), (1, .inl a0)] rfl rfl (by decide) ?_
                  refine N_iinc (a := x20.toInt) (c := 1) (fun w => [(3, .inl w), (2, .inl x32), (0, .inr (.inr (.inl 96))), (1, .inl a0)]) rfl rfl (fun _ => rfl) (by decide) rfl (by decide) (by omega) (fun x34 q35 => ?_)
                  refine R_goto 42 rfl rfl ?_
                  exact RUN_weak (psub_cons rfl (psub_cons rfl (psub_cons rfl (psub_cons rfl (psub_nil _))))) (ih21 x32 x34 (by omega) (by omega))
          exact lp18 _ (0 : Int32) (0 : Int32) (by decide) (Nat.lt_succ_self _)
        · refine R_iconst (-1) rfl rfl ?_
          exact R_iret rfl rfl rfl ⟨rfl, _, rfl, trivial⟩
      · refine R_aload_n (k := 0) rfl rfl rfl ?_
        refine R_getf_i (j := 5) rfl ft_9_136 sh_96 rfl ?_
        have b36 : (0 : Int) ≤ (h.1 96 5).toInt ∧ (h.1 96 5).toInt ≤ 500 := hI.1 96 5
        exact R_iret rfl rfl rfl ⟨rfl, _, rfl, trivial⟩
    · exfalso; omega
  · show RUN d_X9_count 9 [(0, .inr (.inr (.inl 96))), (1, .inl a0)] [.inl x9] h _
    refine N_if_eq (a := x9.toInt) 19 rfl rfl rfl (fun c37 => ?_) (fun c37 => ?_)
    · exfalso; omega
    · refine R_aload_n (k := 0) rfl rfl rfl ?_
      refine R_getf_r (j := 1) rfl ft_9_9 sh_96 rfl ?_
      refine R_iload_n (k := 1) rfl rfl rfl ?_
      refine R_iald rfl sh_97 ⟨by omega, by omega⟩ ?_
      refine N_any (fun x38 => ?_)
      exact R_iret rfl rfl rfl ⟨rfl, _, rfl, trivial⟩
abbrev q_X5_makeRow (h : PH) (a0 : Int32) (a1 : Int32) (a2 : Int32) : Option PV → PH → Prop := fun r h' => INV h' ∧ FR [67, 68, 69] h h' ∧ r = none
set_option maxHeartbeats 4000000 in
set_option maxRecDepth 100000 in
theorem k_X5_makeRow (h : PH) (hI : INV h) (a0 : Int32) (a1 : Int32) (a2 : Int32) (h0a : 0 ≤ a0.toInt ∧ a0.toInt ≤ 3) (h1a : 0 ≤ a1.toInt ∧ a1.toInt ≤ 3) (h2a : 0 ≤ a2.toInt ∧ a2.toInt ≤ 60) : CALL d_X5_makeRow [.inr (.inr (.inl 66)), .inl a0, .inl a1, .inl a2] h (q_X5_makeRow h a0 a1 a2) := by
  show RUN d_X5_makeRow 0 [(0, .inr (.inr (.inl 66))), (1, .inl a0), (2, .inl a1), (3, .inl a2)] [] h _
  have fr : FR [67, 68, 69] h h := FR.rf _ _
  refine R_aload_n (k := 0) rfl rfl rfl ?_
  refine R_getf_r (j := 2) rfl ft_5_19 sh_66 rfl ?_
  refine R_iload_n (k := 1) rfl rfl rfl ?_
  refine R_iload_n (k := 2) rfl rfl rfl ?_
  refine K_iast (a := a0.toInt) (lo := (-2147483648)) (hi' := 2147483647) rfl sh_69 rfl ⟨by omega, by omega⟩ hI (by decide) rfl (i_rng _) fr (by decide) (fun h1 g2 hI fr => ?_)
  refine R_aload_n (k := 0) rfl rfl rfl ?_
  refine R_getf_r (j := 1) rfl ft_5_15 sh_66 rfl ?_
  refine R_iload_n (k := 1) rfl rfl rfl ?_
  refine R_iload_n (k := 3) rfl rfl rfl ?_
  refine K_iast (a := a0.toInt) (lo := (-1)) (hi' := 60) rfl sh_68 rfl ⟨by omega, by omega⟩ hI (by decide) rfl (by omega) fr (by decide) (fun h3 g4 hI fr => ?_)
  refine R_iconst 0 rfl rfl ?_
  refine R_istore (k := 4) [(4, .inl 0), (0, .inr (.inr (.inl 66))), (1, .inl a0), (2, .inl a1), (3, .inl a2)] rfl rfl (by decide) ?_
  have lp6 : ∀ (n5 : Nat) (h7 : PH) (x9 : Int32), INV h7 → FR [67, 68, 69] h h7 → FR [67] h3 h7 → 0 ≤ x9.toInt ∧ x9.toInt ≤ 2147483647 → (2147483647 - x9.toInt).toNat < n5 → RUN d_X5_makeRow 17 [(4, .inl x9), (0, .inr (.inr (.inl 66))), (1, .inl a0), (2, .inl a1), (3, .inl a2)] [] h7 (q_X5_makeRow h a0 a1 a2) := by
    intro n5
    induction n5 with
    | zero => intro h7 x9 m11 m12 m13 m14 hz; exact absurd hz (Nat.not_lt_zero _)
    | succ n5 ih10 =>
      intro h7 x9 hI fr fl8 m14 hz
      refine R_iload (k := 4) rfl rfl ?_
      refine R_bipush 60 rfl rfl ?_
      refine N_icmp_ge (a := x9.toInt) (b := 60) 43 rfl rfl rfl (by decide) (fun c15 => ?_) (fun c15 => ?_)
      · exact R_vret rfl rfl ⟨hI, fr, rfl⟩
      · refine R_aload_n (k := 0) rfl rfl rfl ?_
        refine R_getf_r (j := 0) rfl ft_5_11 sh_66 rfl ?_
        refine R_iload_n (k := 1) rfl rfl rfl ?_
        refine R_bipush 60 rfl rfl ?_
        refine N_imul (a := a0.toInt) (b := 60) rfl rfl (by decide) (by omega) (fun x16 q17 => ?_)
        refine R_iload (k := 4) rfl rfl ?_
        refine N_iadd (a := x16.toInt) (b := x9.toInt) rfl rfl rfl (by omega) (fun x18 q19 => ?_)
        refine R_lconst 0 rfl rfl ?_
        refine K_last (a := x18.toInt) rfl sh_67 rfl ⟨by omega, by omega⟩ hI fr (by decide) (fun h20 g21 hI fr => ?_)
        have fl8 : FR [67] h3 h20 := by rw [g21]; exact FR_wL _ _ fl8 (by decide)
        refine N_iinc (a := x9.toInt) (c := 1) (fun w => [(4, .inl w), (0, .inr (.inr (.inl 66))), (1, .inl a0), (2, .inl a1), (3, .inl a2)]) rfl rfl (fun _ => rfl) (by decide) rfl (by decide) (by omega) (fun x22 q23 => ?_)
        refine R_goto 17 rfl rfl ?_
        exact RUN_weak (psub_cons rfl (psub_cons rfl (psub_cons rfl (psub_cons rfl (psub_cons rfl (psub_nil _)))))) (ih10 h20 x22 hI fr fl8 (by omega) (by omega))
  exact lp6 _ h3 (0 : Int32) hI fr (FR.rf _ _) (by decide) (Nat.lt_succ_self _)
abbrev q_X8_row (h : PH) (a0 : Int32) (a1 : Int32) (a2 : Int32) : Option PV → PH → Prop := fun r h' => INV h' ∧ FR [67, 68, 69] h h' ∧ ∃ z : Int32, r = some (.inl z) ∧ (((-3) ≤ z.toInt ∧ z.toInt ≤ 0))
set_option maxHeartbeats 4000000 in
set_option maxRecDepth 100000 in
theorem k_X8_row (h : PH) (hI : INV h) (a0 : Int32) (a1 : Int32) (a2 : Int32) : CALL d_X8_row [.inr (.inr (.inl 0)), .inl a0, .inl a1, .inl a2] h (q_X8_row h a0 a1 a2) := by
  show RUN d_X8_row 0 [(0, .inr (.inr (.inl 0))), (1, .inl a0), (2, .inl a1), (3, .inl a2)] [] h _
  have b1 := i_rng a0
  have b2 := i_rng a1
  have b3 := i_rng a2
  have fr : FR [67, 68, 69] h h := FR.rf _ _
  refine R_aload_n (k := 0) rfl rfl rfl ?_
  refine R_getf_r (j := 6) rfl ft_8_42 sh_0 rfl ?_
  refine R_iload_n (k := 1) rfl rfl rfl ?_
  refine R_callV (v := .inr (.inr (.inl 66))) (As := [.inl a0]) (rest := []) rfl mt_8_i386 pp_X5_isSlot (by decide) rfl rfl rfl (Nat.le_of_ble_eq_true rfl) (Nat.le_of_ble_eq_true rfl) ((k_X5_isSlot h hI a0).mono (fun r4 h5 p6 => ?_))
  obtain ⟨rfl, x7, rfl, q8 | q8 | q8⟩ := p6
  · show RUN d_X8_row 8 [(0, .inr (.inr (.inl 0))), (1, .inl a0), (2, .inl a1), (3, .inl a2)] [.inl x7] h _
    refine N_if_eq (a := x7.toInt) 26 rfl rfl rfl (fun c9 => ?_) (fun c9 => ?_)
    · refine R_bipush (-2) rfl rfl ?_
      exact R_iret rfl rfl rfl ⟨hI, fr, _, rfl, by rw [show ((-2) : Int32).toInt = (-2) from rfl]; omega⟩
    · exfalso; omega
  · show RUN d_X8_row 8 [(0, .inr (.inr (.inl 0))), (1, .inl a0), (2, .inl a1), (3, .inl a2)] [.inl x7] h _
    refine N_if_eq (a := x7.toInt) 26 rfl rfl rfl (fun c10 => ?_) (fun c10 => ?_)
    · refine R_bipush (-2) rfl rfl ?_
      exact R_iret rfl rfl rfl ⟨hI, fr, _, rfl, by rw [show ((-2) : Int32).toInt = (-2) from rfl]; omega⟩
    · exfalso; omega
  · show RUN d_X8_row 8 [(0, .inr (.inr (.inl 0))), (1, .inl a0), (2, .inl a1), (3, .inl a2)] [.inl x7] h _
    refine N_if_eq (a := x7.toInt) 26 rfl rfl rfl (fun c11 => ?_) (fun c11 => ?_)
    · exfalso; omega
    · refine R_iload_n (k := 2) rfl rfl rfl ?_
      refine N_if_lt (a := a1.toInt) 26 rfl rfl rfl (fun c12 => ?_) (fun c12 => ?_)
      · refine R_bipush (-2) rfl rfl ?_
        exact R_iret rfl rfl rfl ⟨hI, fr, _, rfl, by rw [show ((-2) : Int32).toInt = (-2) from rfl]; omega⟩
      · refine R_iload_n (k := 2) rfl rfl rfl ?_
        refine R_iconst 3 rfl rfl ?_
        refine N_icmp_gt (a := a1.toInt) (b := 3) 26 rfl rfl rfl (by decide) (fun c13 => ?_) (fun c13 => ?_)
        · refine R_bipush (-2) rfl rfl ?_
          exact R_iret rfl rfl rfl ⟨hI, fr, _, rfl, by rw [show ((-2) : Int32).toInt = (-2) from rfl]; omega⟩
        · refine R_iload_n (k := 3) rfl rfl rfl ?_
          refine R_bipush 60 rfl rfl ?_
          refine N_icmp_le (a := a2.toInt) (b := 60) 29 rfl rfl rfl (by decide) (fun c14 => ?_) (fun c14 => ?_)
          · refine R_iload_n (k := 3) rfl rfl rfl ?_
            refine N_if_ge (a := a2.toInt) 36 rfl rfl rfl (fun c15 => ?_) (fun c15 => ?_)
            · refine R_aload_n (k := 0) rfl rfl rfl ?_
              refine R_getf_r (j := 6) rfl ft_8_42 sh_0 rfl ?_
              refine R_iload_n (k := 1) rfl rfl rfl ?_
              refine R_iload_n (k := 2) rfl rfl rfl ?_
              refine R_iload_n (k := 3) rfl rfl rfl ?_
              refine R_callV (v := .inr (.inr (.inl 66))) (As := [.inl a0, .inl a1, .inl a2]) (rest := []) rfl mt_8_i389 pp_X5_makeRow (by decide) rfl rfl rfl (Nat.le_of_ble_eq_true rfl) (Nat.le_of_ble_eq_true rfl) ((k_X5_makeRow h hI a0 a1 a2 (by omega) (by omega) (by omega)).mono (fun r16 h17 p18 => ?_))
              obtain ⟨hJ, fj, rfl⟩ := p18
              have f19 := fj
              have fr := fr.trans fj (by decide)
              have hI := hJ
              show RUN d_X8_row 46 [(0, .inr (.inr (.inl 0))), (1, .inl a0), (2, .inl a1), (3, .inl a2)] [] h17 _
              refine R_iconst 0 rfl rfl ?_
              exact R_iret rfl rfl rfl ⟨hI, fr, _, rfl, by rw [show (0 : Int32).toInt = 0 from rfl]; omega⟩
            · refine R_bipush (-3) rfl rfl ?_
              exact R_iret rfl rfl rfl ⟨hI, fr, _, rfl, by rw [show ((-3) : Int32).toInt = (-3) from rfl]; omega⟩
          · refine R_bipush (-2) rfl rfl ?_
            exact R_iret rfl rfl rfl ⟨hI, fr, _, rfl, by rw [show ((-2) : Int32).toInt = (-2) from rfl]; omega⟩
abbrev q_X9_row (h : PH) (a0 : Int32) (a1 : Int32) (a2 : Int32) : Option PV → PH → Prop := fun r h' => INV h' ∧ FR [127, 128, 129] h h' ∧ ∃ z : Int32, r = some (.inl z) ∧ (((-3) ≤ z.toInt ∧ z.toInt ≤ 0))
set_option maxHeartbeats 4000000 in
set_option maxRecDepth 100000 in
theorem k_X9_row (h : PH) (hI : INV h) (a0 : Int32) (a1 : Int32) (a2 : Int32) : CALL d_X9_row [.inr (.inr (.inl 96)), .inl a0, .inl a1, .inl a2] h (q_X9_row h a0 a1 a2) := by
  show RUN d_X9_row 0 [(0, .inr (.inr (.inl 96))), (1, .inl a0), (2, .inl a1), (3, .inl a2)] [] h _
  have b1 := i_rng a0
  have b2 := i_rng a1
  have b3 := i_rng a2
  have fr : FR [127, 128, 129] h h := FR.rf _ _
  refine R_iload_n (k := 1) rfl rfl rfl ?_
  refine R_callS (As := [.inl a0]) (rest := []) rfl mt_9_i440 (by decide) pp_X9_isSlot (by decide) rfl rfl (Nat.le_of_ble_eq_true rfl) (Nat.le_of_ble_eq_true rfl) ((k_X9_isSlot h hI a0).mono (fun r4 h5 p6 => ?_))
  obtain ⟨rfl, x7, rfl, q8 | q8 | q8⟩ := p6
  · show RUN d_X9_row 4 [(0, .inr (.inr (.inl 96))), (1, .inl a0), (2, .inl a1), (3, .inl a2)] [.inl x7] h _
    refine N_if_eq (a := x7.toInt) 25 rfl rfl rfl (fun c9 => ?_) (fun c9 => ?_)
    · refine R_bipush (-2) rfl rfl ?_
      exact R_iret rfl rfl rfl ⟨hI, fr, _, rfl, by rw [show ((-2) : Int32).toInt = (-2) from rfl]; omega⟩
    · exfalso; omega
  · show RUN d_X9_row 4 [(0, .inr (.inr (.inl 96))), (1, .inl a0), (2, .inl a1), (3, .inl a2)] [.inl x7] h _
    refine N_if_eq (a := x7.toInt) 25 rfl rfl rfl (fun c10 => ?_) (fun c10 => ?_)
    · refine R_bipush (-2) rfl rfl ?_
      exact R_iret rfl rfl rfl ⟨hI, fr, _, rfl, by rw [show ((-2) : Int32).toInt = (-2) from rfl]; omega⟩
    · exfalso; omega
  · show RUN d_X9_row 4 [(0, .inr (.inr (.inl 96))), (1, .inl a0), (2, .inl a1), (3, .inl a2)] [.inl x7] h _
    refine N_if_eq (a := x7.toInt) 25 rfl rfl rfl (fun c11 => ?_) (fun c11 => ?_)
    · exfalso; omega
    · refine R_iload_n (k := 2) rfl rfl rfl ?_
      refine N_i2l rfl (fun w12 q13 => ?_)
      refine R_lconst 0 rfl rfl ?_
      refine R_ldc2 (x := 3) rfl kt_9_529 ?_
      have k14 : (0 : Int64).toInt = 0 := by decide
      have k15 : (3 : Int64).toInt = 3 := by decide
      refine R_callS (As := [.inr (.inl w12), .inr (.inl 0), .inr (.inl 3)]) (rest := []) rfl mt_9_i125 (by decide) pp_X9_in (by decide) rfl rfl (Nat.le_of_ble_eq_true rfl) (Nat.le_of_ble_eq_true rfl) ((k_X9_in h hI w12 (0 : Int64) (3 : Int64)).mono (fun r16 h17 p18 => ?_))
      obtain ⟨rfl, x19, rfl, q20 | q20 | q20⟩ := p18
      · show RUN d_X9_row 16 [(0, .inr (.inr (.inl 96))), (1, .inl a0), (2, .inl a1), (3, .inl a2)] [.inl x19] h _
        refine N_if_eq (a := x19.toInt) 25 rfl rfl rfl (fun c21 => ?_) (fun c21 => ?_)
        · refine R_bipush (-2) rfl rfl ?_
          exact R_iret rfl rfl rfl ⟨hI, fr, _, rfl, by rw [show ((-2) : Int32).toInt = (-2) from rfl]; omega⟩
        · exfalso; omega
      · show RUN d_X9_row 16 [(0, .inr (.inr (.inl 96))), (1, .inl a0), (2, .inl a1), (3, .inl a2)] [.inl x19] h _
        refine N_if_eq (a := x19.toInt) 25 rfl rfl rfl (fun c22 => ?_) (fun c22 => ?_)
        · refine R_bipush (-2) rfl rfl ?_
          exact R_iret rfl rfl rfl ⟨hI, fr, _, rfl, by rw [show ((-2) : Int32).toInt = (-2) from rfl]; omega⟩
        · exfalso; omega
      · show RUN d_X9_row 16 [(0, .inr (.inr (.inl 96))), (1, .inl a0), (2, .inl a1), (3, .inl a2)] [.inl x19] h _
        refine N_if_eq (a := x19.toInt) 25 rfl rfl rfl (fun c23 => ?_) (fun c23 => ?_)
        · exfalso; omega
        · refine R_iload_n (k := 3) rfl rfl rfl ?_
          refine R_bipush 60 rfl rfl ?_
          refine N_icmp_le (a := a2.toInt) (b := 60) 28 rfl rfl rfl (by decide) (fun c24 => ?_) (fun c24 => ?_)
          · refine R_iload_n (k := 3) rfl rfl rfl ?_
            refine N_if_ge (a := a2.toInt) 35 rfl rfl rfl (fun c25 => ?_) (fun c25 => ?_)
            · refine R_aload_n (k := 0) rfl rfl rfl ?_
              refine R_getf_r (j := 57) rfl ft_9_107 sh_96 rfl ?_
              refine R_iload_n (k := 1) rfl rfl rfl ?_
              refine R_iload_n (k := 3) rfl rfl rfl ?_
              refine K_iast (a := a0.toInt) (lo := (-1)) (hi' := 60) rfl sh_127 rfl ⟨by omega, by omega⟩ hI (by decide) rfl (by omega) fr (by decide) (fun h26 g27 hI fr => ?_)
              refine R_aload_n (k := 0) rfl rfl rfl ?_
              refine R_getf_r (j := 58) rfl ft_9_110 sh_96 rfl ?_
              refine R_iload_n (k := 1) rfl rfl rfl ?_
              refine R_iload_n (k := 2) rfl rfl rfl ?_
              refine K_iast (a := a0.toInt) (lo := (-2147483648)) (hi' := 2147483647) rfl sh_128 rfl ⟨by omega, by omega⟩ hI (by decide) rfl (i_rng _) fr (by decide) (fun h28 g29 hI fr => ?_)
              refine R_iconst 0 rfl rfl ?_
              refine R_istore (k := 4) [(4, .inl 0), (0, .inr (.inr (.inl 96))), (1, .inl a0), (2, .inl a1), (3, .inl a2)] rfl rfl (by decide) ?_
              have lp31 : ∀ (n30 : Nat) (h32 : PH) (x34 : Int32), INV h32 → FR [127, 128, 129] h h32 → FR [129] h28 h32 → 0 ≤ x34.toInt ∧ x34.toInt ≤ 2147483647 → (2147483647 - x34.toInt).toNat < n30 → RUN d_X9_row 52 [(4, .inl x34), (0, .inr (.inr (.inl 96))), (1, .inl a0), (2, .inl a1), (3, .inl a2)] [] h32 (q_X9_row h a0 a1 a2) := by
                intro n30
                induction n30 with
                | zero => intro h32 x34 m36 m37 m38 m39 hz; exact absurd hz (Nat.not_lt_zero _)
                | succ n30 ih35 =>
                  intro h32 x34 hI fr fl33 m39 hz
                  refine R_iload (k := 4) rfl rfl ?_
                  refine R_bipush 60 rfl rfl ?_
                  refine N_icmp_ge (a := x34.toInt) (b := 60) 78 rfl rfl rfl (by decide) (fun c40 => ?_) (fun c40 => ?_)
                  · refine R_iconst 0 rfl rfl ?_
                    exact R_iret rfl rfl rfl ⟨hI, fr, _, rfl, by rw [show (0 : Int32).toInt = 0 from rfl]; omega⟩
                  · refine R_aload_n (k := 0) rfl rfl rfl ?_
                    refine R_getf_r (j := 59) rfl ft_9_113 sh_96 rfl ?_
                    refine R_bipush 60 rfl rfl ?_
                    refine R_iload_n (k := 1) rfl rfl rfl ?_
                    refine N_imul (a := 60) (b := a0.toInt) rfl (by decide) rfl (by omega) (fun x41 q42 => ?_)
                    refine R_iload (k := 4) rfl rfl ?_
                    refine N_iadd (a := x41.toInt) (b := x34.toInt) rfl rfl rfl (by omega) (fun x43 q44 => ?_)
                    refine R_lconst 0 rfl rfl ?_
                    refine K_last (a := x43.toInt) rfl sh_129 rfl ⟨by omega, by omega⟩ hI fr (by decide) (fun h45 g46 hI fr => ?_)
                    have fl33 : FR [129] h28 h45 := by rw [g46]; exact FR_wL _ _ fl33 (by decide)
                    refine N_iinc (a := x34.toInt) (c := 1) (fun w => [(4, .inl w), (0, .inr (.inr (.inl 96))), (1, .inl a0), (2, .inl a1), (3, .inl a2)]) rfl rfl (fun _ => rfl) (by decide) rfl (by decide) (by omega) (fun x47 q48 => ?_)
                    refine R_goto 52 rfl rfl ?_
                    exact RUN_weak (psub_cons rfl (psub_cons rfl (psub_cons rfl (psub_cons rfl (psub_cons rfl (psub_nil _)))))) (ih35 h45 x47 hI fr fl33 (by omega) (by omega))
              exact lp31 _ h28 (0 : Int32) hI fr (FR.rf _ _) (by decide) (Nat.lt_succ_self _)
            · refine R_bipush (-3) rfl rfl ?_
              exact R_iret rfl rfl rfl ⟨hI, fr, _, rfl, by rw [show ((-3) : Int32).toInt = (-3) from rfl]; omega⟩
          · refine R_bipush (-2) rfl rfl ?_
            exact R_iret rfl rfl rfl ⟨hI, fr, _, rfl, by rw [show ((-2) : Int32).toInt = (-2) from rfl]; omega⟩
abbrev q_X9_cut (h : PH) (a0 : Int64) (a1 : Int32) : Option PV → PH → Prop := fun r h' => h = h' ∧ ∃ z : Int64, r = some (.inr (.inl z))
set_option maxHeartbeats 4000000 in
set_option maxRecDepth 100000 in
theorem k_X9_cut (h : PH) (hI : INV h) (a0 : Int64) (a1 : Int32) : CALL d_X9_cut [.inr (.inl a0), .inl a1] h (q_X9_cut h a0 a1) := by
  show RUN d_X9_cut 0 [(0, .inr (.inl a0)), (2, .inl a1)] [] h _
  have b1 := i_rng a1
  refine R_bipush 64 rfl rfl ?_
  refine R_bipush 8 rfl rfl ?_
  refine R_iload_n (k := 2) rfl rfl rfl ?_
  refine R_ishl rfl ?_
  refine N_any (fun x2 => ?_)
  have b3 := i_rng x2
  refine R_isub rfl ?_
  refine N_any (fun x4 => ?_)
  refine R_istore_n (k := 3) rfl [(3, .inl x4), (0, .inr (.inl a0)), (2, .inl a1)] rfl rfl (by decide) ?_
  refine R_lload_n (k := 0) rfl rfl rfl ?_
  refine R_iload_n (k := 3) rfl rfl rfl ?_
  refine R_lshl rfl ?_
  refine N_anyL (fun w5 => ?_)
  refine R_iload_n (k := 3) rfl rfl rfl ?_
  refine R_lshr rfl ?_
  refine N_anyL (fun w6 => ?_)
  exact R_lret rfl rfl ⟨rfl, _, rfl⟩
abbrev q_X9_write (h : PH) (a0 : Int32) (a1 : Int32) (a2 : Int64) : Option PV → PH → Prop := fun r h' => INV h' ∧ FR [129] h h' ∧ ∃ z : Int32, r = some (.inl z) ∧ (((-7) ≤ z.toInt ∧ z.toInt ≤ 0))
set_option maxHeartbeats 4000000 in
set_option maxRecDepth 100000 in
theorem k_X9_write (h : PH) (hI : INV h) (a0 : Int32) (a1 : Int32) (a2 : Int64) : CALL d_X9_write [.inr (.inr (.inl 96)), .inl a0, .inl a1, .inr (.inl a2)] h (q_X9_write h a0 a1 a2) := by
  show RUN d_X9_write 0 [(0, .inr (.inr (.inl 96))), (1, .inl a0), (2, .inl a1), (3, .inr (.inl a2))] [] h _
  have b1 := i_rng a0
  have b2 := i_rng a1
  have fr : FR [129] h h := FR.rf _ _
  refine R_iload_n (k := 1) rfl rfl rfl ?_
  refine R_callS (As := [.inl a0]) (rest := []) rfl mt_9_i440 (by decide) pp_X9_isSlot (by decide) rfl rfl (Nat.le_of_ble_eq_true rfl) (Nat.le_of_ble_eq_true rfl) ((k_X9_isSlot h hI a0).mono (fun r3 h4 p5 => ?_))
  obtain ⟨rfl, x6, rfl, q7 | q7 | q7⟩ := p5
  · show RUN d_X9_write 4 [(0, .inr (.inr (.inl 96))), (1, .inl a0), (2, .inl a1), (3, .inr (.inl a2))] [.inl x6] h _
    refine N_if_ne (a := x6.toInt) 10 rfl rfl rfl (fun c8 => ?_) (fun c8 => ?_)
    · exfalso; omega
    · refine R_bipush (-2) rfl rfl ?_
      exact R_iret rfl rfl rfl ⟨hI, fr, _, rfl, by rw [show ((-2) : Int32).toInt = (-2) from rfl]; omega⟩
  · show RUN d_X9_write 4 [(0, .inr (.inr (.inl 96))), (1, .inl a0), (2, .inl a1), (3, .inr (.inl a2))] [.inl x6] h _
    refine N_if_ne (a := x6.toInt) 10 rfl rfl rfl (fun c9 => ?_) (fun c9 => ?_)
    · exfalso; omega
    · refine R_bipush (-2) rfl rfl ?_
      exact R_iret rfl rfl rfl ⟨hI, fr, _, rfl, by rw [show ((-2) : Int32).toInt = (-2) from rfl]; omega⟩
  · show RUN d_X9_write 4 [(0, .inr (.inr (.inl 96))), (1, .inl a0), (2, .inl a1), (3, .inr (.inl a2))] [.inl x6] h _
    refine N_if_ne (a := x6.toInt) 10 rfl rfl rfl (fun c10 => ?_) (fun c10 => ?_)
    · refine R_aload_n (k := 0) rfl rfl rfl ?_
      refine R_getf_r (j := 57) rfl ft_9_107 sh_96 rfl ?_
      refine R_iload_n (k := 1) rfl rfl rfl ?_
      refine R_iald rfl sh_127 ⟨by omega, by omega⟩ ?_
      refine N_bd (lo := (-1)) (hi := 60) (hI.1 127 _) (fun x11 q12 => ?_)
      refine R_iconst (-1) rfl rfl ?_
      refine N_icmp_ne (a := x11.toInt) (b := (-1)) 23 rfl rfl rfl (by decide) (fun c13 => ?_) (fun c13 => ?_)
      · refine R_iload_n (k := 2) rfl rfl rfl ?_
        refine N_i2l rfl (fun w14 q15 => ?_)
        refine R_lconst 0 rfl rfl ?_
        refine R_aload_n (k := 0) rfl rfl rfl ?_
        refine R_getf_r (j := 57) rfl ft_9_107 sh_96 rfl ?_
        refine R_iload_n (k := 1) rfl rfl rfl ?_
        refine R_iald rfl sh_127 ⟨by omega, by omega⟩ ?_
        refine N_bd (lo := (-1)) (hi := 60) (hI.1 127 _) (fun x16 q17 => ?_)
        refine R_iconst 1 rfl rfl ?_
        refine N_isub (a := x16.toInt) (b := 1) rfl rfl (by decide) (by omega) (fun x18 q19 => ?_)
        refine N_i2l rfl (fun w20 q21 => ?_)
        have k22 : (0 : Int64).toInt = 0 := by decide
        refine R_callS (As := [.inr (.inl w14), .inr (.inl 0), .inr (.inl w20)]) (rest := []) rfl mt_9_i125 (by decide) pp_X9_in (by decide) rfl rfl (Nat.le_of_ble_eq_true rfl) (Nat.le_of_ble_eq_true rfl) ((k_X9_in h hI w14 (0 : Int64) w20).mono (fun r23 h24 p25 => ?_))
        obtain ⟨rfl, x26, rfl, q27 | q27 | q27⟩ := p25
        · show RUN d_X9_write 38 [(0, .inr (.inr (.inl 96))), (1, .inl a0), (2, .inl a1), (3, .inr (.inl a2))] [.inl x26] h _
          refine N_if_ne (a := x26.toInt) 44 rfl rfl rfl (fun c28 => ?_) (fun c28 => ?_)
          · exfalso; omega
          · refine R_bipush (-7) rfl rfl ?_
            exact R_iret rfl rfl rfl ⟨hI, fr, _, rfl, by rw [show ((-7) : Int32).toInt = (-7) from rfl]; omega⟩
        · show RUN d_X9_write 38 [(0, .inr (.inr (.inl 96))), (1, .inl a0), (2, .inl a1), (3, .inr (.inl a2))] [.inl x26] h _
          refine N_if_ne (a := x26.toInt) 44 rfl rfl rfl (fun c29 => ?_) (fun c29 => ?_)
          · exfalso; omega
          · refine R_bipush (-7) rfl rfl ?_
            exact R_iret rfl rfl rfl ⟨hI, fr, _, rfl, by rw [show ((-7) : Int32).toInt = (-7) from rfl]; omega⟩
        · show RUN d_X9_write 38 [(0, .inr (.inr (.inl 96))), (1, .inl a0), (2, .inl a1), (3, .inr (.inl a2))] [.inl x26] h _
          refine N_if_ne (a := x26.toInt) 44 rfl rfl rfl (fun c30 => ?_) (fun c30 => ?_)
          · refine R_aload_n (k := 0) rfl rfl rfl ?_
            refine R_getf_r (j := 59) rfl ft_9_113 sh_96 rfl ?_
            refine R_bipush 60 rfl rfl ?_
            refine R_iload_n (k := 1) rfl rfl rfl ?_
            refine N_imul (a := 60) (b := a0.toInt) rfl (by decide) rfl (by omega) (fun x31 q32 => ?_)
            refine R_iload_n (k := 2) rfl rfl rfl ?_
            refine N_iadd (a := x31.toInt) (b := a1.toInt) rfl rfl rfl (by omega) (fun x33 q34 => ?_)
            refine R_lload_n (k := 3) rfl rfl rfl ?_
            refine R_aload_n (k := 0) rfl rfl rfl ?_
            refine R_getf_r (j := 58) rfl ft_9_110 sh_96 rfl ?_
            refine R_iload_n (k := 1) rfl rfl rfl ?_
            refine R_iald rfl sh_128 ⟨by omega, by omega⟩ ?_
            refine N_any (fun x35 => ?_)
            refine R_callS (As := [.inr (.inl a2), .inl x35]) (rest := [.inl x33, .inr (.inr (.inl 129))]) rfl mt_9_i531 (by decide) pp_X9_cut (by decide) rfl rfl (Nat.le_of_ble_eq_true rfl) (Nat.le_of_ble_eq_true rfl) ((k_X9_cut h hI a2 x35).mono (fun r36 h37 p38 => ?_))
            obtain ⟨rfl, w39, rfl⟩ := p38
            show RUN d_X9_write 64 [(0, .inr (.inr (.inl 96))), (1, .inl a0), (2, .inl a1), (3, .inr (.inl a2))] [.inr (.inl w39), .inl x33, .inr (.inr (.inl 129))] h _
            refine K_last (a := x33.toInt) rfl sh_129 rfl ⟨by omega, by omega⟩ hI fr (by decide) (fun h40 g41 hI fr => ?_)
            refine R_iconst 0 rfl rfl ?_
            exact R_iret rfl rfl rfl ⟨hI, fr, _, rfl, by rw [show (0 : Int32).toInt = 0 from rfl]; omega⟩
          · exfalso; omega
      · refine R_bipush (-6) rfl rfl ?_
        exact R_iret rfl rfl rfl ⟨hI, fr, _, rfl, by rw [show ((-6) : Int32).toInt = (-6) from rfl]; omega⟩
    · exfalso; omega
abbrev q_X5_hasCells (h : PH) (a0 : Int32) (a1 : Int32) (a2 : Int32) : Option PV → PH → Prop := fun r h' => h = h' ∧ ∃ z : Int32, r = some (.inl z) ∧ ((z.toInt = 0 ∧ a1.toInt ≤ (-1)) ∨ (z.toInt = 0 ∧ 0 ≤ a1.toInt ∧ a2.toInt ≤ (-1)) ∨ (z.toInt = 0 ∧ 0 ≤ a1.toInt ∧ 0 ≤ a2.toInt) ∨ (z.toInt = 1 ∧ 0 ≤ a1.toInt ∧ a1.toInt ≤ 60 ∧ 0 ≤ a2.toInt))
set_option maxHeartbeats 4000000 in
set_option maxRecDepth 100000 in
theorem k_X5_hasCells (h : PH) (hI : INV h) (a0 : Int32) (a1 : Int32) (a2 : Int32) (h0a : 0 ≤ a0.toInt ∧ a0.toInt ≤ 3) : CALL d_X5_hasCells [.inr (.inr (.inl 66)), .inl a0, .inl a1, .inl a2] h (q_X5_hasCells h a0 a1 a2) := by
  show RUN d_X5_hasCells 0 [(0, .inr (.inr (.inl 66))), (1, .inl a0), (2, .inl a1), (3, .inl a2)] [] h _
  have b1 := i_rng a1
  have b2 := i_rng a2
  refine R_iload_n (k := 2) rfl rfl rfl ?_
  refine N_if_lt (a := a1.toInt) 24 rfl rfl rfl (fun c3 => ?_) (fun c3 => ?_)
  · refine R_iconst 0 rfl rfl ?_
    exact R_iret rfl rfl rfl ⟨rfl, _, rfl, by rw [show (0 : Int32).toInt = 0 from rfl]; omega⟩
  · refine R_iload_n (k := 3) rfl rfl rfl ?_
    refine N_if_lt (a := a2.toInt) 24 rfl rfl rfl (fun c4 => ?_) (fun c4 => ?_)
    · refine R_iconst 0 rfl rfl ?_
      exact R_iret rfl rfl rfl ⟨rfl, _, rfl, by rw [show (0 : Int32).toInt = 0 from rfl]; omega⟩
    · refine R_iload_n (k := 2) rfl rfl rfl ?_
      refine R_aload_n (k := 0) rfl rfl rfl ?_
      refine R_getf_r (j := 1) rfl ft_5_15 sh_66 rfl ?_
      refine R_iload_n (k := 1) rfl rfl rfl ?_
      refine R_iald rfl sh_68 ⟨by omega, by omega⟩ ?_
      refine N_bd (lo := (-1)) (hi := 60) (hI.1 68 _) (fun x5 q6 => ?_)
      refine R_iload_n (k := 3) rfl rfl rfl ?_
      have b7 := i_rng a2
      refine N_isub (a := x5.toInt) (b := a2.toInt) rfl rfl rfl (by omega) (fun x8 q9 => ?_)
      refine N_icmp_gt (a := a1.toInt) (b := x8.toInt) 24 rfl rfl rfl rfl (fun c10 => ?_) (fun c10 => ?_)
      · refine R_iconst 0 rfl rfl ?_
        exact R_iret rfl rfl rfl ⟨rfl, _, rfl, by rw [show (0 : Int32).toInt = 0 from rfl]; omega⟩
      · refine R_iconst 1 rfl rfl ?_
        refine R_goto 25 rfl rfl ?_
        exact R_iret rfl rfl rfl ⟨rfl, _, rfl, by rw [show (1 : Int32).toInt = 1 from rfl]; omega⟩
