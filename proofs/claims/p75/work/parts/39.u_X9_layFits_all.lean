abbrev qg_X9_layFits (h : PH) (a0 : Int32) : Option PV → PH → Prop := fun r h' => INV h' ∧ FR [96, 103, 104, 105, 106, 107, 108, 109, 110, 111, 112, 113, 114, 115, 116, 117, 118, 119, 124, 125] h h' ∧ (True) ∧ ∃ z : Int32, r = some (.inl z) ∧ (((-6) ≤ z.toInt ∧ z.toInt ≤ 0))
set_option maxHeartbeats 4000000 in
set_option maxRecDepth 100000 in
theorem g_X9_layFits (h : PH) (hI : INV h) (a0 : Int32) : CALL d_X9_layFits [.inr (.inr (.inl 96)), .inl a0] h (qg_X9_layFits h a0) := by
  show RUN d_X9_layFits 0 [(0, .inr (.inr (.inl 96))), (1, .inl a0)] [] h _
  have b1 := i_rng a0
  have fr : FR [96, 103, 104, 105, 106, 107, 108, 109, 110, 111, 112, 113, 114, 115, 116, 117, 118, 119, 124, 125] h h := FR.rf _ _
  refine R_iload_n (k := 1) rfl rfl rfl ?_
  refine R_callS (As := [.inl a0]) (rest := []) rfl mt_9_i440 (by decide) pp_X9_isSlot (by decide) rfl rfl (Nat.le_of_ble_eq_true rfl) (Nat.le_of_ble_eq_true rfl) ((k_X9_isSlot h hI a0).mono (fun r2 h3 p4 => ?_))
  obtain ⟨rfl, x5, rfl, q6 | q6 | q6⟩ := p4
  · show RUN d_X9_layFits 4 [(0, .inr (.inr (.inl 96))), (1, .inl a0)] [.inl x5] h _
    refine N_if_eq (a := x5.toInt) 14 rfl rfl rfl (fun c7 => ?_) (fun c7 => ?_)
    · refine R_bipush (-2) rfl rfl ?_
      exact R_iret rfl rfl rfl ⟨hI, fr, trivial, _, rfl, by rw [show ((-2) : Int32).toInt = (-2) from rfl] <;> omega⟩
    · exfalso; omega
  · show RUN d_X9_layFits 4 [(0, .inr (.inr (.inl 96))), (1, .inl a0)] [.inl x5] h _
    refine N_if_eq (a := x5.toInt) 14 rfl rfl rfl (fun c8 => ?_) (fun c8 => ?_)
    · refine R_bipush (-2) rfl rfl ?_
      exact R_iret rfl rfl rfl ⟨hI, fr, trivial, _, rfl, by rw [show ((-2) : Int32).toInt = (-2) from rfl] <;> omega⟩
    · exfalso; omega
  · show RUN d_X9_layFits 4 [(0, .inr (.inr (.inl 96))), (1, .inl a0)] [.inl x5] h _
    refine N_if_eq (a := x5.toInt) 14 rfl rfl rfl (fun c9 => ?_) (fun c9 => ?_)
    · exfalso; omega
    · refine R_aload_n (k := 0) rfl rfl rfl ?_
      have b10 : (0 : Int) ≤ (h.1 97 0).toInt ∧ (h.1 97 0).toInt ≤ 60 := hI.1 97 0
      have e11 : 0 < (h.1 97 10).toInt → 1 ≤ (h.1 97 0).toInt := hI.2.2.2.2.2.1.2.1
      refine R_callV (v := .inr (.inr (.inl 96))) (As := []) (rest := []) rfl mt_9_i301 pp_X9_isBrigade (by decide) rfl rfl rfl (Nat.le_of_ble_eq_true rfl) (Nat.le_of_ble_eq_true rfl) ((k_X9_isBrigade h hI).mono (fun r12 h13 p14 => ?_))
      obtain ⟨rfl, x15, rfl, q16 | q16⟩ := p14
      · show RUN d_X9_layFits 11 [(0, .inr (.inr (.inl 96))), (1, .inl a0)] [.inl x15] h _
        refine N_if_ne (a := x15.toInt) 17 rfl rfl rfl (fun c17 => ?_) (fun c17 => ?_)
        · exfalso; omega
        · refine R_bipush (-2) rfl rfl ?_
          exact R_iret rfl rfl rfl ⟨hI, fr, trivial, _, rfl, by rw [show ((-2) : Int32).toInt = (-2) from rfl] <;> omega⟩
      · show RUN d_X9_layFits 11 [(0, .inr (.inr (.inl 96))), (1, .inl a0)] [.inl x15] h _
        refine N_if_ne (a := x15.toInt) 17 rfl rfl rfl (fun c18 => ?_) (fun c18 => ?_)
        · refine R_aload_n (k := 0) rfl rfl rfl ?_
          refine R_getf_r (j := 57) rfl ft_9_107 sh_96 rfl ?_
          refine R_iload_n (k := 1) rfl rfl rfl ?_
          refine R_iald rfl sh_127 ⟨by omega, by omega⟩ ?_
          refine N_eq (fun x19 e20 => ?_)
          have q21 : (-1) ≤ x19.toInt ∧ x19.toInt ≤ 60 := by rw [e20]; exact hI.1 127 _
          refine R_iconst (-1) rfl rfl ?_
          refine N_icmp_ne (a := x19.toInt) (b := (-1)) 30 rfl rfl rfl (by decide) (fun c22 => ?_) (fun c22 => ?_)
          · refine R_aload_n (k := 0) rfl rfl rfl ?_
            refine R_getf_r (j := 57) rfl ft_9_107 sh_96 rfl ?_
            refine R_iload_n (k := 1) rfl rfl rfl ?_
            refine R_iald rfl sh_127 ⟨by omega, by omega⟩ ?_
            refine N_eq (fun x23 e24 => ?_)
            have q25 : (-1) ≤ x23.toInt ∧ x23.toInt ≤ 60 := by rw [e24]; exact hI.1 127 _
            refine R_iconst 2 rfl rfl ?_
            refine R_irem rfl (by decide) ?_
            refine N_eq (fun x26 e27 => ?_)
            refine N_if_eq (a := x26.toInt) 44 rfl rfl rfl (fun c28 => ?_) (fun c28 => ?_)
            · refine R_iconst 0 rfl rfl ?_
              refine R_istore_n (k := 2) rfl [(2, .inl 0), (0, .inr (.inr (.inl 96))), (1, .inl a0)] rfl rfl (by decide) ?_
              have lp30 : ∀ (n29 : Nat) (h31 : PH) (x33 : Int32), INV h31 → FR [96, 103, 104, 105, 106, 107, 108, 109, 110, 111, 112, 113, 114, 115, 116, 117, 118, 119, 124, 125] h h31 → FR [96, 103, 104, 105, 106, 107, 108, 109, 110, 111, 112, 113, 114, 115, 116, 117, 118, 119, 124, 125] h h31 → 0 ≤ x33.toInt ∧ x33.toInt ≤ 60 → (SNP h a0 x33.toInt) → (x33.toInt % 2 = 0) → (60 - x33.toInt).toNat < n29 → RUN d_X9_layFits 46 [(2, .inl x33), (0, .inr (.inr (.inl 96))), (1, .inl a0)] [] h31 (qg_X9_layFits h a0) := by
                intro n29
                induction n29 with
                | zero => intro h31 x33 m35 m36 m37 m38 m39 m40 hz; exact absurd hz (Nat.not_lt_zero _)
                | succ n29 ih34 =>
                  intro h31 x33 hI fr fl32 m38 m39 m40 hz
                  have s41 : (h31.1 97 10).toInt = (h.1 97 10).toInt := by rw [(fl32 97 (by decide)).1]
                  have s42 : (h31.1 97 0).toInt = (h.1 97 0).toInt := by rw [(fl32 97 (by decide)).1]
                  have rq43 : h31.1 105 = h31.1 105 := rfl
                  refine R_iload_n (k := 2) rfl rfl rfl ?_
                  refine R_aload_n (k := 0) rfl rfl rfl ?_
                  refine R_getf_r (j := 57) rfl ft_9_107 sh_96 rfl ?_
                  refine R_iload_n (k := 1) rfl rfl rfl ?_
                  refine R_iald rfl sh_127 ⟨by omega, by omega⟩ ?_
                  refine N_eq (fun x44 e45 => ?_)
                  have q46 : (-1) ≤ x44.toInt ∧ x44.toInt ≤ 60 := by rw [e45]; exact hI.1 127 _
                  refine N_icmp_ge (a := x33.toInt) (b := x44.toInt) 96 rfl rfl rfl rfl (fun c47 => ?_) (fun c47 => ?_)
                  · have hS : SNH h a0 := SNH_end m39 e45 (fr 127 (by decide)).1 (by omega)
                    refine R_aload_n (k := 0) rfl rfl rfl ?_
                    refine R_callV (v := .inr (.inr (.inl 96))) (As := []) (rest := []) rfl mt_9_i298 pp_X9_asItIs (by decide) rfl rfl rfl (Nat.le_of_ble_eq_true rfl) (Nat.le_of_ble_eq_true rfl) ((g_X9_asItIs h31 hI).mono (fun r48 h49 p50 => ?_))
                    obtain ⟨hJ, fj, ⟨kp51, xq52, xq53, xq54, -⟩, rfl⟩ := p50
                    have f55 := fj
                    have fr := fr.trans fj (by decide)
                    have hI := hJ
                    have fl32 : FR [96, 103, 104, 105, 106, 107, 108, 109, 110, 111, 112, 113, 114, 115, 116, 117, 118, 119, 124, 125] h h49 := fl32.trans fj (by decide)
                    have s56 : (h49.1 97 10).toInt = (h31.1 97 10).toInt := by rw [(f55 97 (by decide)).1]
                    have s57 : (h49.1 97 0).toInt = (h31.1 97 0).toInt := by rw [(f55 97 (by decide)).1]
                    have b58 : (0 : Int) ≤ (h49.1 97 5).toInt ∧ (h49.1 97 5).toInt ≤ 6 := hI.1 97 5
                    have e59 : 0 < (h49.1 97 5).toInt → 1 ≤ (h49.1 97 0).toInt := hI.2.2.2.2.2.1.2.2
                    have b60 : (0 : Int) ≤ (h49.1 97 1).toInt ∧ (h49.1 97 1).toInt ≤ 8 := hI.1 97 1
                    have b61 : (0 : Int) ≤ (h49.1 96 18).toInt ∧ (h49.1 96 18).toInt ≤ 6 := hI.1 96 18
                    show RUN d_X9_layFits 100 [(2, .inl x33), (0, .inr (.inr (.inl 96))), (1, .inl a0)] [] h49 _
                    have hA := xq52
                    refine R_aload_n (k := 0) rfl rfl rfl ?_
                    refine R_iconst 0 rfl rfl ?_
                    refine K_putf (j := 44) (lo := (-2147483648)) (hi' := 2147483647) rfl ft_9_399 sh_96 rfl hI (by decide) rfl (by decide) fr (by decide) (fun h62 g63 hI fr => ?_)
                    have fl32 : FR [96, 103, 104, 105, 106, 107, 108, 109, 110, 111, 112, 113, 114, 115, 116, 117, 118, 119, 124, 125] h h62 := by rw [g63]; exact FR_wI _ _ fl32 (by decide)
                    have s64 : (h62.1 97 10).toInt = (h49.1 97 10).toInt := by rw [g63, wI_ne _ _ _ (by decide)]
                    have s65 : (h62.1 97 0).toInt = (h49.1 97 0).toInt := by rw [g63, wI_ne _ _ _ (by decide)]
                    have s66 : (h62.1 97 5).toInt = (h49.1 97 5).toInt := by rw [g63, wI_ne _ _ _ (by decide)]
                    have s67 : (h62.1 97 1).toInt = (h49.1 97 1).toInt := by rw [g63, wI_ne _ _ _ (by decide)]
                    have s68 : (h62.1 96 18).toInt = (h49.1 96 18).toInt := by rw [g63, wI_at (by decide)]
                    have s69 : (h62.1 96 19).toInt = (h49.1 96 19).toInt := by rw [g63, wI_at (by decide)]
                    have hA : AIS h62 := by rw [g63]; exact AIS_o (by decide) hA
                    have s70 : (h62.1 96 44).toInt = 0 := by rw [g63, wI_is]; rfl
                    refine R_aload_n (k := 0) rfl rfl rfl ?_
                    refine R_iconst 0 rfl rfl ?_
                    refine K_putf (j := 51) (lo := 0) (hi' := 720) rfl ft_9_445 sh_96 rfl hI (by decide) rfl (by decide) fr (by decide) (fun h71 g72 hI fr => ?_)
                    have fl32 : FR [96, 103, 104, 105, 106, 107, 108, 109, 110, 111, 112, 113, 114, 115, 116, 117, 118, 119, 124, 125] h h71 := by rw [g72]; exact FR_wI _ _ fl32 (by decide)
                    have s73 : (h71.1 97 10).toInt = (h62.1 97 10).toInt := by rw [g72, wI_ne _ _ _ (by decide)]
                    have s74 : (h71.1 97 0).toInt = (h62.1 97 0).toInt := by rw [g72, wI_ne _ _ _ (by decide)]
                    have s75 : (h71.1 97 5).toInt = (h62.1 97 5).toInt := by rw [g72, wI_ne _ _ _ (by decide)]
                    have s76 : (h71.1 97 1).toInt = (h62.1 97 1).toInt := by rw [g72, wI_ne _ _ _ (by decide)]
                    have s77 : (h71.1 96 18).toInt = (h62.1 96 18).toInt := by rw [g72, wI_at (by decide)]
                    have s78 : (h71.1 96 19).toInt = (h62.1 96 19).toInt := by rw [g72, wI_at (by decide)]
                    have s79 : (h71.1 96 44).toInt = (h62.1 96 44).toInt := by rw [g72, wI_at (by decide)]
                    have hA : AIS h71 := by rw [g72]; exact AIS_o (by decide) hA
                    have s80 : (h71.1 96 51).toInt = 0 := by rw [g72, wI_is]; rfl
                    refine R_iconst 1 rfl rfl ?_
                    have hJ0 := AIS_inj hA
                    refine R_istore_n (k := 2) rfl [(2, .inl 1), (0, .inr (.inr (.inl 96))), (1, .inl a0)] rfl rfl (by decide) ?_
                    have lp82 : ∀ (n81 : Nat) (h83 : PH) (x85 : Int32), INV h83 → FR [96, 103, 104, 105, 106, 107, 108, 109, 110, 111, 112, 113, 114, 115, 116, 117, 118, 119, 124, 125] h h83 → FR [96, 105, 107, 108, 109, 110, 111, 112, 113, 114, 115, 116, 117, 118, 119, 124, 125] h71 h83 → 0 ≤ x85.toInt ∧ x85.toInt ≤ 1 → (h83.1 96 18).toInt = (h71.1 96 18).toInt → (h83.1 96 19).toInt = (h71.1 96 19).toInt → (h83.1 96 44).toInt = (h71.1 96 44).toInt → 0 ≤ (h83.1 96 51).toInt ∧ (h83.1 96 51).toInt ≤ 720 → (INJ6 (h83.1 105)) → ((h83.1 96 51).toInt + x85.toInt ≤ (rkL (h83.1 105) : Int) + 1) → (720 - (rkL (h83.1 105) : Int) + x85.toInt).toNat < n81 → RUN d_X9_layFits 112 [(2, .inl x85), (0, .inr (.inr (.inl 96))), (1, .inl a0)] [] h83 (qg_X9_layFits h a0) := by
                      intro n81
                      induction n81 with
                      | zero => intro h83 x85 m87 m88 m89 m90 m91 m92 m93 m94 m95 m96 hz; exact absurd hz (Nat.not_lt_zero _)
                      | succ n81 ih86 =>
                        intro h83 x85 hI fr fl84 m90 m91 m92 m93 m94 m95 m96 hz
                        have s97 : (h83.1 97 10).toInt = (h71.1 97 10).toInt := by rw [(fl84 97 (by decide)).1]
                        have s98 : (h83.1 97 0).toInt = (h71.1 97 0).toInt := by rw [(fl84 97 (by decide)).1]
                        have s99 : (h83.1 97 5).toInt = (h71.1 97 5).toInt := by rw [(fl84 97 (by decide)).1]
                        have s100 : (h83.1 97 1).toInt = (h71.1 97 1).toInt := by rw [(fl84 97 (by decide)).1]
                        have fl32 : FR [96, 103, 104, 105, 106, 107, 108, 109, 110, 111, 112, 113, 114, 115, 116, 117, 118, 119, 124, 125] h h83 := fl32.trans fl84 (by decide)
                        have rq101 : h83.1 105 = h83.1 105 := rfl
                        have rkt := rkL_top hI m95
                        refine R_iload_n (k := 2) rfl rfl rfl ?_
                        refine N_if_eq (a := x85.toInt) 221 rfl rfl rfl (fun c102 => ?_) (fun c102 => ?_)
                        · refine R_iconst 0 rfl rfl ?_
                          exact R_iret rfl rfl rfl ⟨hI, fr, trivial, _, rfl, by rw [show (0 : Int32).toInt = 0 from rfl] <;> omega⟩
                        · refine R_aload_n (k := 0) rfl rfl rfl ?_
                          have b103 : (0 : Int) ≤ (h83.1 97 6).toInt ∧ (h83.1 97 6).toInt ≤ 5 := hI.1 97 6
                          refine R_callV (v := .inr (.inr (.inl 96))) (As := []) (rest := []) rfl mt_9_i418 pp_X9_keepsAll (by decide) rfl rfl rfl (Nat.le_of_ble_eq_true rfl) (Nat.le_of_ble_eq_true rfl) ((k_X9_keepsAll h83 hI).mono (fun r104 h105 p106 => ?_))
                          obtain ⟨rfl, x107, rfl, q108 | q108⟩ := p106
                          · show RUN d_X9_layFits 120 [(2, .inl x85), (0, .inr (.inr (.inl 96))), (1, .inl a0)] [.inl x107] h83 _
                            refine N_if_eq (a := x107.toInt) 213 rfl rfl rfl (fun c109 => ?_) (fun c109 => ?_)
                            · exfalso; omega
                            · refine R_aload_n (k := 0) rfl rfl rfl ?_
                              refine R_iload_n (k := 1) rfl rfl rfl ?_
                              refine R_callV (v := .inr (.inr (.inl 96))) (As := [.inl a0]) (rest := []) rfl mt_9_i448 pp_X9_isSeen (by decide) rfl rfl rfl (Nat.le_of_ble_eq_true rfl) (Nat.le_of_ble_eq_true rfl) ((g_X9_isSeen h83 hI a0 (by omega) (SNH_of (fr 127 (by decide)).1 (fr 129 (by decide)).2 hS)).mono (fun r110 h111 p112 => ?_))
                              obtain ⟨hJ, fj, ⟨kp113, kp114, kp115, kp116, -⟩, x117, rfl, q118 | q118⟩ := p112
                              · have f119 := fj
                                have fr := fr.trans fj (by decide)
                                have hI := hJ
                                have fl84 : FR [96, 105, 107, 108, 109, 110, 111, 112, 113, 114, 115, 116, 117, 118, 119, 124, 125] h71 h111 := fl84.trans fj (by decide)
                                have fl32 : FR [96, 103, 104, 105, 106, 107, 108, 109, 110, 111, 112, 113, 114, 115, 116, 117, 118, 119, 124, 125] h h111 := fl32.trans fj (by decide)
                                have s120 : (h111.1 97 10).toInt = (h83.1 97 10).toInt := by rw [(f119 97 (by decide)).1]
                                have s121 : (h111.1 97 0).toInt = (h83.1 97 0).toInt := by rw [(f119 97 (by decide)).1]
                                have s122 : (h111.1 97 5).toInt = (h83.1 97 5).toInt := by rw [(f119 97 (by decide)).1]
                                have s123 : (h111.1 97 1).toInt = (h83.1 97 1).toInt := by rw [(f119 97 (by decide)).1]
                                have s124 : (h111.1 97 6).toInt = (h83.1 97 6).toInt := by rw [(f119 97 (by decide)).1]
                                have rq125 : h111.1 105 = h83.1 105 := (f119 105 (by decide)).1.trans rq101
                                show RUN d_X9_layFits 128 [(2, .inl x85), (0, .inr (.inr (.inl 96))), (1, .inl a0)] [.inl x117] h111 _
                                refine N_if_eq (a := x117.toInt) 213 rfl rfl rfl (fun c126 => ?_) (fun c126 => ?_)
                                · exfalso; omega
                                · refine R_iconst 0 rfl rfl ?_
                                  refine R_istore_n (k := 3) rfl [(3, .inl 0), (2, .inl x85), (0, .inr (.inr (.inl 96))), (1, .inl a0)] rfl rfl (by decide) ?_
                                  have lp128 : ∀ (n127 : Nat) (h129 : PH) (x131 : Int32), INV h129 → FR [96, 103, 104, 105, 106, 107, 108, 109, 110, 111, 112, 113, 114, 115, 116, 117, 118, 119, 124, 125] h h129 → FR [96, 105, 124, 125] h111 h129 → 0 ≤ x131.toInt ∧ x131.toInt ≤ 6 → (h129.1 96 18).toInt = (h111.1 96 18).toInt → (h129.1 96 19).toInt = (h111.1 96 19).toInt → (h129.1 96 44).toInt = (h111.1 96 44).toInt → 0 ≤ (h129.1 96 51).toInt ∧ (h129.1 96 51).toInt ≤ 720 → (h129.1 105 = h83.1 105) → ((h129.1 96 51).toInt = (h83.1 96 51).toInt) → (6 - x131.toInt).toNat < n127 → RUN d_X9_layFits 133 [(3, .inl x131), (2, .inl x85), (0, .inr (.inr (.inl 96))), (1, .inl a0)] [] h129 (qg_X9_layFits h a0) := by
                                    intro n127
                                    induction n127 with
                                    | zero => intro h129 x131 m133 m134 m135 m136 m137 m138 m139 m140 m141 m142 hz; exact absurd hz (Nat.not_lt_zero _)
                                    | succ n127 ih132 =>
                                      intro h129 x131 hI fr fl130 m136 m137 m138 m139 m140 m141 m142 hz
                                      have s143 : (h129.1 97 10).toInt = (h111.1 97 10).toInt := by rw [(fl130 97 (by decide)).1]
                                      have s144 : (h129.1 97 0).toInt = (h111.1 97 0).toInt := by rw [(fl130 97 (by decide)).1]
                                      have s145 : (h129.1 97 5).toInt = (h111.1 97 5).toInt := by rw [(fl130 97 (by decide)).1]
                                      have s146 : (h129.1 97 1).toInt = (h111.1 97 1).toInt := by rw [(fl130 97 (by decide)).1]
                                      have s147 : (h129.1 97 6).toInt = (h111.1 97 6).toInt := by rw [(fl130 97 (by decide)).1]
                                      have fl84 : FR [96, 105, 107, 108, 109, 110, 111, 112, 113, 114, 115, 116, 117, 118, 119, 124, 125] h71 h129 := fl84.trans fl130 (by decide)
                                      have fl32 : FR [96, 103, 104, 105, 106, 107, 108, 109, 110, 111, 112, 113, 114, 115, 116, 117, 118, 119, 124, 125] h h129 := fl32.trans fl130 (by decide)
                                      have rq148 : h129.1 105 = h129.1 105 := rfl
                                      refine R_iload_n (k := 3) rfl rfl rfl ?_
                                      refine R_bipush 6 rfl rfl ?_
                                      refine N_icmp_ge (a := x131.toInt) (b := 6) 166 rfl rfl rfl (by decide) (fun c149 => ?_) (fun c149 => ?_)
                                      · refine R_iconst 0 rfl rfl ?_
                                        refine R_istore_n (k := 3) rfl [(3, .inl 0), (2, .inl x85), (0, .inr (.inr (.inl 96))), (1, .inl a0)] rfl rfl (by decide) ?_
                                        have lp151 : ∀ (n150 : Nat) (h152 : PH) (x154 : Int32), INV h152 → FR [96, 103, 104, 105, 106, 107, 108, 109, 110, 111, 112, 113, 114, 115, 116, 117, 118, 119, 124, 125] h h152 → FR [96, 105, 125] h129 h152 → 0 ≤ x154.toInt ∧ x154.toInt ≤ 60 → (h152.1 96 18).toInt = (h129.1 96 18).toInt → (h152.1 96 19).toInt = (h129.1 96 19).toInt → (h152.1 96 44).toInt = (h129.1 96 44).toInt → 0 ≤ (h152.1 96 51).toInt ∧ (h152.1 96 51).toInt ≤ 720 → x154.toInt ≤ (h129.1 97 0).toInt + 0 → (h152.1 105 = h83.1 105) → ((h152.1 96 51).toInt = (h83.1 96 51).toInt) → (60 - x154.toInt).toNat < n150 → RUN d_X9_layFits 168 [(3, .inl x154), (2, .inl x85), (0, .inr (.inr (.inl 96))), (1, .inl a0)] [] h152 (qg_X9_layFits h a0) := by
                                          intro n150
                                          induction n150 with
                                          | zero => intro h152 x154 m156 m157 m158 m159 m160 m161 m162 m163 m164 m165 m166 hz; exact absurd hz (Nat.not_lt_zero _)
                                          | succ n150 ih155 =>
                                            intro h152 x154 hI fr fl153 m159 m160 m161 m162 m163 m164 m165 m166 hz
                                            have s167 : (h152.1 97 10).toInt = (h129.1 97 10).toInt := by rw [(fl153 97 (by decide)).1]
                                            have s168 : (h152.1 97 0).toInt = (h129.1 97 0).toInt := by rw [(fl153 97 (by decide)).1]
                                            have s169 : (h152.1 97 5).toInt = (h129.1 97 5).toInt := by rw [(fl153 97 (by decide)).1]
                                            have s170 : (h152.1 97 1).toInt = (h129.1 97 1).toInt := by rw [(fl153 97 (by decide)).1]
                                            have s171 : (h152.1 97 6).toInt = (h129.1 97 6).toInt := by rw [(fl153 97 (by decide)).1]
                                            have fl130 : FR [96, 105, 124, 125] h111 h152 := fl130.trans fl153 (by decide)
                                            have fl84 : FR [96, 105, 107, 108, 109, 110, 111, 112, 113, 114, 115, 116, 117, 118, 119, 124, 125] h71 h152 := fl84.trans fl153 (by decide)
                                            have fl32 : FR [96, 103, 104, 105, 106, 107, 108, 109, 110, 111, 112, 113, 114, 115, 116, 117, 118, 119, 124, 125] h h152 := fl32.trans fl153 (by decide)
                                            have rq172 : h152.1 105 = h152.1 105 := rfl
                                            refine R_iload_n (k := 3) rfl rfl rfl ?_
                                            refine R_aload_n (k := 0) rfl rfl rfl ?_
                                            refine R_callV (v := .inr (.inr (.inl 96))) (As := []) (rest := [.inl x154]) rfl mt_9_i129 pp_X9_last (by decide) rfl rfl rfl (Nat.le_of_ble_eq_true rfl) (Nat.le_of_ble_eq_true rfl) ((k_X9_last h152 hI).mono (fun r173 h174 p175 => ?_))
                                            obtain ⟨rfl, x176, rfl, q177⟩ := p175
                                            show RUN d_X9_layFits 173 [(3, .inl x154), (2, .inl x85), (0, .inr (.inr (.inl 96))), (1, .inl a0)] [.inl x176, .inl x154] h152 _
                                            refine N_icmp_gt (a := x154.toInt) (b := x176.toInt) 203 rfl rfl rfl rfl (fun c178 => ?_) (fun c178 => ?_)
                                            · refine R_aload_n (k := 0) rfl rfl rfl ?_
                                              refine R_dup_r rfl ?_
                                              refine R_getf_i (j := 51) rfl ft_9_445 sh_96 rfl ?_
                                              refine R_iconst 1 rfl rfl ?_
                                              refine R_iadd rfl ?_
                                              refine N_eq (fun x179 e180 => ?_)
                                              have q181 : x179.toInt = (h152.1 96 51).toInt + 1 := by rw [e180]; exact i_add rfl (by decide) (by omega)
                                              refine K_putf (j := 51) (lo := 0) (hi' := 720) rfl ft_9_445 sh_96 rfl hI (by decide) rfl (by omega) fr (by decide) (fun h182 g183 hI fr => ?_)
                                              have fl153 : FR [96, 105, 125] h129 h182 := by rw [g183]; exact FR_wI _ _ fl153 (by decide)
                                              have fl130 : FR [96, 105, 124, 125] h111 h182 := by rw [g183]; exact FR_wI _ _ fl130 (by decide)
                                              have fl84 : FR [96, 105, 107, 108, 109, 110, 111, 112, 113, 114, 115, 116, 117, 118, 119, 124, 125] h71 h182 := by rw [g183]; exact FR_wI _ _ fl84 (by decide)
                                              have fl32 : FR [96, 103, 104, 105, 106, 107, 108, 109, 110, 111, 112, 113, 114, 115, 116, 117, 118, 119, 124, 125] h h182 := by rw [g183]; exact FR_wI _ _ fl32 (by decide)
                                              have s184 : (h182.1 97 10).toInt = (h152.1 97 10).toInt := by rw [g183, wI_ne _ _ _ (by decide)]
                                              have s185 : (h182.1 97 0).toInt = (h152.1 97 0).toInt := by rw [g183, wI_ne _ _ _ (by decide)]
                                              have s186 : (h182.1 97 5).toInt = (h152.1 97 5).toInt := by rw [g183, wI_ne _ _ _ (by decide)]
                                              have s187 : (h182.1 97 1).toInt = (h152.1 97 1).toInt := by rw [g183, wI_ne _ _ _ (by decide)]
                                              have s188 : (h182.1 96 18).toInt = (h152.1 96 18).toInt := by rw [g183, wI_at (by decide)]
                                              have s189 : (h182.1 96 19).toInt = (h152.1 96 19).toInt := by rw [g183, wI_at (by decide)]
                                              have s190 : (h182.1 96 44).toInt = (h152.1 96 44).toInt := by rw [g183, wI_at (by decide)]
                                              have s191 : (h182.1 97 6).toInt = (h152.1 97 6).toInt := by rw [g183, wI_ne _ _ _ (by decide)]
                                              have rq192 : h182.1 105 = h152.1 105 := (show h182.1 105 = h152.1 105 from by rw [g183]; exact wI_ne _ _ _ (by decide)).trans rq172
                                              have s193 : (h182.1 96 51).toInt = x179.toInt := by rw [g183, wI_is]
                                              refine R_aload_n (k := 0) rfl rfl rfl ?_
                                              refine R_callV (v := .inr (.inr (.inl 96))) (As := []) (rest := []) rfl mt_9_i424 pp_X9_nextLine (by decide) rfl rfl rfl (Nat.le_of_ble_eq_true rfl) (Nat.le_of_ble_eq_true rfl) ((g_X9_nextLine h182 hI (INJ6_of (rq192.trans m165) m95)).mono (fun r194 h195 p196 => ?_))
                                              obtain ⟨hJ, fj, ⟨xq197, -⟩, x199, rfl, (q200 | q200), zq198, -⟩ := p196
                                              · have f201 := fj
                                                have fr := fr.trans fj (by decide)
                                                have hI := hJ
                                                have fl153 : FR [96, 105, 125] h129 h195 := fl153.trans fj (by decide)
                                                have fl130 : FR [96, 105, 124, 125] h111 h195 := fl130.trans fj (by decide)
                                                have fl84 : FR [96, 105, 107, 108, 109, 110, 111, 112, 113, 114, 115, 116, 117, 118, 119, 124, 125] h71 h195 := fl84.trans fj (by decide)
                                                have fl32 : FR [96, 103, 104, 105, 106, 107, 108, 109, 110, 111, 112, 113, 114, 115, 116, 117, 118, 119, 124, 125] h h195 := fl32.trans fj (by decide)
                                                have s202 : (h195.1 97 10).toInt = (h182.1 97 10).toInt := by rw [(f201 97 (by decide)).1]
                                                have s203 : (h195.1 97 0).toInt = (h182.1 97 0).toInt := by rw [(f201 97 (by decide)).1]
                                                have s204 : (h195.1 97 5).toInt = (h182.1 97 5).toInt := by rw [(f201 97 (by decide)).1]
                                                have s205 : (h195.1 97 1).toInt = (h182.1 97 1).toInt := by rw [(f201 97 (by decide)).1]
                                                have s206 : (h195.1 96 18).toInt = (h182.1 96 18).toInt := by rw [(f201 96 (by decide)).1]
                                                have s207 : (h195.1 96 19).toInt = (h182.1 96 19).toInt := by rw [(f201 96 (by decide)).1]
                                                have s208 : (h195.1 96 44).toInt = (h182.1 96 44).toInt := by rw [(f201 96 (by decide)).1]
                                                have s209 : (h195.1 97 6).toInt = (h182.1 97 6).toInt := by rw [(f201 97 (by decide)).1]
                                                have s210 : (h195.1 96 51).toInt = (h182.1 96 51).toInt := by rw [(f201 96 (by decide)).1]
                                                show RUN d_X9_layFits 217 [(3, .inl x154), (2, .inl x85), (0, .inr (.inr (.inl 96))), (1, .inl a0)] [.inl x199] h195 _
                                                refine R_istore_n (k := 2) rfl [(2, .inl x199), (3, .inl x154), (0, .inr (.inr (.inl 96))), (1, .inl a0)] rfl rfl (by decide) ?_
                                                refine R_goto 112 rfl rfl ?_
                                                have rkb : (rkL (h83.1 105) : Int) + x199.toInt ≤ (rkL (h195.1 105) : Int) := by rw [← (rq192.trans m165)]; exact zq198
                                                have rkt2 := rkL_top hI xq197
                                                exact RUN_weak (psub_cons rfl (psub_cons rfl (psub_cons rfl (psub_nil _)))) (ih86 h195 x199 hI fr fl84 (by omega) (by omega) (by omega) (by omega) (by omega) (xq197) (by omega) (by omega))
                                              · have f211 := fj
                                                have fr := fr.trans fj (by decide)
                                                have hI := hJ
                                                have fl153 : FR [96, 105, 125] h129 h195 := fl153.trans fj (by decide)
                                                have fl130 : FR [96, 105, 124, 125] h111 h195 := fl130.trans fj (by decide)
                                                have fl84 : FR [96, 105, 107, 108, 109, 110, 111, 112, 113, 114, 115, 116, 117, 118, 119, 124, 125] h71 h195 := fl84.trans fj (by decide)
                                                have fl32 : FR [96, 103, 104, 105, 106, 107, 108, 109, 110, 111, 112, 113, 114, 115, 116, 117, 118, 119, 124, 125] h h195 := fl32.trans fj (by decide)
                                                have s212 : (h195.1 97 10).toInt = (h182.1 97 10).toInt := by rw [(f211 97 (by decide)).1]
                                                have s213 : (h195.1 97 0).toInt = (h182.1 97 0).toInt := by rw [(f211 97 (by decide)).1]
                                                have s214 : (h195.1 97 5).toInt = (h182.1 97 5).toInt := by rw [(f211 97 (by decide)).1]
                                                have s215 : (h195.1 97 1).toInt = (h182.1 97 1).toInt := by rw [(f211 97 (by decide)).1]
                                                have s216 : (h195.1 96 18).toInt = (h182.1 96 18).toInt := by rw [(f211 96 (by decide)).1]
                                                have s217 : (h195.1 96 19).toInt = (h182.1 96 19).toInt := by rw [(f211 96 (by decide)).1]
                                                have s218 : (h195.1 96 44).toInt = (h182.1 96 44).toInt := by rw [(f211 96 (by decide)).1]
                                                have s219 : (h195.1 97 6).toInt = (h182.1 97 6).toInt := by rw [(f211 97 (by decide)).1]
                                                have s220 : (h195.1 96 51).toInt = (h182.1 96 51).toInt := by rw [(f211 96 (by decide)).1]
                                                show RUN d_X9_layFits 217 [(3, .inl x154), (2, .inl x85), (0, .inr (.inr (.inl 96))), (1, .inl a0)] [.inl x199] h195 _
                                                refine R_istore_n (k := 2) rfl [(2, .inl x199), (3, .inl x154), (0, .inr (.inr (.inl 96))), (1, .inl a0)] rfl rfl (by decide) ?_
                                                refine R_goto 112 rfl rfl ?_
                                                have rkb : (rkL (h83.1 105) : Int) + x199.toInt ≤ (rkL (h195.1 105) : Int) := by rw [← (rq192.trans m165)]; exact zq198
                                                have rkt2 := rkL_top hI xq197
                                                exact RUN_weak (psub_cons rfl (psub_cons rfl (psub_cons rfl (psub_nil _)))) (ih86 h195 x199 hI fr fl84 (by omega) (by omega) (by omega) (by omega) (by omega) (xq197) (by omega) (by omega))
                                            · refine R_aload_n (k := 0) rfl rfl rfl ?_
                                              refine R_getf_r (j := 50) rfl ft_9_101 sh_96 rfl ?_
                                              refine R_bipush 60 rfl rfl ?_
                                              refine R_aload_n (k := 0) rfl rfl rfl ?_
                                              refine R_getf_i (j := 51) rfl ft_9_445 sh_96 rfl ?_
                                              refine R_imul rfl ?_
                                              refine N_eq (fun x221 e222 => ?_)
                                              have q223 : x221.toInt = 60 * (h152.1 96 51).toInt := by rw [e222]; exact i_mul (by decide) rfl (by omega)
                                              refine R_iload_n (k := 3) rfl rfl rfl ?_
                                              refine R_iadd rfl ?_
                                              refine N_eq (fun x224 e225 => ?_)
                                              have q226 : x224.toInt = x221.toInt + x154.toInt := by rw [e225]; exact i_add rfl rfl (by omega)
                                              refine R_aload_n (k := 0) rfl rfl rfl ?_
                                              refine R_getf_r (j := 28) rfl ft_9_64 sh_96 rfl ?_
                                              refine R_iload_n (k := 3) rfl rfl rfl ?_
                                              refine R_iald rfl sh_113 ⟨by omega, by omega⟩ ?_
                                              refine N_eq (fun x227 e228 => ?_)
                                              refine R_i2b rfl ?_
                                              refine N_any (fun x229 => ?_)
                                              refine K_bast (a := x224.toInt) rfl sh_125 rfl ⟨by omega, by omega⟩ hI (by decide) rfl fr (by decide) (fun h230 g231 hI fr => ?_)
                                              have fl153 : FR [96, 105, 125] h129 h230 := by rw [g231]; exact FR_wI _ _ fl153 (by decide)
                                              have fl130 : FR [96, 105, 124, 125] h111 h230 := by rw [g231]; exact FR_wI _ _ fl130 (by decide)
                                              have fl84 : FR [96, 105, 107, 108, 109, 110, 111, 112, 113, 114, 115, 116, 117, 118, 119, 124, 125] h71 h230 := by rw [g231]; exact FR_wI _ _ fl84 (by decide)
                                              have fl32 : FR [96, 103, 104, 105, 106, 107, 108, 109, 110, 111, 112, 113, 114, 115, 116, 117, 118, 119, 124, 125] h h230 := by rw [g231]; exact FR_wI _ _ fl32 (by decide)
                                              have s232 : (h230.1 97 10).toInt = (h152.1 97 10).toInt := by rw [g231, wI_ne _ _ _ (by decide)]
                                              have s233 : (h230.1 97 0).toInt = (h152.1 97 0).toInt := by rw [g231, wI_ne _ _ _ (by decide)]
                                              have s234 : (h230.1 97 5).toInt = (h152.1 97 5).toInt := by rw [g231, wI_ne _ _ _ (by decide)]
                                              have s235 : (h230.1 97 1).toInt = (h152.1 97 1).toInt := by rw [g231, wI_ne _ _ _ (by decide)]
                                              have s236 : (h230.1 96 18).toInt = (h152.1 96 18).toInt := by rw [g231, wI_ne _ _ _ (by decide)]
                                              have s237 : (h230.1 96 19).toInt = (h152.1 96 19).toInt := by rw [g231, wI_ne _ _ _ (by decide)]
                                              have s238 : (h230.1 96 44).toInt = (h152.1 96 44).toInt := by rw [g231, wI_ne _ _ _ (by decide)]
                                              have s239 : (h230.1 96 51).toInt = (h152.1 96 51).toInt := by rw [g231, wI_ne _ _ _ (by decide)]
                                              have s240 : (h230.1 97 6).toInt = (h152.1 97 6).toInt := by rw [g231, wI_ne _ _ _ (by decide)]
                                              have rq241 : h230.1 105 = h152.1 105 := (show h230.1 105 = h152.1 105 from by rw [g231]; exact wI_ne _ _ _ (by decide)).trans rq172
                                              refine N_iinc (a := x154.toInt) (c := 1) (fun w => [(3, .inl w), (2, .inl x85), (0, .inr (.inr (.inl 96))), (1, .inl a0)]) rfl rfl (fun _ => rfl) (by decide) rfl (by decide) (by omega) (fun x242 q243 => ?_)
                                              refine R_goto 168 rfl rfl ?_
                                              exact RUN_weak (psub_cons rfl (psub_cons rfl (psub_cons rfl (psub_cons rfl (psub_nil _))))) (ih155 h230 x242 hI fr fl153 (by omega) (by omega) (by omega) (by omega) (by omega) (by omega) (rq241.trans m165) (by omega) (by omega))
                                        have k244 : (0 : Int32).toInt = 0 := by decide
                                        exact lp151 _ h129 (0 : Int32) hI fr (FR.rf _ _) (by decide) rfl rfl rfl (by omega) (by omega) ((rq148.trans m141)) (by omega) (Nat.lt_succ_self _)
                                      · refine R_aload_n (k := 0) rfl rfl rfl ?_
                                        refine R_getf_r (j := 49) rfl ft_9_97 sh_96 rfl ?_
                                        refine R_bipush 6 rfl rfl ?_
                                        refine R_aload_n (k := 0) rfl rfl rfl ?_
                                        refine R_getf_i (j := 51) rfl ft_9_445 sh_96 rfl ?_
                                        refine R_imul rfl ?_
                                        refine N_eq (fun x245 e246 => ?_)
                                        have q247 : x245.toInt = 6 * (h129.1 96 51).toInt := by rw [e246]; exact i_mul (by decide) rfl (by omega)
                                        refine R_iload_n (k := 3) rfl rfl rfl ?_
                                        refine R_iadd rfl ?_
                                        refine N_eq (fun x248 e249 => ?_)
                                        have q250 : x248.toInt = x245.toInt + x131.toInt := by rw [e249]; exact i_add rfl rfl (by omega)
                                        refine R_aload_n (k := 0) rfl rfl rfl ?_
                                        refine R_getf_r (j := 17) rfl ft_9_40 sh_96 rfl ?_
                                        refine R_iload_n (k := 3) rfl rfl rfl ?_
                                        refine R_iald rfl sh_105 ⟨by omega, by omega⟩ ?_
                                        refine N_eq (fun x251 e252 => ?_)
                                        have q253 : 0 ≤ x251.toInt ∧ x251.toInt ≤ 5 := by rw [e252]; exact hI.1 105 _
                                        refine R_i2b rfl ?_
                                        refine N_any (fun x254 => ?_)
                                        refine K_bast (a := x248.toInt) rfl sh_124 rfl ⟨by omega, by omega⟩ hI (by decide) rfl fr (by decide) (fun h255 g256 hI fr => ?_)
                                        have fl130 : FR [96, 105, 124, 125] h111 h255 := by rw [g256]; exact FR_wI _ _ fl130 (by decide)
                                        have fl84 : FR [96, 105, 107, 108, 109, 110, 111, 112, 113, 114, 115, 116, 117, 118, 119, 124, 125] h71 h255 := by rw [g256]; exact FR_wI _ _ fl84 (by decide)
                                        have fl32 : FR [96, 103, 104, 105, 106, 107, 108, 109, 110, 111, 112, 113, 114, 115, 116, 117, 118, 119, 124, 125] h h255 := by rw [g256]; exact FR_wI _ _ fl32 (by decide)
                                        have s257 : (h255.1 97 10).toInt = (h129.1 97 10).toInt := by rw [g256, wI_ne _ _ _ (by decide)]
                                        have s258 : (h255.1 97 0).toInt = (h129.1 97 0).toInt := by rw [g256, wI_ne _ _ _ (by decide)]
                                        have s259 : (h255.1 97 5).toInt = (h129.1 97 5).toInt := by rw [g256, wI_ne _ _ _ (by decide)]
                                        have s260 : (h255.1 97 1).toInt = (h129.1 97 1).toInt := by rw [g256, wI_ne _ _ _ (by decide)]
                                        have s261 : (h255.1 96 18).toInt = (h129.1 96 18).toInt := by rw [g256, wI_ne _ _ _ (by decide)]
                                        have s262 : (h255.1 96 19).toInt = (h129.1 96 19).toInt := by rw [g256, wI_ne _ _ _ (by decide)]
                                        have s263 : (h255.1 96 44).toInt = (h129.1 96 44).toInt := by rw [g256, wI_ne _ _ _ (by decide)]
                                        have s264 : (h255.1 96 51).toInt = (h129.1 96 51).toInt := by rw [g256, wI_ne _ _ _ (by decide)]
                                        have s265 : (h255.1 97 6).toInt = (h129.1 97 6).toInt := by rw [g256, wI_ne _ _ _ (by decide)]
                                        have rq266 : h255.1 105 = h129.1 105 := (show h255.1 105 = h129.1 105 from by rw [g256]; exact wI_ne _ _ _ (by decide)).trans rq148
                                        refine N_iinc (a := x131.toInt) (c := 1) (fun w => [(3, .inl w), (2, .inl x85), (0, .inr (.inr (.inl 96))), (1, .inl a0)]) rfl rfl (fun _ => rfl) (by decide) rfl (by decide) (by omega) (fun x267 q268 => ?_)
                                        refine R_goto 133 rfl rfl ?_
                                        exact RUN_weak (psub_cons rfl (psub_cons rfl (psub_cons rfl (psub_cons rfl (psub_nil _))))) (ih132 h255 x267 hI fr fl130 (by omega) (by omega) (by omega) (by omega) (by omega) (rq266.trans m141) (by omega) (by omega))
                                  have k269 : (0 : Int32).toInt = 0 := by decide
                                  exact lp128 _ h111 (0 : Int32) hI fr (FR.rf _ _) (by decide) rfl rfl rfl (by omega) (rq125) (by omega) (Nat.lt_succ_self _)
                              · have f270 := fj
                                have fr := fr.trans fj (by decide)
                                have hI := hJ
                                have fl84 : FR [96, 105, 107, 108, 109, 110, 111, 112, 113, 114, 115, 116, 117, 118, 119, 124, 125] h71 h111 := fl84.trans fj (by decide)
                                have fl32 : FR [96, 103, 104, 105, 106, 107, 108, 109, 110, 111, 112, 113, 114, 115, 116, 117, 118, 119, 124, 125] h h111 := fl32.trans fj (by decide)
                                have s271 : (h111.1 97 10).toInt = (h83.1 97 10).toInt := by rw [(f270 97 (by decide)).1]
                                have s272 : (h111.1 97 0).toInt = (h83.1 97 0).toInt := by rw [(f270 97 (by decide)).1]
                                have s273 : (h111.1 97 5).toInt = (h83.1 97 5).toInt := by rw [(f270 97 (by decide)).1]
                                have s274 : (h111.1 97 1).toInt = (h83.1 97 1).toInt := by rw [(f270 97 (by decide)).1]
                                have s275 : (h111.1 97 6).toInt = (h83.1 97 6).toInt := by rw [(f270 97 (by decide)).1]
                                have rq276 : h111.1 105 = h83.1 105 := (f270 105 (by decide)).1.trans rq101
                                show RUN d_X9_layFits 128 [(2, .inl x85), (0, .inr (.inr (.inl 96))), (1, .inl a0)] [.inl x117] h111 _
                                refine N_if_eq (a := x117.toInt) 213 rfl rfl rfl (fun c277 => ?_) (fun c277 => ?_)
                                · refine R_aload_n (k := 0) rfl rfl rfl ?_
                                  refine R_callV (v := .inr (.inr (.inl 96))) (As := []) (rest := []) rfl mt_9_i424 pp_X9_nextLine (by decide) rfl rfl rfl (Nat.le_of_ble_eq_true rfl) (Nat.le_of_ble_eq_true rfl) ((g_X9_nextLine h111 hI (INJ6_of rq276 m95)).mono (fun r278 h279 p280 => ?_))
                                  obtain ⟨hJ, fj, ⟨xq281, -⟩, x283, rfl, (q284 | q284), zq282, -⟩ := p280
                                  · have f285 := fj
                                    have fr := fr.trans fj (by decide)
                                    have hI := hJ
                                    have fl84 : FR [96, 105, 107, 108, 109, 110, 111, 112, 113, 114, 115, 116, 117, 118, 119, 124, 125] h71 h279 := fl84.trans fj (by decide)
                                    have fl32 : FR [96, 103, 104, 105, 106, 107, 108, 109, 110, 111, 112, 113, 114, 115, 116, 117, 118, 119, 124, 125] h h279 := fl32.trans fj (by decide)
                                    have s286 : (h279.1 97 10).toInt = (h111.1 97 10).toInt := by rw [(f285 97 (by decide)).1]
                                    have s287 : (h279.1 97 0).toInt = (h111.1 97 0).toInt := by rw [(f285 97 (by decide)).1]
                                    have s288 : (h279.1 97 5).toInt = (h111.1 97 5).toInt := by rw [(f285 97 (by decide)).1]
                                    have s289 : (h279.1 97 1).toInt = (h111.1 97 1).toInt := by rw [(f285 97 (by decide)).1]
                                    have s290 : (h279.1 96 18).toInt = (h111.1 96 18).toInt := by rw [(f285 96 (by decide)).1]
                                    have s291 : (h279.1 96 19).toInt = (h111.1 96 19).toInt := by rw [(f285 96 (by decide)).1]
                                    have s292 : (h279.1 96 44).toInt = (h111.1 96 44).toInt := by rw [(f285 96 (by decide)).1]
                                    have s293 : (h279.1 96 51).toInt = (h111.1 96 51).toInt := by rw [(f285 96 (by decide)).1]
                                    have s294 : (h279.1 97 6).toInt = (h111.1 97 6).toInt := by rw [(f285 97 (by decide)).1]
                                    show RUN d_X9_layFits 217 [(2, .inl x85), (0, .inr (.inr (.inl 96))), (1, .inl a0)] [.inl x283] h279 _
                                    refine R_istore_n (k := 2) rfl [(2, .inl x283), (0, .inr (.inr (.inl 96))), (1, .inl a0)] rfl rfl (by decide) ?_
                                    refine R_goto 112 rfl rfl ?_
                                    have rkb : (rkL (h83.1 105) : Int) + x283.toInt ≤ (rkL (h279.1 105) : Int) := by rw [← rq276]; exact zq282
                                    have rkt2 := rkL_top hI xq281
                                    exact RUN_weak (psub_cons rfl (psub_cons rfl (psub_cons rfl (psub_nil _)))) (ih86 h279 x283 hI fr fl84 (by omega) (by omega) (by omega) (by omega) (by omega) (xq281) (by omega) (by omega))
                                  · have f295 := fj
                                    have fr := fr.trans fj (by decide)
                                    have hI := hJ
                                    have fl84 : FR [96, 105, 107, 108, 109, 110, 111, 112, 113, 114, 115, 116, 117, 118, 119, 124, 125] h71 h279 := fl84.trans fj (by decide)
                                    have fl32 : FR [96, 103, 104, 105, 106, 107, 108, 109, 110, 111, 112, 113, 114, 115, 116, 117, 118, 119, 124, 125] h h279 := fl32.trans fj (by decide)
                                    have s296 : (h279.1 97 10).toInt = (h111.1 97 10).toInt := by rw [(f295 97 (by decide)).1]
                                    have s297 : (h279.1 97 0).toInt = (h111.1 97 0).toInt := by rw [(f295 97 (by decide)).1]
                                    have s298 : (h279.1 97 5).toInt = (h111.1 97 5).toInt := by rw [(f295 97 (by decide)).1]
                                    have s299 : (h279.1 97 1).toInt = (h111.1 97 1).toInt := by rw [(f295 97 (by decide)).1]
                                    have s300 : (h279.1 96 18).toInt = (h111.1 96 18).toInt := by rw [(f295 96 (by decide)).1]
                                    have s301 : (h279.1 96 19).toInt = (h111.1 96 19).toInt := by rw [(f295 96 (by decide)).1]
                                    have s302 : (h279.1 96 44).toInt = (h111.1 96 44).toInt := by rw [(f295 96 (by decide)).1]
                                    have s303 : (h279.1 96 51).toInt = (h111.1 96 51).toInt := by rw [(f295 96 (by decide)).1]
                                    have s304 : (h279.1 97 6).toInt = (h111.1 97 6).toInt := by rw [(f295 97 (by decide)).1]
                                    show RUN d_X9_layFits 217 [(2, .inl x85), (0, .inr (.inr (.inl 96))), (1, .inl a0)] [.inl x283] h279 _
                                    refine R_istore_n (k := 2) rfl [(2, .inl x283), (0, .inr (.inr (.inl 96))), (1, .inl a0)] rfl rfl (by decide) ?_
                                    refine R_goto 112 rfl rfl ?_
                                    have rkb : (rkL (h83.1 105) : Int) + x283.toInt ≤ (rkL (h279.1 105) : Int) := by rw [← rq276]; exact zq282
                                    have rkt2 := rkL_top hI xq281
                                    exact RUN_weak (psub_cons rfl (psub_cons rfl (psub_cons rfl (psub_nil _)))) (ih86 h279 x283 hI fr fl84 (by omega) (by omega) (by omega) (by omega) (by omega) (xq281) (by omega) (by omega))
                                · exfalso; omega
                          · show RUN d_X9_layFits 120 [(2, .inl x85), (0, .inr (.inr (.inl 96))), (1, .inl a0)] [.inl x107] h83 _
                            refine N_if_eq (a := x107.toInt) 213 rfl rfl rfl (fun c305 => ?_) (fun c305 => ?_)
                            · refine R_aload_n (k := 0) rfl rfl rfl ?_
                              refine R_callV (v := .inr (.inr (.inl 96))) (As := []) (rest := []) rfl mt_9_i424 pp_X9_nextLine (by decide) rfl rfl rfl (Nat.le_of_ble_eq_true rfl) (Nat.le_of_ble_eq_true rfl) ((g_X9_nextLine h83 hI (INJ6_of rq101 m95)).mono (fun r306 h307 p308 => ?_))
                              obtain ⟨hJ, fj, ⟨xq309, -⟩, x311, rfl, (q312 | q312), zq310, -⟩ := p308
                              · have f313 := fj
                                have fr := fr.trans fj (by decide)
                                have hI := hJ
                                have fl84 : FR [96, 105, 107, 108, 109, 110, 111, 112, 113, 114, 115, 116, 117, 118, 119, 124, 125] h71 h307 := fl84.trans fj (by decide)
                                have fl32 : FR [96, 103, 104, 105, 106, 107, 108, 109, 110, 111, 112, 113, 114, 115, 116, 117, 118, 119, 124, 125] h h307 := fl32.trans fj (by decide)
                                have s314 : (h307.1 97 10).toInt = (h83.1 97 10).toInt := by rw [(f313 97 (by decide)).1]
                                have s315 : (h307.1 97 0).toInt = (h83.1 97 0).toInt := by rw [(f313 97 (by decide)).1]
                                have s316 : (h307.1 97 5).toInt = (h83.1 97 5).toInt := by rw [(f313 97 (by decide)).1]
                                have s317 : (h307.1 97 1).toInt = (h83.1 97 1).toInt := by rw [(f313 97 (by decide)).1]
                                have s318 : (h307.1 96 18).toInt = (h83.1 96 18).toInt := by rw [(f313 96 (by decide)).1]
                                have s319 : (h307.1 96 19).toInt = (h83.1 96 19).toInt := by rw [(f313 96 (by decide)).1]
                                have s320 : (h307.1 96 44).toInt = (h83.1 96 44).toInt := by rw [(f313 96 (by decide)).1]
                                have s321 : (h307.1 96 51).toInt = (h83.1 96 51).toInt := by rw [(f313 96 (by decide)).1]
                                have s322 : (h307.1 97 6).toInt = (h83.1 97 6).toInt := by rw [(f313 97 (by decide)).1]
                                show RUN d_X9_layFits 217 [(2, .inl x85), (0, .inr (.inr (.inl 96))), (1, .inl a0)] [.inl x311] h307 _
                                refine R_istore_n (k := 2) rfl [(2, .inl x311), (0, .inr (.inr (.inl 96))), (1, .inl a0)] rfl rfl (by decide) ?_
                                refine R_goto 112 rfl rfl ?_
                                have rkb : (rkL (h83.1 105) : Int) + x311.toInt ≤ (rkL (h307.1 105) : Int) := by rw [← rq101]; exact zq310
                                have rkt2 := rkL_top hI xq309
                                exact RUN_weak (psub_cons rfl (psub_cons rfl (psub_cons rfl (psub_nil _)))) (ih86 h307 x311 hI fr fl84 (by omega) (by omega) (by omega) (by omega) (by omega) (xq309) (by omega) (by omega))
                              · have f323 := fj
                                have fr := fr.trans fj (by decide)
                                have hI := hJ
                                have fl84 : FR [96, 105, 107, 108, 109, 110, 111, 112, 113, 114, 115, 116, 117, 118, 119, 124, 125] h71 h307 := fl84.trans fj (by decide)
                                have fl32 : FR [96, 103, 104, 105, 106, 107, 108, 109, 110, 111, 112, 113, 114, 115, 116, 117, 118, 119, 124, 125] h h307 := fl32.trans fj (by decide)
                                have s324 : (h307.1 97 10).toInt = (h83.1 97 10).toInt := by rw [(f323 97 (by decide)).1]
                                have s325 : (h307.1 97 0).toInt = (h83.1 97 0).toInt := by rw [(f323 97 (by decide)).1]
                                have s326 : (h307.1 97 5).toInt = (h83.1 97 5).toInt := by rw [(f323 97 (by decide)).1]
                                have s327 : (h307.1 97 1).toInt = (h83.1 97 1).toInt := by rw [(f323 97 (by decide)).1]
                                have s328 : (h307.1 96 18).toInt = (h83.1 96 18).toInt := by rw [(f323 96 (by decide)).1]
                                have s329 : (h307.1 96 19).toInt = (h83.1 96 19).toInt := by rw [(f323 96 (by decide)).1]
                                have s330 : (h307.1 96 44).toInt = (h83.1 96 44).toInt := by rw [(f323 96 (by decide)).1]
                                have s331 : (h307.1 96 51).toInt = (h83.1 96 51).toInt := by rw [(f323 96 (by decide)).1]
                                have s332 : (h307.1 97 6).toInt = (h83.1 97 6).toInt := by rw [(f323 97 (by decide)).1]
                                show RUN d_X9_layFits 217 [(2, .inl x85), (0, .inr (.inr (.inl 96))), (1, .inl a0)] [.inl x311] h307 _
                                refine R_istore_n (k := 2) rfl [(2, .inl x311), (0, .inr (.inr (.inl 96))), (1, .inl a0)] rfl rfl (by decide) ?_
                                refine R_goto 112 rfl rfl ?_
                                have rkb : (rkL (h83.1 105) : Int) + x311.toInt ≤ (rkL (h307.1 105) : Int) := by rw [← rq101]; exact zq310
                                have rkt2 := rkL_top hI xq309
                                exact RUN_weak (psub_cons rfl (psub_cons rfl (psub_cons rfl (psub_nil _)))) (ih86 h307 x311 hI fr fl84 (by omega) (by omega) (by omega) (by omega) (by omega) (xq309) (by omega) (by omega))
                            · exfalso; omega
                    have k333 : (1 : Int32).toInt = 1 := by decide
                    exact lp82 _ h71 (1 : Int32) hI fr (FR.rf _ _) (by decide) rfl rfl rfl (by omega) (hJ0) (by omega) (Nat.lt_succ_self _)
                  · refine R_aload_n (k := 0) rfl rfl rfl ?_
                    refine R_aload_n (k := 0) rfl rfl rfl ?_
                    refine R_iload_n (k := 1) rfl rfl rfl ?_
                    refine R_iload_n (k := 2) rfl rfl rfl ?_
                    refine R_callV (v := .inr (.inr (.inl 96))) (As := [.inl a0, .inl x33]) (rest := [.inr (.inr (.inl 96))]) rfl mt_9_i436 pp_X9_numberAt (by decide) rfl rfl rfl (Nat.le_of_ble_eq_true rfl) (Nat.le_of_ble_eq_true rfl) ((g_X9_numberAt h31 hI a0 x33 (by omega) (by omega)).mono (fun r334 h335 p336 => ?_))
                    obtain ⟨rfl, w338, rfl, zq337, -⟩ := p336
                    show RUN d_X9_layFits 63 [(2, .inl x33), (0, .inr (.inr (.inl 96))), (1, .inl a0)] [.inr (.inl w338), .inr (.inr (.inl 96))] h31 _
                    refine R_callV (v := .inr (.inr (.inl 96))) (As := [.inr (.inl w338)]) (rest := []) rfl mt_9_i310 pp_X9_isSecond (by decide) rfl rfl rfl (Nat.le_of_ble_eq_true rfl) (Nat.le_of_ble_eq_true rfl) ((k_X9_isSecond h31 hI w338).mono (fun r339 h340 p341 => ?_))
                    obtain ⟨rfl, x342, rfl, q343 | q343 | q343⟩ := p341
                    · show RUN d_X9_layFits 66 [(2, .inl x33), (0, .inr (.inr (.inl 96))), (1, .inl a0)] [.inl x342] h31 _
                      refine N_if_eq (a := x342.toInt) 87 rfl rfl rfl (fun c344 => ?_) (fun c344 => ?_)
                      · refine R_bipush (-2) rfl rfl ?_
                        exact R_iret rfl rfl rfl ⟨hI, fr, trivial, _, rfl, by rw [show ((-2) : Int32).toInt = (-2) from rfl] <;> omega⟩
                      · exfalso; omega
                    · show RUN d_X9_layFits 66 [(2, .inl x33), (0, .inr (.inr (.inl 96))), (1, .inl a0)] [.inl x342] h31 _
                      refine N_if_eq (a := x342.toInt) 87 rfl rfl rfl (fun c345 => ?_) (fun c345 => ?_)
                      · refine R_bipush (-2) rfl rfl ?_
                        exact R_iret rfl rfl rfl ⟨hI, fr, trivial, _, rfl, by rw [show ((-2) : Int32).toInt = (-2) from rfl] <;> omega⟩
                      · exfalso; omega
                    · show RUN d_X9_layFits 66 [(2, .inl x33), (0, .inr (.inr (.inl 96))), (1, .inl a0)] [.inl x342] h31 _
                      refine N_if_eq (a := x342.toInt) 87 rfl rfl rfl (fun c346 => ?_) (fun c346 => ?_)
                      · exfalso; omega
                      · refine R_aload_n (k := 0) rfl rfl rfl ?_
                        refine R_iload_n (k := 1) rfl rfl rfl ?_
                        refine R_iload_n (k := 2) rfl rfl rfl ?_
                        refine R_iconst 1 rfl rfl ?_
                        refine R_iadd rfl ?_
                        refine N_eq (fun x347 e348 => ?_)
                        have q349 : x347.toInt = x33.toInt + 1 := by rw [e348]; exact i_add rfl (by decide) (by omega)
                        refine R_callV (v := .inr (.inr (.inl 96))) (As := [.inl a0, .inl x347]) (rest := []) rfl mt_9_i436 pp_X9_numberAt (by decide) rfl rfl rfl (Nat.le_of_ble_eq_true rfl) (Nat.le_of_ble_eq_true rfl) ((g_X9_numberAt h31 hI a0 x347 (by omega) (by omega)).mono (fun r350 h351 p352 => ?_))
                        obtain ⟨rfl, w354, rfl, zq353, -⟩ := p352
                        show RUN d_X9_layFits 77 [(2, .inl x33), (0, .inr (.inr (.inl 96))), (1, .inl a0)] [.inr (.inl w354)] h31 _
                        refine R_lconst 0 rfl rfl ?_
                        refine R_ldc2 (x := 99) rfl kt_9_443 ?_
                        have k355 : (0 : Int64).toInt = 0 := by decide
                        have k356 : (99 : Int64).toInt = 99 := by decide
                        refine R_callS (As := [.inr (.inl w354), .inr (.inl 0), .inr (.inl 99)]) (rest := []) rfl mt_9_i125 (by decide) pp_X9_in (by decide) rfl rfl (Nat.le_of_ble_eq_true rfl) (Nat.le_of_ble_eq_true rfl) ((k_X9_in h31 hI w354 (0 : Int64) (99 : Int64)).mono (fun r357 h358 p359 => ?_))
                        obtain ⟨rfl, x360, rfl, q361 | q361 | q361⟩ := p359
                        · show RUN d_X9_layFits 84 [(2, .inl x33), (0, .inr (.inr (.inl 96))), (1, .inl a0)] [.inl x360] h31 _
                          refine N_if_ne (a := x360.toInt) 90 rfl rfl rfl (fun c362 => ?_) (fun c362 => ?_)
                          · exfalso; omega
                          · refine R_bipush (-2) rfl rfl ?_
                            exact R_iret rfl rfl rfl ⟨hI, fr, trivial, _, rfl, by rw [show ((-2) : Int32).toInt = (-2) from rfl] <;> omega⟩
                        · show RUN d_X9_layFits 84 [(2, .inl x33), (0, .inr (.inr (.inl 96))), (1, .inl a0)] [.inl x360] h31 _
                          refine N_if_ne (a := x360.toInt) 90 rfl rfl rfl (fun c363 => ?_) (fun c363 => ?_)
                          · exfalso; omega
                          · refine R_bipush (-2) rfl rfl ?_
                            exact R_iret rfl rfl rfl ⟨hI, fr, trivial, _, rfl, by rw [show ((-2) : Int32).toInt = (-2) from rfl] <;> omega⟩
                        · show RUN d_X9_layFits 84 [(2, .inl x33), (0, .inr (.inr (.inl 96))), (1, .inl a0)] [.inl x360] h31 _
                          refine N_if_ne (a := x360.toInt) 90 rfl rfl rfl (fun c364 => ?_) (fun c364 => ?_)
                          · refine N_iinc (a := x33.toInt) (c := 2) (fun w => [(2, .inl w), (0, .inr (.inr (.inl 96))), (1, .inl a0)]) rfl rfl (fun _ => rfl) (by decide) rfl (by decide) (by omega) (fun x365 q366 => ?_)
                            refine R_goto 46 rfl rfl ?_
                            exact RUN_weak (psub_cons rfl (psub_cons rfl (psub_cons rfl (psub_nil _)))) (ih34 h31 x365 hI fr fl32 (by omega) (SNP_step (x := x33) (x' := x365) m39 zq337 (fr 129 (by decide)).2 (by omega) (by omega) (by omega)) (by omega) (by omega))
                          · exfalso; omega
              have k367 : (0 : Int32).toInt = 0 := by decide
              exact lp30 _ h (0 : Int32) hI fr (FR.rf _ _) (by decide) (SNP_0 (by decide)) (by omega) (Nat.lt_succ_self _)
            · refine R_bipush (-2) rfl rfl ?_
              exact R_iret rfl rfl rfl ⟨hI, fr, trivial, _, rfl, by rw [show ((-2) : Int32).toInt = (-2) from rfl] <;> omega⟩
          · refine R_bipush (-6) rfl rfl ?_
            exact R_iret rfl rfl rfl ⟨hI, fr, trivial, _, rfl, by rw [show ((-6) : Int32).toInt = (-6) from rfl] <;> omega⟩
        · exfalso; omega

abbrev qg_X9_share (h : PH) (a0 : Int32) (a1 : Int32) : Option PV → PH → Prop := fun r h' => INV h' ∧ FR [96, 103, 104, 105, 106, 107, 108, 109, 110, 111, 112, 113, 114, 115, 116, 117, 118, 119, 126] h h' ∧ (True) ∧ ∃ z : Int32, r = some (.inl z) ∧ ((True))
set_option maxHeartbeats 4000000 in
set_option maxRecDepth 100000 in
theorem g_X9_share (h : PH) (hI : INV h) (a0 : Int32) (a1 : Int32) : CALL d_X9_share [.inr (.inr (.inl 96)), .inl a0, .inl a1] h (qg_X9_share h a0 a1) := by
  show RUN d_X9_share 0 [(0, .inr (.inr (.inl 96))), (1, .inl a0), (2, .inl a1)] [] h _
  have b1 := i_rng a0
  have b2 := i_rng a1
  have fr : FR [96, 103, 104, 105, 106, 107, 108, 109, 110, 111, 112, 113, 114, 115, 116, 117, 118, 119, 126] h h := FR.rf _ _
  refine R_aload_n (k := 0) rfl rfl rfl ?_
  refine R_iload_n (k := 1) rfl rfl rfl ?_
  have b3 : (0 : Int) ≤ (h.1 97 5).toInt ∧ (h.1 97 5).toInt ≤ 6 := hI.1 97 5
  have b4 : (0 : Int) ≤ (h.1 97 0).toInt ∧ (h.1 97 0).toInt ≤ 60 := hI.1 97 0
  have e5 : 0 < (h.1 97 5).toInt → 1 ≤ (h.1 97 0).toInt := hI.2.2.2.2.2.1.2.2
  refine R_callV (v := .inr (.inr (.inl 96))) (As := [.inl a0]) (rest := []) rfl mt_9_i314 pp_X9_isHand (by decide) rfl rfl rfl (Nat.le_of_ble_eq_true rfl) (Nat.le_of_ble_eq_true rfl) ((k_X9_isHand h hI a0).mono (fun r6 h7 p8 => ?_))
  obtain ⟨rfl, x9, rfl, q10 | q10 | q10⟩ := p8
  · show RUN d_X9_share 5 [(0, .inr (.inr (.inl 96))), (1, .inl a0), (2, .inl a1)] [.inl x9] h _
    refine N_if_eq (a := x9.toInt) 18 rfl rfl rfl (fun c11 => ?_) (fun c11 => ?_)
    · refine R_bipush (-2) rfl rfl ?_
      exact R_iret rfl rfl rfl ⟨hI, fr, trivial, _, rfl, trivial⟩
    · exfalso; omega
  · show RUN d_X9_share 5 [(0, .inr (.inr (.inl 96))), (1, .inl a0), (2, .inl a1)] [.inl x9] h _
    refine N_if_eq (a := x9.toInt) 18 rfl rfl rfl (fun c12 => ?_) (fun c12 => ?_)
    · refine R_bipush (-2) rfl rfl ?_
      exact R_iret rfl rfl rfl ⟨hI, fr, trivial, _, rfl, trivial⟩
    · exfalso; omega
  · show RUN d_X9_share 5 [(0, .inr (.inr (.inl 96))), (1, .inl a0), (2, .inl a1)] [.inl x9] h _
    refine N_if_eq (a := x9.toInt) 18 rfl rfl rfl (fun c13 => ?_) (fun c13 => ?_)
    · exfalso; omega
    · refine R_iload_n (k := 2) rfl rfl rfl ?_
      refine N_i2l rfl (fun w14 q15 => ?_)
      refine R_lconst 0 rfl rfl ?_
      refine R_lconst 1 rfl rfl ?_
      have k16 : (0 : Int64).toInt = 0 := by decide
      have k17 : (1 : Int64).toInt = 1 := by decide
      refine R_callS (As := [.inr (.inl w14), .inr (.inl 0), .inr (.inl 1)]) (rest := []) rfl mt_9_i125 (by decide) pp_X9_in (by decide) rfl rfl (Nat.le_of_ble_eq_true rfl) (Nat.le_of_ble_eq_true rfl) ((k_X9_in h hI w14 (0 : Int64) (1 : Int64)).mono (fun r18 h19 p20 => ?_))
      obtain ⟨rfl, x21, rfl, q22 | q22 | q22⟩ := p20
      · show RUN d_X9_share 15 [(0, .inr (.inr (.inl 96))), (1, .inl a0), (2, .inl a1)] [.inl x21] h _
        refine N_if_ne (a := x21.toInt) 21 rfl rfl rfl (fun c23 => ?_) (fun c23 => ?_)
        · exfalso; omega
        · refine R_bipush (-2) rfl rfl ?_
          exact R_iret rfl rfl rfl ⟨hI, fr, trivial, _, rfl, trivial⟩
      · show RUN d_X9_share 15 [(0, .inr (.inr (.inl 96))), (1, .inl a0), (2, .inl a1)] [.inl x21] h _
        refine N_if_ne (a := x21.toInt) 21 rfl rfl rfl (fun c24 => ?_) (fun c24 => ?_)
        · exfalso; omega
        · refine R_bipush (-2) rfl rfl ?_
          exact R_iret rfl rfl rfl ⟨hI, fr, trivial, _, rfl, trivial⟩
      · show RUN d_X9_share 15 [(0, .inr (.inr (.inl 96))), (1, .inl a0), (2, .inl a1)] [.inl x21] h _
        refine N_if_ne (a := x21.toInt) 21 rfl rfl rfl (fun c25 => ?_) (fun c25 => ?_)
        · refine R_aload_n (k := 0) rfl rfl rfl ?_
          refine R_callV (v := .inr (.inr (.inl 96))) (As := []) (rest := []) rfl mt_9_i298 pp_X9_asItIs (by decide) rfl rfl rfl (Nat.le_of_ble_eq_true rfl) (Nat.le_of_ble_eq_true rfl) ((g_X9_asItIs h hI).mono (fun r26 h27 p28 => ?_))
          obtain ⟨hJ, fj, ⟨kp29, xq30, xq31, xq32, -⟩, rfl⟩ := p28
          have f33 := fj
          have fr := fr.trans fj (by decide)
          have hI := hJ
          have s34 : (h27.1 97 5).toInt = (h.1 97 5).toInt := by rw [(f33 97 (by decide)).1]
          have s35 : (h27.1 97 0).toInt = (h.1 97 0).toInt := by rw [(f33 97 (by decide)).1]
          have b36 : (0 : Int) ≤ (h27.1 97 1).toInt ∧ (h27.1 97 1).toInt ≤ 8 := hI.1 97 1
          have b37 : (0 : Int) ≤ (h27.1 96 18).toInt ∧ (h27.1 96 18).toInt ≤ 6 := hI.1 96 18
          show RUN d_X9_share 25 [(0, .inr (.inr (.inl 96))), (1, .inl a0), (2, .inl a1)] [] h27 _
          refine R_aload_n (k := 0) rfl rfl rfl ?_
          refine R_callV (v := .inr (.inr (.inl 96))) (As := []) (rest := []) rfl mt_9_i133 pp_X9_hands (by decide) rfl rfl rfl (Nat.le_of_ble_eq_true rfl) (Nat.le_of_ble_eq_true rfl) ((k_X9_hands h27 hI).mono (fun r38 h39 p40 => ?_))
          obtain ⟨rfl, x41, rfl, q42⟩ := p40
          show RUN d_X9_share 29 [(0, .inr (.inr (.inl 96))), (1, .inl a0), (2, .inl a1)] [.inl x41] h27 _
          refine R_istore_n (k := 3) rfl [(3, .inl x41), (0, .inr (.inr (.inl 96))), (1, .inl a0), (2, .inl a1)] rfl rfl (by decide) ?_
          refine R_iconst 0 rfl rfl ?_
          refine R_istore (k := 4) [(4, .inl 0), (3, .inl x41), (0, .inr (.inr (.inl 96))), (1, .inl a0), (2, .inl a1)] rfl rfl (by decide) ?_
          have lp44 : ∀ (n43 : Nat) (h45 : PH) (x47 : Int32), INV h45 → FR [96, 103, 104, 105, 106, 107, 108, 109, 110, 111, 112, 113, 114, 115, 116, 117, 118, 119, 126] h h45 → FR [96, 105, 107, 108, 109, 110, 111, 112, 113, 114, 115, 116, 117, 118, 119, 126] h27 h45 → 0 ≤ x47.toInt ∧ x47.toInt ≤ 64 → (64 - x47.toInt).toNat < n43 → RUN d_X9_share 33 [(4, .inl x47), (3, .inl x41), (0, .inr (.inr (.inl 96))), (1, .inl a0), (2, .inl a1)] [] h45 (qg_X9_share h a0 a1) := by
            intro n43
            induction n43 with
            | zero => intro h45 x47 m49 m50 m51 m52 hz; exact absurd hz (Nat.not_lt_zero _)
            | succ n43 ih48 =>
              intro h45 x47 hI fr fl46 m52 hz
              have s53 : (h45.1 97 5).toInt = (h27.1 97 5).toInt := by rw [(fl46 97 (by decide)).1]
              have s54 : (h45.1 97 0).toInt = (h27.1 97 0).toInt := by rw [(fl46 97 (by decide)).1]
              have s55 : (h45.1 97 1).toInt = (h27.1 97 1).toInt := by rw [(fl46 97 (by decide)).1]
              refine R_iload (k := 4) rfl rfl ?_
              refine R_aload_n (k := 0) rfl rfl rfl ?_
              refine R_callV (v := .inr (.inr (.inl 96))) (As := []) (rest := [.inl x47]) rfl mt_9_i460 pp_X9_allHands (by decide) rfl rfl rfl (Nat.le_of_ble_eq_true rfl) (Nat.le_of_ble_eq_true rfl) ((k_X9_allHands h45 hI).mono (fun r56 h57 p58 => ?_))
              obtain ⟨rfl, x59, rfl, q60⟩ := p58
              show RUN d_X9_share 39 [(4, .inl x47), (3, .inl x41), (0, .inr (.inr (.inl 96))), (1, .inl a0), (2, .inl a1)] [.inl x59, .inl x47] h45 _
              refine N_icmp_gt (a := x47.toInt) (b := x59.toInt) 61 rfl rfl rfl rfl (fun c61 => ?_) (fun c61 => ?_)
              · refine R_lconst 0 rfl rfl ?_
                refine R_lstore (k := 4) [(4, .inr (.inl 0)), (3, .inl x41), (0, .inr (.inr (.inl 96))), (1, .inl a0), (2, .inl a1)] rfl rfl (by decide) ?_
                refine R_iconst 0 rfl rfl ?_
                refine R_istore (k := 6) [(6, .inl 0), (4, .inr (.inl 0)), (3, .inl x41), (0, .inr (.inr (.inl 96))), (1, .inl a0), (2, .inl a1)] rfl rfl (by decide) ?_
                have lp63 : ∀ (n62 : Nat) (w64 : Int64) (x65 : Int32), 0 ≤ x65.toInt ∧ x65.toInt ≤ 64 → (64 - x65.toInt).toNat < n62 → RUN d_X9_share 67 [(6, .inl x65), (4, .inr (.inl w64)), (3, .inl x41), (0, .inr (.inr (.inl 96))), (1, .inl a0), (2, .inl a1)] [] h45 (qg_X9_share h a0 a1) := by
                  intro n62
                  induction n62 with
                  | zero => intro w64 x65 m67 hz; exact absurd hz (Nat.not_lt_zero _)
                  | succ n62 ih66 =>
                    intro w64 x65 m67 hz
                    refine R_iload (k := 6) rfl rfl ?_
                    refine R_aload_n (k := 0) rfl rfl rfl ?_
                    refine R_callV (v := .inr (.inr (.inl 96))) (As := []) (rest := [.inl x65]) rfl mt_9_i460 pp_X9_allHands (by decide) rfl rfl rfl (Nat.le_of_ble_eq_true rfl) (Nat.le_of_ble_eq_true rfl) ((k_X9_allHands h45 hI).mono (fun r68 h69 p70 => ?_))
                    obtain ⟨rfl, x71, rfl, q72⟩ := p70
                    show RUN d_X9_share 73 [(6, .inl x65), (4, .inr (.inl w64)), (3, .inl x41), (0, .inr (.inr (.inl 96))), (1, .inl a0), (2, .inl a1)] [.inl x71, .inl x65] h45 _
                    refine N_icmp_gt (a := x65.toInt) (b := x71.toInt) 140 rfl rfl rfl rfl (fun c73 => ?_) (fun c73 => ?_)
                    · refine R_lload (k := 4) rfl rfl ?_
                      refine R_iload_n (k := 3) rfl rfl rfl ?_
                      refine R_callS (As := [.inl x41]) (rest := [.inr (.inl w64)]) rfl mt_9_i469 (by decide) pp_X9_factorial (by decide) rfl rfl (Nat.le_of_ble_eq_true rfl) (Nat.le_of_ble_eq_true rfl) ((g_X9_factorial h45 hI x41 (by omega)).mono (fun r74 h75 p76 => ?_))
                      obtain ⟨rfl, x77, rfl, q78⟩ := p76
                      show RUN d_X9_share 146 [(6, .inl x65), (4, .inr (.inl w64)), (3, .inl x41), (0, .inr (.inr (.inl 96))), (1, .inl a0), (2, .inl a1)] [.inl x77, .inr (.inl w64)] h45 _
                      refine N_i2l rfl (fun w79 q80 => ?_)
                      refine R_iload_n (k := 2) rfl rfl rfl ?_
                      refine R_callS (As := [.inr (.inl w64), .inr (.inl w79), .inl a1]) (rest := []) rfl mt_9_i385 (by decide) pp_X9_part (by decide) rfl rfl (Nat.le_of_ble_eq_true rfl) (Nat.le_of_ble_eq_true rfl) ((k_X9_part h45 hI w64 w79 a1 (by omega) (by omega)).mono (fun r81 h82 p83 => ?_))
                      obtain ⟨rfl, w84, rfl⟩ := p83
                      show RUN d_X9_share 151 [(6, .inl x65), (4, .inr (.inl w64)), (3, .inl x41), (0, .inr (.inr (.inl 96))), (1, .inl a0), (2, .inl a1)] [.inr (.inl w84)] h45 _
                      refine R_l2i rfl ?_
                      refine N_eq (fun x85 e86 => ?_)
                      exact R_iret rfl rfl rfl ⟨hI, fr, trivial, _, rfl, trivial⟩
                    · refine R_iload (k := 6) rfl rfl ?_
                      refine R_iload_n (k := 1) rfl rfl rfl ?_
                      refine R_callS (As := [.inl x65, .inl a0]) (rest := []) rfl mt_9_i292 (by decide) pp_X9_bit (by decide) rfl rfl (Nat.le_of_ble_eq_true rfl) (Nat.le_of_ble_eq_true rfl) ((g_X9_bit h45 hI x65 a0 (by omega)).mono (fun r87 h88 p89 => ?_))
                      obtain ⟨rfl, x92, rfl, q93, zq90, zq91, -⟩ := p89
                      show RUN d_X9_share 82 [(6, .inl x65), (4, .inr (.inl w64)), (3, .inl x41), (0, .inr (.inr (.inl 96))), (1, .inl a0), (2, .inl a1)] [.inl x92] h45 _
                      refine N_if_ne (a := x92.toInt) 134 rfl rfl rfl (fun c94 => ?_) (fun c94 => ?_)
                      · refine N_iinc (a := x65.toInt) (c := 1) (fun w => [(6, .inl w), (4, .inr (.inl w64)), (3, .inl x41), (0, .inr (.inr (.inl 96))), (1, .inl a0), (2, .inl a1)]) rfl rfl (fun _ => rfl) (by decide) rfl (by decide) (by omega) (fun x95 q96 => ?_)
                        refine R_goto 67 rfl rfl ?_
                        exact RUN_weak (psub_cons rfl (psub_cons rfl (psub_cons rfl (psub_cons rfl (psub_cons rfl (psub_cons rfl (psub_nil _))))))) (ih66 w64 x95 (by omega) (by omega))
                      · refine R_lload (k := 4) rfl rfl ?_
                        refine R_iload (k := 6) rfl rfl ?_
                        refine R_callS (As := [.inl x65]) (rest := [.inr (.inl w64)]) rfl mt_9_i336 (by decide) pp_X9_bits (by decide) rfl rfl (Nat.le_of_ble_eq_true rfl) (Nat.le_of_ble_eq_true rfl) ((g_X9_bits h45 hI x65).mono (fun r97 h98 p99 => ?_))
                        obtain ⟨rfl, x100, rfl, q101⟩ := p99
                        show RUN d_X9_share 92 [(6, .inl x65), (4, .inr (.inl w64)), (3, .inl x41), (0, .inr (.inr (.inl 96))), (1, .inl a0), (2, .inl a1)] [.inl x100, .inr (.inl w64)] h45 _
                        refine R_callS (As := [.inl x100]) (rest := [.inr (.inl w64)]) rfl mt_9_i469 (by decide) pp_X9_factorial (by decide) rfl rfl (Nat.le_of_ble_eq_true rfl) (Nat.le_of_ble_eq_true rfl) ((g_X9_factorial h45 hI x100 (by omega)).mono (fun r102 h103 p104 => ?_))
                        obtain ⟨rfl, x105, rfl, q106⟩ := p104
                        show RUN d_X9_share 95 [(6, .inl x65), (4, .inr (.inl w64)), (3, .inl x41), (0, .inr (.inr (.inl 96))), (1, .inl a0), (2, .inl a1)] [.inl x105, .inr (.inl w64)] h45 _
                        refine N_i2l rfl (fun w107 q108 => ?_)
                        refine R_iload_n (k := 3) rfl rfl rfl ?_
                        refine R_iconst 1 rfl rfl ?_
                        refine R_isub rfl ?_
                        refine N_eq (fun x109 e110 => ?_)
                        have q111 : x109.toInt = x41.toInt - 1 := by rw [e110]; exact i_sub rfl (by decide) (by omega)
                        refine R_iload (k := 6) rfl rfl ?_
                        refine R_callS (As := [.inl x65]) (rest := [.inl x109, .inr (.inl w107), .inr (.inl w64)]) rfl mt_9_i336 (by decide) pp_X9_bits (by decide) rfl rfl (Nat.le_of_ble_eq_true rfl) (Nat.le_of_ble_eq_true rfl) ((g_X9_bits h45 hI x65).mono (fun r112 h113 p114 => ?_))
                        obtain ⟨rfl, x115, rfl, q116⟩ := p114
                        show RUN d_X9_share 104 [(6, .inl x65), (4, .inr (.inl w64)), (3, .inl x41), (0, .inr (.inr (.inl 96))), (1, .inl a0), (2, .inl a1)] [.inl x115, .inl x109, .inr (.inl w107), .inr (.inl w64)] h45 _
                        refine R_isub rfl ?_
                        refine N_eq (fun x117 e118 => ?_)
                        have q119 : x117.toInt = x109.toInt - x115.toInt := by rw [e118]; exact i_sub rfl rfl (by omega)
                        refine R_callS (As := [.inl x117]) (rest := [.inr (.inl w107), .inr (.inl w64)]) rfl mt_9_i469 (by decide) pp_X9_factorial (by decide) rfl rfl (Nat.le_of_ble_eq_true rfl) (Nat.le_of_ble_eq_true rfl) ((g_X9_factorial h45 hI x117 (by omega)).mono (fun r120 h121 p122 => ?_))
                        obtain ⟨rfl, x123, rfl, q124⟩ := p122
                        show RUN d_X9_share 108 [(6, .inl x65), (4, .inr (.inl w64)), (3, .inl x41), (0, .inr (.inr (.inl 96))), (1, .inl a0), (2, .inl a1)] [.inl x123, .inr (.inl w107), .inr (.inl w64)] h45 _
                        refine N_i2l rfl (fun w125 q126 => ?_)
                        refine R_lmul rfl ?_
                        refine N_eqL (fun w127 e128 => ?_)
                        refine R_aload_n (k := 0) rfl rfl rfl ?_
                        refine R_getf_r (j := 53) rfl ft_9_104 sh_96 rfl ?_
                        refine R_iload (k := 6) rfl rfl ?_
                        refine R_iconst 1 rfl rfl ?_
                        refine R_iload_n (k := 1) rfl rfl rfl ?_
                        refine R_ishl rfl ?_
                        refine N_eq (fun x129 e130 => ?_)
                        refine R_ior rfl ?_
                        refine N_eq (fun x132 e133 => ?_)
                        have ob134 := or63 e130 e133 (by omega) (by omega)
                        refine R_iald rfl sh_126 ⟨by omega, by omega⟩ ?_
                        refine N_eq (fun x135 e136 => ?_)
                        refine R_aload_n (k := 0) rfl rfl rfl ?_
                        refine R_getf_r (j := 53) rfl ft_9_104 sh_96 rfl ?_
                        refine R_iload (k := 6) rfl rfl ?_
                        refine R_iald rfl sh_126 ⟨by omega, by omega⟩ ?_
                        refine N_eq (fun x137 e138 => ?_)
                        have b139 := i_rng x135
                        have b140 := i_rng x137
                        refine R_isub rfl ?_
                        refine N_eq (fun x141 e142 => ?_)
                        refine N_i2l rfl (fun w143 q144 => ?_)
                        refine R_lmul rfl ?_
                        refine N_eqL (fun w145 e146 => ?_)
                        refine R_ladd rfl ?_
                        refine N_eqL (fun w147 e148 => ?_)
                        refine R_lstore (k := 4) [(4, .inr (.inl w147)), (6, .inl x65), (3, .inl x41), (0, .inr (.inr (.inl 96))), (1, .inl a0), (2, .inl a1)] rfl rfl (by decide) ?_
                        refine N_iinc (a := x65.toInt) (c := 1) (fun w => [(6, .inl w), (4, .inr (.inl w147)), (3, .inl x41), (0, .inr (.inr (.inl 96))), (1, .inl a0), (2, .inl a1)]) rfl rfl (fun _ => rfl) (by decide) rfl (by decide) (by omega) (fun x149 q150 => ?_)
                        refine R_goto 67 rfl rfl ?_
                        exact RUN_weak (psub_cons rfl (psub_cons rfl (psub_cons rfl (psub_cons rfl (psub_cons rfl (psub_cons rfl (psub_nil _))))))) (ih66 w147 x149 (by omega) (by omega))
                exact lp63 _ (0 : Int64) (0 : Int32) (by decide) (Nat.lt_succ_self _)
              · refine R_aload_n (k := 0) rfl rfl rfl ?_
                refine R_getf_r (j := 53) rfl ft_9_104 sh_96 rfl ?_
                refine R_iload (k := 4) rfl rfl ?_
                refine R_aload_n (k := 0) rfl rfl rfl ?_
                refine R_iload (k := 4) rfl rfl ?_
                refine R_callV (v := .inr (.inr (.inl 96))) (As := [.inl x47]) (rest := [.inl x47, .inr (.inr (.inl 126))]) rfl mt_9_i466 pp_X9_bringsOf (by decide) rfl rfl rfl (Nat.le_of_ble_eq_true rfl) (Nat.le_of_ble_eq_true rfl) ((k_X9_bringsOf h45 hI x47 (by omega)).mono (fun r151 h152 p153 => ?_))
                obtain ⟨hJ, fj, -, x154, rfl, q155⟩ := p153
                have f156 := fj
                have fr := fr.trans fj (by decide)
                have hI := hJ
                have fl46 : FR [96, 105, 107, 108, 109, 110, 111, 112, 113, 114, 115, 116, 117, 118, 119, 126] h27 h152 := fl46.trans fj (by decide)
                have s157 : (h152.1 97 5).toInt = (h45.1 97 5).toInt := by rw [(f156 97 (by decide)).1]
                have s158 : (h152.1 97 0).toInt = (h45.1 97 0).toInt := by rw [(f156 97 (by decide)).1]
                have s159 : (h152.1 97 1).toInt = (h45.1 97 1).toInt := by rw [(f156 97 (by decide)).1]
                show RUN d_X9_share 54 [(4, .inl x47), (3, .inl x41), (0, .inr (.inr (.inl 96))), (1, .inl a0), (2, .inl a1)] [.inl x154, .inl x47, .inr (.inr (.inl 126))] h152 _
                refine K_iast (a := x47.toInt) (lo := (-2147483648)) (hi' := 2147483647) rfl sh_126 rfl ⟨by omega, by omega⟩ hI (by decide) rfl (i_rng _) fr (by decide) (fun h160 g161 hI fr => ?_)
                have fl46 : FR [96, 105, 107, 108, 109, 110, 111, 112, 113, 114, 115, 116, 117, 118, 119, 126] h27 h160 := by rw [g161]; exact FR_wI _ _ fl46 (by decide)
                have s162 : (h160.1 97 5).toInt = (h152.1 97 5).toInt := by rw [g161, wI_ne _ _ _ (by decide)]
                have s163 : (h160.1 97 0).toInt = (h152.1 97 0).toInt := by rw [g161, wI_ne _ _ _ (by decide)]
                have s164 : (h160.1 97 1).toInt = (h152.1 97 1).toInt := by rw [g161, wI_ne _ _ _ (by decide)]
                refine N_iinc (a := x47.toInt) (c := 1) (fun w => [(4, .inl w), (3, .inl x41), (0, .inr (.inr (.inl 96))), (1, .inl a0), (2, .inl a1)]) rfl rfl (fun _ => rfl) (by decide) rfl (by decide) (by omega) (fun x165 q166 => ?_)
                refine R_goto 33 rfl rfl ?_
                exact RUN_weak (psub_cons rfl (psub_cons rfl (psub_cons rfl (psub_cons rfl (psub_cons rfl (psub_nil _)))))) (ih48 h160 x165 hI fr fl46 (by omega) (by omega))
          exact lp44 _ h27 (0 : Int32) hI fr (FR.rf _ _) (by decide) (Nat.lt_succ_self _)
        · exfalso; omega

abbrev qg_X1_allHands (h : PH)  : Option PV → PH → Prop := fun r h' => h = h' ∧ ∃ z : Int32, r = some (.inl z) ∧ (((True)) ∧ (z = (1 <<< (h.1 17 5 &&& 31)) - 1) ∧ True)
set_option maxHeartbeats 4000000 in
set_option maxRecDepth 100000 in
theorem g_X1_allHands (h : PH) (hI : INV h)  : CALL d_X1_allHands [.inr (.inr (.inl 16))] h (qg_X1_allHands h) := by
  show RUN d_X1_allHands 0 [(0, .inr (.inr (.inl 16)))] [] h _
  refine R_iconst 1 rfl rfl ?_
  refine R_aload_n (k := 0) rfl rfl rfl ?_
  refine R_getf_r (j := 0) rfl ft_1_9 sh_16 rfl ?_
  refine R_iconst 5 rfl rfl ?_
  refine R_iald rfl sh_17 (by decide) ?_
  have b1 : (0 : Int) ≤ (h.1 17 5).toInt ∧ (h.1 17 5).toInt ≤ 6 := hI.1 17 5
  show RUN d_X1_allHands 7 [(0, .inr (.inr (.inl 16)))] [.inl (h.1 17 5), .inl 1] h _
  refine R_ishl rfl ?_
  refine N_eq (fun x2 e3 => ?_)
  refine R_iconst 1 rfl rfl ?_
  have b5 := i_rng x2
  refine R_isub rfl ?_
  refine N_eq (fun x6 e7 => ?_)
  exact R_iret rfl rfl rfl ⟨rfl, _, rfl, ⟨trivial, (by subst e7 e3; rfl), trivial⟩⟩

abbrev qg_J6_bitCount_0f7a4 (h : PH) (a0 : Int32) : Option PV → PH → Prop := fun r h' => h = h' ∧ ∃ z : Int32, r = some (.inl z) ∧ (((0 ≤ z.toInt ∧ z.toInt ≤ 63)) ∧ (z = bc32 a0) ∧ True)
set_option maxHeartbeats 4000000 in
set_option maxRecDepth 100000 in
theorem g_J6_bitCount_0f7a4 (h : PH) (hI : INV h) (a0 : Int32) : CALL d_J6_bitCount_0f7a4 [.inl a0] h (qg_J6_bitCount_0f7a4 h a0) := by
  show RUN d_J6_bitCount_0f7a4 0 [(0, .inl a0)] [] h _
  have b1 := i_rng a0
  refine R_iload_n (k := 0) rfl rfl rfl ?_
  refine R_iload_n (k := 0) rfl rfl rfl ?_
  refine R_iconst 1 rfl rfl ?_
  refine R_iushr rfl ?_
  refine N_eq (fun x2 e3 => ?_)
  refine R_ldcw_i (x := 1431655765) rfl kt_10_265 ?_
  refine R_iand rfl ?_
  refine N_eq (fun x4 e5 => ?_)
  have q6 : 0 ≤ x4.toInt ∧ x4.toInt ≤ 1431655765 := by rw [e5]; exact i_and (by decide) (by omega)
  have b7 := i_rng a0
  refine R_isub rfl ?_
  refine N_eq (fun x8 e9 => ?_)
  refine R_istore_n (k := 0) rfl [(0, .inl x8)] rfl rfl (by decide) ?_
  refine R_iload_n (k := 0) rfl rfl rfl ?_
  refine R_ldcw_i (x := 858993459) rfl kt_10_266 ?_
  refine R_iand rfl ?_
  refine N_eq (fun x10 e11 => ?_)
  have q12 : 0 ≤ x10.toInt ∧ x10.toInt ≤ 858993459 := by rw [e11]; exact i_and (by decide) (by omega)
  refine R_iload_n (k := 0) rfl rfl rfl ?_
  refine R_iconst 2 rfl rfl ?_
  refine R_iushr rfl ?_
  refine N_eq (fun x13 e14 => ?_)
  refine R_ldcw_i (x := 858993459) rfl kt_10_266 ?_
  refine R_iand rfl ?_
  refine N_eq (fun x15 e16 => ?_)
  have q17 : 0 ≤ x15.toInt ∧ x15.toInt ≤ 858993459 := by rw [e16]; exact i_and (by decide) (by omega)
  refine R_iadd rfl ?_
  refine N_eq (fun x18 e19 => ?_)
  have q20 : x18.toInt = x10.toInt + x15.toInt := by rw [e19]; exact i_add rfl rfl (by omega)
  refine R_istore_n (k := 0) rfl [(0, .inl x18)] rfl rfl (by decide) ?_
  refine R_iload_n (k := 0) rfl rfl rfl ?_
  refine R_iload_n (k := 0) rfl rfl rfl ?_
  refine R_iconst 4 rfl rfl ?_
  refine R_iushr rfl ?_
  refine N_eq (fun x21 e22 => ?_)
  have b23 := i_rng x21
  refine R_iadd rfl ?_
  refine N_eq (fun x24 e25 => ?_)
  refine R_ldcw_i (x := 252645135) rfl kt_10_267 ?_
  refine R_iand rfl ?_
  refine N_eq (fun x26 e27 => ?_)
  have q28 : 0 ≤ x26.toInt ∧ x26.toInt ≤ 252645135 := by rw [e27]; exact i_and (by decide) (by omega)
  refine R_istore_n (k := 0) rfl [(0, .inl x26)] rfl rfl (by decide) ?_
  refine R_iload_n (k := 0) rfl rfl rfl ?_
  refine R_iload_n (k := 0) rfl rfl rfl ?_
  refine R_bipush 8 rfl rfl ?_
  refine R_iushr rfl ?_
  refine N_eq (fun x29 e30 => ?_)
  have b31 := i_rng x29
  refine R_iadd rfl ?_
  refine N_eq (fun x32 e33 => ?_)
  refine R_istore_n (k := 0) rfl [(0, .inl x32)] rfl rfl (by decide) ?_
  refine R_iload_n (k := 0) rfl rfl rfl ?_
  refine R_iload_n (k := 0) rfl rfl rfl ?_
  refine R_bipush 16 rfl rfl ?_
  refine R_iushr rfl ?_
  refine N_eq (fun x34 e35 => ?_)
  have b36 := i_rng x32
  have b37 := i_rng x34
  refine R_iadd rfl ?_
  refine N_eq (fun x38 e39 => ?_)
  refine R_istore_n (k := 0) rfl [(0, .inl x38)] rfl rfl (by decide) ?_
  refine R_iload_n (k := 0) rfl rfl rfl ?_
  refine R_bipush 63 rfl rfl ?_
  refine R_iand rfl ?_
  refine N_eq (fun x40 e41 => ?_)
  have q42 : 0 ≤ x40.toInt ∧ x40.toInt ≤ 63 := by rw [e41]; exact i_and (by decide) (by omega)
  exact R_iret rfl rfl rfl ⟨rfl, _, rfl, ⟨by omega, (by subst e41 e39 e35 e33 e30 e27 e25 e22 e19 e16 e14 e11 e9 e5 e3; rfl), trivial⟩⟩

abbrev qg_X8_share (h : PH) (a0 : Int32) (a1 : Int32) : Option PV → PH → Prop := fun r h' => INV h' ∧ FR [70, 71, 72, 73, 74] h h' ∧ (True) ∧ ∃ z : Int32, r = some (.inl z) ∧ ((True))
set_option maxHeartbeats 4000000 in
set_option maxRecDepth 100000 in
theorem g_X8_share (h : PH) (hI : INV h) (a0 : Int32) (a1 : Int32) : CALL d_X8_share [.inr (.inr (.inl 0)), .inl a0, .inl a1] h (qg_X8_share h a0 a1) := by
  show RUN d_X8_share 0 [(0, .inr (.inr (.inl 0))), (1, .inl a0), (2, .inl a1)] [] h _
  have b1 := i_rng a0
  have b2 := i_rng a1
  have fr : FR [70, 71, 72, 73, 74] h h := FR.rf _ _
  refine R_aload_n (k := 0) rfl rfl rfl ?_
  refine R_getf_r (j := 3) rfl ft_8_28 sh_0 rfl ?_
  refine R_iload_n (k := 1) rfl rfl rfl ?_
  have b3 : (0 : Int) ≤ (h.1 17 5).toInt ∧ (h.1 17 5).toInt ≤ 6 := hI.1 17 5
  refine R_callV (v := .inr (.inr (.inl 16))) (As := [.inl a0]) (rest := []) rfl mt_8_i119 pp_X1_hasHand (by decide) rfl rfl rfl (Nat.le_of_ble_eq_true rfl) (Nat.le_of_ble_eq_true rfl) ((k_X1_hasHand h hI a0).mono (fun r4 h5 p6 => ?_))
  obtain ⟨rfl, x7, rfl, q8 | q8 | q8⟩ := p6
  · show RUN d_X8_share 8 [(0, .inr (.inr (.inl 0))), (1, .inl a0), (2, .inl a1)] [.inl x7] h _
    refine N_if_eq (a := x7.toInt) 18 rfl rfl rfl (fun c9 => ?_) (fun c9 => ?_)
    · refine R_bipush (-2) rfl rfl ?_
      exact R_iret rfl rfl rfl ⟨hI, fr, trivial, _, rfl, trivial⟩
    · exfalso; omega
  · show RUN d_X8_share 8 [(0, .inr (.inr (.inl 0))), (1, .inl a0), (2, .inl a1)] [.inl x7] h _
    refine N_if_eq (a := x7.toInt) 18 rfl rfl rfl (fun c10 => ?_) (fun c10 => ?_)
    · refine R_bipush (-2) rfl rfl ?_
      exact R_iret rfl rfl rfl ⟨hI, fr, trivial, _, rfl, trivial⟩
    · exfalso; omega
  · show RUN d_X8_share 8 [(0, .inr (.inr (.inl 0))), (1, .inl a0), (2, .inl a1)] [.inl x7] h _
    refine N_if_eq (a := x7.toInt) 18 rfl rfl rfl (fun c11 => ?_) (fun c11 => ?_)
    · exfalso; omega
    · refine R_iload_n (k := 2) rfl rfl rfl ?_
      refine R_callS (As := [.inl a1]) (rest := []) rfl mt_8_i122 (by decide) pp_X8_isEither (by decide) rfl rfl (Nat.le_of_ble_eq_true rfl) (Nat.le_of_ble_eq_true rfl) ((k_X8_isEither h hI a1).mono (fun r12 h13 p14 => ?_))
      obtain ⟨rfl, x15, rfl, q16 | q16 | q16⟩ := p14
      · show RUN d_X8_share 15 [(0, .inr (.inr (.inl 0))), (1, .inl a0), (2, .inl a1)] [.inl x15] h _
        refine N_if_ne (a := x15.toInt) 21 rfl rfl rfl (fun c17 => ?_) (fun c17 => ?_)
        · refine R_aload_n (k := 0) rfl rfl rfl ?_
          refine R_getf_r (j := 3) rfl ft_8_28 sh_0 rfl ?_
          refine R_getf_r (j := 0) rfl ft_8_109 sh_16 rfl ?_
          refine R_iconst 5 rfl rfl ?_
          refine R_iald rfl sh_17 (by decide) ?_
          show RUN d_X8_share 30 [(0, .inr (.inr (.inl 0))), (1, .inl a0), (2, .inl a1)] [.inl (h.1 17 5)] h _
          refine R_istore_n (k := 3) rfl [(3, .inl (h.1 17 5)), (0, .inr (.inr (.inl 0))), (1, .inl a0), (2, .inl a1)] rfl rfl (by decide) ?_
          refine R_iconst 1 rfl rfl ?_
          refine R_iload_n (k := 1) rfl rfl rfl ?_
          refine R_ishl rfl ?_
          refine N_eq (fun x18 e19 => ?_)
          refine R_istore (k := 4) [(4, .inl x18), (3, .inl (h.1 17 5)), (0, .inr (.inr (.inl 0))), (1, .inl a0), (2, .inl a1)] rfl rfl (by decide) ?_
          refine R_lconst 0 rfl rfl ?_
          refine R_lstore (k := 5) [(5, .inr (.inl 0)), (4, .inl x18), (3, .inl (h.1 17 5)), (0, .inr (.inr (.inl 0))), (1, .inl a0), (2, .inl a1)] rfl rfl (by decide) ?_
          refine R_iconst 0 rfl rfl ?_
          refine R_istore (k := 7) [(7, .inl 0), (5, .inr (.inl 0)), (4, .inl x18), (3, .inl (h.1 17 5)), (0, .inr (.inr (.inl 0))), (1, .inl a0), (2, .inl a1)] rfl rfl (by decide) ?_
          have lp22 : ∀ (n21 : Nat) (h23 : PH) (w25 : Int64) (x26 : Int32), INV h23 → FR [70, 71, 72, 73, 74] h h23 → FR [70, 71, 72, 73, 74] h h23 → 0 ≤ x26.toInt ∧ x26.toInt ≤ 64 → (64 - x26.toInt).toNat < n21 → RUN d_X8_share 42 [(7, .inl x26), (5, .inr (.inl w25)), (4, .inl x18), (3, .inl (h.1 17 5)), (0, .inr (.inr (.inl 0))), (1, .inl a0), (2, .inl a1)] [] h23 (qg_X8_share h a0 a1) := by
            intro n21
            induction n21 with
            | zero => intro h23 w25 x26 m28 m29 m30 m31 hz; exact absurd hz (Nat.not_lt_zero _)
            | succ n21 ih27 =>
              intro h23 w25 x26 hI fr fl24 m31 hz
              have s32 : (h23.1 17 5).toInt = (h.1 17 5).toInt := by rw [(fl24 17 (by decide)).1]
              refine R_iload (k := 7) rfl rfl ?_
              refine R_aload_n (k := 0) rfl rfl rfl ?_
              refine R_getf_r (j := 3) rfl ft_8_28 sh_0 rfl ?_
              refine R_callV (v := .inr (.inr (.inl 16))) (As := []) (rest := [.inl x26]) rfl mt_8_i329 pp_X1_allHands (by decide) rfl rfl rfl (Nat.le_of_ble_eq_true rfl) (Nat.le_of_ble_eq_true rfl) ((g_X1_allHands h23 hI).mono (fun r33 h34 p35 => ?_))
              obtain ⟨rfl, x37, rfl, q38, zq36, -⟩ := p35
              show RUN d_X8_share 51 [(7, .inl x26), (5, .inr (.inl w25)), (4, .inl x18), (3, .inl (h.1 17 5)), (0, .inr (.inr (.inl 0))), (1, .inl a0), (2, .inl a1)] [.inl x37, .inl x26] h23 _
              have al39 := all63 zq36 (by omega)
              refine N_icmp_gt (a := x26.toInt) (b := x37.toInt) 121 rfl rfl rfl rfl (fun c40 => ?_) (fun c40 => ?_)
              · refine R_lload (k := 5) rfl rfl ?_
                refine R_gst rfl rfl ?_
                refine R_iload_n (k := 3) rfl rfl rfl ?_
                refine R_fact rfl ⟨by omega, by omega⟩ ?_
                refine N_bd (lo := 1) (hi := 720) (fact_bd ⟨by omega, by omega⟩) (fun x41 q42 => ?_)
                refine N_i2l rfl (fun w43 q44 => ?_)
                refine R_iload_n (k := 2) rfl rfl rfl ?_
                refine R_callS (As := [.inr (.inl w25), .inr (.inl w43), .inl a1]) (rest := []) rfl mt_8_i282 (by decide) pp_X8_part (by decide) rfl rfl (Nat.le_of_ble_eq_true rfl) (Nat.le_of_ble_eq_true rfl) ((k_X8_part h23 hI w25 w43 a1 (by omega)).mono (fun r45 h46 p47 => ?_))
                obtain ⟨rfl, w48, rfl⟩ := p47
                show RUN d_X8_share 133 [(7, .inl x26), (5, .inr (.inl w25)), (4, .inl x18), (3, .inl (h.1 17 5)), (0, .inr (.inr (.inl 0))), (1, .inl a0), (2, .inl a1)] [.inr (.inl w48)] h23 _
                refine R_l2i rfl ?_
                refine N_eq (fun x49 e50 => ?_)
                exact R_iret rfl rfl rfl ⟨hI, fr, trivial, _, rfl, trivial⟩
              · refine R_iload (k := 7) rfl rfl ?_
                refine R_iload (k := 4) rfl rfl ?_
                refine R_iand rfl ?_
                refine N_eq (fun x51 e52 => ?_)
                refine N_if_ne (a := x51.toInt) 115 rfl rfl rfl (fun c53 => ?_) (fun c53 => ?_)
                · refine N_iinc (a := x26.toInt) (c := 1) (fun w => [(7, .inl w), (5, .inr (.inl w25)), (4, .inl x18), (3, .inl (h.1 17 5)), (0, .inr (.inr (.inl 0))), (1, .inl a0), (2, .inl a1)]) rfl rfl (fun _ => rfl) (by decide) rfl (by decide) (by omega) (fun x54 q55 => ?_)
                  refine R_goto 42 rfl rfl ?_
                  exact RUN_weak (psub_cons rfl (psub_cons rfl (psub_cons rfl (psub_cons rfl (psub_cons rfl (psub_cons rfl (psub_cons rfl (psub_nil _)))))))) (ih27 h23 w25 x54 hI fr fl24 (by omega) (by omega))
                · refine R_iload (k := 7) rfl rfl ?_
                  refine R_callS (As := [.inl x26]) (rest := []) rfl mt_8_i232 (by decide) pp_J6_bitCount_0f7a4 (by decide) rfl rfl (Nat.le_of_ble_eq_true rfl) (Nat.le_of_ble_eq_true rfl) ((g_J6_bitCount_0f7a4 h23 hI x26).mono (fun r56 h57 p58 => ?_))
                  obtain ⟨rfl, x60, rfl, q61, zq59, -⟩ := p58
                  show RUN d_X8_share 67 [(7, .inl x26), (5, .inr (.inl w25)), (4, .inl x18), (3, .inl (h.1 17 5)), (0, .inr (.inr (.inl 0))), (1, .inl a0), (2, .inl a1)] [.inl x60] h23 _
                  refine R_istore (k := 8) [(8, .inl x60), (7, .inl x26), (5, .inr (.inl w25)), (4, .inl x18), (3, .inl (h.1 17 5)), (0, .inr (.inr (.inl 0))), (1, .inl a0), (2, .inl a1)] rfl rfl (by decide) ?_
                  have bl62 := bc_lt (n := (h.1 17 5)) zq59 zq36 (by omega) e19 e52 (by omega) (by omega) (by omega) (by omega) (by omega)
                  refine R_gst rfl rfl ?_
                  refine R_iload (k := 8) rfl rfl ?_
                  refine R_fact rfl ⟨by omega, by omega⟩ ?_
                  refine N_bd (lo := 1) (hi := 720) (fact_bd ⟨by omega, by omega⟩) (fun x63 q64 => ?_)
                  refine N_i2l rfl (fun w65 q66 => ?_)
                  refine R_gst rfl rfl ?_
                  refine R_iload_n (k := 3) rfl rfl rfl ?_
                  refine R_iconst 1 rfl rfl ?_
                  refine R_isub rfl ?_
                  refine N_eq (fun x67 e68 => ?_)
                  have q69 : x67.toInt = (h.1 17 5).toInt - 1 := by rw [e68]; exact i_sub rfl (by decide) (by omega)
                  refine R_iload (k := 8) rfl rfl ?_
                  refine R_isub rfl ?_
                  refine N_eq (fun x70 e71 => ?_)
                  have q72 : x70.toInt = x67.toInt - x60.toInt := by rw [e71]; exact i_sub rfl rfl (by omega)
                  refine R_fact rfl ⟨by omega, by omega⟩ ?_
                  refine N_bd (lo := 1) (hi := 720) (fact_bd ⟨by omega, by omega⟩) (fun x73 q74 => ?_)
                  refine N_i2l rfl (fun w75 q76 => ?_)
                  refine R_lmul rfl ?_
                  refine N_eqL (fun w77 e78 => ?_)
                  refine R_lstore (k := 9) [(9, .inr (.inl w77)), (8, .inl x60), (7, .inl x26), (5, .inr (.inl w25)), (4, .inl x18), (3, .inl (h.1 17 5)), (0, .inr (.inr (.inl 0))), (1, .inl a0), (2, .inl a1)] rfl rfl (by decide) ?_
                  refine R_lload (k := 5) rfl rfl ?_
                  refine R_lload (k := 9) rfl rfl ?_
                  refine R_aload_n (k := 0) rfl rfl rfl ?_
                  refine R_iload (k := 7) rfl rfl ?_
                  refine R_iload (k := 4) rfl rfl ?_
                  refine R_ior rfl ?_
                  refine N_eq (fun x79 e80 => ?_)
                  refine R_callV (v := .inr (.inr (.inl 0))) (As := [.inl x79]) (rest := [.inr (.inl w77), .inr (.inl w25)]) rfl mt_8_i332 pp_X8_waterOfSet (by decide) rfl rfl rfl (Nat.le_of_ble_eq_true rfl) (Nat.le_of_ble_eq_true rfl) ((k_X8_waterOfSet h23 hI x79).mono (fun r81 h82 p83 => ?_))
                  obtain ⟨hJ, fj, -, x84, rfl, q85⟩ := p83
                  have f86 := fj
                  have fr := fr.trans fj (by decide)
                  have hI := hJ
                  have fl24 : FR [70, 71, 72, 73, 74] h h82 := fl24.trans fj (by decide)
                  have s87 : (h82.1 17 5).toInt = (h23.1 17 5).toInt := by rw [(f86 17 (by decide)).1]
                  show RUN d_X8_share 103 [(9, .inr (.inl w77)), (8, .inl x60), (7, .inl x26), (5, .inr (.inl w25)), (4, .inl x18), (3, .inl (h.1 17 5)), (0, .inr (.inr (.inl 0))), (1, .inl a0), (2, .inl a1)] [.inl x84, .inr (.inl w77), .inr (.inl w25)] h82 _
                  refine R_aload_n (k := 0) rfl rfl rfl ?_
                  refine R_iload (k := 7) rfl rfl ?_
                  refine R_callV (v := .inr (.inr (.inl 0))) (As := [.inl x26]) (rest := [.inl x84, .inr (.inl w77), .inr (.inl w25)]) rfl mt_8_i332 pp_X8_waterOfSet (by decide) rfl rfl rfl (Nat.le_of_ble_eq_true rfl) (Nat.le_of_ble_eq_true rfl) ((k_X8_waterOfSet h82 hI x26).mono (fun r88 h89 p90 => ?_))
                  obtain ⟨hJ, fj, -, x91, rfl, q92⟩ := p90
                  have f93 := fj
                  have fr := fr.trans fj (by decide)
                  have hI := hJ
                  have fl24 : FR [70, 71, 72, 73, 74] h h89 := fl24.trans fj (by decide)
                  have s94 : (h89.1 17 5).toInt = (h82.1 17 5).toInt := by rw [(f93 17 (by decide)).1]
                  show RUN d_X8_share 109 [(9, .inr (.inl w77)), (8, .inl x60), (7, .inl x26), (5, .inr (.inl w25)), (4, .inl x18), (3, .inl (h.1 17 5)), (0, .inr (.inr (.inl 0))), (1, .inl a0), (2, .inl a1)] [.inl x91, .inl x84, .inr (.inl w77), .inr (.inl w25)] h89 _
                  have b95 := i_rng x84
                  have b96 := i_rng x91
                  refine R_isub rfl ?_
                  refine N_eq (fun x97 e98 => ?_)
                  refine N_i2l rfl (fun w99 q100 => ?_)
                  refine R_lmul rfl ?_
                  refine N_eqL (fun w101 e102 => ?_)
                  refine R_ladd rfl ?_
                  refine N_eqL (fun w103 e104 => ?_)
                  refine R_lstore (k := 5) [(5, .inr (.inl w103)), (9, .inr (.inl w77)), (8, .inl x60), (7, .inl x26), (4, .inl x18), (3, .inl (h.1 17 5)), (0, .inr (.inr (.inl 0))), (1, .inl a0), (2, .inl a1)] rfl rfl (by decide) ?_
                  refine N_iinc (a := x26.toInt) (c := 1) (fun w => [(7, .inl w), (5, .inr (.inl w103)), (9, .inr (.inl w77)), (8, .inl x60), (4, .inl x18), (3, .inl (h.1 17 5)), (0, .inr (.inr (.inl 0))), (1, .inl a0), (2, .inl a1)]) rfl rfl (fun _ => rfl) (by decide) rfl (by decide) (by omega) (fun x105 q106 => ?_)
                  refine R_goto 42 rfl rfl ?_
                  exact RUN_weak (psub_cons rfl (psub_cons rfl (psub_cons rfl (psub_cons rfl (psub_cons rfl (psub_cons rfl (psub_cons rfl (psub_nil _)))))))) (ih27 h89 w103 x105 hI fr fl24 (by omega) (by omega))
          exact lp22 _ h (0 : Int64) (0 : Int32) hI fr (FR.rf _ _) (by decide) (Nat.lt_succ_self _)
        · exfalso; omega
      · show RUN d_X8_share 15 [(0, .inr (.inr (.inl 0))), (1, .inl a0), (2, .inl a1)] [.inl x15] h _
        refine N_if_ne (a := x15.toInt) 21 rfl rfl rfl (fun c107 => ?_) (fun c107 => ?_)
        · exfalso; omega
        · refine R_bipush (-2) rfl rfl ?_
          exact R_iret rfl rfl rfl ⟨hI, fr, trivial, _, rfl, trivial⟩
      · show RUN d_X8_share 15 [(0, .inr (.inr (.inl 0))), (1, .inl a0), (2, .inl a1)] [.inl x15] h _
        refine N_if_ne (a := x15.toInt) 21 rfl rfl rfl (fun c108 => ?_) (fun c108 => ?_)
        · refine R_aload_n (k := 0) rfl rfl rfl ?_
          refine R_getf_r (j := 3) rfl ft_8_28 sh_0 rfl ?_
          refine R_getf_r (j := 0) rfl ft_8_109 sh_16 rfl ?_
          refine R_iconst 5 rfl rfl ?_
          refine R_iald rfl sh_17 (by decide) ?_
          show RUN d_X8_share 30 [(0, .inr (.inr (.inl 0))), (1, .inl a0), (2, .inl a1)] [.inl (h.1 17 5)] h _
          refine R_istore_n (k := 3) rfl [(3, .inl (h.1 17 5)), (0, .inr (.inr (.inl 0))), (1, .inl a0), (2, .inl a1)] rfl rfl (by decide) ?_
          refine R_iconst 1 rfl rfl ?_
          refine R_iload_n (k := 1) rfl rfl rfl ?_
          refine R_ishl rfl ?_
          refine N_eq (fun x109 e110 => ?_)
          refine R_istore (k := 4) [(4, .inl x109), (3, .inl (h.1 17 5)), (0, .inr (.inr (.inl 0))), (1, .inl a0), (2, .inl a1)] rfl rfl (by decide) ?_
          refine R_lconst 0 rfl rfl ?_
          refine R_lstore (k := 5) [(5, .inr (.inl 0)), (4, .inl x109), (3, .inl (h.1 17 5)), (0, .inr (.inr (.inl 0))), (1, .inl a0), (2, .inl a1)] rfl rfl (by decide) ?_
          refine R_iconst 0 rfl rfl ?_
          refine R_istore (k := 7) [(7, .inl 0), (5, .inr (.inl 0)), (4, .inl x109), (3, .inl (h.1 17 5)), (0, .inr (.inr (.inl 0))), (1, .inl a0), (2, .inl a1)] rfl rfl (by decide) ?_
          have lp113 : ∀ (n112 : Nat) (h114 : PH) (w116 : Int64) (x117 : Int32), INV h114 → FR [70, 71, 72, 73, 74] h h114 → FR [70, 71, 72, 73, 74] h h114 → 0 ≤ x117.toInt ∧ x117.toInt ≤ 64 → (64 - x117.toInt).toNat < n112 → RUN d_X8_share 42 [(7, .inl x117), (5, .inr (.inl w116)), (4, .inl x109), (3, .inl (h.1 17 5)), (0, .inr (.inr (.inl 0))), (1, .inl a0), (2, .inl a1)] [] h114 (qg_X8_share h a0 a1) := by
            intro n112
            induction n112 with
            | zero => intro h114 w116 x117 m119 m120 m121 m122 hz; exact absurd hz (Nat.not_lt_zero _)
            | succ n112 ih118 =>
              intro h114 w116 x117 hI fr fl115 m122 hz
              have s123 : (h114.1 17 5).toInt = (h.1 17 5).toInt := by rw [(fl115 17 (by decide)).1]
              refine R_iload (k := 7) rfl rfl ?_
              refine R_aload_n (k := 0) rfl rfl rfl ?_
              refine R_getf_r (j := 3) rfl ft_8_28 sh_0 rfl ?_
              refine R_callV (v := .inr (.inr (.inl 16))) (As := []) (rest := [.inl x117]) rfl mt_8_i329 pp_X1_allHands (by decide) rfl rfl rfl (Nat.le_of_ble_eq_true rfl) (Nat.le_of_ble_eq_true rfl) ((g_X1_allHands h114 hI).mono (fun r124 h125 p126 => ?_))
              obtain ⟨rfl, x128, rfl, q129, zq127, -⟩ := p126
              show RUN d_X8_share 51 [(7, .inl x117), (5, .inr (.inl w116)), (4, .inl x109), (3, .inl (h.1 17 5)), (0, .inr (.inr (.inl 0))), (1, .inl a0), (2, .inl a1)] [.inl x128, .inl x117] h114 _
              have al130 := all63 zq127 (by omega)
              refine N_icmp_gt (a := x117.toInt) (b := x128.toInt) 121 rfl rfl rfl rfl (fun c131 => ?_) (fun c131 => ?_)
              · refine R_lload (k := 5) rfl rfl ?_
                refine R_gst rfl rfl ?_
                refine R_iload_n (k := 3) rfl rfl rfl ?_
                refine R_fact rfl ⟨by omega, by omega⟩ ?_
                refine N_bd (lo := 1) (hi := 720) (fact_bd ⟨by omega, by omega⟩) (fun x132 q133 => ?_)
                refine N_i2l rfl (fun w134 q135 => ?_)
                refine R_iload_n (k := 2) rfl rfl rfl ?_
                refine R_callS (As := [.inr (.inl w116), .inr (.inl w134), .inl a1]) (rest := []) rfl mt_8_i282 (by decide) pp_X8_part (by decide) rfl rfl (Nat.le_of_ble_eq_true rfl) (Nat.le_of_ble_eq_true rfl) ((k_X8_part h114 hI w116 w134 a1 (by omega)).mono (fun r136 h137 p138 => ?_))
                obtain ⟨rfl, w139, rfl⟩ := p138
                show RUN d_X8_share 133 [(7, .inl x117), (5, .inr (.inl w116)), (4, .inl x109), (3, .inl (h.1 17 5)), (0, .inr (.inr (.inl 0))), (1, .inl a0), (2, .inl a1)] [.inr (.inl w139)] h114 _
                refine R_l2i rfl ?_
                refine N_eq (fun x140 e141 => ?_)
                exact R_iret rfl rfl rfl ⟨hI, fr, trivial, _, rfl, trivial⟩
              · refine R_iload (k := 7) rfl rfl ?_
                refine R_iload (k := 4) rfl rfl ?_
                refine R_iand rfl ?_
                refine N_eq (fun x142 e143 => ?_)
                refine N_if_ne (a := x142.toInt) 115 rfl rfl rfl (fun c144 => ?_) (fun c144 => ?_)
                · refine N_iinc (a := x117.toInt) (c := 1) (fun w => [(7, .inl w), (5, .inr (.inl w116)), (4, .inl x109), (3, .inl (h.1 17 5)), (0, .inr (.inr (.inl 0))), (1, .inl a0), (2, .inl a1)]) rfl rfl (fun _ => rfl) (by decide) rfl (by decide) (by omega) (fun x145 q146 => ?_)
                  refine R_goto 42 rfl rfl ?_
                  exact RUN_weak (psub_cons rfl (psub_cons rfl (psub_cons rfl (psub_cons rfl (psub_cons rfl (psub_cons rfl (psub_cons rfl (psub_nil _)))))))) (ih118 h114 w116 x145 hI fr fl115 (by omega) (by omega))
                · refine R_iload (k := 7) rfl rfl ?_
                  refine R_callS (As := [.inl x117]) (rest := []) rfl mt_8_i232 (by decide) pp_J6_bitCount_0f7a4 (by decide) rfl rfl (Nat.le_of_ble_eq_true rfl) (Nat.le_of_ble_eq_true rfl) ((g_J6_bitCount_0f7a4 h114 hI x117).mono (fun r147 h148 p149 => ?_))
                  obtain ⟨rfl, x151, rfl, q152, zq150, -⟩ := p149
                  show RUN d_X8_share 67 [(7, .inl x117), (5, .inr (.inl w116)), (4, .inl x109), (3, .inl (h.1 17 5)), (0, .inr (.inr (.inl 0))), (1, .inl a0), (2, .inl a1)] [.inl x151] h114 _
                  refine R_istore (k := 8) [(8, .inl x151), (7, .inl x117), (5, .inr (.inl w116)), (4, .inl x109), (3, .inl (h.1 17 5)), (0, .inr (.inr (.inl 0))), (1, .inl a0), (2, .inl a1)] rfl rfl (by decide) ?_
                  have bl153 := bc_lt (n := (h.1 17 5)) zq150 zq127 (by omega) e110 e143 (by omega) (by omega) (by omega) (by omega) (by omega)
                  refine R_gst rfl rfl ?_
                  refine R_iload (k := 8) rfl rfl ?_
                  refine R_fact rfl ⟨by omega, by omega⟩ ?_
                  refine N_bd (lo := 1) (hi := 720) (fact_bd ⟨by omega, by omega⟩) (fun x154 q155 => ?_)
                  refine N_i2l rfl (fun w156 q157 => ?_)
                  refine R_gst rfl rfl ?_
                  refine R_iload_n (k := 3) rfl rfl rfl ?_
                  refine R_iconst 1 rfl rfl ?_
                  refine R_isub rfl ?_
                  refine N_eq (fun x158 e159 => ?_)
                  have q160 : x158.toInt = (h.1 17 5).toInt - 1 := by rw [e159]; exact i_sub rfl (by decide) (by omega)
                  refine R_iload (k := 8) rfl rfl ?_
                  refine R_isub rfl ?_
                  refine N_eq (fun x161 e162 => ?_)
                  have q163 : x161.toInt = x158.toInt - x151.toInt := by rw [e162]; exact i_sub rfl rfl (by omega)
                  refine R_fact rfl ⟨by omega, by omega⟩ ?_
                  refine N_bd (lo := 1) (hi := 720) (fact_bd ⟨by omega, by omega⟩) (fun x164 q165 => ?_)
                  refine N_i2l rfl (fun w166 q167 => ?_)
                  refine R_lmul rfl ?_
                  refine N_eqL (fun w168 e169 => ?_)
                  refine R_lstore (k := 9) [(9, .inr (.inl w168)), (8, .inl x151), (7, .inl x117), (5, .inr (.inl w116)), (4, .inl x109), (3, .inl (h.1 17 5)), (0, .inr (.inr (.inl 0))), (1, .inl a0), (2, .inl a1)] rfl rfl (by decide) ?_
                  refine R_lload (k := 5) rfl rfl ?_
                  refine R_lload (k := 9) rfl rfl ?_
                  refine R_aload_n (k := 0) rfl rfl rfl ?_
                  refine R_iload (k := 7) rfl rfl ?_
                  refine R_iload (k := 4) rfl rfl ?_
                  refine R_ior rfl ?_
                  refine N_eq (fun x170 e171 => ?_)
                  refine R_callV (v := .inr (.inr (.inl 0))) (As := [.inl x170]) (rest := [.inr (.inl w168), .inr (.inl w116)]) rfl mt_8_i332 pp_X8_waterOfSet (by decide) rfl rfl rfl (Nat.le_of_ble_eq_true rfl) (Nat.le_of_ble_eq_true rfl) ((k_X8_waterOfSet h114 hI x170).mono (fun r172 h173 p174 => ?_))
                  obtain ⟨hJ, fj, -, x175, rfl, q176⟩ := p174
                  have f177 := fj
                  have fr := fr.trans fj (by decide)
                  have hI := hJ
                  have fl115 : FR [70, 71, 72, 73, 74] h h173 := fl115.trans fj (by decide)
                  have s178 : (h173.1 17 5).toInt = (h114.1 17 5).toInt := by rw [(f177 17 (by decide)).1]
                  show RUN d_X8_share 103 [(9, .inr (.inl w168)), (8, .inl x151), (7, .inl x117), (5, .inr (.inl w116)), (4, .inl x109), (3, .inl (h.1 17 5)), (0, .inr (.inr (.inl 0))), (1, .inl a0), (2, .inl a1)] [.inl x175, .inr (.inl w168), .inr (.inl w116)] h173 _
                  refine R_aload_n (k := 0) rfl rfl rfl ?_
                  refine R_iload (k := 7) rfl rfl ?_
                  refine R_callV (v := .inr (.inr (.inl 0))) (As := [.inl x117]) (rest := [.inl x175, .inr (.inl w168), .inr (.inl w116)]) rfl mt_8_i332 pp_X8_waterOfSet (by decide) rfl rfl rfl (Nat.le_of_ble_eq_true rfl) (Nat.le_of_ble_eq_true rfl) ((k_X8_waterOfSet h173 hI x117).mono (fun r179 h180 p181 => ?_))
                  obtain ⟨hJ, fj, -, x182, rfl, q183⟩ := p181
                  have f184 := fj
                  have fr := fr.trans fj (by decide)
                  have hI := hJ
                  have fl115 : FR [70, 71, 72, 73, 74] h h180 := fl115.trans fj (by decide)
                  have s185 : (h180.1 17 5).toInt = (h173.1 17 5).toInt := by rw [(f184 17 (by decide)).1]
                  show RUN d_X8_share 109 [(9, .inr (.inl w168)), (8, .inl x151), (7, .inl x117), (5, .inr (.inl w116)), (4, .inl x109), (3, .inl (h.1 17 5)), (0, .inr (.inr (.inl 0))), (1, .inl a0), (2, .inl a1)] [.inl x182, .inl x175, .inr (.inl w168), .inr (.inl w116)] h180 _
                  have b186 := i_rng x175
                  have b187 := i_rng x182
                  refine R_isub rfl ?_
                  refine N_eq (fun x188 e189 => ?_)
                  refine N_i2l rfl (fun w190 q191 => ?_)
                  refine R_lmul rfl ?_
                  refine N_eqL (fun w192 e193 => ?_)
                  refine R_ladd rfl ?_
                  refine N_eqL (fun w194 e195 => ?_)
                  refine R_lstore (k := 5) [(5, .inr (.inl w194)), (9, .inr (.inl w168)), (8, .inl x151), (7, .inl x117), (4, .inl x109), (3, .inl (h.1 17 5)), (0, .inr (.inr (.inl 0))), (1, .inl a0), (2, .inl a1)] rfl rfl (by decide) ?_
                  refine N_iinc (a := x117.toInt) (c := 1) (fun w => [(7, .inl w), (5, .inr (.inl w194)), (9, .inr (.inl w168)), (8, .inl x151), (4, .inl x109), (3, .inl (h.1 17 5)), (0, .inr (.inr (.inl 0))), (1, .inl a0), (2, .inl a1)]) rfl rfl (fun _ => rfl) (by decide) rfl (by decide) (by omega) (fun x196 q197 => ?_)
                  refine R_goto 42 rfl rfl ?_
                  exact RUN_weak (psub_cons rfl (psub_cons rfl (psub_cons rfl (psub_cons rfl (psub_cons rfl (psub_cons rfl (psub_cons rfl (psub_nil _)))))))) (ih118 h180 w194 x196 hI fr fl115 (by omega) (by omega))
          exact lp113 _ h (0 : Int64) (0 : Int32) hI fr (FR.rf _ _) (by decide) (Nat.lt_succ_self _)
        · exfalso; omega
