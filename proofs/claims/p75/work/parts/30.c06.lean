abbrev q_X2_step (h : PH) (a0 : Int32) (a1 : Int32) : Option PV → PH → Prop := fun r h' => INV h' ∧ FR [70, 74] h h' ∧ ((h'.1 70 5).toInt = (h.1 70 5).toInt ∧ True) ∧ ∃ z : Int32, r = some (.inl z) ∧ ((True))
set_option maxHeartbeats 4000000 in
set_option maxRecDepth 100000 in
theorem k_X2_step (h : PH) (hI : INV h) (a0 : Int32) (a1 : Int32) (h0a : 0 ≤ a0.toInt ∧ a0.toInt ≤ 59) (h1a : 0 ≤ a1.toInt ∧ a1.toInt ≤ 1) : CALL d_X2_step [.inr (.inr (.inl 70)), .inl a0, .inl a1] h (q_X2_step h a0 a1) := by
  show RUN d_X2_step 0 [(0, .inr (.inr (.inl 70))), (1, .inl a0), (2, .inl a1)] [] h _
  have fr : FR [70, 74] h h := FR.rf _ _
  refine R_aload_n (k := 0) rfl rfl rfl ?_
  refine R_getf_i (j := 9) rfl ft_2_41 sh_70 rfl ?_
  refine N_i2l rfl (fun w1 q2 => ?_)
  refine R_aload_n (k := 0) rfl rfl rfl ?_
  refine R_getf_i (j := 7) rfl ft_2_35 sh_70 rfl ?_
  refine R_callS (As := [.inr (.inl w1), .inl (h.1 70 7)]) (rest := []) rfl mt_2_i69 (by decide) pp_X8_hasBit (by decide) rfl rfl (Nat.le_of_ble_eq_true rfl) (Nat.le_of_ble_eq_true rfl) ((k_X8_hasBit h hI w1 (h.1 70 7)).mono (fun r3 h4 p5 => ?_))
  obtain ⟨rfl, x6, rfl, q7 | q7⟩ := p5
  · show RUN d_X2_step 12 [(0, .inr (.inr (.inl 70))), (1, .inl a0), (2, .inl a1)] [.inl x6] h _
    refine N_if_eq (a := x6.toInt) 25 rfl rfl rfl (fun c8 => ?_) (fun c8 => ?_)
    · refine R_iconst 0 rfl rfl ?_
      refine R_istore_n (k := 3) rfl [(3, .inl 0), (0, .inr (.inr (.inl 70))), (1, .inl a0), (2, .inl a1)] rfl rfl (by decide) ?_
      refine R_aload_n (k := 0) rfl rfl rfl ?_
      refine R_getf_i (j := 4) rfl ft_2_25 sh_70 rfl ?_
      have b9 : (0 : Int) ≤ (h.1 70 4).toInt ∧ (h.1 70 4).toInt ≤ 6 := hI.1 70 4
      refine R_iconst 1 rfl rfl ?_
      refine N_isub (a := (h.1 70 4).toInt) (b := 1) rfl rfl (by decide) (by omega) (fun x10 q11 => ?_)
      refine R_istore (k := 4) [(4, .inl x10), (3, .inl 0), (0, .inr (.inr (.inl 70))), (1, .inl a0), (2, .inl a1)] rfl rfl (by decide) ?_
      have lp13 : ∀ (n12 : Nat) (h14 : PH) (x16 : Int32) (x17 : Int32), INV h14 → FR [70, 74] h h14 → FR [70, 74] h h14 → (-1) ≤ x17.toInt ∧ x17.toInt ≤ 5 → (h14.1 70 5).toInt = (h.1 70 5).toInt → (h14.1 70 7).toInt = (h.1 70 7).toInt → (h14.1 70 4).toInt = (h.1 70 4).toInt → True → x17.toInt ≤ (h.1 70 4).toInt + (-1) → (x17.toInt - (-1)).toNat < n12 → RUN d_X2_step 35 [(4, .inl x17), (3, .inl x16), (0, .inr (.inr (.inl 70))), (1, .inl a0), (2, .inl a1)] [] h14 (q_X2_step h a0 a1) := by
        intro n12
        induction n12 with
        | zero => intro h14 x16 x17 m19 m20 m21 m22 m23 m24 m25 m26 m27 hz; exact absurd hz (Nat.not_lt_zero _)
        | succ n12 ih18 =>
          intro h14 x16 x17 hI fr fl15 m22 m23 m24 m25 m26 m27 hz
          refine R_iload (k := 4) rfl rfl ?_
          refine N_if_lt (a := x17.toInt) 131 rfl rfl rfl (fun c28 => ?_) (fun c28 => ?_)
          · refine R_aload_n (k := 0) rfl rfl rfl ?_
            refine R_getf_i (j := 4) rfl ft_2_25 sh_70 rfl ?_
            refine N_if_le (a := (h14.1 70 4).toInt) 184 rfl rfl rfl (fun c29 => ?_) (fun c29 => ?_)
            · refine R_aload_n (k := 0) rfl rfl rfl ?_
              refine R_aload_n (k := 0) rfl rfl rfl ?_
              refine R_getf_i (j := 9) rfl ft_2_41 sh_70 rfl ?_
              refine R_iconst 1 rfl rfl ?_
              refine R_ishl rfl ?_
              refine N_any (fun x30 => ?_)
              refine R_iconst 2 rfl rfl ?_
              refine R_aload_n (k := 0) rfl rfl rfl ?_
              refine R_getf_i (j := 7) rfl ft_2_35 sh_70 rfl ?_
              refine R_ishl rfl ?_
              refine N_any (fun x31 => ?_)
              refine R_iconst 1 rfl rfl ?_
              have b32 := i_rng x31
              refine R_isub rfl ?_
              refine N_any (fun x33 => ?_)
              refine R_iand rfl ?_
              refine N_any (fun x34 => ?_)
              refine K_putf (j := 9) (lo := (-2147483648)) (hi' := 2147483647) rfl ft_2_41 sh_70 rfl hI (by decide) rfl (i_rng _) fr (by decide) (fun h35 g36 hI fr => ?_)
              have fl15 : FR [70, 74] h h35 := by rw [g36]; exact FR_wI _ _ fl15 (by decide)
              have s37 : (h35.1 70 5).toInt = (h14.1 70 5).toInt := by rw [g36, wI_at (by decide)]
              have s38 : (h35.1 70 7).toInt = (h14.1 70 7).toInt := by rw [g36, wI_at (by decide)]
              have s39 : (h35.1 70 4).toInt = (h14.1 70 4).toInt := by rw [g36, wI_at (by decide)]
              have s40 : (h35.1 70 9).toInt = x34.toInt := by rw [g36, wI_is]
              refine R_aload_n (k := 0) rfl rfl rfl ?_
              refine R_iload_n (k := 3) rfl rfl rfl ?_
              refine R_callV (v := .inr (.inr (.inl 70))) (As := [.inl x16]) (rest := []) rfl mt_2_i77 pp_X2_isThrow (by decide) rfl rfl rfl (Nat.le_of_ble_eq_true rfl) (Nat.le_of_ble_eq_true rfl) ((k_X2_isThrow h35 hI x16).mono (fun r41 h42 p43 => ?_))
              obtain ⟨rfl, x44, rfl, q45 | q45 | q45⟩ := p43
              · show RUN d_X2_step 208 [(4, .inl x17), (3, .inl x16), (0, .inr (.inr (.inl 70))), (1, .inl a0), (2, .inl a1)] [.inl x44] h35 _
                refine N_if_eq (a := x44.toInt) 221 rfl rfl rfl (fun c46 => ?_) (fun c46 => ?_)
                · refine R_iload_n (k := 3) rfl rfl rfl ?_
                  exact R_iret rfl rfl rfl ⟨hI, fr, ⟨by omega, trivial⟩, _, rfl, trivial⟩
                · exfalso; omega
              · exfalso; omega
              · exfalso; omega
            · refine R_aload_n (k := 0) rfl rfl rfl ?_
              refine R_getf_i (j := 8) rfl ft_2_38 sh_70 rfl ?_
              refine N_if_le (a := (h14.1 70 8).toInt) 184 rfl rfl rfl (fun c47 => ?_) (fun c47 => ?_)
              · refine R_aload_n (k := 0) rfl rfl rfl ?_
                refine R_aload_n (k := 0) rfl rfl rfl ?_
                refine R_getf_i (j := 9) rfl ft_2_41 sh_70 rfl ?_
                refine R_iconst 1 rfl rfl ?_
                refine R_ishl rfl ?_
                refine N_any (fun x48 => ?_)
                refine R_iconst 2 rfl rfl ?_
                refine R_aload_n (k := 0) rfl rfl rfl ?_
                refine R_getf_i (j := 7) rfl ft_2_35 sh_70 rfl ?_
                refine R_ishl rfl ?_
                refine N_any (fun x49 => ?_)
                refine R_iconst 1 rfl rfl ?_
                have b50 := i_rng x49
                refine R_isub rfl ?_
                refine N_any (fun x51 => ?_)
                refine R_iand rfl ?_
                refine N_any (fun x52 => ?_)
                refine K_putf (j := 9) (lo := (-2147483648)) (hi' := 2147483647) rfl ft_2_41 sh_70 rfl hI (by decide) rfl (i_rng _) fr (by decide) (fun h53 g54 hI fr => ?_)
                have fl15 : FR [70, 74] h h53 := by rw [g54]; exact FR_wI _ _ fl15 (by decide)
                have s55 : (h53.1 70 5).toInt = (h14.1 70 5).toInt := by rw [g54, wI_at (by decide)]
                have s56 : (h53.1 70 7).toInt = (h14.1 70 7).toInt := by rw [g54, wI_at (by decide)]
                have s57 : (h53.1 70 4).toInt = (h14.1 70 4).toInt := by rw [g54, wI_at (by decide)]
                have s58 : (h53.1 70 8).toInt = (h14.1 70 8).toInt := by rw [g54, wI_at (by decide)]
                have s59 : (h53.1 70 9).toInt = x52.toInt := by rw [g54, wI_is]
                refine R_aload_n (k := 0) rfl rfl rfl ?_
                refine R_iload_n (k := 3) rfl rfl rfl ?_
                refine R_callV (v := .inr (.inr (.inl 70))) (As := [.inl x16]) (rest := []) rfl mt_2_i77 pp_X2_isThrow (by decide) rfl rfl rfl (Nat.le_of_ble_eq_true rfl) (Nat.le_of_ble_eq_true rfl) ((k_X2_isThrow h53 hI x16).mono (fun r60 h61 p62 => ?_))
                obtain ⟨rfl, x63, rfl, q64 | q64 | q64⟩ := p62
                · exfalso; omega
                · show RUN d_X2_step 208 [(4, .inl x17), (3, .inl x16), (0, .inr (.inr (.inl 70))), (1, .inl a0), (2, .inl a1)] [.inl x63] h53 _
                  refine N_if_eq (a := x63.toInt) 221 rfl rfl rfl (fun c65 => ?_) (fun c65 => ?_)
                  · refine R_iload_n (k := 3) rfl rfl rfl ?_
                    exact R_iret rfl rfl rfl ⟨hI, fr, ⟨by omega, trivial⟩, _, rfl, trivial⟩
                  · exfalso; omega
                · show RUN d_X2_step 208 [(4, .inl x17), (3, .inl x16), (0, .inr (.inr (.inl 70))), (1, .inl a0), (2, .inl a1)] [.inl x63] h53 _
                  refine N_if_eq (a := x63.toInt) 221 rfl rfl rfl (fun c66 => ?_) (fun c66 => ?_)
                  · exfalso; omega
                  · refine R_aload_n (k := 0) rfl rfl rfl ?_
                    refine R_dup_r rfl ?_
                    refine R_getf_i (j := 9) rfl ft_2_41 sh_70 rfl ?_
                    refine R_iconst 1 rfl rfl ?_
                    refine R_ior rfl ?_
                    refine N_any (fun x67 => ?_)
                    refine K_putf (j := 9) (lo := (-2147483648)) (hi' := 2147483647) rfl ft_2_41 sh_70 rfl hI (by decide) rfl (i_rng _) fr (by decide) (fun h68 g69 hI fr => ?_)
                    have fl15 : FR [70, 74] h h68 := by rw [g69]; exact FR_wI _ _ fl15 (by decide)
                    have s70 : (h68.1 70 5).toInt = (h53.1 70 5).toInt := by rw [g69, wI_at (by decide)]
                    have s71 : (h68.1 70 7).toInt = (h53.1 70 7).toInt := by rw [g69, wI_at (by decide)]
                    have s72 : (h68.1 70 4).toInt = (h53.1 70 4).toInt := by rw [g69, wI_at (by decide)]
                    have s73 : (h68.1 70 8).toInt = (h53.1 70 8).toInt := by rw [g69, wI_at (by decide)]
                    have s74 : (h68.1 70 9).toInt = x67.toInt := by rw [g69, wI_is]
                    refine R_iload_n (k := 3) rfl rfl rfl ?_
                    exact R_iret rfl rfl rfl ⟨hI, fr, ⟨by omega, trivial⟩, _, rfl, trivial⟩
              · refine R_aload_n (k := 0) rfl rfl rfl ?_
                refine R_getf_r (j := 3) rfl ft_2_22 sh_70 rfl ?_
                refine R_iconst 0 rfl rfl ?_
                refine R_iald rfl sh_74 (by decide) ?_
                show RUN d_X2_step 151 [(4, .inl x17), (3, .inl x16), (0, .inr (.inr (.inl 70))), (1, .inl a0), (2, .inl a1)] [.inl (h14.1 74 0)] h14 _
                refine N_if_ne (a := (h14.1 74 0).toInt) 184 rfl rfl rfl (fun c75 => ?_) (fun c75 => ?_)
                · refine R_aload_n (k := 0) rfl rfl rfl ?_
                  refine R_aload_n (k := 0) rfl rfl rfl ?_
                  refine R_getf_i (j := 9) rfl ft_2_41 sh_70 rfl ?_
                  refine R_iconst 1 rfl rfl ?_
                  refine R_ishl rfl ?_
                  refine N_any (fun x76 => ?_)
                  refine R_iconst 2 rfl rfl ?_
                  refine R_aload_n (k := 0) rfl rfl rfl ?_
                  refine R_getf_i (j := 7) rfl ft_2_35 sh_70 rfl ?_
                  refine R_ishl rfl ?_
                  refine N_any (fun x77 => ?_)
                  refine R_iconst 1 rfl rfl ?_
                  have b78 := i_rng x77
                  refine R_isub rfl ?_
                  refine N_any (fun x79 => ?_)
                  refine R_iand rfl ?_
                  refine N_any (fun x80 => ?_)
                  refine K_putf (j := 9) (lo := (-2147483648)) (hi' := 2147483647) rfl ft_2_41 sh_70 rfl hI (by decide) rfl (i_rng _) fr (by decide) (fun h81 g82 hI fr => ?_)
                  have fl15 : FR [70, 74] h h81 := by rw [g82]; exact FR_wI _ _ fl15 (by decide)
                  have s83 : (h81.1 70 5).toInt = (h14.1 70 5).toInt := by rw [g82, wI_at (by decide)]
                  have s84 : (h81.1 70 7).toInt = (h14.1 70 7).toInt := by rw [g82, wI_at (by decide)]
                  have s85 : (h81.1 70 4).toInt = (h14.1 70 4).toInt := by rw [g82, wI_at (by decide)]
                  have s86 : (h81.1 70 8).toInt = (h14.1 70 8).toInt := by rw [g82, wI_at (by decide)]
                  have s87 : (h81.1 74 0).toInt = (h14.1 74 0).toInt := by rw [g82, wI_ne _ _ _ (by decide)]
                  have s88 : (h81.1 70 9).toInt = x80.toInt := by rw [g82, wI_is]
                  refine R_aload_n (k := 0) rfl rfl rfl ?_
                  refine R_iload_n (k := 3) rfl rfl rfl ?_
                  refine R_callV (v := .inr (.inr (.inl 70))) (As := [.inl x16]) (rest := []) rfl mt_2_i77 pp_X2_isThrow (by decide) rfl rfl rfl (Nat.le_of_ble_eq_true rfl) (Nat.le_of_ble_eq_true rfl) ((k_X2_isThrow h81 hI x16).mono (fun r89 h90 p91 => ?_))
                  obtain ⟨rfl, x92, rfl, q93 | q93 | q93⟩ := p91
                  · exfalso; omega
                  · show RUN d_X2_step 208 [(4, .inl x17), (3, .inl x16), (0, .inr (.inr (.inl 70))), (1, .inl a0), (2, .inl a1)] [.inl x92] h81 _
                    refine N_if_eq (a := x92.toInt) 221 rfl rfl rfl (fun c94 => ?_) (fun c94 => ?_)
                    · refine R_iload_n (k := 3) rfl rfl rfl ?_
                      exact R_iret rfl rfl rfl ⟨hI, fr, ⟨by omega, trivial⟩, _, rfl, trivial⟩
                    · exfalso; omega
                  · show RUN d_X2_step 208 [(4, .inl x17), (3, .inl x16), (0, .inr (.inr (.inl 70))), (1, .inl a0), (2, .inl a1)] [.inl x92] h81 _
                    refine N_if_eq (a := x92.toInt) 221 rfl rfl rfl (fun c95 => ?_) (fun c95 => ?_)
                    · exfalso; omega
                    · refine R_aload_n (k := 0) rfl rfl rfl ?_
                      refine R_dup_r rfl ?_
                      refine R_getf_i (j := 9) rfl ft_2_41 sh_70 rfl ?_
                      refine R_iconst 1 rfl rfl ?_
                      refine R_ior rfl ?_
                      refine N_any (fun x96 => ?_)
                      refine K_putf (j := 9) (lo := (-2147483648)) (hi' := 2147483647) rfl ft_2_41 sh_70 rfl hI (by decide) rfl (i_rng _) fr (by decide) (fun h97 g98 hI fr => ?_)
                      have fl15 : FR [70, 74] h h97 := by rw [g98]; exact FR_wI _ _ fl15 (by decide)
                      have s99 : (h97.1 70 5).toInt = (h81.1 70 5).toInt := by rw [g98, wI_at (by decide)]
                      have s100 : (h97.1 70 7).toInt = (h81.1 70 7).toInt := by rw [g98, wI_at (by decide)]
                      have s101 : (h97.1 70 4).toInt = (h81.1 70 4).toInt := by rw [g98, wI_at (by decide)]
                      have s102 : (h97.1 70 8).toInt = (h81.1 70 8).toInt := by rw [g98, wI_at (by decide)]
                      have s103 : (h97.1 74 0).toInt = (h81.1 74 0).toInt := by rw [g98, wI_ne _ _ _ (by decide)]
                      have s104 : (h97.1 70 9).toInt = x96.toInt := by rw [g98, wI_is]
                      refine R_iload_n (k := 3) rfl rfl rfl ?_
                      exact R_iret rfl rfl rfl ⟨hI, fr, ⟨by omega, trivial⟩, _, rfl, trivial⟩
                · refine R_aload_n (k := 0) rfl rfl rfl ?_
                  refine R_getf_r (j := 2) rfl ft_2_18 sh_70 rfl ?_
                  refine R_iconst 0 rfl rfl ?_
                  refine R_lald rfl sh_73 (by decide) ?_
                  refine N_anyL (fun w105 => ?_)
                  refine R_iload_n (k := 1) rfl rfl rfl ?_
                  refine R_callS (As := [.inr (.inl w105), .inl a0]) (rest := []) rfl mt_2_i69 (by decide) pp_X8_hasBit (by decide) rfl rfl (Nat.le_of_ble_eq_true rfl) (Nat.le_of_ble_eq_true rfl) ((k_X8_hasBit h14 hI w105 a0).mono (fun r106 h107 p108 => ?_))
                  obtain ⟨rfl, x109, rfl, q110 | q110⟩ := p108
                  · show RUN d_X2_step 164 [(4, .inl x17), (3, .inl x16), (0, .inr (.inr (.inl 70))), (1, .inl a0), (2, .inl a1)] [.inl x109] h14 _
                    refine N_if_ne (a := x109.toInt) 184 rfl rfl rfl (fun c111 => ?_) (fun c111 => ?_)
                    · exfalso; omega
                    · refine R_aload_n (k := 0) rfl rfl rfl ?_
                      refine R_dup_r rfl ?_
                      refine R_getf_i (j := 8) rfl ft_2_38 sh_70 rfl ?_
                      refine R_iconst 1 rfl rfl ?_
                      have b112 := i_rng (h14.1 70 8)
                      refine N_isub (a := (h14.1 70 8).toInt) (b := 1) rfl rfl (by decide) (by omega) (fun x113 q114 => ?_)
                      refine K_putf (j := 8) (lo := (-2147483648)) (hi' := 2147483647) rfl ft_2_38 sh_70 rfl hI (by decide) rfl (i_rng _) fr (by decide) (fun h115 g116 hI fr => ?_)
                      have fl15 : FR [70, 74] h h115 := by rw [g116]; exact FR_wI _ _ fl15 (by decide)
                      have s117 : (h115.1 70 5).toInt = (h14.1 70 5).toInt := by rw [g116, wI_at (by decide)]
                      have s118 : (h115.1 70 9).toInt = (h14.1 70 9).toInt := by rw [g116, wI_at (by decide)]
                      have s119 : (h115.1 70 7).toInt = (h14.1 70 7).toInt := by rw [g116, wI_at (by decide)]
                      have s120 : (h115.1 70 4).toInt = (h14.1 70 4).toInt := by rw [g116, wI_at (by decide)]
                      have s121 : (h115.1 74 0).toInt = (h14.1 74 0).toInt := by rw [g116, wI_ne _ _ _ (by decide)]
                      have s122 : (h115.1 70 8).toInt = x113.toInt := by rw [g116, wI_is]
                      refine R_aload_n (k := 0) rfl rfl rfl ?_
                      refine R_getf_r (j := 3) rfl ft_2_22 sh_70 rfl ?_
                      refine R_iconst 0 rfl rfl ?_
                      refine R_iconst 1 rfl rfl ?_
                      refine K_iast (a := 0) (lo := (-2147483648)) (hi' := 2147483647) rfl sh_74 (by decide) (by decide) hI (by decide) rfl (by decide) fr (by decide) (fun h123 g124 hI fr => ?_)
                      have fl15 : FR [70, 74] h h123 := by rw [g124]; exact FR_wI _ _ fl15 (by decide)
                      have s125 : (h123.1 70 5).toInt = (h115.1 70 5).toInt := by rw [g124, wI_ne _ _ _ (by decide)]
                      have s126 : (h123.1 70 9).toInt = (h115.1 70 9).toInt := by rw [g124, wI_ne _ _ _ (by decide)]
                      have s127 : (h123.1 70 7).toInt = (h115.1 70 7).toInt := by rw [g124, wI_ne _ _ _ (by decide)]
                      have s128 : (h123.1 70 4).toInt = (h115.1 70 4).toInt := by rw [g124, wI_ne _ _ _ (by decide)]
                      have s129 : (h123.1 70 8).toInt = (h115.1 70 8).toInt := by rw [g124, wI_ne _ _ _ (by decide)]
                      have s130 : (h123.1 74 0).toInt = 1 := by rw [g124, show (0 : Int32).toNatClampNeg = 0 from rfl, wI_is]; rfl
                      refine R_aload_n (k := 0) rfl rfl rfl ?_
                      refine R_aload_n (k := 0) rfl rfl rfl ?_
                      refine R_getf_i (j := 9) rfl ft_2_41 sh_70 rfl ?_
                      refine R_iconst 1 rfl rfl ?_
                      refine R_ishl rfl ?_
                      refine N_any (fun x131 => ?_)
                      refine R_iconst 2 rfl rfl ?_
                      refine R_aload_n (k := 0) rfl rfl rfl ?_
                      refine R_getf_i (j := 7) rfl ft_2_35 sh_70 rfl ?_
                      refine R_ishl rfl ?_
                      refine N_any (fun x132 => ?_)
                      refine R_iconst 1 rfl rfl ?_
                      have b133 := i_rng x132
                      refine R_isub rfl ?_
                      refine N_any (fun x134 => ?_)
                      refine R_iand rfl ?_
                      refine N_any (fun x135 => ?_)
                      refine K_putf (j := 9) (lo := (-2147483648)) (hi' := 2147483647) rfl ft_2_41 sh_70 rfl hI (by decide) rfl (i_rng _) fr (by decide) (fun h136 g137 hI fr => ?_)
                      have fl15 : FR [70, 74] h h136 := by rw [g137]; exact FR_wI _ _ fl15 (by decide)
                      have s138 : (h136.1 70 5).toInt = (h123.1 70 5).toInt := by rw [g137, wI_at (by decide)]
                      have s139 : (h136.1 70 7).toInt = (h123.1 70 7).toInt := by rw [g137, wI_at (by decide)]
                      have s140 : (h136.1 70 4).toInt = (h123.1 70 4).toInt := by rw [g137, wI_at (by decide)]
                      have s141 : (h136.1 70 8).toInt = (h123.1 70 8).toInt := by rw [g137, wI_at (by decide)]
                      have s142 : (h136.1 74 0).toInt = (h123.1 74 0).toInt := by rw [g137, wI_ne _ _ _ (by decide)]
                      have s143 : (h136.1 70 9).toInt = x135.toInt := by rw [g137, wI_is]
                      refine R_aload_n (k := 0) rfl rfl rfl ?_
                      refine R_iload_n (k := 3) rfl rfl rfl ?_
                      refine R_callV (v := .inr (.inr (.inl 70))) (As := [.inl x16]) (rest := []) rfl mt_2_i77 pp_X2_isThrow (by decide) rfl rfl rfl (Nat.le_of_ble_eq_true rfl) (Nat.le_of_ble_eq_true rfl) ((k_X2_isThrow h136 hI x16).mono (fun r144 h145 p146 => ?_))
                      obtain ⟨rfl, x147, rfl, q148 | q148 | q148⟩ := p146
                      · exfalso; omega
                      · show RUN d_X2_step 208 [(4, .inl x17), (3, .inl x16), (0, .inr (.inr (.inl 70))), (1, .inl a0), (2, .inl a1)] [.inl x147] h136 _
                        refine N_if_eq (a := x147.toInt) 221 rfl rfl rfl (fun c149 => ?_) (fun c149 => ?_)
                        · refine R_iload_n (k := 3) rfl rfl rfl ?_
                          exact R_iret rfl rfl rfl ⟨hI, fr, ⟨by omega, trivial⟩, _, rfl, trivial⟩
                        · exfalso; omega
                      · show RUN d_X2_step 208 [(4, .inl x17), (3, .inl x16), (0, .inr (.inr (.inl 70))), (1, .inl a0), (2, .inl a1)] [.inl x147] h136 _
                        refine N_if_eq (a := x147.toInt) 221 rfl rfl rfl (fun c150 => ?_) (fun c150 => ?_)
                        · exfalso; omega
                        · refine R_aload_n (k := 0) rfl rfl rfl ?_
                          refine R_dup_r rfl ?_
                          refine R_getf_i (j := 9) rfl ft_2_41 sh_70 rfl ?_
                          refine R_iconst 1 rfl rfl ?_
                          refine R_ior rfl ?_
                          refine N_any (fun x151 => ?_)
                          refine K_putf (j := 9) (lo := (-2147483648)) (hi' := 2147483647) rfl ft_2_41 sh_70 rfl hI (by decide) rfl (i_rng _) fr (by decide) (fun h152 g153 hI fr => ?_)
                          have fl15 : FR [70, 74] h h152 := by rw [g153]; exact FR_wI _ _ fl15 (by decide)
                          have s154 : (h152.1 70 5).toInt = (h136.1 70 5).toInt := by rw [g153, wI_at (by decide)]
                          have s155 : (h152.1 70 7).toInt = (h136.1 70 7).toInt := by rw [g153, wI_at (by decide)]
                          have s156 : (h152.1 70 4).toInt = (h136.1 70 4).toInt := by rw [g153, wI_at (by decide)]
                          have s157 : (h152.1 70 8).toInt = (h136.1 70 8).toInt := by rw [g153, wI_at (by decide)]
                          have s158 : (h152.1 74 0).toInt = (h136.1 74 0).toInt := by rw [g153, wI_ne _ _ _ (by decide)]
                          have s159 : (h152.1 70 9).toInt = x151.toInt := by rw [g153, wI_is]
                          refine R_iload_n (k := 3) rfl rfl rfl ?_
                          exact R_iret rfl rfl rfl ⟨hI, fr, ⟨by omega, trivial⟩, _, rfl, trivial⟩
                  · show RUN d_X2_step 164 [(4, .inl x17), (3, .inl x16), (0, .inr (.inr (.inl 70))), (1, .inl a0), (2, .inl a1)] [.inl x109] h14 _
                    refine N_if_ne (a := x109.toInt) 184 rfl rfl rfl (fun c160 => ?_) (fun c160 => ?_)
                    · refine R_aload_n (k := 0) rfl rfl rfl ?_
                      refine R_aload_n (k := 0) rfl rfl rfl ?_
                      refine R_getf_i (j := 9) rfl ft_2_41 sh_70 rfl ?_
                      refine R_iconst 1 rfl rfl ?_
                      refine R_ishl rfl ?_
                      refine N_any (fun x161 => ?_)
                      refine R_iconst 2 rfl rfl ?_
                      refine R_aload_n (k := 0) rfl rfl rfl ?_
                      refine R_getf_i (j := 7) rfl ft_2_35 sh_70 rfl ?_
                      refine R_ishl rfl ?_
                      refine N_any (fun x162 => ?_)
                      refine R_iconst 1 rfl rfl ?_
                      have b163 := i_rng x162
                      refine R_isub rfl ?_
                      refine N_any (fun x164 => ?_)
                      refine R_iand rfl ?_
                      refine N_any (fun x165 => ?_)
                      refine K_putf (j := 9) (lo := (-2147483648)) (hi' := 2147483647) rfl ft_2_41 sh_70 rfl hI (by decide) rfl (i_rng _) fr (by decide) (fun h166 g167 hI fr => ?_)
                      have fl15 : FR [70, 74] h h166 := by rw [g167]; exact FR_wI _ _ fl15 (by decide)
                      have s168 : (h166.1 70 5).toInt = (h14.1 70 5).toInt := by rw [g167, wI_at (by decide)]
                      have s169 : (h166.1 70 7).toInt = (h14.1 70 7).toInt := by rw [g167, wI_at (by decide)]
                      have s170 : (h166.1 70 4).toInt = (h14.1 70 4).toInt := by rw [g167, wI_at (by decide)]
                      have s171 : (h166.1 70 8).toInt = (h14.1 70 8).toInt := by rw [g167, wI_at (by decide)]
                      have s172 : (h166.1 74 0).toInt = (h14.1 74 0).toInt := by rw [g167, wI_ne _ _ _ (by decide)]
                      have s173 : (h166.1 70 9).toInt = x165.toInt := by rw [g167, wI_is]
                      refine R_aload_n (k := 0) rfl rfl rfl ?_
                      refine R_iload_n (k := 3) rfl rfl rfl ?_
                      refine R_callV (v := .inr (.inr (.inl 70))) (As := [.inl x16]) (rest := []) rfl mt_2_i77 pp_X2_isThrow (by decide) rfl rfl rfl (Nat.le_of_ble_eq_true rfl) (Nat.le_of_ble_eq_true rfl) ((k_X2_isThrow h166 hI x16).mono (fun r174 h175 p176 => ?_))
                      obtain ⟨rfl, x177, rfl, q178 | q178 | q178⟩ := p176
                      · exfalso; omega
                      · show RUN d_X2_step 208 [(4, .inl x17), (3, .inl x16), (0, .inr (.inr (.inl 70))), (1, .inl a0), (2, .inl a1)] [.inl x177] h166 _
                        refine N_if_eq (a := x177.toInt) 221 rfl rfl rfl (fun c179 => ?_) (fun c179 => ?_)
                        · refine R_iload_n (k := 3) rfl rfl rfl ?_
                          exact R_iret rfl rfl rfl ⟨hI, fr, ⟨by omega, trivial⟩, _, rfl, trivial⟩
                        · exfalso; omega
                      · show RUN d_X2_step 208 [(4, .inl x17), (3, .inl x16), (0, .inr (.inr (.inl 70))), (1, .inl a0), (2, .inl a1)] [.inl x177] h166 _
                        refine N_if_eq (a := x177.toInt) 221 rfl rfl rfl (fun c180 => ?_) (fun c180 => ?_)
                        · exfalso; omega
                        · refine R_aload_n (k := 0) rfl rfl rfl ?_
                          refine R_dup_r rfl ?_
                          refine R_getf_i (j := 9) rfl ft_2_41 sh_70 rfl ?_
                          refine R_iconst 1 rfl rfl ?_
                          refine R_ior rfl ?_
                          refine N_any (fun x181 => ?_)
                          refine K_putf (j := 9) (lo := (-2147483648)) (hi' := 2147483647) rfl ft_2_41 sh_70 rfl hI (by decide) rfl (i_rng _) fr (by decide) (fun h182 g183 hI fr => ?_)
                          have fl15 : FR [70, 74] h h182 := by rw [g183]; exact FR_wI _ _ fl15 (by decide)
                          have s184 : (h182.1 70 5).toInt = (h166.1 70 5).toInt := by rw [g183, wI_at (by decide)]
                          have s185 : (h182.1 70 7).toInt = (h166.1 70 7).toInt := by rw [g183, wI_at (by decide)]
                          have s186 : (h182.1 70 4).toInt = (h166.1 70 4).toInt := by rw [g183, wI_at (by decide)]
                          have s187 : (h182.1 70 8).toInt = (h166.1 70 8).toInt := by rw [g183, wI_at (by decide)]
                          have s188 : (h182.1 74 0).toInt = (h166.1 74 0).toInt := by rw [g183, wI_ne _ _ _ (by decide)]
                          have s189 : (h182.1 70 9).toInt = x181.toInt := by rw [g183, wI_is]
                          refine R_iload_n (k := 3) rfl rfl rfl ?_
                          exact R_iret rfl rfl rfl ⟨hI, fr, ⟨by omega, trivial⟩, _, rfl, trivial⟩
                    · exfalso; omega
          · refine R_aload_n (k := 0) rfl rfl rfl ?_
            refine R_getf_r (j := 3) rfl ft_2_22 sh_70 rfl ?_
            refine R_iload (k := 4) rfl rfl ?_
            refine R_iald rfl sh_74 ⟨by omega, by omega⟩ ?_
            refine N_any (fun x190 => ?_)
            refine N_if_eq (a := x190.toInt) 125 rfl rfl rfl (fun c191 => ?_) (fun c191 => ?_)
            · refine N_iinc (a := x17.toInt) (c := (-1)) (fun w => [(4, .inl w), (3, .inl x16), (0, .inr (.inr (.inl 70))), (1, .inl a0), (2, .inl a1)]) rfl rfl (fun _ => rfl) (by decide) rfl (by decide) (by omega) (fun x192 q193 => ?_)
              refine R_goto 35 rfl rfl ?_
              exact RUN_weak (psub_cons rfl (psub_cons rfl (psub_cons rfl (psub_cons rfl (psub_cons rfl (psub_nil _)))))) (ih18 h14 x16 x192 hI fr fl15 (by omega) (by omega) (by omega) (by omega) trivial (by omega) (by omega))
            · refine R_aload_n (k := 0) rfl rfl rfl ?_
              refine R_getf_r (j := 2) rfl ft_2_18 sh_70 rfl ?_
              refine R_iload (k := 4) rfl rfl ?_
              refine R_lald rfl sh_73 ⟨by omega, by omega⟩ ?_
              refine N_anyL (fun w194 => ?_)
              refine R_iload_n (k := 1) rfl rfl rfl ?_
              refine R_callS (As := [.inr (.inl w194), .inl a0]) (rest := []) rfl mt_2_i69 (by decide) pp_X8_hasBit (by decide) rfl rfl (Nat.le_of_ble_eq_true rfl) (Nat.le_of_ble_eq_true rfl) ((k_X8_hasBit h14 hI w194 a0).mono (fun r195 h196 p197 => ?_))
              obtain ⟨rfl, x198, rfl, q199 | q199⟩ := p197
              · show RUN d_X2_step 61 [(4, .inl x17), (3, .inl x16), (0, .inr (.inr (.inl 70))), (1, .inl a0), (2, .inl a1)] [.inl x198] h14 _
                refine N_if_eq (a := x198.toInt) 67 rfl rfl rfl (fun c200 => ?_) (fun c200 => ?_)
                · refine R_aload_n (k := 0) rfl rfl rfl ?_
                  refine R_getf_r (j := 3) rfl ft_2_22 sh_70 rfl ?_
                  refine R_iload (k := 4) rfl rfl ?_
                  refine R_iald rfl sh_74 ⟨by omega, by omega⟩ ?_
                  refine N_any (fun x201 => ?_)
                  refine R_aload_n (k := 0) rfl rfl rfl ?_
                  refine R_getf_r (j := 0) rfl ft_2_9 sh_70 rfl ?_
                  refine R_iload (k := 4) rfl rfl ?_
                  refine R_iald rfl sh_71 ⟨by omega, by omega⟩ ?_
                  refine N_any (fun x202 => ?_)
                  refine N_icmp_ge (a := x201.toInt) (b := x202.toInt) 98 rfl rfl rfl rfl (fun c203 => ?_) (fun c203 => ?_)
                  · refine R_iload_n (k := 2) rfl rfl rfl ?_
                    refine N_if_ne (a := a1.toInt) 125 rfl rfl rfl (fun c204 => ?_) (fun c204 => ?_)
                    · refine N_iinc (a := x17.toInt) (c := (-1)) (fun w => [(4, .inl w), (3, .inl x16), (0, .inr (.inr (.inl 70))), (1, .inl a0), (2, .inl a1)]) rfl rfl (fun _ => rfl) (by decide) rfl (by decide) (by omega) (fun x205 q206 => ?_)
                      refine R_goto 35 rfl rfl ?_
                      exact RUN_weak (psub_cons rfl (psub_cons rfl (psub_cons rfl (psub_cons rfl (psub_cons rfl (psub_nil _)))))) (ih18 h14 x16 x205 hI fr fl15 (by omega) (by omega) (by omega) (by omega) trivial (by omega) (by omega))
                    · refine R_aload_n (k := 0) rfl rfl rfl ?_
                      refine R_iload (k := 4) rfl rfl ?_
                      refine R_iload_n (k := 1) rfl rfl rfl ?_
                      refine R_callV (v := .inr (.inr (.inl 70))) (As := [.inl x17, .inl a0]) (rest := []) rfl mt_2_i80 pp_X2_nextIsFree (by decide) rfl rfl rfl (Nat.le_of_ble_eq_true rfl) (Nat.le_of_ble_eq_true rfl) ((k_X2_nextIsFree h14 hI x17 a0 (by omega) (by omega)).mono (fun r207 h208 p209 => ?_))
                      obtain ⟨rfl, x210, rfl, q211 | q211 | q211⟩ := p209
                      · show RUN d_X2_step 109 [(4, .inl x17), (3, .inl x16), (0, .inr (.inr (.inl 70))), (1, .inl a0), (2, .inl a1)] [.inl x210] h14 _
                        refine N_if_eq (a := x210.toInt) 125 rfl rfl rfl (fun c212 => ?_) (fun c212 => ?_)
                        · exfalso; omega
                        · refine R_aload_n (k := 0) rfl rfl rfl ?_
                          refine R_iload (k := 4) rfl rfl ?_
                          refine R_callV (v := .inr (.inr (.inl 70))) (As := [.inl x17]) (rest := []) rfl mt_2_i84 pp_X2_passOn (by decide) rfl rfl rfl (Nat.le_of_ble_eq_true rfl) (Nat.le_of_ble_eq_true rfl) ((k_X2_passOn h14 hI x17 (by omega)).mono (fun r213 h214 p215 => ?_))
                          obtain ⟨hJ, fj, -, rfl⟩ := p215
                          have f216 := fj
                          have fr := fr.trans fj (by decide)
                          have hI := hJ
                          have fl15 : FR [70, 74] h h214 := fl15.trans fj (by decide)
                          have s217 : (h214.1 70 5).toInt = (h14.1 70 5).toInt := by rw [(f216 70 (by decide)).1]
                          have s218 : (h214.1 70 9).toInt = (h14.1 70 9).toInt := by rw [(f216 70 (by decide)).1]
                          have s219 : (h214.1 70 7).toInt = (h14.1 70 7).toInt := by rw [(f216 70 (by decide)).1]
                          have s220 : (h214.1 70 4).toInt = (h14.1 70 4).toInt := by rw [(f216 70 (by decide)).1]
                          show RUN d_X2_step 118 [(4, .inl x17), (3, .inl x16), (0, .inr (.inr (.inl 70))), (1, .inl a0), (2, .inl a1)] [] h214 _
                          refine R_iload_n (k := 3) rfl rfl rfl ?_
                          refine R_iconst 1 rfl rfl ?_
                          refine R_iload (k := 4) rfl rfl ?_
                          refine N_ishl1 (b := x17.toInt) rfl rfl (by omega) (fun x221 q222 => ?_)
                          refine R_ior rfl ?_
                          refine N_any (fun x223 => ?_)
                          refine R_istore_n (k := 3) rfl [(3, .inl x223), (4, .inl x17), (0, .inr (.inr (.inl 70))), (1, .inl a0), (2, .inl a1)] rfl rfl (by decide) ?_
                          refine N_iinc (a := x17.toInt) (c := (-1)) (fun w => [(4, .inl w), (3, .inl x223), (0, .inr (.inr (.inl 70))), (1, .inl a0), (2, .inl a1)]) rfl rfl (fun _ => rfl) (by decide) rfl (by decide) (by omega) (fun x224 q225 => ?_)
                          refine R_goto 35 rfl rfl ?_
                          exact RUN_weak (psub_cons rfl (psub_cons rfl (psub_cons rfl (psub_cons rfl (psub_cons rfl (psub_nil _)))))) (ih18 h214 x223 x224 hI fr fl15 (by omega) (by omega) (by omega) (by omega) trivial (by omega) (by omega))
                      · show RUN d_X2_step 109 [(4, .inl x17), (3, .inl x16), (0, .inr (.inr (.inl 70))), (1, .inl a0), (2, .inl a1)] [.inl x210] h14 _
                        refine N_if_eq (a := x210.toInt) 125 rfl rfl rfl (fun c226 => ?_) (fun c226 => ?_)
                        · refine N_iinc (a := x17.toInt) (c := (-1)) (fun w => [(4, .inl w), (3, .inl x16), (0, .inr (.inr (.inl 70))), (1, .inl a0), (2, .inl a1)]) rfl rfl (fun _ => rfl) (by decide) rfl (by decide) (by omega) (fun x227 q228 => ?_)
                          refine R_goto 35 rfl rfl ?_
                          exact RUN_weak (psub_cons rfl (psub_cons rfl (psub_cons rfl (psub_cons rfl (psub_cons rfl (psub_nil _)))))) (ih18 h14 x16 x227 hI fr fl15 (by omega) (by omega) (by omega) (by omega) trivial (by omega) (by omega))
                        · exfalso; omega
                      · show RUN d_X2_step 109 [(4, .inl x17), (3, .inl x16), (0, .inr (.inr (.inl 70))), (1, .inl a0), (2, .inl a1)] [.inl x210] h14 _
                        refine N_if_eq (a := x210.toInt) 125 rfl rfl rfl (fun c229 => ?_) (fun c229 => ?_)
                        · exfalso; omega
                        · refine R_aload_n (k := 0) rfl rfl rfl ?_
                          refine R_iload (k := 4) rfl rfl ?_
                          refine R_callV (v := .inr (.inr (.inl 70))) (As := [.inl x17]) (rest := []) rfl mt_2_i84 pp_X2_passOn (by decide) rfl rfl rfl (Nat.le_of_ble_eq_true rfl) (Nat.le_of_ble_eq_true rfl) ((k_X2_passOn h14 hI x17 (by omega)).mono (fun r230 h231 p232 => ?_))
                          obtain ⟨hJ, fj, -, rfl⟩ := p232
                          have f233 := fj
                          have fr := fr.trans fj (by decide)
                          have hI := hJ
                          have fl15 : FR [70, 74] h h231 := fl15.trans fj (by decide)
                          have s234 : (h231.1 70 5).toInt = (h14.1 70 5).toInt := by rw [(f233 70 (by decide)).1]
                          have s235 : (h231.1 70 9).toInt = (h14.1 70 9).toInt := by rw [(f233 70 (by decide)).1]
                          have s236 : (h231.1 70 7).toInt = (h14.1 70 7).toInt := by rw [(f233 70 (by decide)).1]
                          have s237 : (h231.1 70 4).toInt = (h14.1 70 4).toInt := by rw [(f233 70 (by decide)).1]
                          show RUN d_X2_step 118 [(4, .inl x17), (3, .inl x16), (0, .inr (.inr (.inl 70))), (1, .inl a0), (2, .inl a1)] [] h231 _
                          refine R_iload_n (k := 3) rfl rfl rfl ?_
                          refine R_iconst 1 rfl rfl ?_
                          refine R_iload (k := 4) rfl rfl ?_
                          refine N_ishl1 (b := x17.toInt) rfl rfl (by omega) (fun x238 q239 => ?_)
                          refine R_ior rfl ?_
                          refine N_any (fun x240 => ?_)
                          refine R_istore_n (k := 3) rfl [(3, .inl x240), (4, .inl x17), (0, .inr (.inr (.inl 70))), (1, .inl a0), (2, .inl a1)] rfl rfl (by decide) ?_
                          refine N_iinc (a := x17.toInt) (c := (-1)) (fun w => [(4, .inl w), (3, .inl x240), (0, .inr (.inr (.inl 70))), (1, .inl a0), (2, .inl a1)]) rfl rfl (fun _ => rfl) (by decide) rfl (by decide) (by omega) (fun x241 q242 => ?_)
                          refine R_goto 35 rfl rfl ?_
                          exact RUN_weak (psub_cons rfl (psub_cons rfl (psub_cons rfl (psub_cons rfl (psub_cons rfl (psub_nil _)))))) (ih18 h231 x240 x241 hI fr fl15 (by omega) (by omega) (by omega) (by omega) trivial (by omega) (by omega))
                  · refine R_aload_n (k := 0) rfl rfl rfl ?_
                    refine R_getf_r (j := 3) rfl ft_2_22 sh_70 rfl ?_
                    refine R_iload (k := 4) rfl rfl ?_
                    refine R_dup2 rfl ?_
                    refine R_iald rfl sh_74 ⟨by omega, by omega⟩ ?_
                    refine N_any (fun x243 => ?_)
                    refine R_iconst 1 rfl rfl ?_
                    have b244 := i_rng x243
                    refine R_iadd rfl ?_
                    refine N_any (fun x245 => ?_)
                    refine K_iast (a := x17.toInt) (lo := (-2147483648)) (hi' := 2147483647) rfl sh_74 rfl ⟨by omega, by omega⟩ hI (by decide) rfl (i_rng _) fr (by decide) (fun h246 g247 hI fr => ?_)
                    have fl15 : FR [70, 74] h h246 := by rw [g247]; exact FR_wI _ _ fl15 (by decide)
                    have s248 : (h246.1 70 5).toInt = (h14.1 70 5).toInt := by rw [g247, wI_ne _ _ _ (by decide)]
                    have s249 : (h246.1 70 9).toInt = (h14.1 70 9).toInt := by rw [g247, wI_ne _ _ _ (by decide)]
                    have s250 : (h246.1 70 7).toInt = (h14.1 70 7).toInt := by rw [g247, wI_ne _ _ _ (by decide)]
                    have s251 : (h246.1 70 4).toInt = (h14.1 70 4).toInt := by rw [g247, wI_ne _ _ _ (by decide)]
                    refine R_goto 125 rfl rfl ?_
                    refine N_iinc (a := x17.toInt) (c := (-1)) (fun w => [(4, .inl w), (3, .inl x16), (0, .inr (.inr (.inl 70))), (1, .inl a0), (2, .inl a1)]) rfl rfl (fun _ => rfl) (by decide) rfl (by decide) (by omega) (fun x252 q253 => ?_)
                    refine R_goto 35 rfl rfl ?_
                    exact RUN_weak (psub_cons rfl (psub_cons rfl (psub_cons rfl (psub_cons rfl (psub_cons rfl (psub_nil _)))))) (ih18 h246 x16 x252 hI fr fl15 (by omega) (by omega) (by omega) (by omega) trivial (by omega) (by omega))
                · exfalso; omega
              · show RUN d_X2_step 61 [(4, .inl x17), (3, .inl x16), (0, .inr (.inr (.inl 70))), (1, .inl a0), (2, .inl a1)] [.inl x198] h14 _
                refine N_if_eq (a := x198.toInt) 67 rfl rfl rfl (fun c254 => ?_) (fun c254 => ?_)
                · exfalso; omega
                · refine R_goto 125 rfl rfl ?_
                  refine N_iinc (a := x17.toInt) (c := (-1)) (fun w => [(4, .inl w), (3, .inl x16), (0, .inr (.inr (.inl 70))), (1, .inl a0), (2, .inl a1)]) rfl rfl (fun _ => rfl) (by decide) rfl (by decide) (by omega) (fun x255 q256 => ?_)
                  refine R_goto 35 rfl rfl ?_
                  exact RUN_weak (psub_cons rfl (psub_cons rfl (psub_cons rfl (psub_cons rfl (psub_cons rfl (psub_nil _)))))) (ih18 h14 x16 x255 hI fr fl15 (by omega) (by omega) (by omega) (by omega) trivial (by omega) (by omega))
      have k257 : (0 : Int32).toInt = 0 := by decide
      exact lp13 _ h (0 : Int32) x10 hI fr (FR.rf _ _) (by omega) rfl rfl rfl trivial (by omega) (Nat.lt_succ_self _)
    · exfalso; omega
  · show RUN d_X2_step 12 [(0, .inr (.inr (.inl 70))), (1, .inl a0), (2, .inl a1)] [.inl x6] h _
    refine N_if_eq (a := x6.toInt) 25 rfl rfl rfl (fun c258 => ?_) (fun c258 => ?_)
    · exfalso; omega
    · refine R_aload_n (k := 0) rfl rfl rfl ?_
      refine R_dup_r rfl ?_
      refine R_getf_i (j := 8) rfl ft_2_38 sh_70 rfl ?_
      refine R_iconst 1 rfl rfl ?_
      have b259 := i_rng (h.1 70 8)
      refine R_iadd rfl ?_
      refine N_any (fun x260 => ?_)
      refine K_putf (j := 8) (lo := (-2147483648)) (hi' := 2147483647) rfl ft_2_38 sh_70 rfl hI (by decide) rfl (i_rng _) fr (by decide) (fun h261 g262 hI fr => ?_)
      have s263 : (h261.1 70 5).toInt = (h.1 70 5).toInt := by rw [g262, wI_at (by decide)]
      have s264 : (h261.1 70 9).toInt = (h.1 70 9).toInt := by rw [g262, wI_at (by decide)]
      have s265 : (h261.1 70 7).toInt = (h.1 70 7).toInt := by rw [g262, wI_at (by decide)]
      have s266 : (h261.1 70 8).toInt = x260.toInt := by rw [g262, wI_is]
      refine R_iconst 0 rfl rfl ?_
      refine R_istore_n (k := 3) rfl [(3, .inl 0), (0, .inr (.inr (.inl 70))), (1, .inl a0), (2, .inl a1)] rfl rfl (by decide) ?_
      refine R_aload_n (k := 0) rfl rfl rfl ?_
      refine R_getf_i (j := 4) rfl ft_2_25 sh_70 rfl ?_
      have b267 : (0 : Int) ≤ (h261.1 70 4).toInt ∧ (h261.1 70 4).toInt ≤ 6 := hI.1 70 4
      refine R_iconst 1 rfl rfl ?_
      refine N_isub (a := (h261.1 70 4).toInt) (b := 1) rfl rfl (by decide) (by omega) (fun x268 q269 => ?_)
      refine R_istore (k := 4) [(4, .inl x268), (3, .inl 0), (0, .inr (.inr (.inl 70))), (1, .inl a0), (2, .inl a1)] rfl rfl (by decide) ?_
      have lp271 : ∀ (n270 : Nat) (h272 : PH) (x274 : Int32) (x275 : Int32), INV h272 → FR [70, 74] h h272 → FR [70, 74] h261 h272 → (-1) ≤ x275.toInt ∧ x275.toInt ≤ 5 → (h272.1 70 5).toInt = (h261.1 70 5).toInt → (h272.1 70 7).toInt = (h261.1 70 7).toInt → (h272.1 70 4).toInt = (h261.1 70 4).toInt → True → True → x275.toInt ≤ (h261.1 70 4).toInt + (-1) → (x275.toInt - (-1)).toNat < n270 → RUN d_X2_step 35 [(4, .inl x275), (3, .inl x274), (0, .inr (.inr (.inl 70))), (1, .inl a0), (2, .inl a1)] [] h272 (q_X2_step h a0 a1) := by
        intro n270
        induction n270 with
        | zero => intro h272 x274 x275 m277 m278 m279 m280 m281 m282 m283 m284 m285 m286 hz; exact absurd hz (Nat.not_lt_zero _)
        | succ n270 ih276 =>
          intro h272 x274 x275 hI fr fl273 m280 m281 m282 m283 m284 m285 m286 hz
          refine R_iload (k := 4) rfl rfl ?_
          refine N_if_lt (a := x275.toInt) 131 rfl rfl rfl (fun c287 => ?_) (fun c287 => ?_)
          · refine R_aload_n (k := 0) rfl rfl rfl ?_
            refine R_getf_i (j := 4) rfl ft_2_25 sh_70 rfl ?_
            refine N_if_le (a := (h272.1 70 4).toInt) 184 rfl rfl rfl (fun c288 => ?_) (fun c288 => ?_)
            · refine R_aload_n (k := 0) rfl rfl rfl ?_
              refine R_aload_n (k := 0) rfl rfl rfl ?_
              refine R_getf_i (j := 9) rfl ft_2_41 sh_70 rfl ?_
              refine R_iconst 1 rfl rfl ?_
              refine R_ishl rfl ?_
              refine N_any (fun x289 => ?_)
              refine R_iconst 2 rfl rfl ?_
              refine R_aload_n (k := 0) rfl rfl rfl ?_
              refine R_getf_i (j := 7) rfl ft_2_35 sh_70 rfl ?_
              refine R_ishl rfl ?_
              refine N_any (fun x290 => ?_)
              refine R_iconst 1 rfl rfl ?_
              have b291 := i_rng x290
              refine R_isub rfl ?_
              refine N_any (fun x292 => ?_)
              refine R_iand rfl ?_
              refine N_any (fun x293 => ?_)
              refine K_putf (j := 9) (lo := (-2147483648)) (hi' := 2147483647) rfl ft_2_41 sh_70 rfl hI (by decide) rfl (i_rng _) fr (by decide) (fun h294 g295 hI fr => ?_)
              have fl273 : FR [70, 74] h261 h294 := by rw [g295]; exact FR_wI _ _ fl273 (by decide)
              have s296 : (h294.1 70 5).toInt = (h272.1 70 5).toInt := by rw [g295, wI_at (by decide)]
              have s297 : (h294.1 70 7).toInt = (h272.1 70 7).toInt := by rw [g295, wI_at (by decide)]
              have s298 : (h294.1 70 8).toInt = (h272.1 70 8).toInt := by rw [g295, wI_at (by decide)]
              have s299 : (h294.1 70 4).toInt = (h272.1 70 4).toInt := by rw [g295, wI_at (by decide)]
              have s300 : (h294.1 70 9).toInt = x293.toInt := by rw [g295, wI_is]
              refine R_aload_n (k := 0) rfl rfl rfl ?_
              refine R_iload_n (k := 3) rfl rfl rfl ?_
              refine R_callV (v := .inr (.inr (.inl 70))) (As := [.inl x274]) (rest := []) rfl mt_2_i77 pp_X2_isThrow (by decide) rfl rfl rfl (Nat.le_of_ble_eq_true rfl) (Nat.le_of_ble_eq_true rfl) ((k_X2_isThrow h294 hI x274).mono (fun r301 h302 p303 => ?_))
              obtain ⟨rfl, x304, rfl, q305 | q305 | q305⟩ := p303
              · show RUN d_X2_step 208 [(4, .inl x275), (3, .inl x274), (0, .inr (.inr (.inl 70))), (1, .inl a0), (2, .inl a1)] [.inl x304] h294 _
                refine N_if_eq (a := x304.toInt) 221 rfl rfl rfl (fun c306 => ?_) (fun c306 => ?_)
                · refine R_iload_n (k := 3) rfl rfl rfl ?_
                  exact R_iret rfl rfl rfl ⟨hI, fr, ⟨by omega, trivial⟩, _, rfl, trivial⟩
                · exfalso; omega
              · exfalso; omega
              · exfalso; omega
            · refine R_aload_n (k := 0) rfl rfl rfl ?_
              refine R_getf_i (j := 8) rfl ft_2_38 sh_70 rfl ?_
              refine N_if_le (a := (h272.1 70 8).toInt) 184 rfl rfl rfl (fun c307 => ?_) (fun c307 => ?_)
              · refine R_aload_n (k := 0) rfl rfl rfl ?_
                refine R_aload_n (k := 0) rfl rfl rfl ?_
                refine R_getf_i (j := 9) rfl ft_2_41 sh_70 rfl ?_
                refine R_iconst 1 rfl rfl ?_
                refine R_ishl rfl ?_
                refine N_any (fun x308 => ?_)
                refine R_iconst 2 rfl rfl ?_
                refine R_aload_n (k := 0) rfl rfl rfl ?_
                refine R_getf_i (j := 7) rfl ft_2_35 sh_70 rfl ?_
                refine R_ishl rfl ?_
                refine N_any (fun x309 => ?_)
                refine R_iconst 1 rfl rfl ?_
                have b310 := i_rng x309
                refine R_isub rfl ?_
                refine N_any (fun x311 => ?_)
                refine R_iand rfl ?_
                refine N_any (fun x312 => ?_)
                refine K_putf (j := 9) (lo := (-2147483648)) (hi' := 2147483647) rfl ft_2_41 sh_70 rfl hI (by decide) rfl (i_rng _) fr (by decide) (fun h313 g314 hI fr => ?_)
                have fl273 : FR [70, 74] h261 h313 := by rw [g314]; exact FR_wI _ _ fl273 (by decide)
                have s315 : (h313.1 70 5).toInt = (h272.1 70 5).toInt := by rw [g314, wI_at (by decide)]
                have s316 : (h313.1 70 7).toInt = (h272.1 70 7).toInt := by rw [g314, wI_at (by decide)]
                have s317 : (h313.1 70 8).toInt = (h272.1 70 8).toInt := by rw [g314, wI_at (by decide)]
                have s318 : (h313.1 70 4).toInt = (h272.1 70 4).toInt := by rw [g314, wI_at (by decide)]
                have s319 : (h313.1 70 9).toInt = x312.toInt := by rw [g314, wI_is]
                refine R_aload_n (k := 0) rfl rfl rfl ?_
                refine R_iload_n (k := 3) rfl rfl rfl ?_
                refine R_callV (v := .inr (.inr (.inl 70))) (As := [.inl x274]) (rest := []) rfl mt_2_i77 pp_X2_isThrow (by decide) rfl rfl rfl (Nat.le_of_ble_eq_true rfl) (Nat.le_of_ble_eq_true rfl) ((k_X2_isThrow h313 hI x274).mono (fun r320 h321 p322 => ?_))
                obtain ⟨rfl, x323, rfl, q324 | q324 | q324⟩ := p322
                · exfalso; omega
                · show RUN d_X2_step 208 [(4, .inl x275), (3, .inl x274), (0, .inr (.inr (.inl 70))), (1, .inl a0), (2, .inl a1)] [.inl x323] h313 _
                  refine N_if_eq (a := x323.toInt) 221 rfl rfl rfl (fun c325 => ?_) (fun c325 => ?_)
                  · refine R_iload_n (k := 3) rfl rfl rfl ?_
                    exact R_iret rfl rfl rfl ⟨hI, fr, ⟨by omega, trivial⟩, _, rfl, trivial⟩
                  · exfalso; omega
                · show RUN d_X2_step 208 [(4, .inl x275), (3, .inl x274), (0, .inr (.inr (.inl 70))), (1, .inl a0), (2, .inl a1)] [.inl x323] h313 _
                  refine N_if_eq (a := x323.toInt) 221 rfl rfl rfl (fun c326 => ?_) (fun c326 => ?_)
                  · exfalso; omega
                  · refine R_aload_n (k := 0) rfl rfl rfl ?_
                    refine R_dup_r rfl ?_
                    refine R_getf_i (j := 9) rfl ft_2_41 sh_70 rfl ?_
                    refine R_iconst 1 rfl rfl ?_
                    refine R_ior rfl ?_
                    refine N_any (fun x327 => ?_)
                    refine K_putf (j := 9) (lo := (-2147483648)) (hi' := 2147483647) rfl ft_2_41 sh_70 rfl hI (by decide) rfl (i_rng _) fr (by decide) (fun h328 g329 hI fr => ?_)
                    have fl273 : FR [70, 74] h261 h328 := by rw [g329]; exact FR_wI _ _ fl273 (by decide)
                    have s330 : (h328.1 70 5).toInt = (h313.1 70 5).toInt := by rw [g329, wI_at (by decide)]
                    have s331 : (h328.1 70 7).toInt = (h313.1 70 7).toInt := by rw [g329, wI_at (by decide)]
                    have s332 : (h328.1 70 8).toInt = (h313.1 70 8).toInt := by rw [g329, wI_at (by decide)]
                    have s333 : (h328.1 70 4).toInt = (h313.1 70 4).toInt := by rw [g329, wI_at (by decide)]
                    have s334 : (h328.1 70 9).toInt = x327.toInt := by rw [g329, wI_is]
                    refine R_iload_n (k := 3) rfl rfl rfl ?_
                    exact R_iret rfl rfl rfl ⟨hI, fr, ⟨by omega, trivial⟩, _, rfl, trivial⟩
              · refine R_aload_n (k := 0) rfl rfl rfl ?_
                refine R_getf_r (j := 3) rfl ft_2_22 sh_70 rfl ?_
                refine R_iconst 0 rfl rfl ?_
                refine R_iald rfl sh_74 (by decide) ?_
                show RUN d_X2_step 151 [(4, .inl x275), (3, .inl x274), (0, .inr (.inr (.inl 70))), (1, .inl a0), (2, .inl a1)] [.inl (h272.1 74 0)] h272 _
                refine N_if_ne (a := (h272.1 74 0).toInt) 184 rfl rfl rfl (fun c335 => ?_) (fun c335 => ?_)
                · refine R_aload_n (k := 0) rfl rfl rfl ?_
                  refine R_aload_n (k := 0) rfl rfl rfl ?_
                  refine R_getf_i (j := 9) rfl ft_2_41 sh_70 rfl ?_
                  refine R_iconst 1 rfl rfl ?_
                  refine R_ishl rfl ?_
                  refine N_any (fun x336 => ?_)
                  refine R_iconst 2 rfl rfl ?_
                  refine R_aload_n (k := 0) rfl rfl rfl ?_
                  refine R_getf_i (j := 7) rfl ft_2_35 sh_70 rfl ?_
                  refine R_ishl rfl ?_
                  refine N_any (fun x337 => ?_)
                  refine R_iconst 1 rfl rfl ?_
                  have b338 := i_rng x337
                  refine R_isub rfl ?_
                  refine N_any (fun x339 => ?_)
                  refine R_iand rfl ?_
                  refine N_any (fun x340 => ?_)
                  refine K_putf (j := 9) (lo := (-2147483648)) (hi' := 2147483647) rfl ft_2_41 sh_70 rfl hI (by decide) rfl (i_rng _) fr (by decide) (fun h341 g342 hI fr => ?_)
                  have fl273 : FR [70, 74] h261 h341 := by rw [g342]; exact FR_wI _ _ fl273 (by decide)
                  have s343 : (h341.1 70 5).toInt = (h272.1 70 5).toInt := by rw [g342, wI_at (by decide)]
                  have s344 : (h341.1 70 7).toInt = (h272.1 70 7).toInt := by rw [g342, wI_at (by decide)]
                  have s345 : (h341.1 70 8).toInt = (h272.1 70 8).toInt := by rw [g342, wI_at (by decide)]
                  have s346 : (h341.1 70 4).toInt = (h272.1 70 4).toInt := by rw [g342, wI_at (by decide)]
                  have s347 : (h341.1 74 0).toInt = (h272.1 74 0).toInt := by rw [g342, wI_ne _ _ _ (by decide)]
                  have s348 : (h341.1 70 9).toInt = x340.toInt := by rw [g342, wI_is]
                  refine R_aload_n (k := 0) rfl rfl rfl ?_
                  refine R_iload_n (k := 3) rfl rfl rfl ?_
                  refine R_callV (v := .inr (.inr (.inl 70))) (As := [.inl x274]) (rest := []) rfl mt_2_i77 pp_X2_isThrow (by decide) rfl rfl rfl (Nat.le_of_ble_eq_true rfl) (Nat.le_of_ble_eq_true rfl) ((k_X2_isThrow h341 hI x274).mono (fun r349 h350 p351 => ?_))
                  obtain ⟨rfl, x352, rfl, q353 | q353 | q353⟩ := p351
                  · exfalso; omega
                  · show RUN d_X2_step 208 [(4, .inl x275), (3, .inl x274), (0, .inr (.inr (.inl 70))), (1, .inl a0), (2, .inl a1)] [.inl x352] h341 _
                    refine N_if_eq (a := x352.toInt) 221 rfl rfl rfl (fun c354 => ?_) (fun c354 => ?_)
                    · refine R_iload_n (k := 3) rfl rfl rfl ?_
                      exact R_iret rfl rfl rfl ⟨hI, fr, ⟨by omega, trivial⟩, _, rfl, trivial⟩
                    · exfalso; omega
                  · show RUN d_X2_step 208 [(4, .inl x275), (3, .inl x274), (0, .inr (.inr (.inl 70))), (1, .inl a0), (2, .inl a1)] [.inl x352] h341 _
                    refine N_if_eq (a := x352.toInt) 221 rfl rfl rfl (fun c355 => ?_) (fun c355 => ?_)
                    · exfalso; omega
                    · refine R_aload_n (k := 0) rfl rfl rfl ?_
                      refine R_dup_r rfl ?_
                      refine R_getf_i (j := 9) rfl ft_2_41 sh_70 rfl ?_
                      refine R_iconst 1 rfl rfl ?_
                      refine R_ior rfl ?_
                      refine N_any (fun x356 => ?_)
                      refine K_putf (j := 9) (lo := (-2147483648)) (hi' := 2147483647) rfl ft_2_41 sh_70 rfl hI (by decide) rfl (i_rng _) fr (by decide) (fun h357 g358 hI fr => ?_)
                      have fl273 : FR [70, 74] h261 h357 := by rw [g358]; exact FR_wI _ _ fl273 (by decide)
                      have s359 : (h357.1 70 5).toInt = (h341.1 70 5).toInt := by rw [g358, wI_at (by decide)]
                      have s360 : (h357.1 70 7).toInt = (h341.1 70 7).toInt := by rw [g358, wI_at (by decide)]
                      have s361 : (h357.1 70 8).toInt = (h341.1 70 8).toInt := by rw [g358, wI_at (by decide)]
                      have s362 : (h357.1 70 4).toInt = (h341.1 70 4).toInt := by rw [g358, wI_at (by decide)]
                      have s363 : (h357.1 74 0).toInt = (h341.1 74 0).toInt := by rw [g358, wI_ne _ _ _ (by decide)]
                      have s364 : (h357.1 70 9).toInt = x356.toInt := by rw [g358, wI_is]
                      refine R_iload_n (k := 3) rfl rfl rfl ?_
                      exact R_iret rfl rfl rfl ⟨hI, fr, ⟨by omega, trivial⟩, _, rfl, trivial⟩
                · refine R_aload_n (k := 0) rfl rfl rfl ?_
                  refine R_getf_r (j := 2) rfl ft_2_18 sh_70 rfl ?_
                  refine R_iconst 0 rfl rfl ?_
                  refine R_lald rfl sh_73 (by decide) ?_
                  refine N_anyL (fun w365 => ?_)
                  refine R_iload_n (k := 1) rfl rfl rfl ?_
                  refine R_callS (As := [.inr (.inl w365), .inl a0]) (rest := []) rfl mt_2_i69 (by decide) pp_X8_hasBit (by decide) rfl rfl (Nat.le_of_ble_eq_true rfl) (Nat.le_of_ble_eq_true rfl) ((k_X8_hasBit h272 hI w365 a0).mono (fun r366 h367 p368 => ?_))
                  obtain ⟨rfl, x369, rfl, q370 | q370⟩ := p368
                  · show RUN d_X2_step 164 [(4, .inl x275), (3, .inl x274), (0, .inr (.inr (.inl 70))), (1, .inl a0), (2, .inl a1)] [.inl x369] h272 _
                    refine N_if_ne (a := x369.toInt) 184 rfl rfl rfl (fun c371 => ?_) (fun c371 => ?_)
                    · exfalso; omega
                    · refine R_aload_n (k := 0) rfl rfl rfl ?_
                      refine R_dup_r rfl ?_
                      refine R_getf_i (j := 8) rfl ft_2_38 sh_70 rfl ?_
                      refine R_iconst 1 rfl rfl ?_
                      have b372 := i_rng (h272.1 70 8)
                      refine N_isub (a := (h272.1 70 8).toInt) (b := 1) rfl rfl (by decide) (by omega) (fun x373 q374 => ?_)
                      refine K_putf (j := 8) (lo := (-2147483648)) (hi' := 2147483647) rfl ft_2_38 sh_70 rfl hI (by decide) rfl (i_rng _) fr (by decide) (fun h375 g376 hI fr => ?_)
                      have fl273 : FR [70, 74] h261 h375 := by rw [g376]; exact FR_wI _ _ fl273 (by decide)
                      have s377 : (h375.1 70 5).toInt = (h272.1 70 5).toInt := by rw [g376, wI_at (by decide)]
                      have s378 : (h375.1 70 9).toInt = (h272.1 70 9).toInt := by rw [g376, wI_at (by decide)]
                      have s379 : (h375.1 70 7).toInt = (h272.1 70 7).toInt := by rw [g376, wI_at (by decide)]
                      have s380 : (h375.1 70 4).toInt = (h272.1 70 4).toInt := by rw [g376, wI_at (by decide)]
                      have s381 : (h375.1 74 0).toInt = (h272.1 74 0).toInt := by rw [g376, wI_ne _ _ _ (by decide)]
                      have s382 : (h375.1 70 8).toInt = x373.toInt := by rw [g376, wI_is]
                      refine R_aload_n (k := 0) rfl rfl rfl ?_
                      refine R_getf_r (j := 3) rfl ft_2_22 sh_70 rfl ?_
                      refine R_iconst 0 rfl rfl ?_
                      refine R_iconst 1 rfl rfl ?_
                      refine K_iast (a := 0) (lo := (-2147483648)) (hi' := 2147483647) rfl sh_74 (by decide) (by decide) hI (by decide) rfl (by decide) fr (by decide) (fun h383 g384 hI fr => ?_)
                      have fl273 : FR [70, 74] h261 h383 := by rw [g384]; exact FR_wI _ _ fl273 (by decide)
                      have s385 : (h383.1 70 5).toInt = (h375.1 70 5).toInt := by rw [g384, wI_ne _ _ _ (by decide)]
                      have s386 : (h383.1 70 9).toInt = (h375.1 70 9).toInt := by rw [g384, wI_ne _ _ _ (by decide)]
                      have s387 : (h383.1 70 7).toInt = (h375.1 70 7).toInt := by rw [g384, wI_ne _ _ _ (by decide)]
                      have s388 : (h383.1 70 4).toInt = (h375.1 70 4).toInt := by rw [g384, wI_ne _ _ _ (by decide)]
                      have s389 : (h383.1 70 8).toInt = (h375.1 70 8).toInt := by rw [g384, wI_ne _ _ _ (by decide)]
                      have s390 : (h383.1 74 0).toInt = 1 := by rw [g384, show (0 : Int32).toNatClampNeg = 0 from rfl, wI_is]; rfl
                      refine R_aload_n (k := 0) rfl rfl rfl ?_
                      refine R_aload_n (k := 0) rfl rfl rfl ?_
                      refine R_getf_i (j := 9) rfl ft_2_41 sh_70 rfl ?_
                      refine R_iconst 1 rfl rfl ?_
                      refine R_ishl rfl ?_
                      refine N_any (fun x391 => ?_)
                      refine R_iconst 2 rfl rfl ?_
                      refine R_aload_n (k := 0) rfl rfl rfl ?_
                      refine R_getf_i (j := 7) rfl ft_2_35 sh_70 rfl ?_
                      refine R_ishl rfl ?_
                      refine N_any (fun x392 => ?_)
                      refine R_iconst 1 rfl rfl ?_
                      have b393 := i_rng x392
                      refine R_isub rfl ?_
                      refine N_any (fun x394 => ?_)
                      refine R_iand rfl ?_
                      refine N_any (fun x395 => ?_)
                      refine K_putf (j := 9) (lo := (-2147483648)) (hi' := 2147483647) rfl ft_2_41 sh_70 rfl hI (by decide) rfl (i_rng _) fr (by decide) (fun h396 g397 hI fr => ?_)
                      have fl273 : FR [70, 74] h261 h396 := by rw [g397]; exact FR_wI _ _ fl273 (by decide)
                      have s398 : (h396.1 70 5).toInt = (h383.1 70 5).toInt := by rw [g397, wI_at (by decide)]
                      have s399 : (h396.1 70 7).toInt = (h383.1 70 7).toInt := by rw [g397, wI_at (by decide)]
                      have s400 : (h396.1 70 4).toInt = (h383.1 70 4).toInt := by rw [g397, wI_at (by decide)]
                      have s401 : (h396.1 70 8).toInt = (h383.1 70 8).toInt := by rw [g397, wI_at (by decide)]
                      have s402 : (h396.1 74 0).toInt = (h383.1 74 0).toInt := by rw [g397, wI_ne _ _ _ (by decide)]
                      have s403 : (h396.1 70 9).toInt = x395.toInt := by rw [g397, wI_is]
                      refine R_aload_n (k := 0) rfl rfl rfl ?_
                      refine R_iload_n (k := 3) rfl rfl rfl ?_
                      refine R_callV (v := .inr (.inr (.inl 70))) (As := [.inl x274]) (rest := []) rfl mt_2_i77 pp_X2_isThrow (by decide) rfl rfl rfl (Nat.le_of_ble_eq_true rfl) (Nat.le_of_ble_eq_true rfl) ((k_X2_isThrow h396 hI x274).mono (fun r404 h405 p406 => ?_))
                      obtain ⟨rfl, x407, rfl, q408 | q408 | q408⟩ := p406
                      · exfalso; omega
                      · show RUN d_X2_step 208 [(4, .inl x275), (3, .inl x274), (0, .inr (.inr (.inl 70))), (1, .inl a0), (2, .inl a1)] [.inl x407] h396 _
                        refine N_if_eq (a := x407.toInt) 221 rfl rfl rfl (fun c409 => ?_) (fun c409 => ?_)
                        · refine R_iload_n (k := 3) rfl rfl rfl ?_
                          exact R_iret rfl rfl rfl ⟨hI, fr, ⟨by omega, trivial⟩, _, rfl, trivial⟩
                        · exfalso; omega
                      · show RUN d_X2_step 208 [(4, .inl x275), (3, .inl x274), (0, .inr (.inr (.inl 70))), (1, .inl a0), (2, .inl a1)] [.inl x407] h396 _
                        refine N_if_eq (a := x407.toInt) 221 rfl rfl rfl (fun c410 => ?_) (fun c410 => ?_)
                        · exfalso; omega
                        · refine R_aload_n (k := 0) rfl rfl rfl ?_
                          refine R_dup_r rfl ?_
                          refine R_getf_i (j := 9) rfl ft_2_41 sh_70 rfl ?_
                          refine R_iconst 1 rfl rfl ?_
                          refine R_ior rfl ?_
                          refine N_any (fun x411 => ?_)
                          refine K_putf (j := 9) (lo := (-2147483648)) (hi' := 2147483647) rfl ft_2_41 sh_70 rfl hI (by decide) rfl (i_rng _) fr (by decide) (fun h412 g413 hI fr => ?_)
                          have fl273 : FR [70, 74] h261 h412 := by rw [g413]; exact FR_wI _ _ fl273 (by decide)
                          have s414 : (h412.1 70 5).toInt = (h396.1 70 5).toInt := by rw [g413, wI_at (by decide)]
                          have s415 : (h412.1 70 7).toInt = (h396.1 70 7).toInt := by rw [g413, wI_at (by decide)]
                          have s416 : (h412.1 70 4).toInt = (h396.1 70 4).toInt := by rw [g413, wI_at (by decide)]
                          have s417 : (h412.1 70 8).toInt = (h396.1 70 8).toInt := by rw [g413, wI_at (by decide)]
                          have s418 : (h412.1 74 0).toInt = (h396.1 74 0).toInt := by rw [g413, wI_ne _ _ _ (by decide)]
                          have s419 : (h412.1 70 9).toInt = x411.toInt := by rw [g413, wI_is]
                          refine R_iload_n (k := 3) rfl rfl rfl ?_
                          exact R_iret rfl rfl rfl ⟨hI, fr, ⟨by omega, trivial⟩, _, rfl, trivial⟩
                  · show RUN d_X2_step 164 [(4, .inl x275), (3, .inl x274), (0, .inr (.inr (.inl 70))), (1, .inl a0), (2, .inl a1)] [.inl x369] h272 _
                    refine N_if_ne (a := x369.toInt) 184 rfl rfl rfl (fun c420 => ?_) (fun c420 => ?_)
                    · refine R_aload_n (k := 0) rfl rfl rfl ?_
                      refine R_aload_n (k := 0) rfl rfl rfl ?_
                      refine R_getf_i (j := 9) rfl ft_2_41 sh_70 rfl ?_
                      refine R_iconst 1 rfl rfl ?_
                      refine R_ishl rfl ?_
                      refine N_any (fun x421 => ?_)
                      refine R_iconst 2 rfl rfl ?_
                      refine R_aload_n (k := 0) rfl rfl rfl ?_
                      refine R_getf_i (j := 7) rfl ft_2_35 sh_70 rfl ?_
                      refine R_ishl rfl ?_
                      refine N_any (fun x422 => ?_)
                      refine R_iconst 1 rfl rfl ?_
                      have b423 := i_rng x422
                      refine R_isub rfl ?_
                      refine N_any (fun x424 => ?_)
                      refine R_iand rfl ?_
                      refine N_any (fun x425 => ?_)
                      refine K_putf (j := 9) (lo := (-2147483648)) (hi' := 2147483647) rfl ft_2_41 sh_70 rfl hI (by decide) rfl (i_rng _) fr (by decide) (fun h426 g427 hI fr => ?_)
                      have fl273 : FR [70, 74] h261 h426 := by rw [g427]; exact FR_wI _ _ fl273 (by decide)
                      have s428 : (h426.1 70 5).toInt = (h272.1 70 5).toInt := by rw [g427, wI_at (by decide)]
                      have s429 : (h426.1 70 7).toInt = (h272.1 70 7).toInt := by rw [g427, wI_at (by decide)]
                      have s430 : (h426.1 70 8).toInt = (h272.1 70 8).toInt := by rw [g427, wI_at (by decide)]
                      have s431 : (h426.1 70 4).toInt = (h272.1 70 4).toInt := by rw [g427, wI_at (by decide)]
                      have s432 : (h426.1 74 0).toInt = (h272.1 74 0).toInt := by rw [g427, wI_ne _ _ _ (by decide)]
                      have s433 : (h426.1 70 9).toInt = x425.toInt := by rw [g427, wI_is]
                      refine R_aload_n (k := 0) rfl rfl rfl ?_
                      refine R_iload_n (k := 3) rfl rfl rfl ?_
                      refine R_callV (v := .inr (.inr (.inl 70))) (As := [.inl x274]) (rest := []) rfl mt_2_i77 pp_X2_isThrow (by decide) rfl rfl rfl (Nat.le_of_ble_eq_true rfl) (Nat.le_of_ble_eq_true rfl) ((k_X2_isThrow h426 hI x274).mono (fun r434 h435 p436 => ?_))
                      obtain ⟨rfl, x437, rfl, q438 | q438 | q438⟩ := p436
                      · exfalso; omega
                      · show RUN d_X2_step 208 [(4, .inl x275), (3, .inl x274), (0, .inr (.inr (.inl 70))), (1, .inl a0), (2, .inl a1)] [.inl x437] h426 _
                        refine N_if_eq (a := x437.toInt) 221 rfl rfl rfl (fun c439 => ?_) (fun c439 => ?_)
                        · refine R_iload_n (k := 3) rfl rfl rfl ?_
                          exact R_iret rfl rfl rfl ⟨hI, fr, ⟨by omega, trivial⟩, _, rfl, trivial⟩
                        · exfalso; omega
                      · show RUN d_X2_step 208 [(4, .inl x275), (3, .inl x274), (0, .inr (.inr (.inl 70))), (1, .inl a0), (2, .inl a1)] [.inl x437] h426 _
                        refine N_if_eq (a := x437.toInt) 221 rfl rfl rfl (fun c440 => ?_) (fun c440 => ?_)
                        · exfalso; omega
                        · refine R_aload_n (k := 0) rfl rfl rfl ?_
                          refine R_dup_r rfl ?_
                          refine R_getf_i (j := 9) rfl ft_2_41 sh_70 rfl ?_
                          refine R_iconst 1 rfl rfl ?_
                          refine R_ior rfl ?_
                          refine N_any (fun x441 => ?_)
                          refine K_putf (j := 9) (lo := (-2147483648)) (hi' := 2147483647) rfl ft_2_41 sh_70 rfl hI (by decide) rfl (i_rng _) fr (by decide) (fun h442 g443 hI fr => ?_)
                          have fl273 : FR [70, 74] h261 h442 := by rw [g443]; exact FR_wI _ _ fl273 (by decide)
                          have s444 : (h442.1 70 5).toInt = (h426.1 70 5).toInt := by rw [g443, wI_at (by decide)]
                          have s445 : (h442.1 70 7).toInt = (h426.1 70 7).toInt := by rw [g443, wI_at (by decide)]
                          have s446 : (h442.1 70 8).toInt = (h426.1 70 8).toInt := by rw [g443, wI_at (by decide)]
                          have s447 : (h442.1 70 4).toInt = (h426.1 70 4).toInt := by rw [g443, wI_at (by decide)]
                          have s448 : (h442.1 74 0).toInt = (h426.1 74 0).toInt := by rw [g443, wI_ne _ _ _ (by decide)]
                          have s449 : (h442.1 70 9).toInt = x441.toInt := by rw [g443, wI_is]
                          refine R_iload_n (k := 3) rfl rfl rfl ?_
                          exact R_iret rfl rfl rfl ⟨hI, fr, ⟨by omega, trivial⟩, _, rfl, trivial⟩
                    · exfalso; omega
          · refine R_aload_n (k := 0) rfl rfl rfl ?_
            refine R_getf_r (j := 3) rfl ft_2_22 sh_70 rfl ?_
            refine R_iload (k := 4) rfl rfl ?_
            refine R_iald rfl sh_74 ⟨by omega, by omega⟩ ?_
            refine N_any (fun x450 => ?_)
            refine N_if_eq (a := x450.toInt) 125 rfl rfl rfl (fun c451 => ?_) (fun c451 => ?_)
            · refine N_iinc (a := x275.toInt) (c := (-1)) (fun w => [(4, .inl w), (3, .inl x274), (0, .inr (.inr (.inl 70))), (1, .inl a0), (2, .inl a1)]) rfl rfl (fun _ => rfl) (by decide) rfl (by decide) (by omega) (fun x452 q453 => ?_)
              refine R_goto 35 rfl rfl ?_
              exact RUN_weak (psub_cons rfl (psub_cons rfl (psub_cons rfl (psub_cons rfl (psub_cons rfl (psub_nil _)))))) (ih276 h272 x274 x452 hI fr fl273 (by omega) (by omega) (by omega) (by omega) trivial trivial (by omega) (by omega))
            · refine R_aload_n (k := 0) rfl rfl rfl ?_
              refine R_getf_r (j := 2) rfl ft_2_18 sh_70 rfl ?_
              refine R_iload (k := 4) rfl rfl ?_
              refine R_lald rfl sh_73 ⟨by omega, by omega⟩ ?_
              refine N_anyL (fun w454 => ?_)
              refine R_iload_n (k := 1) rfl rfl rfl ?_
              refine R_callS (As := [.inr (.inl w454), .inl a0]) (rest := []) rfl mt_2_i69 (by decide) pp_X8_hasBit (by decide) rfl rfl (Nat.le_of_ble_eq_true rfl) (Nat.le_of_ble_eq_true rfl) ((k_X8_hasBit h272 hI w454 a0).mono (fun r455 h456 p457 => ?_))
              obtain ⟨rfl, x458, rfl, q459 | q459⟩ := p457
              · show RUN d_X2_step 61 [(4, .inl x275), (3, .inl x274), (0, .inr (.inr (.inl 70))), (1, .inl a0), (2, .inl a1)] [.inl x458] h272 _
                refine N_if_eq (a := x458.toInt) 67 rfl rfl rfl (fun c460 => ?_) (fun c460 => ?_)
                · refine R_aload_n (k := 0) rfl rfl rfl ?_
                  refine R_getf_r (j := 3) rfl ft_2_22 sh_70 rfl ?_
                  refine R_iload (k := 4) rfl rfl ?_
                  refine R_iald rfl sh_74 ⟨by omega, by omega⟩ ?_
                  refine N_any (fun x461 => ?_)
                  refine R_aload_n (k := 0) rfl rfl rfl ?_
                  refine R_getf_r (j := 0) rfl ft_2_9 sh_70 rfl ?_
                  refine R_iload (k := 4) rfl rfl ?_
                  refine R_iald rfl sh_71 ⟨by omega, by omega⟩ ?_
                  refine N_any (fun x462 => ?_)
                  refine N_icmp_ge (a := x461.toInt) (b := x462.toInt) 98 rfl rfl rfl rfl (fun c463 => ?_) (fun c463 => ?_)
                  · refine R_iload_n (k := 2) rfl rfl rfl ?_
                    refine N_if_ne (a := a1.toInt) 125 rfl rfl rfl (fun c464 => ?_) (fun c464 => ?_)
                    · refine N_iinc (a := x275.toInt) (c := (-1)) (fun w => [(4, .inl w), (3, .inl x274), (0, .inr (.inr (.inl 70))), (1, .inl a0), (2, .inl a1)]) rfl rfl (fun _ => rfl) (by decide) rfl (by decide) (by omega) (fun x465 q466 => ?_)
                      refine R_goto 35 rfl rfl ?_
                      exact RUN_weak (psub_cons rfl (psub_cons rfl (psub_cons rfl (psub_cons rfl (psub_cons rfl (psub_nil _)))))) (ih276 h272 x274 x465 hI fr fl273 (by omega) (by omega) (by omega) (by omega) trivial trivial (by omega) (by omega))
                    · refine R_aload_n (k := 0) rfl rfl rfl ?_
                      refine R_iload (k := 4) rfl rfl ?_
                      refine R_iload_n (k := 1) rfl rfl rfl ?_
                      refine R_callV (v := .inr (.inr (.inl 70))) (As := [.inl x275, .inl a0]) (rest := []) rfl mt_2_i80 pp_X2_nextIsFree (by decide) rfl rfl rfl (Nat.le_of_ble_eq_true rfl) (Nat.le_of_ble_eq_true rfl) ((k_X2_nextIsFree h272 hI x275 a0 (by omega) (by omega)).mono (fun r467 h468 p469 => ?_))
                      obtain ⟨rfl, x470, rfl, q471 | q471 | q471⟩ := p469
                      · show RUN d_X2_step 109 [(4, .inl x275), (3, .inl x274), (0, .inr (.inr (.inl 70))), (1, .inl a0), (2, .inl a1)] [.inl x470] h272 _
                        refine N_if_eq (a := x470.toInt) 125 rfl rfl rfl (fun c472 => ?_) (fun c472 => ?_)
                        · exfalso; omega
                        · refine R_aload_n (k := 0) rfl rfl rfl ?_
                          refine R_iload (k := 4) rfl rfl ?_
                          refine R_callV (v := .inr (.inr (.inl 70))) (As := [.inl x275]) (rest := []) rfl mt_2_i84 pp_X2_passOn (by decide) rfl rfl rfl (Nat.le_of_ble_eq_true rfl) (Nat.le_of_ble_eq_true rfl) ((k_X2_passOn h272 hI x275 (by omega)).mono (fun r473 h474 p475 => ?_))
                          obtain ⟨hJ, fj, -, rfl⟩ := p475
                          have f476 := fj
                          have fr := fr.trans fj (by decide)
                          have hI := hJ
                          have fl273 : FR [70, 74] h261 h474 := fl273.trans fj (by decide)
                          have s477 : (h474.1 70 5).toInt = (h272.1 70 5).toInt := by rw [(f476 70 (by decide)).1]
                          have s478 : (h474.1 70 9).toInt = (h272.1 70 9).toInt := by rw [(f476 70 (by decide)).1]
                          have s479 : (h474.1 70 7).toInt = (h272.1 70 7).toInt := by rw [(f476 70 (by decide)).1]
                          have s480 : (h474.1 70 8).toInt = (h272.1 70 8).toInt := by rw [(f476 70 (by decide)).1]
                          have s481 : (h474.1 70 4).toInt = (h272.1 70 4).toInt := by rw [(f476 70 (by decide)).1]
                          show RUN d_X2_step 118 [(4, .inl x275), (3, .inl x274), (0, .inr (.inr (.inl 70))), (1, .inl a0), (2, .inl a1)] [] h474 _
                          refine R_iload_n (k := 3) rfl rfl rfl ?_
                          refine R_iconst 1 rfl rfl ?_
                          refine R_iload (k := 4) rfl rfl ?_
                          refine N_ishl1 (b := x275.toInt) rfl rfl (by omega) (fun x482 q483 => ?_)
                          refine R_ior rfl ?_
                          refine N_any (fun x484 => ?_)
                          refine R_istore_n (k := 3) rfl [(3, .inl x484), (4, .inl x275), (0, .inr (.inr (.inl 70))), (1, .inl a0), (2, .inl a1)] rfl rfl (by decide) ?_
                          refine N_iinc (a := x275.toInt) (c := (-1)) (fun w => [(4, .inl w), (3, .inl x484), (0, .inr (.inr (.inl 70))), (1, .inl a0), (2, .inl a1)]) rfl rfl (fun _ => rfl) (by decide) rfl (by decide) (by omega) (fun x485 q486 => ?_)
                          refine R_goto 35 rfl rfl ?_
                          exact RUN_weak (psub_cons rfl (psub_cons rfl (psub_cons rfl (psub_cons rfl (psub_cons rfl (psub_nil _)))))) (ih276 h474 x484 x485 hI fr fl273 (by omega) (by omega) (by omega) (by omega) trivial trivial (by omega) (by omega))
                      · show RUN d_X2_step 109 [(4, .inl x275), (3, .inl x274), (0, .inr (.inr (.inl 70))), (1, .inl a0), (2, .inl a1)] [.inl x470] h272 _
                        refine N_if_eq (a := x470.toInt) 125 rfl rfl rfl (fun c487 => ?_) (fun c487 => ?_)
                        · refine N_iinc (a := x275.toInt) (c := (-1)) (fun w => [(4, .inl w), (3, .inl x274), (0, .inr (.inr (.inl 70))), (1, .inl a0), (2, .inl a1)]) rfl rfl (fun _ => rfl) (by decide) rfl (by decide) (by omega) (fun x488 q489 => ?_)
                          refine R_goto 35 rfl rfl ?_
                          exact RUN_weak (psub_cons rfl (psub_cons rfl (psub_cons rfl (psub_cons rfl (psub_cons rfl (psub_nil _)))))) (ih276 h272 x274 x488 hI fr fl273 (by omega) (by omega) (by omega) (by omega) trivial trivial (by omega) (by omega))
                        · exfalso; omega
                      · show RUN d_X2_step 109 [(4, .inl x275), (3, .inl x274), (0, .inr (.inr (.inl 70))), (1, .inl a0), (2, .inl a1)] [.inl x470] h272 _
                        refine N_if_eq (a := x470.toInt) 125 rfl rfl rfl (fun c490 => ?_) (fun c490 => ?_)
                        · exfalso; omega
                        · refine R_aload_n (k := 0) rfl rfl rfl ?_
                          refine R_iload (k := 4) rfl rfl ?_
                          refine R_callV (v := .inr (.inr (.inl 70))) (As := [.inl x275]) (rest := []) rfl mt_2_i84 pp_X2_passOn (by decide) rfl rfl rfl (Nat.le_of_ble_eq_true rfl) (Nat.le_of_ble_eq_true rfl) ((k_X2_passOn h272 hI x275 (by omega)).mono (fun r491 h492 p493 => ?_))
                          obtain ⟨hJ, fj, -, rfl⟩ := p493
                          have f494 := fj
                          have fr := fr.trans fj (by decide)
                          have hI := hJ
                          have fl273 : FR [70, 74] h261 h492 := fl273.trans fj (by decide)
                          have s495 : (h492.1 70 5).toInt = (h272.1 70 5).toInt := by rw [(f494 70 (by decide)).1]
                          have s496 : (h492.1 70 9).toInt = (h272.1 70 9).toInt := by rw [(f494 70 (by decide)).1]
                          have s497 : (h492.1 70 7).toInt = (h272.1 70 7).toInt := by rw [(f494 70 (by decide)).1]
                          have s498 : (h492.1 70 8).toInt = (h272.1 70 8).toInt := by rw [(f494 70 (by decide)).1]
                          have s499 : (h492.1 70 4).toInt = (h272.1 70 4).toInt := by rw [(f494 70 (by decide)).1]
                          show RUN d_X2_step 118 [(4, .inl x275), (3, .inl x274), (0, .inr (.inr (.inl 70))), (1, .inl a0), (2, .inl a1)] [] h492 _
                          refine R_iload_n (k := 3) rfl rfl rfl ?_
                          refine R_iconst 1 rfl rfl ?_
                          refine R_iload (k := 4) rfl rfl ?_
                          refine N_ishl1 (b := x275.toInt) rfl rfl (by omega) (fun x500 q501 => ?_)
                          refine R_ior rfl ?_
                          refine N_any (fun x502 => ?_)
                          refine R_istore_n (k := 3) rfl [(3, .inl x502), (4, .inl x275), (0, .inr (.inr (.inl 70))), (1, .inl a0), (2, .inl a1)] rfl rfl (by decide) ?_
                          refine N_iinc (a := x275.toInt) (c := (-1)) (fun w => [(4, .inl w), (3, .inl x502), (0, .inr (.inr (.inl 70))), (1, .inl a0), (2, .inl a1)]) rfl rfl (fun _ => rfl) (by decide) rfl (by decide) (by omega) (fun x503 q504 => ?_)
                          refine R_goto 35 rfl rfl ?_
                          exact RUN_weak (psub_cons rfl (psub_cons rfl (psub_cons rfl (psub_cons rfl (psub_cons rfl (psub_nil _)))))) (ih276 h492 x502 x503 hI fr fl273 (by omega) (by omega) (by omega) (by omega) trivial trivial (by omega) (by omega))
                  · refine R_aload_n (k := 0) rfl rfl rfl ?_
                    refine R_getf_r (j := 3) rfl ft_2_22 sh_70 rfl ?_
                    refine R_iload (k := 4) rfl rfl ?_
                    refine R_dup2 rfl ?_
                    refine R_iald rfl sh_74 ⟨by omega, by omega⟩ ?_
                    refine N_any (fun x505 => ?_)
                    refine R_iconst 1 rfl rfl ?_
                    have b506 := i_rng x505
                    refine R_iadd rfl ?_
                    refine N_any (fun x507 => ?_)
                    refine K_iast (a := x275.toInt) (lo := (-2147483648)) (hi' := 2147483647) rfl sh_74 rfl ⟨by omega, by omega⟩ hI (by decide) rfl (i_rng _) fr (by decide) (fun h508 g509 hI fr => ?_)
                    have fl273 : FR [70, 74] h261 h508 := by rw [g509]; exact FR_wI _ _ fl273 (by decide)
                    have s510 : (h508.1 70 5).toInt = (h272.1 70 5).toInt := by rw [g509, wI_ne _ _ _ (by decide)]
                    have s511 : (h508.1 70 9).toInt = (h272.1 70 9).toInt := by rw [g509, wI_ne _ _ _ (by decide)]
                    have s512 : (h508.1 70 7).toInt = (h272.1 70 7).toInt := by rw [g509, wI_ne _ _ _ (by decide)]
                    have s513 : (h508.1 70 8).toInt = (h272.1 70 8).toInt := by rw [g509, wI_ne _ _ _ (by decide)]
                    have s514 : (h508.1 70 4).toInt = (h272.1 70 4).toInt := by rw [g509, wI_ne _ _ _ (by decide)]
                    refine R_goto 125 rfl rfl ?_
                    refine N_iinc (a := x275.toInt) (c := (-1)) (fun w => [(4, .inl w), (3, .inl x274), (0, .inr (.inr (.inl 70))), (1, .inl a0), (2, .inl a1)]) rfl rfl (fun _ => rfl) (by decide) rfl (by decide) (by omega) (fun x515 q516 => ?_)
                    refine R_goto 35 rfl rfl ?_
                    exact RUN_weak (psub_cons rfl (psub_cons rfl (psub_cons rfl (psub_cons rfl (psub_cons rfl (psub_nil _)))))) (ih276 h508 x274 x515 hI fr fl273 (by omega) (by omega) (by omega) (by omega) trivial trivial (by omega) (by omega))
                · exfalso; omega
              · show RUN d_X2_step 61 [(4, .inl x275), (3, .inl x274), (0, .inr (.inr (.inl 70))), (1, .inl a0), (2, .inl a1)] [.inl x458] h272 _
                refine N_if_eq (a := x458.toInt) 67 rfl rfl rfl (fun c517 => ?_) (fun c517 => ?_)
                · exfalso; omega
                · refine R_goto 125 rfl rfl ?_
                  refine N_iinc (a := x275.toInt) (c := (-1)) (fun w => [(4, .inl w), (3, .inl x274), (0, .inr (.inr (.inl 70))), (1, .inl a0), (2, .inl a1)]) rfl rfl (fun _ => rfl) (by decide) rfl (by decide) (by omega) (fun x518 q519 => ?_)
                  refine R_goto 35 rfl rfl ?_
                  exact RUN_weak (psub_cons rfl (psub_cons rfl (psub_cons rfl (psub_cons rfl (psub_cons rfl (psub_nil _)))))) (ih276 h272 x274 x518 hI fr fl273 (by omega) (by omega) (by omega) (by omega) trivial trivial (by omega) (by omega))
      have k520 : (0 : Int32).toInt = 0 := by decide
      exact lp271 _ h261 (0 : Int32) x268 hI fr (FR.rf _ _) (by omega) rfl rfl rfl trivial trivial (by omega) (Nat.lt_succ_self _)
abbrev q_X2_busyBits (h : PH)  : Option PV → PH → Prop := fun r h' => h = h' ∧ ∃ z : Int32, r = some (.inl z) ∧ ((True))
set_option maxHeartbeats 4000000 in
set_option maxRecDepth 100000 in
theorem k_X2_busyBits (h : PH) (hI : INV h)  : CALL d_X2_busyBits [.inr (.inr (.inl 70))] h (q_X2_busyBits h) := by
  show RUN d_X2_busyBits 0 [(0, .inr (.inr (.inl 70)))] [] h _
  refine R_iconst 0 rfl rfl ?_
  refine R_istore_n (k := 1) rfl [(1, .inl 0), (0, .inr (.inr (.inl 70)))] rfl rfl (by decide) ?_
  refine R_iconst 0 rfl rfl ?_
  refine R_istore_n (k := 2) rfl [(2, .inl 0), (1, .inl 0), (0, .inr (.inr (.inl 70)))] rfl rfl (by decide) ?_
  have lp2 : ∀ (n1 : Nat) (x3 : Int32) (x4 : Int32), 0 ≤ x4.toInt ∧ x4.toInt ≤ 6 → (6 - x4.toInt).toNat < n1 → RUN d_X2_busyBits 4 [(2, .inl x4), (1, .inl x3), (0, .inr (.inr (.inl 70)))] [] h (q_X2_busyBits h) := by
    intro n1
    induction n1 with
    | zero => intro x3 x4 m6 hz; exact absurd hz (Nat.not_lt_zero _)
    | succ n1 ih5 =>
      intro x3 x4 m6 hz
      refine R_iload_n (k := 2) rfl rfl rfl ?_
      refine R_aload_n (k := 0) rfl rfl rfl ?_
      refine R_getf_i (j := 4) rfl ft_2_25 sh_70 rfl ?_
      have b7 : (0 : Int) ≤ (h.1 70 4).toInt ∧ (h.1 70 4).toInt ≤ 6 := hI.1 70 4
      refine N_icmp_ge (a := x4.toInt) (b := (h.1 70 4).toInt) 33 rfl rfl rfl rfl (fun c8 => ?_) (fun c8 => ?_)
      · refine R_iload_n (k := 1) rfl rfl rfl ?_
        exact R_iret rfl rfl rfl ⟨rfl, _, rfl, trivial⟩
      · refine R_aload_n (k := 0) rfl rfl rfl ?_
        refine R_getf_r (j := 3) rfl ft_2_22 sh_70 rfl ?_
        refine R_iload_n (k := 2) rfl rfl rfl ?_
        refine R_iald rfl sh_74 ⟨by omega, by omega⟩ ?_
        refine N_any (fun x9 => ?_)
        refine N_if_le (a := x9.toInt) 27 rfl rfl rfl (fun c10 => ?_) (fun c10 => ?_)
        · refine N_iinc (a := x4.toInt) (c := 1) (fun w => [(2, .inl w), (1, .inl x3), (0, .inr (.inr (.inl 70)))]) rfl rfl (fun _ => rfl) (by decide) rfl (by decide) (by omega) (fun x11 q12 => ?_)
          refine R_goto 4 rfl rfl ?_
          exact RUN_weak (psub_cons rfl (psub_cons rfl (psub_cons rfl (psub_nil _)))) (ih5 x3 x11 (by omega) (by omega))
        · refine R_iload_n (k := 1) rfl rfl rfl ?_
          refine R_iconst 1 rfl rfl ?_
          refine R_iload_n (k := 2) rfl rfl rfl ?_
          refine N_ishl1 (b := x4.toInt) rfl rfl (by omega) (fun x13 q14 => ?_)
          refine R_ior rfl ?_
          refine N_any (fun x15 => ?_)
          refine R_istore_n (k := 1) rfl [(1, .inl x15), (2, .inl x4), (0, .inr (.inr (.inl 70)))] rfl rfl (by decide) ?_
          refine N_iinc (a := x4.toInt) (c := 1) (fun w => [(2, .inl w), (1, .inl x15), (0, .inr (.inr (.inl 70)))]) rfl rfl (fun _ => rfl) (by decide) rfl (by decide) (by omega) (fun x16 q17 => ?_)
          refine R_goto 4 rfl rfl ?_
          exact RUN_weak (psub_cons rfl (psub_cons rfl (psub_cons rfl (psub_nil _)))) (ih5 x15 x16 (by omega) (by omega))
  exact lp2 _ (0 : Int32) (0 : Int32) (by decide) (Nat.lt_succ_self _)
abbrev q_J6_bitCount_0f7a4 (h : PH) (a0 : Int32) : Option PV → PH → Prop := fun r h' => h = h' ∧ ∃ z : Int32, r = some (.inl z) ∧ ((0 ≤ z.toInt ∧ z.toInt ≤ 63))
set_option maxHeartbeats 4000000 in
set_option maxRecDepth 100000 in
theorem k_J6_bitCount_0f7a4 (h : PH) (hI : INV h) (a0 : Int32) : CALL d_J6_bitCount_0f7a4 [.inl a0] h (q_J6_bitCount_0f7a4 h a0) := by
  show RUN d_J6_bitCount_0f7a4 0 [(0, .inl a0)] [] h _
  have b1 := i_rng a0
  refine R_iload_n (k := 0) rfl rfl rfl ?_
  refine R_iload_n (k := 0) rfl rfl rfl ?_
  refine R_iconst 1 rfl rfl ?_
  refine R_iushr rfl ?_
  refine N_any (fun x2 => ?_)
  refine R_ldcw_i (x := 1431655765) rfl kt_10_265 ?_
  refine N_iand (b := 1431655765) rfl (by decide) (by omega) (fun x3 q4 => ?_)
  have b5 := i_rng a0
  refine R_isub rfl ?_
  refine N_any (fun x6 => ?_)
  refine R_istore_n (k := 0) rfl [(0, .inl x6)] rfl rfl (by decide) ?_
  refine R_iload_n (k := 0) rfl rfl rfl ?_
  refine R_ldcw_i (x := 858993459) rfl kt_10_266 ?_
  refine N_iand (b := 858993459) rfl (by decide) (by omega) (fun x7 q8 => ?_)
  refine R_iload_n (k := 0) rfl rfl rfl ?_
  refine R_iconst 2 rfl rfl ?_
  refine R_iushr rfl ?_
  refine N_any (fun x9 => ?_)
  refine R_ldcw_i (x := 858993459) rfl kt_10_266 ?_
  refine N_iand (b := 858993459) rfl (by decide) (by omega) (fun x10 q11 => ?_)
  refine N_iadd (a := x7.toInt) (b := x10.toInt) rfl rfl rfl (by omega) (fun x12 q13 => ?_)
  refine R_istore_n (k := 0) rfl [(0, .inl x12)] rfl rfl (by decide) ?_
  refine R_iload_n (k := 0) rfl rfl rfl ?_
  refine R_iload_n (k := 0) rfl rfl rfl ?_
  refine R_iconst 4 rfl rfl ?_
  refine R_iushr rfl ?_
  refine N_any (fun x14 => ?_)
  have b15 := i_rng x14
  refine R_iadd rfl ?_
  refine N_any (fun x16 => ?_)
  refine R_ldcw_i (x := 252645135) rfl kt_10_267 ?_
  refine N_iand (b := 252645135) rfl (by decide) (by omega) (fun x17 q18 => ?_)
  refine R_istore_n (k := 0) rfl [(0, .inl x17)] rfl rfl (by decide) ?_
  refine R_iload_n (k := 0) rfl rfl rfl ?_
  refine R_iload_n (k := 0) rfl rfl rfl ?_
  refine R_bipush 8 rfl rfl ?_
  refine R_iushr rfl ?_
  refine N_any (fun x19 => ?_)
  have b20 := i_rng x19
  refine R_iadd rfl ?_
  refine N_any (fun x21 => ?_)
  refine R_istore_n (k := 0) rfl [(0, .inl x21)] rfl rfl (by decide) ?_
  refine R_iload_n (k := 0) rfl rfl rfl ?_
  refine R_iload_n (k := 0) rfl rfl rfl ?_
  refine R_bipush 16 rfl rfl ?_
  refine R_iushr rfl ?_
  refine N_any (fun x22 => ?_)
  have b23 := i_rng x21
  have b24 := i_rng x22
  refine R_iadd rfl ?_
  refine N_any (fun x25 => ?_)
  refine R_istore_n (k := 0) rfl [(0, .inl x25)] rfl rfl (by decide) ?_
  refine R_iload_n (k := 0) rfl rfl rfl ?_
  refine R_bipush 63 rfl rfl ?_
  refine N_iand (b := 63) rfl (by decide) (by omega) (fun x26 q27 => ?_)
  exact R_iret rfl rfl rfl ⟨rfl, _, rfl, by omega⟩
abbrev q_X6_noteLine (h : PH) (a1 : Int32) : Option PV → PH → Prop := fun r h' => INV h' ∧ FR [76, 77, 79, 81, 82] h h' ∧ (True) ∧ r = none
set_option maxHeartbeats 4000000 in
set_option maxRecDepth 100000 in
theorem k_X6_noteLine (h : PH) (hI : INV h) (a1 : Int32) (h1a : 0 ≤ a1.toInt ∧ a1.toInt ≤ 59) : CALL d_X6_noteLine [.inr (.inr (.inl 75)), .inr (.inr (.inl 70)), .inl a1] h (q_X6_noteLine h a1) := by
  show RUN d_X6_noteLine 0 [(0, .inr (.inr (.inl 75))), (1, .inr (.inr (.inl 70))), (2, .inl a1)] [] h _
  have fr : FR [76, 77, 79, 81, 82] h h := FR.rf _ _
  refine R_iconst 0 rfl rfl ?_
  refine R_istore_n (k := 3) rfl [(3, .inl 0), (0, .inr (.inr (.inl 75))), (1, .inr (.inr (.inl 70))), (2, .inl a1)] rfl rfl (by decide) ?_
  have lp2 : ∀ (n1 : Nat) (h3 : PH) (x5 : Int32), INV h3 → FR [76, 77, 79, 81, 82] h h3 → FR [76, 77, 79, 81, 82] h h3 → 0 ≤ x5.toInt ∧ x5.toInt ≤ 6 → (6 - x5.toInt).toNat < n1 → RUN d_X6_noteLine 2 [(3, .inl x5), (0, .inr (.inr (.inl 75))), (1, .inr (.inr (.inl 70))), (2, .inl a1)] [] h3 (q_X6_noteLine h a1) := by
    intro n1
    induction n1 with
    | zero => intro h3 x5 m7 m8 m9 m10 hz; exact absurd hz (Nat.not_lt_zero _)
    | succ n1 ih6 =>
      intro h3 x5 hI fr fl4 m10 hz
      refine R_iload_n (k := 3) rfl rfl rfl ?_
      refine R_bipush 6 rfl rfl ?_
      refine N_icmp_ge (a := x5.toInt) (b := 6) 31 rfl rfl rfl (by decide) (fun c11 => ?_) (fun c11 => ?_)
      · refine R_aload_n (k := 0) rfl rfl rfl ?_
        refine R_getf_r (j := 1) rfl ft_6_15 sh_75 rfl ?_
        refine R_iload_n (k := 2) rfl rfl rfl ?_
        refine R_aload_n (k := 1) rfl rfl rfl ?_
        refine R_callV (v := .inr (.inr (.inl 70))) (As := []) (rest := [.inl a1, .inr (.inr (.inl 77))]) rfl mt_6_i86 pp_X2_busyBits (by decide) rfl rfl rfl (Nat.le_of_ble_eq_true rfl) (Nat.le_of_ble_eq_true rfl) ((k_X2_busyBits h3 hI).mono (fun r12 h13 p14 => ?_))
        obtain ⟨rfl, x15, rfl, q16⟩ := p14
        show RUN d_X6_noteLine 40 [(3, .inl x5), (0, .inr (.inr (.inl 75))), (1, .inr (.inr (.inl 70))), (2, .inl a1)] [.inl x15, .inl a1, .inr (.inr (.inl 77))] h3 _
        refine K_iast (a := a1.toInt) (lo := (-2147483648)) (hi' := 2147483647) rfl sh_77 rfl ⟨by omega, by omega⟩ hI (by decide) rfl (i_rng _) fr (by decide) (fun h17 g18 hI fr => ?_)
        have fl4 : FR [76, 77, 79, 81, 82] h h17 := by rw [g18]; exact FR_wI _ _ fl4 (by decide)
        refine R_aload_n (k := 0) rfl rfl rfl ?_
        refine R_getf_r (j := 3) rfl ft_6_21 sh_75 rfl ?_
        refine R_iload_n (k := 2) rfl rfl rfl ?_
        refine R_aload_n (k := 1) rfl rfl rfl ?_
        refine R_callV (v := .inr (.inr (.inl 70))) (As := []) (rest := [.inl a1, .inr (.inr (.inl 79))]) rfl mt_6_i70 pp_X2_readyBits (by decide) rfl rfl rfl (Nat.le_of_ble_eq_true rfl) (Nat.le_of_ble_eq_true rfl) ((k_X2_readyBits h17 hI).mono (fun r19 h20 p21 => ?_))
        obtain ⟨rfl, x22, rfl, q23⟩ := p21
        show RUN d_X6_noteLine 50 [(3, .inl x5), (0, .inr (.inr (.inl 75))), (1, .inr (.inr (.inl 70))), (2, .inl a1)] [.inl x22, .inl a1, .inr (.inr (.inl 79))] h17 _
        refine K_iast (a := a1.toInt) (lo := (-2147483648)) (hi' := 2147483647) rfl sh_79 rfl ⟨by omega, by omega⟩ hI (by decide) rfl (i_rng _) fr (by decide) (fun h24 g25 hI fr => ?_)
        have fl4 : FR [76, 77, 79, 81, 82] h h24 := by rw [g25]; exact FR_wI _ _ fl4 (by decide)
        refine R_aload_n (k := 0) rfl rfl rfl ?_
        refine R_getf_r (j := 5) rfl ft_6_27 sh_75 rfl ?_
        refine R_iload_n (k := 2) rfl rfl rfl ?_
        refine R_aload_n (k := 1) rfl rfl rfl ?_
        refine R_getf_i (j := 8) rfl ft_6_89 sh_70 rfl ?_
        refine K_iast (a := a1.toInt) (lo := (-2147483648)) (hi' := 2147483647) rfl sh_81 rfl ⟨by omega, by omega⟩ hI (by decide) rfl (i_rng _) fr (by decide) (fun h26 g27 hI fr => ?_)
        have fl4 : FR [76, 77, 79, 81, 82] h h26 := by rw [g27]; exact FR_wI _ _ fl4 (by decide)
        have s28 : (h26.1 70 8).toInt = (h24.1 70 8).toInt := by rw [g27, wI_ne _ _ _ (by decide)]
        refine R_aload_n (k := 0) rfl rfl rfl ?_
        refine R_getf_r (j := 6) rfl ft_6_30 sh_75 rfl ?_
        refine R_iload_n (k := 2) rfl rfl rfl ?_
        refine R_aload_n (k := 1) rfl rfl rfl ?_
        refine R_getf_i (j := 9) rfl ft_6_92 sh_70 rfl ?_
        refine R_callS (As := [.inl (h26.1 70 9)]) (rest := [.inl a1, .inr (.inr (.inl 82))]) rfl mt_6_i95 (by decide) pp_J6_bitCount_0f7a4 (by decide) rfl rfl (Nat.le_of_ble_eq_true rfl) (Nat.le_of_ble_eq_true rfl) ((k_J6_bitCount_0f7a4 h26 hI (h26.1 70 9)).mono (fun r29 h30 p31 => ?_))
        obtain ⟨rfl, x32, rfl, q33⟩ := p31
        show RUN d_X6_noteLine 73 [(3, .inl x5), (0, .inr (.inr (.inl 75))), (1, .inr (.inr (.inl 70))), (2, .inl a1)] [.inl x32, .inl a1, .inr (.inr (.inl 82))] h26 _
        refine K_iast (a := a1.toInt) (lo := (-2147483648)) (hi' := 2147483647) rfl sh_82 rfl ⟨by omega, by omega⟩ hI (by decide) rfl (i_rng _) fr (by decide) (fun h34 g35 hI fr => ?_)
        have fl4 : FR [76, 77, 79, 81, 82] h h34 := by rw [g35]; exact FR_wI _ _ fl4 (by decide)
        have s36 : (h34.1 70 8).toInt = (h26.1 70 8).toInt := by rw [g35, wI_ne _ _ _ (by decide)]
        have s37 : (h34.1 70 9).toInt = (h26.1 70 9).toInt := by rw [g35, wI_ne _ _ _ (by decide)]
        exact R_vret rfl rfl ⟨hI, fr, trivial, rfl⟩
      · refine R_aload_n (k := 0) rfl rfl rfl ?_
        refine R_getf_r (j := 0) rfl ft_6_9 sh_75 rfl ?_
        refine R_iload_n (k := 2) rfl rfl rfl ?_
        refine R_bipush 6 rfl rfl ?_
        refine N_imul (a := a1.toInt) (b := 6) rfl rfl (by decide) (by omega) (fun x38 q39 => ?_)
        refine R_iload_n (k := 3) rfl rfl rfl ?_
        refine N_iadd (a := x38.toInt) (b := x5.toInt) rfl rfl rfl (by omega) (fun x40 q41 => ?_)
        refine R_aload_n (k := 1) rfl rfl rfl ?_
        refine R_getf_r (j := 3) rfl ft_6_85 sh_70 rfl ?_
        refine R_iload_n (k := 3) rfl rfl rfl ?_
        refine R_iald rfl sh_74 ⟨by omega, by omega⟩ ?_
        refine N_any (fun x42 => ?_)
        refine K_iast (a := x40.toInt) (lo := (-2147483648)) (hi' := 2147483647) rfl sh_76 rfl ⟨by omega, by omega⟩ hI (by decide) rfl (i_rng _) fr (by decide) (fun h43 g44 hI fr => ?_)
        have fl4 : FR [76, 77, 79, 81, 82] h h43 := by rw [g44]; exact FR_wI _ _ fl4 (by decide)
        refine N_iinc (a := x5.toInt) (c := 1) (fun w => [(3, .inl w), (0, .inr (.inr (.inl 75))), (1, .inr (.inr (.inl 70))), (2, .inl a1)]) rfl rfl (fun _ => rfl) (by decide) rfl (by decide) (by omega) (fun x45 q46 => ?_)
        refine R_goto 2 rfl rfl ?_
        exact RUN_weak (psub_cons rfl (psub_cons rfl (psub_cons rfl (psub_cons rfl (psub_nil _))))) (ih6 h43 x45 hI fr fl4 (by omega) (by omega))
  exact lp2 _ h (0 : Int32) hI fr (FR.rf _ _) (by decide) (Nat.lt_succ_self _)
abbrev q_X6_lossOf (h : PH) (a0 : Int32) : Option PV → PH → Prop := fun r h' => h = h' ∧ ∃ z : Int32, r = some (.inl z) ∧ ((True))
set_option maxHeartbeats 4000000 in
set_option maxRecDepth 100000 in
theorem k_X6_lossOf (h : PH) (hI : INV h) (a0 : Int32) (h0a : 0 ≤ a0.toInt ∧ a0.toInt ≤ 5) : CALL d_X6_lossOf [.inr (.inr (.inl 75)), .inl a0] h (q_X6_lossOf h a0) := by
  show RUN d_X6_lossOf 0 [(0, .inr (.inr (.inl 75))), (1, .inl a0)] [] h _
  refine R_aload_n (k := 0) rfl rfl rfl ?_
  refine R_getf_r (j := 10) rfl ft_6_42 sh_75 rfl ?_
  refine R_iload_n (k := 1) rfl rfl rfl ?_
  refine R_iald rfl sh_86 ⟨by omega, by omega⟩ ?_
  refine N_any (fun x1 => ?_)
  refine R_aload_n (k := 0) rfl rfl rfl ?_
  refine R_getf_r (j := 10) rfl ft_6_42 sh_75 rfl ?_
  refine R_iload_n (k := 1) rfl rfl rfl ?_
  refine R_iconst 1 rfl rfl ?_
  refine N_iadd (a := a0.toInt) (b := 1) rfl rfl (by decide) (by omega) (fun x2 q3 => ?_)
  refine R_iald rfl sh_86 ⟨by omega, by omega⟩ ?_
  refine N_any (fun x4 => ?_)
  have b5 := i_rng x1
  have b6 := i_rng x4
  refine R_isub rfl ?_
  refine N_any (fun x7 => ?_)
  exact R_iret rfl rfl rfl ⟨rfl, _, rfl, trivial⟩
abbrev q_X8_burnsOn (h : PH) (a0 : Int32) (a1 : Int32) (a2 : Int32) : Option PV → PH → Prop := fun r h' => h = h' ∧ ∃ z : Int32, r = some (.inl z) ∧ ((True))
set_option maxHeartbeats 4000000 in
set_option maxRecDepth 100000 in
theorem k_X8_burnsOn (h : PH) (hI : INV h) (a0 : Int32) (a1 : Int32) (a2 : Int32) : CALL d_X8_burnsOn [.inl a0, .inl a1, .inl a2] h (q_X8_burnsOn h a0 a1 a2) := by
  show RUN d_X8_burnsOn 0 [(0, .inl a0), (1, .inl a1), (2, .inl a2)] [] h _
  have b1 := i_rng a0
  have b2 := i_rng a1
  have b3 := i_rng a2
  refine R_iload_n (k := 0) rfl rfl rfl ?_
  refine R_iload_n (k := 1) rfl rfl rfl ?_
  have b4 := i_rng a0
  have b5 := i_rng a1
  refine R_isub rfl ?_
  refine N_any (fun x6 => ?_)
  refine R_istore_n (k := 3) rfl [(3, .inl x6), (0, .inl a0), (1, .inl a1), (2, .inl a2)] rfl rfl (by decide) ?_
  refine R_iload_n (k := 3) rfl rfl rfl ?_
  refine N_if_le (a := x6.toInt) 14 rfl rfl rfl (fun c7 => ?_) (fun c7 => ?_)
  · refine R_iconst 0 rfl rfl ?_
    exact R_iret rfl rfl rfl ⟨rfl, _, rfl, trivial⟩
  · refine R_iload_n (k := 3) rfl rfl rfl ?_
    refine R_iload_n (k := 2) rfl rfl rfl ?_
    have b8 := i_rng x6
    have b9 := i_rng a2
    refine R_iadd rfl ?_
    refine N_any (fun x10 => ?_)
    refine R_goto 15 rfl rfl ?_
    exact R_iret rfl rfl rfl ⟨rfl, _, rfl, trivial⟩
abbrev q_X6_noteSums (h : PH) (a2 : Int32) : Option PV → PH → Prop := fun r h' => INV h' ∧ FR [75, 83, 84, 85] h h' ∧ ((h'.1 75 12).toInt = (h.1 75 12).toInt ∧ True) ∧ r = none
set_option maxHeartbeats 4000000 in
set_option maxRecDepth 100000 in
theorem k_X6_noteSums (h : PH) (hI : INV h) (a2 : Int32) (h2a : 0 ≤ a2.toInt ∧ a2.toInt ≤ 59) : CALL d_X6_noteSums [.inr (.inr (.inl 75)), .inr (.inr (.inl 16)), .inr (.inr (.inl 70)), .inl a2] h (q_X6_noteSums h a2) := by
  show RUN d_X6_noteSums 0 [(0, .inr (.inr (.inl 75))), (1, .inr (.inr (.inl 16))), (2, .inr (.inr (.inl 70))), (3, .inl a2)] [] h _
  have fr : FR [75, 83, 84, 85] h h := FR.rf _ _
  refine R_aload_n (k := 2) rfl rfl rfl ?_
  refine R_aload_n (k := 0) rfl rfl rfl ?_
  refine R_getf_r (j := 4) rfl ft_6_24 sh_75 rfl ?_
  refine R_iload_n (k := 3) rfl rfl rfl ?_
  refine R_iald rfl sh_80 ⟨by omega, by omega⟩ ?_
  refine N_any (fun x1 => ?_)
  have b2 : (0 : Int) ≤ (h.1 70 4).toInt ∧ (h.1 70 4).toInt ≤ 6 := hI.1 70 4
  refine R_callV (v := .inr (.inr (.inl 70))) (As := [.inl x1]) (rest := []) rfl mt_6_i100 pp_X2_isThrow (by decide) rfl rfl rfl (Nat.le_of_ble_eq_true rfl) (Nat.le_of_ble_eq_true rfl) ((k_X2_isThrow h hI x1).mono (fun r3 h4 p5 => ?_))
  obtain ⟨rfl, x6, rfl, q7 | q7 | q7⟩ := p5
  · show RUN d_X6_noteSums 10 [(0, .inr (.inr (.inl 75))), (1, .inr (.inr (.inl 16))), (2, .inr (.inr (.inl 70))), (3, .inl a2)] [.inl x6] h _
    refine R_istore (k := 4) [(4, .inl x6), (0, .inr (.inr (.inl 75))), (1, .inr (.inr (.inl 16))), (2, .inr (.inr (.inl 70))), (3, .inl a2)] rfl rfl (by decide) ?_
    refine R_iconst 0 rfl rfl ?_
    refine R_istore (k := 5) [(5, .inl 0), (4, .inl x6), (0, .inr (.inr (.inl 75))), (1, .inr (.inr (.inl 16))), (2, .inr (.inr (.inl 70))), (3, .inl a2)] rfl rfl (by decide) ?_
    refine R_iconst 0 rfl rfl ?_
    refine R_istore (k := 6) [(6, .inl 0), (5, .inl 0), (4, .inl x6), (0, .inr (.inr (.inl 75))), (1, .inr (.inr (.inl 16))), (2, .inr (.inr (.inl 70))), (3, .inl a2)] rfl rfl (by decide) ?_
    have lp9 : ∀ (n8 : Nat) (h10 : PH) (x12 : Int32) (x13 : Int32), INV h10 → FR [75, 83, 84, 85] h h10 → FR [83, 84, 85] h h10 → 0 ≤ x13.toInt ∧ x13.toInt ≤ 6 → (6 - x13.toInt).toNat < n8 → RUN d_X6_noteSums 18 [(6, .inl x13), (5, .inl x12), (4, .inl x6), (0, .inr (.inr (.inl 75))), (1, .inr (.inr (.inl 16))), (2, .inr (.inr (.inl 70))), (3, .inl a2)] [] h10 (q_X6_noteSums h a2) := by
      intro n8
      induction n8 with
      | zero => intro h10 x12 x13 m15 m16 m17 m18 hz; exact absurd hz (Nat.not_lt_zero _)
      | succ n8 ih14 =>
        intro h10 x12 x13 hI fr fl11 m18 hz
        have s19 : (h10.1 75 12).toInt = (h.1 75 12).toInt := by rw [(fl11 75 (by decide)).1]
        have s20 : (h10.1 70 4).toInt = (h.1 70 4).toInt := by rw [(fl11 70 (by decide)).1]
        refine R_iload (k := 6) rfl rfl ?_
        refine R_bipush 6 rfl rfl ?_
        refine N_icmp_ge (a := x13.toInt) (b := 6) 57 rfl rfl rfl (by decide) (fun c21 => ?_) (fun c21 => ?_)
        · refine R_iload_n (k := 3) rfl rfl rfl ?_
          refine N_if_ne (a := a2.toInt) 71 rfl rfl rfl (fun c22 => ?_) (fun c22 => ?_)
          · refine R_aload_n (k := 0) rfl rfl rfl ?_
            refine R_getf_r (j := 9) rfl ft_6_39 sh_75 rfl ?_
            refine R_iload_n (k := 3) rfl rfl rfl ?_
            refine R_iconst 1 rfl rfl ?_
            refine N_isub (a := a2.toInt) (b := 1) rfl rfl (by decide) (by omega) (fun x23 q24 => ?_)
            refine R_iald rfl sh_85 ⟨by omega, by omega⟩ ?_
            refine N_any (fun x25 => ?_)
            refine R_istore (k := 6) [(6, .inl x25), (5, .inl x12), (4, .inl x6), (0, .inr (.inr (.inl 75))), (1, .inr (.inr (.inl 16))), (2, .inr (.inr (.inl 70))), (3, .inl a2)] rfl rfl (by decide) ?_
            refine R_aload_n (k := 0) rfl rfl rfl ?_
            refine R_getf_r (j := 7) rfl ft_6_33 sh_75 rfl ?_
            refine R_iload_n (k := 3) rfl rfl rfl ?_
            refine R_iload_n (k := 3) rfl rfl rfl ?_
            refine N_if_ne (a := a2.toInt) 94 rfl rfl rfl (fun c26 => ?_) (fun c26 => ?_)
            · refine R_aload_n (k := 0) rfl rfl rfl ?_
              refine R_getf_r (j := 7) rfl ft_6_33 sh_75 rfl ?_
              refine R_iload_n (k := 3) rfl rfl rfl ?_
              refine R_iconst 1 rfl rfl ?_
              refine N_isub (a := a2.toInt) (b := 1) rfl rfl (by decide) (by omega) (fun x27 q28 => ?_)
              refine R_iald rfl sh_83 ⟨by omega, by omega⟩ ?_
              refine N_any (fun x29 => ?_)
              refine R_iload (k := 4) rfl rfl ?_
              refine N_if_eq (a := x6.toInt) 111 rfl rfl rfl (fun c30 => ?_) (fun c30 => ?_)
              · refine R_iconst 0 rfl rfl ?_
                have b31 := i_rng x29
                refine N_iadd (a := x29.toInt) (b := 0) rfl rfl (by decide) (by omega) (fun x32 q33 => ?_)
                refine K_iast (a := a2.toInt) (lo := (-2147483648)) (hi' := 2147483647) rfl sh_83 rfl ⟨by omega, by omega⟩ hI (by decide) rfl (i_rng _) fr (by decide) (fun h34 g35 hI fr => ?_)
                have fl11 : FR [83, 84, 85] h h34 := by rw [g35]; exact FR_wI _ _ fl11 (by decide)
                have s36 : (h34.1 75 12).toInt = (h10.1 75 12).toInt := by rw [g35, wI_ne _ _ _ (by decide)]
                have s37 : (h34.1 70 4).toInt = (h10.1 70 4).toInt := by rw [g35, wI_ne _ _ _ (by decide)]
                refine R_aload_n (k := 0) rfl rfl rfl ?_
                refine R_getf_r (j := 8) rfl ft_6_36 sh_75 rfl ?_
                refine R_iload_n (k := 3) rfl rfl rfl ?_
                refine R_iload_n (k := 3) rfl rfl rfl ?_
                refine N_if_ne (a := a2.toInt) 127 rfl rfl rfl (fun c38 => ?_) (fun c38 => ?_)
                · refine R_aload_n (k := 0) rfl rfl rfl ?_
                  refine R_getf_r (j := 8) rfl ft_6_36 sh_75 rfl ?_
                  refine R_iload_n (k := 3) rfl rfl rfl ?_
                  refine R_iconst 1 rfl rfl ?_
                  refine N_isub (a := a2.toInt) (b := 1) rfl rfl (by decide) (by omega) (fun x39 q40 => ?_)
                  refine R_iald rfl sh_84 ⟨by omega, by omega⟩ ?_
                  refine N_any (fun x41 => ?_)
                  refine R_iload (k := 5) rfl rfl ?_
                  have b42 := i_rng x41
                  have b43 := i_rng x12
                  refine R_iadd rfl ?_
                  refine N_any (fun x44 => ?_)
                  refine K_iast (a := a2.toInt) (lo := (-2147483648)) (hi' := 2147483647) rfl sh_84 rfl ⟨by omega, by omega⟩ hI (by decide) rfl (i_rng _) fr (by decide) (fun h45 g46 hI fr => ?_)
                  have fl11 : FR [83, 84, 85] h h45 := by rw [g46]; exact FR_wI _ _ fl11 (by decide)
                  have s47 : (h45.1 75 12).toInt = (h34.1 75 12).toInt := by rw [g46, wI_ne _ _ _ (by decide)]
                  have s48 : (h45.1 70 4).toInt = (h34.1 70 4).toInt := by rw [g46, wI_ne _ _ _ (by decide)]
                  refine R_aload_n (k := 0) rfl rfl rfl ?_
                  refine R_getf_r (j := 9) rfl ft_6_39 sh_75 rfl ?_
                  refine R_iload_n (k := 3) rfl rfl rfl ?_
                  refine R_iload (k := 6) rfl rfl ?_
                  refine R_iload (k := 4) rfl rfl ?_
                  refine N_if_eq (a := x6.toInt) 158 rfl rfl rfl (fun c49 => ?_) (fun c49 => ?_)
                  · refine R_iconst 0 rfl rfl ?_
                    refine R_aload_n (k := 1) rfl rfl rfl ?_
                    refine R_getf_r (j := 0) rfl ft_6_65 sh_16 rfl ?_
                    refine R_bipush 8 rfl rfl ?_
                    refine R_iald rfl sh_17 (by decide) ?_
                    show RUN d_X6_noteSums 166 [(6, .inl x25), (5, .inl x12), (4, .inl x6), (0, .inr (.inr (.inl 75))), (1, .inr (.inr (.inl 16))), (2, .inr (.inr (.inl 70))), (3, .inl a2)] [.inl (h45.1 17 8), .inl 0, .inl x25, .inl a2, .inr (.inr (.inl 85))] h45 _
                    have k50 : (0 : Int32).toInt = 0 := by decide
                    refine R_callS (As := [.inl x25, .inl 0, .inl (h45.1 17 8)]) (rest := [.inl a2, .inr (.inr (.inl 85))]) rfl mt_6_i111 (by decide) pp_X8_burnsOn (by decide) rfl rfl (Nat.le_of_ble_eq_true rfl) (Nat.le_of_ble_eq_true rfl) ((k_X8_burnsOn h45 hI x25 (0 : Int32) (h45.1 17 8)).mono (fun r51 h52 p53 => ?_))
                    obtain ⟨rfl, x54, rfl, q55⟩ := p53
                    show RUN d_X6_noteSums 169 [(6, .inl x25), (5, .inl x12), (4, .inl x6), (0, .inr (.inr (.inl 75))), (1, .inr (.inr (.inl 16))), (2, .inr (.inr (.inl 70))), (3, .inl a2)] [.inl x54, .inl a2, .inr (.inr (.inl 85))] h45 _
                    refine K_iast (a := a2.toInt) (lo := (-2147483648)) (hi' := 2147483647) rfl sh_85 rfl ⟨by omega, by omega⟩ hI (by decide) rfl (i_rng _) fr (by decide) (fun h56 g57 hI fr => ?_)
                    have fl11 : FR [83, 84, 85] h h56 := by rw [g57]; exact FR_wI _ _ fl11 (by decide)
                    have s58 : (h56.1 75 12).toInt = (h45.1 75 12).toInt := by rw [g57, wI_ne _ _ _ (by decide)]
                    have s59 : (h56.1 70 4).toInt = (h45.1 70 4).toInt := by rw [g57, wI_ne _ _ _ (by decide)]
                    have s60 : (h56.1 17 8).toInt = (h45.1 17 8).toInt := by rw [g57, wI_ne _ _ _ (by decide)]
                    refine R_iload (k := 4) rfl rfl ?_
                    refine N_if_eq (a := x6.toInt) 187 rfl rfl rfl (fun c61 => ?_) (fun c61 => ?_)
                    · exact R_vret rfl rfl ⟨hI, fr, ⟨by omega, trivial⟩, rfl⟩
                    · exfalso; omega
                  · exfalso; omega
                · exfalso; omega
              · exfalso; omega
            · exfalso; omega
          · refine R_aload_n (k := 1) rfl rfl rfl ?_
            refine R_getf_r (j := 0) rfl ft_6_65 sh_16 rfl ?_
            refine R_bipush 7 rfl rfl ?_
            refine R_iald rfl sh_17 (by decide) ?_
            show RUN d_X6_noteSums 68 [(6, .inl x13), (5, .inl x12), (4, .inl x6), (0, .inr (.inr (.inl 75))), (1, .inr (.inr (.inl 16))), (2, .inr (.inr (.inl 70))), (3, .inl a2)] [.inl (h10.1 17 7)] h10 _
            refine R_goto 79 rfl rfl ?_
            refine R_istore (k := 6) [(6, .inl (h10.1 17 7)), (5, .inl x12), (4, .inl x6), (0, .inr (.inr (.inl 75))), (1, .inr (.inr (.inl 16))), (2, .inr (.inr (.inl 70))), (3, .inl a2)] rfl rfl (by decide) ?_
            refine R_aload_n (k := 0) rfl rfl rfl ?_
            refine R_getf_r (j := 7) rfl ft_6_33 sh_75 rfl ?_
            refine R_iload_n (k := 3) rfl rfl rfl ?_
            refine R_iload_n (k := 3) rfl rfl rfl ?_
            refine N_if_ne (a := a2.toInt) 94 rfl rfl rfl (fun c62 => ?_) (fun c62 => ?_)
            · exfalso; omega
            · refine R_iconst 0 rfl rfl ?_
              refine R_goto 102 rfl rfl ?_
              refine R_iload (k := 4) rfl rfl ?_
              refine N_if_eq (a := x6.toInt) 111 rfl rfl rfl (fun c63 => ?_) (fun c63 => ?_)
              · refine R_iconst 0 rfl rfl ?_
                refine N_iadd (a := 0) (b := 0) rfl (by decide) (by decide) (by omega) (fun x64 q65 => ?_)
                refine K_iast (a := a2.toInt) (lo := (-2147483648)) (hi' := 2147483647) rfl sh_83 rfl ⟨by omega, by omega⟩ hI (by decide) rfl (i_rng _) fr (by decide) (fun h66 g67 hI fr => ?_)
                have fl11 : FR [83, 84, 85] h h66 := by rw [g67]; exact FR_wI _ _ fl11 (by decide)
                have s68 : (h66.1 75 12).toInt = (h10.1 75 12).toInt := by rw [g67, wI_ne _ _ _ (by decide)]
                have s69 : (h66.1 70 4).toInt = (h10.1 70 4).toInt := by rw [g67, wI_ne _ _ _ (by decide)]
                have s70 : (h66.1 17 7).toInt = (h10.1 17 7).toInt := by rw [g67, wI_ne _ _ _ (by decide)]
                refine R_aload_n (k := 0) rfl rfl rfl ?_
                refine R_getf_r (j := 8) rfl ft_6_36 sh_75 rfl ?_
                refine R_iload_n (k := 3) rfl rfl rfl ?_
                refine R_iload_n (k := 3) rfl rfl rfl ?_
                refine N_if_ne (a := a2.toInt) 127 rfl rfl rfl (fun c71 => ?_) (fun c71 => ?_)
                · exfalso; omega
                · refine R_iconst 0 rfl rfl ?_
                  refine R_goto 135 rfl rfl ?_
                  refine R_iload (k := 5) rfl rfl ?_
                  have b72 := i_rng x12
                  refine N_iadd (a := 0) (b := x12.toInt) rfl (by decide) rfl (by omega) (fun x73 q74 => ?_)
                  refine K_iast (a := a2.toInt) (lo := (-2147483648)) (hi' := 2147483647) rfl sh_84 rfl ⟨by omega, by omega⟩ hI (by decide) rfl (i_rng _) fr (by decide) (fun h75 g76 hI fr => ?_)
                  have fl11 : FR [83, 84, 85] h h75 := by rw [g76]; exact FR_wI _ _ fl11 (by decide)
                  have s77 : (h75.1 75 12).toInt = (h66.1 75 12).toInt := by rw [g76, wI_ne _ _ _ (by decide)]
                  have s78 : (h75.1 70 4).toInt = (h66.1 70 4).toInt := by rw [g76, wI_ne _ _ _ (by decide)]
                  have s79 : (h75.1 17 7).toInt = (h66.1 17 7).toInt := by rw [g76, wI_ne _ _ _ (by decide)]
                  refine R_aload_n (k := 0) rfl rfl rfl ?_
                  refine R_getf_r (j := 9) rfl ft_6_39 sh_75 rfl ?_
                  refine R_iload_n (k := 3) rfl rfl rfl ?_
                  refine R_iload (k := 6) rfl rfl ?_
                  refine R_iload (k := 4) rfl rfl ?_
                  refine N_if_eq (a := x6.toInt) 158 rfl rfl rfl (fun c80 => ?_) (fun c80 => ?_)
                  · refine R_iconst 0 rfl rfl ?_
                    refine R_aload_n (k := 1) rfl rfl rfl ?_
                    refine R_getf_r (j := 0) rfl ft_6_65 sh_16 rfl ?_
                    refine R_bipush 8 rfl rfl ?_
                    refine R_iald rfl sh_17 (by decide) ?_
                    show RUN d_X6_noteSums 166 [(6, .inl (h10.1 17 7)), (5, .inl x12), (4, .inl x6), (0, .inr (.inr (.inl 75))), (1, .inr (.inr (.inl 16))), (2, .inr (.inr (.inl 70))), (3, .inl a2)] [.inl (h75.1 17 8), .inl 0, .inl (h10.1 17 7), .inl a2, .inr (.inr (.inl 85))] h75 _
                    have k81 : (0 : Int32).toInt = 0 := by decide
                    refine R_callS (As := [.inl (h10.1 17 7), .inl 0, .inl (h75.1 17 8)]) (rest := [.inl a2, .inr (.inr (.inl 85))]) rfl mt_6_i111 (by decide) pp_X8_burnsOn (by decide) rfl rfl (Nat.le_of_ble_eq_true rfl) (Nat.le_of_ble_eq_true rfl) ((k_X8_burnsOn h75 hI (h10.1 17 7) (0 : Int32) (h75.1 17 8)).mono (fun r82 h83 p84 => ?_))
                    obtain ⟨rfl, x85, rfl, q86⟩ := p84
                    show RUN d_X6_noteSums 169 [(6, .inl (h10.1 17 7)), (5, .inl x12), (4, .inl x6), (0, .inr (.inr (.inl 75))), (1, .inr (.inr (.inl 16))), (2, .inr (.inr (.inl 70))), (3, .inl a2)] [.inl x85, .inl a2, .inr (.inr (.inl 85))] h75 _
                    refine K_iast (a := a2.toInt) (lo := (-2147483648)) (hi' := 2147483647) rfl sh_85 rfl ⟨by omega, by omega⟩ hI (by decide) rfl (i_rng _) fr (by decide) (fun h87 g88 hI fr => ?_)
                    have fl11 : FR [83, 84, 85] h h87 := by rw [g88]; exact FR_wI _ _ fl11 (by decide)
                    have s89 : (h87.1 75 12).toInt = (h75.1 75 12).toInt := by rw [g88, wI_ne _ _ _ (by decide)]
                    have s90 : (h87.1 70 4).toInt = (h75.1 70 4).toInt := by rw [g88, wI_ne _ _ _ (by decide)]
                    have s91 : (h87.1 17 7).toInt = (h75.1 17 7).toInt := by rw [g88, wI_ne _ _ _ (by decide)]
                    have s92 : (h87.1 17 8).toInt = (h75.1 17 8).toInt := by rw [g88, wI_ne _ _ _ (by decide)]
                    refine R_iload (k := 4) rfl rfl ?_
                    refine N_if_eq (a := x6.toInt) 187 rfl rfl rfl (fun c93 => ?_) (fun c93 => ?_)
                    · exact R_vret rfl rfl ⟨hI, fr, ⟨by omega, trivial⟩, rfl⟩
                    · exfalso; omega
                  · exfalso; omega
              · exfalso; omega
        · refine R_aload_n (k := 0) rfl rfl rfl ?_
          refine R_getf_r (j := 4) rfl ft_6_24 sh_75 rfl ?_
          refine R_iload_n (k := 3) rfl rfl rfl ?_
          refine R_iald rfl sh_80 ⟨by omega, by omega⟩ ?_
          refine N_any (fun x94 => ?_)
          refine N_i2l rfl (fun w95 q96 => ?_)
          refine R_iload (k := 6) rfl rfl ?_
          refine R_callS (As := [.inr (.inl w95), .inl x13]) (rest := []) rfl mt_6_i104 (by decide) pp_X8_hasBit (by decide) rfl rfl (Nat.le_of_ble_eq_true rfl) (Nat.le_of_ble_eq_true rfl) ((k_X8_hasBit h10 hI w95 x13).mono (fun r97 h98 p99 => ?_))
          obtain ⟨rfl, x100, rfl, q101 | q101⟩ := p99
          · show RUN d_X6_noteSums 37 [(6, .inl x13), (5, .inl x12), (4, .inl x6), (0, .inr (.inr (.inl 75))), (1, .inr (.inr (.inl 16))), (2, .inr (.inr (.inl 70))), (3, .inl a2)] [.inl x100] h10 _
            refine N_if_eq (a := x100.toInt) 51 rfl rfl rfl (fun c102 => ?_) (fun c102 => ?_)
            · refine N_iinc (a := x13.toInt) (c := 1) (fun w => [(6, .inl w), (5, .inl x12), (4, .inl x6), (0, .inr (.inr (.inl 75))), (1, .inr (.inr (.inl 16))), (2, .inr (.inr (.inl 70))), (3, .inl a2)]) rfl rfl (fun _ => rfl) (by decide) rfl (by decide) (by omega) (fun x103 q104 => ?_)
              refine R_goto 18 rfl rfl ?_
              exact RUN_weak (psub_cons rfl (psub_cons rfl (psub_cons rfl (psub_cons rfl (psub_cons rfl (psub_cons rfl (psub_cons rfl (psub_nil _)))))))) (ih14 h10 x12 x103 hI fr fl11 (by omega) (by omega))
            · exfalso; omega
          · show RUN d_X6_noteSums 37 [(6, .inl x13), (5, .inl x12), (4, .inl x6), (0, .inr (.inr (.inl 75))), (1, .inr (.inr (.inl 16))), (2, .inr (.inr (.inl 70))), (3, .inl a2)] [.inl x100] h10 _
            refine N_if_eq (a := x100.toInt) 51 rfl rfl rfl (fun c105 => ?_) (fun c105 => ?_)
            · exfalso; omega
            · refine R_iload (k := 5) rfl rfl ?_
              refine R_aload_n (k := 0) rfl rfl rfl ?_
              refine R_iload (k := 6) rfl rfl ?_
              refine R_callV (v := .inr (.inr (.inl 75))) (As := [.inl x13]) (rest := [.inl x12]) rfl mt_6_i108 pp_X6_lossOf (by decide) rfl rfl rfl (Nat.le_of_ble_eq_true rfl) (Nat.le_of_ble_eq_true rfl) ((k_X6_lossOf h10 hI x13 (by omega)).mono (fun r106 h107 p108 => ?_))
              obtain ⟨rfl, x109, rfl, q110⟩ := p108
              show RUN d_X6_noteSums 48 [(6, .inl x13), (5, .inl x12), (4, .inl x6), (0, .inr (.inr (.inl 75))), (1, .inr (.inr (.inl 16))), (2, .inr (.inr (.inl 70))), (3, .inl a2)] [.inl x109, .inl x12] h10 _
              have b111 := i_rng x12
              have b112 := i_rng x109
              refine R_iadd rfl ?_
              refine N_any (fun x113 => ?_)
              refine R_istore (k := 5) [(5, .inl x113), (6, .inl x13), (4, .inl x6), (0, .inr (.inr (.inl 75))), (1, .inr (.inr (.inl 16))), (2, .inr (.inr (.inl 70))), (3, .inl a2)] rfl rfl (by decide) ?_
              refine N_iinc (a := x13.toInt) (c := 1) (fun w => [(6, .inl w), (5, .inl x113), (4, .inl x6), (0, .inr (.inr (.inl 75))), (1, .inr (.inr (.inl 16))), (2, .inr (.inr (.inl 70))), (3, .inl a2)]) rfl rfl (fun _ => rfl) (by decide) rfl (by decide) (by omega) (fun x114 q115 => ?_)
              refine R_goto 18 rfl rfl ?_
              exact RUN_weak (psub_cons rfl (psub_cons rfl (psub_cons rfl (psub_cons rfl (psub_cons rfl (psub_cons rfl (psub_cons rfl (psub_nil _)))))))) (ih14 h10 x113 x114 hI fr fl11 (by omega) (by omega))
    exact lp9 _ h (0 : Int32) (0 : Int32) hI fr (FR.rf _ _) (by decide) (Nat.lt_succ_self _)
  · show RUN d_X6_noteSums 10 [(0, .inr (.inr (.inl 75))), (1, .inr (.inr (.inl 16))), (2, .inr (.inr (.inl 70))), (3, .inl a2)] [.inl x6] h _
    refine R_istore (k := 4) [(4, .inl x6), (0, .inr (.inr (.inl 75))), (1, .inr (.inr (.inl 16))), (2, .inr (.inr (.inl 70))), (3, .inl a2)] rfl rfl (by decide) ?_
    refine R_iconst 0 rfl rfl ?_
    refine R_istore (k := 5) [(5, .inl 0), (4, .inl x6), (0, .inr (.inr (.inl 75))), (1, .inr (.inr (.inl 16))), (2, .inr (.inr (.inl 70))), (3, .inl a2)] rfl rfl (by decide) ?_
    refine R_iconst 0 rfl rfl ?_
    refine R_istore (k := 6) [(6, .inl 0), (5, .inl 0), (4, .inl x6), (0, .inr (.inr (.inl 75))), (1, .inr (.inr (.inl 16))), (2, .inr (.inr (.inl 70))), (3, .inl a2)] rfl rfl (by decide) ?_
    have lp117 : ∀ (n116 : Nat) (h118 : PH) (x120 : Int32) (x121 : Int32), INV h118 → FR [75, 83, 84, 85] h h118 → FR [83, 84, 85] h h118 → 0 ≤ x121.toInt ∧ x121.toInt ≤ 6 → (6 - x121.toInt).toNat < n116 → RUN d_X6_noteSums 18 [(6, .inl x121), (5, .inl x120), (4, .inl x6), (0, .inr (.inr (.inl 75))), (1, .inr (.inr (.inl 16))), (2, .inr (.inr (.inl 70))), (3, .inl a2)] [] h118 (q_X6_noteSums h a2) := by
      intro n116
      induction n116 with
      | zero => intro h118 x120 x121 m123 m124 m125 m126 hz; exact absurd hz (Nat.not_lt_zero _)
      | succ n116 ih122 =>
        intro h118 x120 x121 hI fr fl119 m126 hz
        have s127 : (h118.1 75 12).toInt = (h.1 75 12).toInt := by rw [(fl119 75 (by decide)).1]
        have s128 : (h118.1 70 4).toInt = (h.1 70 4).toInt := by rw [(fl119 70 (by decide)).1]
        refine R_iload (k := 6) rfl rfl ?_
        refine R_bipush 6 rfl rfl ?_
        refine N_icmp_ge (a := x121.toInt) (b := 6) 57 rfl rfl rfl (by decide) (fun c129 => ?_) (fun c129 => ?_)
        · refine R_iload_n (k := 3) rfl rfl rfl ?_
          refine N_if_ne (a := a2.toInt) 71 rfl rfl rfl (fun c130 => ?_) (fun c130 => ?_)
          · refine R_aload_n (k := 0) rfl rfl rfl ?_
            refine R_getf_r (j := 9) rfl ft_6_39 sh_75 rfl ?_
            refine R_iload_n (k := 3) rfl rfl rfl ?_
            refine R_iconst 1 rfl rfl ?_
            refine N_isub (a := a2.toInt) (b := 1) rfl rfl (by decide) (by omega) (fun x131 q132 => ?_)
            refine R_iald rfl sh_85 ⟨by omega, by omega⟩ ?_
            refine N_any (fun x133 => ?_)
            refine R_istore (k := 6) [(6, .inl x133), (5, .inl x120), (4, .inl x6), (0, .inr (.inr (.inl 75))), (1, .inr (.inr (.inl 16))), (2, .inr (.inr (.inl 70))), (3, .inl a2)] rfl rfl (by decide) ?_
            refine R_aload_n (k := 0) rfl rfl rfl ?_
            refine R_getf_r (j := 7) rfl ft_6_33 sh_75 rfl ?_
            refine R_iload_n (k := 3) rfl rfl rfl ?_
            refine R_iload_n (k := 3) rfl rfl rfl ?_
            refine N_if_ne (a := a2.toInt) 94 rfl rfl rfl (fun c134 => ?_) (fun c134 => ?_)
            · refine R_aload_n (k := 0) rfl rfl rfl ?_
              refine R_getf_r (j := 7) rfl ft_6_33 sh_75 rfl ?_
              refine R_iload_n (k := 3) rfl rfl rfl ?_
              refine R_iconst 1 rfl rfl ?_
              refine N_isub (a := a2.toInt) (b := 1) rfl rfl (by decide) (by omega) (fun x135 q136 => ?_)
              refine R_iald rfl sh_83 ⟨by omega, by omega⟩ ?_
              refine N_any (fun x137 => ?_)
              refine R_iload (k := 4) rfl rfl ?_
              refine N_if_eq (a := x6.toInt) 111 rfl rfl rfl (fun c138 => ?_) (fun c138 => ?_)
              · refine R_iconst 0 rfl rfl ?_
                have b139 := i_rng x137
                refine N_iadd (a := x137.toInt) (b := 0) rfl rfl (by decide) (by omega) (fun x140 q141 => ?_)
                refine K_iast (a := a2.toInt) (lo := (-2147483648)) (hi' := 2147483647) rfl sh_83 rfl ⟨by omega, by omega⟩ hI (by decide) rfl (i_rng _) fr (by decide) (fun h142 g143 hI fr => ?_)
                have fl119 : FR [83, 84, 85] h h142 := by rw [g143]; exact FR_wI _ _ fl119 (by decide)
                have s144 : (h142.1 75 12).toInt = (h118.1 75 12).toInt := by rw [g143, wI_ne _ _ _ (by decide)]
                have s145 : (h142.1 70 4).toInt = (h118.1 70 4).toInt := by rw [g143, wI_ne _ _ _ (by decide)]
                refine R_aload_n (k := 0) rfl rfl rfl ?_
                refine R_getf_r (j := 8) rfl ft_6_36 sh_75 rfl ?_
                refine R_iload_n (k := 3) rfl rfl rfl ?_
                refine R_iload_n (k := 3) rfl rfl rfl ?_
                refine N_if_ne (a := a2.toInt) 127 rfl rfl rfl (fun c146 => ?_) (fun c146 => ?_)
                · refine R_aload_n (k := 0) rfl rfl rfl ?_
                  refine R_getf_r (j := 8) rfl ft_6_36 sh_75 rfl ?_
                  refine R_iload_n (k := 3) rfl rfl rfl ?_
                  refine R_iconst 1 rfl rfl ?_
                  refine N_isub (a := a2.toInt) (b := 1) rfl rfl (by decide) (by omega) (fun x147 q148 => ?_)
                  refine R_iald rfl sh_84 ⟨by omega, by omega⟩ ?_
                  refine N_any (fun x149 => ?_)
                  refine R_iload (k := 5) rfl rfl ?_
                  have b150 := i_rng x149
                  have b151 := i_rng x120
                  refine R_iadd rfl ?_
                  refine N_any (fun x152 => ?_)
                  refine K_iast (a := a2.toInt) (lo := (-2147483648)) (hi' := 2147483647) rfl sh_84 rfl ⟨by omega, by omega⟩ hI (by decide) rfl (i_rng _) fr (by decide) (fun h153 g154 hI fr => ?_)
                  have fl119 : FR [83, 84, 85] h h153 := by rw [g154]; exact FR_wI _ _ fl119 (by decide)
                  have s155 : (h153.1 75 12).toInt = (h142.1 75 12).toInt := by rw [g154, wI_ne _ _ _ (by decide)]
                  have s156 : (h153.1 70 4).toInt = (h142.1 70 4).toInt := by rw [g154, wI_ne _ _ _ (by decide)]
                  refine R_aload_n (k := 0) rfl rfl rfl ?_
                  refine R_getf_r (j := 9) rfl ft_6_39 sh_75 rfl ?_
                  refine R_iload_n (k := 3) rfl rfl rfl ?_
                  refine R_iload (k := 6) rfl rfl ?_
                  refine R_iload (k := 4) rfl rfl ?_
                  refine N_if_eq (a := x6.toInt) 158 rfl rfl rfl (fun c157 => ?_) (fun c157 => ?_)
                  · refine R_iconst 0 rfl rfl ?_
                    refine R_aload_n (k := 1) rfl rfl rfl ?_
                    refine R_getf_r (j := 0) rfl ft_6_65 sh_16 rfl ?_
                    refine R_bipush 8 rfl rfl ?_
                    refine R_iald rfl sh_17 (by decide) ?_
                    show RUN d_X6_noteSums 166 [(6, .inl x133), (5, .inl x120), (4, .inl x6), (0, .inr (.inr (.inl 75))), (1, .inr (.inr (.inl 16))), (2, .inr (.inr (.inl 70))), (3, .inl a2)] [.inl (h153.1 17 8), .inl 0, .inl x133, .inl a2, .inr (.inr (.inl 85))] h153 _
                    have k158 : (0 : Int32).toInt = 0 := by decide
                    refine R_callS (As := [.inl x133, .inl 0, .inl (h153.1 17 8)]) (rest := [.inl a2, .inr (.inr (.inl 85))]) rfl mt_6_i111 (by decide) pp_X8_burnsOn (by decide) rfl rfl (Nat.le_of_ble_eq_true rfl) (Nat.le_of_ble_eq_true rfl) ((k_X8_burnsOn h153 hI x133 (0 : Int32) (h153.1 17 8)).mono (fun r159 h160 p161 => ?_))
                    obtain ⟨rfl, x162, rfl, q163⟩ := p161
                    show RUN d_X6_noteSums 169 [(6, .inl x133), (5, .inl x120), (4, .inl x6), (0, .inr (.inr (.inl 75))), (1, .inr (.inr (.inl 16))), (2, .inr (.inr (.inl 70))), (3, .inl a2)] [.inl x162, .inl a2, .inr (.inr (.inl 85))] h153 _
                    refine K_iast (a := a2.toInt) (lo := (-2147483648)) (hi' := 2147483647) rfl sh_85 rfl ⟨by omega, by omega⟩ hI (by decide) rfl (i_rng _) fr (by decide) (fun h164 g165 hI fr => ?_)
                    have fl119 : FR [83, 84, 85] h h164 := by rw [g165]; exact FR_wI _ _ fl119 (by decide)
                    have s166 : (h164.1 75 12).toInt = (h153.1 75 12).toInt := by rw [g165, wI_ne _ _ _ (by decide)]
                    have s167 : (h164.1 70 4).toInt = (h153.1 70 4).toInt := by rw [g165, wI_ne _ _ _ (by decide)]
                    have s168 : (h164.1 17 8).toInt = (h153.1 17 8).toInt := by rw [g165, wI_ne _ _ _ (by decide)]
                    refine R_iload (k := 4) rfl rfl ?_
                    refine N_if_eq (a := x6.toInt) 187 rfl rfl rfl (fun c169 => ?_) (fun c169 => ?_)
                    · exact R_vret rfl rfl ⟨hI, fr, ⟨by omega, trivial⟩, rfl⟩
                    · exfalso; omega
                  · exfalso; omega
                · exfalso; omega
              · exfalso; omega
            · exfalso; omega
          · refine R_aload_n (k := 1) rfl rfl rfl ?_
            refine R_getf_r (j := 0) rfl ft_6_65 sh_16 rfl ?_
            refine R_bipush 7 rfl rfl ?_
            refine R_iald rfl sh_17 (by decide) ?_
            show RUN d_X6_noteSums 68 [(6, .inl x121), (5, .inl x120), (4, .inl x6), (0, .inr (.inr (.inl 75))), (1, .inr (.inr (.inl 16))), (2, .inr (.inr (.inl 70))), (3, .inl a2)] [.inl (h118.1 17 7)] h118 _
            refine R_goto 79 rfl rfl ?_
            refine R_istore (k := 6) [(6, .inl (h118.1 17 7)), (5, .inl x120), (4, .inl x6), (0, .inr (.inr (.inl 75))), (1, .inr (.inr (.inl 16))), (2, .inr (.inr (.inl 70))), (3, .inl a2)] rfl rfl (by decide) ?_
            refine R_aload_n (k := 0) rfl rfl rfl ?_
            refine R_getf_r (j := 7) rfl ft_6_33 sh_75 rfl ?_
            refine R_iload_n (k := 3) rfl rfl rfl ?_
            refine R_iload_n (k := 3) rfl rfl rfl ?_
            refine N_if_ne (a := a2.toInt) 94 rfl rfl rfl (fun c170 => ?_) (fun c170 => ?_)
            · exfalso; omega
            · refine R_iconst 0 rfl rfl ?_
              refine R_goto 102 rfl rfl ?_
              refine R_iload (k := 4) rfl rfl ?_
              refine N_if_eq (a := x6.toInt) 111 rfl rfl rfl (fun c171 => ?_) (fun c171 => ?_)
              · refine R_iconst 0 rfl rfl ?_
                refine N_iadd (a := 0) (b := 0) rfl (by decide) (by decide) (by omega) (fun x172 q173 => ?_)
                refine K_iast (a := a2.toInt) (lo := (-2147483648)) (hi' := 2147483647) rfl sh_83 rfl ⟨by omega, by omega⟩ hI (by decide) rfl (i_rng _) fr (by decide) (fun h174 g175 hI fr => ?_)
                have fl119 : FR [83, 84, 85] h h174 := by rw [g175]; exact FR_wI _ _ fl119 (by decide)
                have s176 : (h174.1 75 12).toInt = (h118.1 75 12).toInt := by rw [g175, wI_ne _ _ _ (by decide)]
                have s177 : (h174.1 70 4).toInt = (h118.1 70 4).toInt := by rw [g175, wI_ne _ _ _ (by decide)]
                have s178 : (h174.1 17 7).toInt = (h118.1 17 7).toInt := by rw [g175, wI_ne _ _ _ (by decide)]
                refine R_aload_n (k := 0) rfl rfl rfl ?_
                refine R_getf_r (j := 8) rfl ft_6_36 sh_75 rfl ?_
                refine R_iload_n (k := 3) rfl rfl rfl ?_
                refine R_iload_n (k := 3) rfl rfl rfl ?_
                refine N_if_ne (a := a2.toInt) 127 rfl rfl rfl (fun c179 => ?_) (fun c179 => ?_)
                · exfalso; omega
                · refine R_iconst 0 rfl rfl ?_
                  refine R_goto 135 rfl rfl ?_
                  refine R_iload (k := 5) rfl rfl ?_
                  have b180 := i_rng x120
                  refine N_iadd (a := 0) (b := x120.toInt) rfl (by decide) rfl (by omega) (fun x181 q182 => ?_)
                  refine K_iast (a := a2.toInt) (lo := (-2147483648)) (hi' := 2147483647) rfl sh_84 rfl ⟨by omega, by omega⟩ hI (by decide) rfl (i_rng _) fr (by decide) (fun h183 g184 hI fr => ?_)
                  have fl119 : FR [83, 84, 85] h h183 := by rw [g184]; exact FR_wI _ _ fl119 (by decide)
                  have s185 : (h183.1 75 12).toInt = (h174.1 75 12).toInt := by rw [g184, wI_ne _ _ _ (by decide)]
                  have s186 : (h183.1 70 4).toInt = (h174.1 70 4).toInt := by rw [g184, wI_ne _ _ _ (by decide)]
                  have s187 : (h183.1 17 7).toInt = (h174.1 17 7).toInt := by rw [g184, wI_ne _ _ _ (by decide)]
                  refine R_aload_n (k := 0) rfl rfl rfl ?_
                  refine R_getf_r (j := 9) rfl ft_6_39 sh_75 rfl ?_
                  refine R_iload_n (k := 3) rfl rfl rfl ?_
                  refine R_iload (k := 6) rfl rfl ?_
                  refine R_iload (k := 4) rfl rfl ?_
                  refine N_if_eq (a := x6.toInt) 158 rfl rfl rfl (fun c188 => ?_) (fun c188 => ?_)
                  · refine R_iconst 0 rfl rfl ?_
                    refine R_aload_n (k := 1) rfl rfl rfl ?_
                    refine R_getf_r (j := 0) rfl ft_6_65 sh_16 rfl ?_
                    refine R_bipush 8 rfl rfl ?_
                    refine R_iald rfl sh_17 (by decide) ?_
                    show RUN d_X6_noteSums 166 [(6, .inl (h118.1 17 7)), (5, .inl x120), (4, .inl x6), (0, .inr (.inr (.inl 75))), (1, .inr (.inr (.inl 16))), (2, .inr (.inr (.inl 70))), (3, .inl a2)] [.inl (h183.1 17 8), .inl 0, .inl (h118.1 17 7), .inl a2, .inr (.inr (.inl 85))] h183 _
                    have k189 : (0 : Int32).toInt = 0 := by decide
                    refine R_callS (As := [.inl (h118.1 17 7), .inl 0, .inl (h183.1 17 8)]) (rest := [.inl a2, .inr (.inr (.inl 85))]) rfl mt_6_i111 (by decide) pp_X8_burnsOn (by decide) rfl rfl (Nat.le_of_ble_eq_true rfl) (Nat.le_of_ble_eq_true rfl) ((k_X8_burnsOn h183 hI (h118.1 17 7) (0 : Int32) (h183.1 17 8)).mono (fun r190 h191 p192 => ?_))
                    obtain ⟨rfl, x193, rfl, q194⟩ := p192
                    show RUN d_X6_noteSums 169 [(6, .inl (h118.1 17 7)), (5, .inl x120), (4, .inl x6), (0, .inr (.inr (.inl 75))), (1, .inr (.inr (.inl 16))), (2, .inr (.inr (.inl 70))), (3, .inl a2)] [.inl x193, .inl a2, .inr (.inr (.inl 85))] h183 _
                    refine K_iast (a := a2.toInt) (lo := (-2147483648)) (hi' := 2147483647) rfl sh_85 rfl ⟨by omega, by omega⟩ hI (by decide) rfl (i_rng _) fr (by decide) (fun h195 g196 hI fr => ?_)
                    have fl119 : FR [83, 84, 85] h h195 := by rw [g196]; exact FR_wI _ _ fl119 (by decide)
                    have s197 : (h195.1 75 12).toInt = (h183.1 75 12).toInt := by rw [g196, wI_ne _ _ _ (by decide)]
                    have s198 : (h195.1 70 4).toInt = (h183.1 70 4).toInt := by rw [g196, wI_ne _ _ _ (by decide)]
                    have s199 : (h195.1 17 7).toInt = (h183.1 17 7).toInt := by rw [g196, wI_ne _ _ _ (by decide)]
                    have s200 : (h195.1 17 8).toInt = (h183.1 17 8).toInt := by rw [g196, wI_ne _ _ _ (by decide)]
                    refine R_iload (k := 4) rfl rfl ?_
                    refine N_if_eq (a := x6.toInt) 187 rfl rfl rfl (fun c201 => ?_) (fun c201 => ?_)
                    · exact R_vret rfl rfl ⟨hI, fr, ⟨by omega, trivial⟩, rfl⟩
                    · exfalso; omega
                  · exfalso; omega
              · exfalso; omega
        · refine R_aload_n (k := 0) rfl rfl rfl ?_
          refine R_getf_r (j := 4) rfl ft_6_24 sh_75 rfl ?_
          refine R_iload_n (k := 3) rfl rfl rfl ?_
          refine R_iald rfl sh_80 ⟨by omega, by omega⟩ ?_
          refine N_any (fun x202 => ?_)
          refine N_i2l rfl (fun w203 q204 => ?_)
          refine R_iload (k := 6) rfl rfl ?_
          refine R_callS (As := [.inr (.inl w203), .inl x121]) (rest := []) rfl mt_6_i104 (by decide) pp_X8_hasBit (by decide) rfl rfl (Nat.le_of_ble_eq_true rfl) (Nat.le_of_ble_eq_true rfl) ((k_X8_hasBit h118 hI w203 x121).mono (fun r205 h206 p207 => ?_))
          obtain ⟨rfl, x208, rfl, q209 | q209⟩ := p207
          · show RUN d_X6_noteSums 37 [(6, .inl x121), (5, .inl x120), (4, .inl x6), (0, .inr (.inr (.inl 75))), (1, .inr (.inr (.inl 16))), (2, .inr (.inr (.inl 70))), (3, .inl a2)] [.inl x208] h118 _
            refine N_if_eq (a := x208.toInt) 51 rfl rfl rfl (fun c210 => ?_) (fun c210 => ?_)
            · refine N_iinc (a := x121.toInt) (c := 1) (fun w => [(6, .inl w), (5, .inl x120), (4, .inl x6), (0, .inr (.inr (.inl 75))), (1, .inr (.inr (.inl 16))), (2, .inr (.inr (.inl 70))), (3, .inl a2)]) rfl rfl (fun _ => rfl) (by decide) rfl (by decide) (by omega) (fun x211 q212 => ?_)
              refine R_goto 18 rfl rfl ?_
              exact RUN_weak (psub_cons rfl (psub_cons rfl (psub_cons rfl (psub_cons rfl (psub_cons rfl (psub_cons rfl (psub_cons rfl (psub_nil _)))))))) (ih122 h118 x120 x211 hI fr fl119 (by omega) (by omega))
            · exfalso; omega
          · show RUN d_X6_noteSums 37 [(6, .inl x121), (5, .inl x120), (4, .inl x6), (0, .inr (.inr (.inl 75))), (1, .inr (.inr (.inl 16))), (2, .inr (.inr (.inl 70))), (3, .inl a2)] [.inl x208] h118 _
            refine N_if_eq (a := x208.toInt) 51 rfl rfl rfl (fun c213 => ?_) (fun c213 => ?_)
            · exfalso; omega
            · refine R_iload (k := 5) rfl rfl ?_
              refine R_aload_n (k := 0) rfl rfl rfl ?_
              refine R_iload (k := 6) rfl rfl ?_
              refine R_callV (v := .inr (.inr (.inl 75))) (As := [.inl x121]) (rest := [.inl x120]) rfl mt_6_i108 pp_X6_lossOf (by decide) rfl rfl rfl (Nat.le_of_ble_eq_true rfl) (Nat.le_of_ble_eq_true rfl) ((k_X6_lossOf h118 hI x121 (by omega)).mono (fun r214 h215 p216 => ?_))
              obtain ⟨rfl, x217, rfl, q218⟩ := p216
              show RUN d_X6_noteSums 48 [(6, .inl x121), (5, .inl x120), (4, .inl x6), (0, .inr (.inr (.inl 75))), (1, .inr (.inr (.inl 16))), (2, .inr (.inr (.inl 70))), (3, .inl a2)] [.inl x217, .inl x120] h118 _
              have b219 := i_rng x120
              have b220 := i_rng x217
              refine R_iadd rfl ?_
              refine N_any (fun x221 => ?_)
              refine R_istore (k := 5) [(5, .inl x221), (6, .inl x121), (4, .inl x6), (0, .inr (.inr (.inl 75))), (1, .inr (.inr (.inl 16))), (2, .inr (.inr (.inl 70))), (3, .inl a2)] rfl rfl (by decide) ?_
              refine N_iinc (a := x121.toInt) (c := 1) (fun w => [(6, .inl w), (5, .inl x221), (4, .inl x6), (0, .inr (.inr (.inl 75))), (1, .inr (.inr (.inl 16))), (2, .inr (.inr (.inl 70))), (3, .inl a2)]) rfl rfl (fun _ => rfl) (by decide) rfl (by decide) (by omega) (fun x222 q223 => ?_)
              refine R_goto 18 rfl rfl ?_
              exact RUN_weak (psub_cons rfl (psub_cons rfl (psub_cons rfl (psub_cons rfl (psub_cons rfl (psub_cons rfl (psub_cons rfl (psub_nil _)))))))) (ih122 h118 x221 x222 hI fr fl119 (by omega) (by omega))
    exact lp117 _ h (0 : Int32) (0 : Int32) hI fr (FR.rf _ _) (by decide) (Nat.lt_succ_self _)
  · show RUN d_X6_noteSums 10 [(0, .inr (.inr (.inl 75))), (1, .inr (.inr (.inl 16))), (2, .inr (.inr (.inl 70))), (3, .inl a2)] [.inl x6] h _
    refine R_istore (k := 4) [(4, .inl x6), (0, .inr (.inr (.inl 75))), (1, .inr (.inr (.inl 16))), (2, .inr (.inr (.inl 70))), (3, .inl a2)] rfl rfl (by decide) ?_
    refine R_iconst 0 rfl rfl ?_
    refine R_istore (k := 5) [(5, .inl 0), (4, .inl x6), (0, .inr (.inr (.inl 75))), (1, .inr (.inr (.inl 16))), (2, .inr (.inr (.inl 70))), (3, .inl a2)] rfl rfl (by decide) ?_
    refine R_iconst 0 rfl rfl ?_
    refine R_istore (k := 6) [(6, .inl 0), (5, .inl 0), (4, .inl x6), (0, .inr (.inr (.inl 75))), (1, .inr (.inr (.inl 16))), (2, .inr (.inr (.inl 70))), (3, .inl a2)] rfl rfl (by decide) ?_
    have lp225 : ∀ (n224 : Nat) (h226 : PH) (x228 : Int32) (x229 : Int32), INV h226 → FR [75, 83, 84, 85] h h226 → FR [75, 83, 84, 85] h h226 → 0 ≤ x229.toInt ∧ x229.toInt ≤ 6 → (h226.1 75 12).toInt = (h.1 75 12).toInt → (6 - x229.toInt).toNat < n224 → RUN d_X6_noteSums 18 [(6, .inl x229), (5, .inl x228), (4, .inl x6), (0, .inr (.inr (.inl 75))), (1, .inr (.inr (.inl 16))), (2, .inr (.inr (.inl 70))), (3, .inl a2)] [] h226 (q_X6_noteSums h a2) := by
      intro n224
      induction n224 with
      | zero => intro h226 x228 x229 m231 m232 m233 m234 m235 hz; exact absurd hz (Nat.not_lt_zero _)
      | succ n224 ih230 =>
        intro h226 x228 x229 hI fr fl227 m234 m235 hz
        have s236 : (h226.1 70 4).toInt = (h.1 70 4).toInt := by rw [(fl227 70 (by decide)).1]
        refine R_iload (k := 6) rfl rfl ?_
        refine R_bipush 6 rfl rfl ?_
        refine N_icmp_ge (a := x229.toInt) (b := 6) 57 rfl rfl rfl (by decide) (fun c237 => ?_) (fun c237 => ?_)
        · refine R_iload_n (k := 3) rfl rfl rfl ?_
          refine N_if_ne (a := a2.toInt) 71 rfl rfl rfl (fun c238 => ?_) (fun c238 => ?_)
          · refine R_aload_n (k := 0) rfl rfl rfl ?_
            refine R_getf_r (j := 9) rfl ft_6_39 sh_75 rfl ?_
            refine R_iload_n (k := 3) rfl rfl rfl ?_
            refine R_iconst 1 rfl rfl ?_
            refine N_isub (a := a2.toInt) (b := 1) rfl rfl (by decide) (by omega) (fun x239 q240 => ?_)
            refine R_iald rfl sh_85 ⟨by omega, by omega⟩ ?_
            refine N_any (fun x241 => ?_)
            refine R_istore (k := 6) [(6, .inl x241), (5, .inl x228), (4, .inl x6), (0, .inr (.inr (.inl 75))), (1, .inr (.inr (.inl 16))), (2, .inr (.inr (.inl 70))), (3, .inl a2)] rfl rfl (by decide) ?_
            refine R_aload_n (k := 0) rfl rfl rfl ?_
            refine R_getf_r (j := 7) rfl ft_6_33 sh_75 rfl ?_
            refine R_iload_n (k := 3) rfl rfl rfl ?_
            refine R_iload_n (k := 3) rfl rfl rfl ?_
            refine N_if_ne (a := a2.toInt) 94 rfl rfl rfl (fun c242 => ?_) (fun c242 => ?_)
            · refine R_aload_n (k := 0) rfl rfl rfl ?_
              refine R_getf_r (j := 7) rfl ft_6_33 sh_75 rfl ?_
              refine R_iload_n (k := 3) rfl rfl rfl ?_
              refine R_iconst 1 rfl rfl ?_
              refine N_isub (a := a2.toInt) (b := 1) rfl rfl (by decide) (by omega) (fun x243 q244 => ?_)
              refine R_iald rfl sh_83 ⟨by omega, by omega⟩ ?_
              refine N_any (fun x245 => ?_)
              refine R_iload (k := 4) rfl rfl ?_
              refine N_if_eq (a := x6.toInt) 111 rfl rfl rfl (fun c246 => ?_) (fun c246 => ?_)
              · exfalso; omega
              · refine R_iconst 1 rfl rfl ?_
                refine R_goto 112 rfl rfl ?_
                have b247 := i_rng x245
                refine R_iadd rfl ?_
                refine N_any (fun x248 => ?_)
                refine K_iast (a := a2.toInt) (lo := (-2147483648)) (hi' := 2147483647) rfl sh_83 rfl ⟨by omega, by omega⟩ hI (by decide) rfl (i_rng _) fr (by decide) (fun h249 g250 hI fr => ?_)
                have fl227 : FR [75, 83, 84, 85] h h249 := by rw [g250]; exact FR_wI _ _ fl227 (by decide)
                have s251 : (h249.1 75 12).toInt = (h226.1 75 12).toInt := by rw [g250, wI_ne _ _ _ (by decide)]
                have s252 : (h249.1 70 4).toInt = (h226.1 70 4).toInt := by rw [g250, wI_ne _ _ _ (by decide)]
                refine R_aload_n (k := 0) rfl rfl rfl ?_
                refine R_getf_r (j := 8) rfl ft_6_36 sh_75 rfl ?_
                refine R_iload_n (k := 3) rfl rfl rfl ?_
                refine R_iload_n (k := 3) rfl rfl rfl ?_
                refine N_if_ne (a := a2.toInt) 127 rfl rfl rfl (fun c253 => ?_) (fun c253 => ?_)
                · refine R_aload_n (k := 0) rfl rfl rfl ?_
                  refine R_getf_r (j := 8) rfl ft_6_36 sh_75 rfl ?_
                  refine R_iload_n (k := 3) rfl rfl rfl ?_
                  refine R_iconst 1 rfl rfl ?_
                  refine N_isub (a := a2.toInt) (b := 1) rfl rfl (by decide) (by omega) (fun x254 q255 => ?_)
                  refine R_iald rfl sh_84 ⟨by omega, by omega⟩ ?_
                  refine N_any (fun x256 => ?_)
                  refine R_iload (k := 5) rfl rfl ?_
                  have b257 := i_rng x256
                  have b258 := i_rng x228
                  refine R_iadd rfl ?_
                  refine N_any (fun x259 => ?_)
                  refine K_iast (a := a2.toInt) (lo := (-2147483648)) (hi' := 2147483647) rfl sh_84 rfl ⟨by omega, by omega⟩ hI (by decide) rfl (i_rng _) fr (by decide) (fun h260 g261 hI fr => ?_)
                  have fl227 : FR [75, 83, 84, 85] h h260 := by rw [g261]; exact FR_wI _ _ fl227 (by decide)
                  have s262 : (h260.1 75 12).toInt = (h249.1 75 12).toInt := by rw [g261, wI_ne _ _ _ (by decide)]
                  have s263 : (h260.1 70 4).toInt = (h249.1 70 4).toInt := by rw [g261, wI_ne _ _ _ (by decide)]
                  refine R_aload_n (k := 0) rfl rfl rfl ?_
                  refine R_getf_r (j := 9) rfl ft_6_39 sh_75 rfl ?_
                  refine R_iload_n (k := 3) rfl rfl rfl ?_
                  refine R_iload (k := 6) rfl rfl ?_
                  refine R_iload (k := 4) rfl rfl ?_
                  refine N_if_eq (a := x6.toInt) 158 rfl rfl rfl (fun c264 => ?_) (fun c264 => ?_)
                  · exfalso; omega
                  · refine R_aload_n (k := 0) rfl rfl rfl ?_
                    refine R_getf_i (j := 12) rfl ft_6_49 sh_75 rfl ?_
                    refine R_goto 159 rfl rfl ?_
                    refine R_aload_n (k := 1) rfl rfl rfl ?_
                    refine R_getf_r (j := 0) rfl ft_6_65 sh_16 rfl ?_
                    refine R_bipush 8 rfl rfl ?_
                    refine R_iald rfl sh_17 (by decide) ?_
                    show RUN d_X6_noteSums 166 [(6, .inl x241), (5, .inl x228), (4, .inl x6), (0, .inr (.inr (.inl 75))), (1, .inr (.inr (.inl 16))), (2, .inr (.inr (.inl 70))), (3, .inl a2)] [.inl (h260.1 17 8), .inl (h260.1 75 12), .inl x241, .inl a2, .inr (.inr (.inl 85))] h260 _
                    refine R_callS (As := [.inl x241, .inl (h260.1 75 12), .inl (h260.1 17 8)]) (rest := [.inl a2, .inr (.inr (.inl 85))]) rfl mt_6_i111 (by decide) pp_X8_burnsOn (by decide) rfl rfl (Nat.le_of_ble_eq_true rfl) (Nat.le_of_ble_eq_true rfl) ((k_X8_burnsOn h260 hI x241 (h260.1 75 12) (h260.1 17 8)).mono (fun r265 h266 p267 => ?_))
                    obtain ⟨rfl, x268, rfl, q269⟩ := p267
                    show RUN d_X6_noteSums 169 [(6, .inl x241), (5, .inl x228), (4, .inl x6), (0, .inr (.inr (.inl 75))), (1, .inr (.inr (.inl 16))), (2, .inr (.inr (.inl 70))), (3, .inl a2)] [.inl x268, .inl a2, .inr (.inr (.inl 85))] h260 _
                    refine K_iast (a := a2.toInt) (lo := (-2147483648)) (hi' := 2147483647) rfl sh_85 rfl ⟨by omega, by omega⟩ hI (by decide) rfl (i_rng _) fr (by decide) (fun h270 g271 hI fr => ?_)
                    have fl227 : FR [75, 83, 84, 85] h h270 := by rw [g271]; exact FR_wI _ _ fl227 (by decide)
                    have s272 : (h270.1 75 12).toInt = (h260.1 75 12).toInt := by rw [g271, wI_ne _ _ _ (by decide)]
                    have s273 : (h270.1 70 4).toInt = (h260.1 70 4).toInt := by rw [g271, wI_ne _ _ _ (by decide)]
                    have s274 : (h270.1 17 8).toInt = (h260.1 17 8).toInt := by rw [g271, wI_ne _ _ _ (by decide)]
                    refine R_iload (k := 4) rfl rfl ?_
                    refine N_if_eq (a := x6.toInt) 187 rfl rfl rfl (fun c275 => ?_) (fun c275 => ?_)
                    · exfalso; omega
                    · refine R_aload_n (k := 0) rfl rfl rfl ?_
                      refine R_dup_r rfl ?_
                      refine R_getf_l (j := 11) rfl ft_6_45 sh_75 rfl ?_
                      refine N_anyL (fun w276 => ?_)
                      refine R_lconst 1 rfl rfl ?_
                      refine R_iload_n (k := 3) rfl rfl rfl ?_
                      refine R_lshl rfl ?_
                      refine N_anyL (fun w277 => ?_)
                      refine R_lor rfl ?_
                      refine N_anyL (fun w278 => ?_)
                      refine K_putl (j := 11) rfl ft_6_45 sh_75 rfl hI fr (by decide) (fun h279 g280 hI fr => ?_)
                      have fl227 : FR [75, 83, 84, 85] h h279 := by rw [g280]; exact FR_wL _ _ fl227 (by decide)
                      have s281 : (h279.1 75 12).toInt = (h270.1 75 12).toInt := by rw [g280, wL_fst]
                      have s282 : (h279.1 70 4).toInt = (h270.1 70 4).toInt := by rw [g280, wL_fst]
                      have s283 : (h279.1 17 8).toInt = (h270.1 17 8).toInt := by rw [g280, wL_fst]
                      exact R_vret rfl rfl ⟨hI, fr, ⟨by omega, trivial⟩, rfl⟩
                · exfalso; omega
            · exfalso; omega
          · refine R_aload_n (k := 1) rfl rfl rfl ?_
            refine R_getf_r (j := 0) rfl ft_6_65 sh_16 rfl ?_
            refine R_bipush 7 rfl rfl ?_
            refine R_iald rfl sh_17 (by decide) ?_
            show RUN d_X6_noteSums 68 [(6, .inl x229), (5, .inl x228), (4, .inl x6), (0, .inr (.inr (.inl 75))), (1, .inr (.inr (.inl 16))), (2, .inr (.inr (.inl 70))), (3, .inl a2)] [.inl (h226.1 17 7)] h226 _
            refine R_goto 79 rfl rfl ?_
            refine R_istore (k := 6) [(6, .inl (h226.1 17 7)), (5, .inl x228), (4, .inl x6), (0, .inr (.inr (.inl 75))), (1, .inr (.inr (.inl 16))), (2, .inr (.inr (.inl 70))), (3, .inl a2)] rfl rfl (by decide) ?_
            refine R_aload_n (k := 0) rfl rfl rfl ?_
            refine R_getf_r (j := 7) rfl ft_6_33 sh_75 rfl ?_
            refine R_iload_n (k := 3) rfl rfl rfl ?_
            refine R_iload_n (k := 3) rfl rfl rfl ?_
            refine N_if_ne (a := a2.toInt) 94 rfl rfl rfl (fun c284 => ?_) (fun c284 => ?_)
            · exfalso; omega
            · refine R_iconst 0 rfl rfl ?_
              refine R_goto 102 rfl rfl ?_
              refine R_iload (k := 4) rfl rfl ?_
              refine N_if_eq (a := x6.toInt) 111 rfl rfl rfl (fun c285 => ?_) (fun c285 => ?_)
              · exfalso; omega
              · refine R_iconst 1 rfl rfl ?_
                refine R_goto 112 rfl rfl ?_
                refine N_iadd (a := 0) (b := 1) rfl (by decide) (by decide) (by omega) (fun x286 q287 => ?_)
                refine K_iast (a := a2.toInt) (lo := (-2147483648)) (hi' := 2147483647) rfl sh_83 rfl ⟨by omega, by omega⟩ hI (by decide) rfl (i_rng _) fr (by decide) (fun h288 g289 hI fr => ?_)
                have fl227 : FR [75, 83, 84, 85] h h288 := by rw [g289]; exact FR_wI _ _ fl227 (by decide)
                have s290 : (h288.1 75 12).toInt = (h226.1 75 12).toInt := by rw [g289, wI_ne _ _ _ (by decide)]
                have s291 : (h288.1 70 4).toInt = (h226.1 70 4).toInt := by rw [g289, wI_ne _ _ _ (by decide)]
                have s292 : (h288.1 17 7).toInt = (h226.1 17 7).toInt := by rw [g289, wI_ne _ _ _ (by decide)]
                refine R_aload_n (k := 0) rfl rfl rfl ?_
                refine R_getf_r (j := 8) rfl ft_6_36 sh_75 rfl ?_
                refine R_iload_n (k := 3) rfl rfl rfl ?_
                refine R_iload_n (k := 3) rfl rfl rfl ?_
                refine N_if_ne (a := a2.toInt) 127 rfl rfl rfl (fun c293 => ?_) (fun c293 => ?_)
                · exfalso; omega
                · refine R_iconst 0 rfl rfl ?_
                  refine R_goto 135 rfl rfl ?_
                  refine R_iload (k := 5) rfl rfl ?_
                  have b294 := i_rng x228
                  refine N_iadd (a := 0) (b := x228.toInt) rfl (by decide) rfl (by omega) (fun x295 q296 => ?_)
                  refine K_iast (a := a2.toInt) (lo := (-2147483648)) (hi' := 2147483647) rfl sh_84 rfl ⟨by omega, by omega⟩ hI (by decide) rfl (i_rng _) fr (by decide) (fun h297 g298 hI fr => ?_)
                  have fl227 : FR [75, 83, 84, 85] h h297 := by rw [g298]; exact FR_wI _ _ fl227 (by decide)
                  have s299 : (h297.1 75 12).toInt = (h288.1 75 12).toInt := by rw [g298, wI_ne _ _ _ (by decide)]
                  have s300 : (h297.1 70 4).toInt = (h288.1 70 4).toInt := by rw [g298, wI_ne _ _ _ (by decide)]
                  have s301 : (h297.1 17 7).toInt = (h288.1 17 7).toInt := by rw [g298, wI_ne _ _ _ (by decide)]
                  refine R_aload_n (k := 0) rfl rfl rfl ?_
                  refine R_getf_r (j := 9) rfl ft_6_39 sh_75 rfl ?_
                  refine R_iload_n (k := 3) rfl rfl rfl ?_
                  refine R_iload (k := 6) rfl rfl ?_
                  refine R_iload (k := 4) rfl rfl ?_
                  refine N_if_eq (a := x6.toInt) 158 rfl rfl rfl (fun c302 => ?_) (fun c302 => ?_)
                  · exfalso; omega
                  · refine R_aload_n (k := 0) rfl rfl rfl ?_
                    refine R_getf_i (j := 12) rfl ft_6_49 sh_75 rfl ?_
                    refine R_goto 159 rfl rfl ?_
                    refine R_aload_n (k := 1) rfl rfl rfl ?_
                    refine R_getf_r (j := 0) rfl ft_6_65 sh_16 rfl ?_
                    refine R_bipush 8 rfl rfl ?_
                    refine R_iald rfl sh_17 (by decide) ?_
                    show RUN d_X6_noteSums 166 [(6, .inl (h226.1 17 7)), (5, .inl x228), (4, .inl x6), (0, .inr (.inr (.inl 75))), (1, .inr (.inr (.inl 16))), (2, .inr (.inr (.inl 70))), (3, .inl a2)] [.inl (h297.1 17 8), .inl (h297.1 75 12), .inl (h226.1 17 7), .inl a2, .inr (.inr (.inl 85))] h297 _
                    refine R_callS (As := [.inl (h226.1 17 7), .inl (h297.1 75 12), .inl (h297.1 17 8)]) (rest := [.inl a2, .inr (.inr (.inl 85))]) rfl mt_6_i111 (by decide) pp_X8_burnsOn (by decide) rfl rfl (Nat.le_of_ble_eq_true rfl) (Nat.le_of_ble_eq_true rfl) ((k_X8_burnsOn h297 hI (h226.1 17 7) (h297.1 75 12) (h297.1 17 8)).mono (fun r303 h304 p305 => ?_))
                    obtain ⟨rfl, x306, rfl, q307⟩ := p305
                    show RUN d_X6_noteSums 169 [(6, .inl (h226.1 17 7)), (5, .inl x228), (4, .inl x6), (0, .inr (.inr (.inl 75))), (1, .inr (.inr (.inl 16))), (2, .inr (.inr (.inl 70))), (3, .inl a2)] [.inl x306, .inl a2, .inr (.inr (.inl 85))] h297 _
                    refine K_iast (a := a2.toInt) (lo := (-2147483648)) (hi' := 2147483647) rfl sh_85 rfl ⟨by omega, by omega⟩ hI (by decide) rfl (i_rng _) fr (by decide) (fun h308 g309 hI fr => ?_)
                    have fl227 : FR [75, 83, 84, 85] h h308 := by rw [g309]; exact FR_wI _ _ fl227 (by decide)
                    have s310 : (h308.1 75 12).toInt = (h297.1 75 12).toInt := by rw [g309, wI_ne _ _ _ (by decide)]
                    have s311 : (h308.1 70 4).toInt = (h297.1 70 4).toInt := by rw [g309, wI_ne _ _ _ (by decide)]
                    have s312 : (h308.1 17 7).toInt = (h297.1 17 7).toInt := by rw [g309, wI_ne _ _ _ (by decide)]
                    have s313 : (h308.1 17 8).toInt = (h297.1 17 8).toInt := by rw [g309, wI_ne _ _ _ (by decide)]
                    refine R_iload (k := 4) rfl rfl ?_
                    refine N_if_eq (a := x6.toInt) 187 rfl rfl rfl (fun c314 => ?_) (fun c314 => ?_)
                    · exfalso; omega
                    · refine R_aload_n (k := 0) rfl rfl rfl ?_
                      refine R_dup_r rfl ?_
                      refine R_getf_l (j := 11) rfl ft_6_45 sh_75 rfl ?_
                      refine N_anyL (fun w315 => ?_)
                      refine R_lconst 1 rfl rfl ?_
                      refine R_iload_n (k := 3) rfl rfl rfl ?_
                      refine R_lshl rfl ?_
                      refine N_anyL (fun w316 => ?_)
                      refine R_lor rfl ?_
                      refine N_anyL (fun w317 => ?_)
                      refine K_putl (j := 11) rfl ft_6_45 sh_75 rfl hI fr (by decide) (fun h318 g319 hI fr => ?_)
                      have fl227 : FR [75, 83, 84, 85] h h318 := by rw [g319]; exact FR_wL _ _ fl227 (by decide)
                      have s320 : (h318.1 75 12).toInt = (h308.1 75 12).toInt := by rw [g319, wL_fst]
                      have s321 : (h318.1 70 4).toInt = (h308.1 70 4).toInt := by rw [g319, wL_fst]
                      have s322 : (h318.1 17 7).toInt = (h308.1 17 7).toInt := by rw [g319, wL_fst]
                      have s323 : (h318.1 17 8).toInt = (h308.1 17 8).toInt := by rw [g319, wL_fst]
                      exact R_vret rfl rfl ⟨hI, fr, ⟨by omega, trivial⟩, rfl⟩
        · refine R_aload_n (k := 0) rfl rfl rfl ?_
          refine R_getf_r (j := 4) rfl ft_6_24 sh_75 rfl ?_
          refine R_iload_n (k := 3) rfl rfl rfl ?_
          refine R_iald rfl sh_80 ⟨by omega, by omega⟩ ?_
          refine N_any (fun x324 => ?_)
          refine N_i2l rfl (fun w325 q326 => ?_)
          refine R_iload (k := 6) rfl rfl ?_
          refine R_callS (As := [.inr (.inl w325), .inl x229]) (rest := []) rfl mt_6_i104 (by decide) pp_X8_hasBit (by decide) rfl rfl (Nat.le_of_ble_eq_true rfl) (Nat.le_of_ble_eq_true rfl) ((k_X8_hasBit h226 hI w325 x229).mono (fun r327 h328 p329 => ?_))
          obtain ⟨rfl, x330, rfl, q331 | q331⟩ := p329
          · show RUN d_X6_noteSums 37 [(6, .inl x229), (5, .inl x228), (4, .inl x6), (0, .inr (.inr (.inl 75))), (1, .inr (.inr (.inl 16))), (2, .inr (.inr (.inl 70))), (3, .inl a2)] [.inl x330] h226 _
            refine N_if_eq (a := x330.toInt) 51 rfl rfl rfl (fun c332 => ?_) (fun c332 => ?_)
            · refine N_iinc (a := x229.toInt) (c := 1) (fun w => [(6, .inl w), (5, .inl x228), (4, .inl x6), (0, .inr (.inr (.inl 75))), (1, .inr (.inr (.inl 16))), (2, .inr (.inr (.inl 70))), (3, .inl a2)]) rfl rfl (fun _ => rfl) (by decide) rfl (by decide) (by omega) (fun x333 q334 => ?_)
              refine R_goto 18 rfl rfl ?_
              exact RUN_weak (psub_cons rfl (psub_cons rfl (psub_cons rfl (psub_cons rfl (psub_cons rfl (psub_cons rfl (psub_cons rfl (psub_nil _)))))))) (ih230 h226 x228 x333 hI fr fl227 (by omega) (by omega) (by omega))
            · exfalso; omega
          · show RUN d_X6_noteSums 37 [(6, .inl x229), (5, .inl x228), (4, .inl x6), (0, .inr (.inr (.inl 75))), (1, .inr (.inr (.inl 16))), (2, .inr (.inr (.inl 70))), (3, .inl a2)] [.inl x330] h226 _
            refine N_if_eq (a := x330.toInt) 51 rfl rfl rfl (fun c335 => ?_) (fun c335 => ?_)
            · exfalso; omega
            · refine R_iload (k := 5) rfl rfl ?_
              refine R_aload_n (k := 0) rfl rfl rfl ?_
              refine R_iload (k := 6) rfl rfl ?_
              refine R_callV (v := .inr (.inr (.inl 75))) (As := [.inl x229]) (rest := [.inl x228]) rfl mt_6_i108 pp_X6_lossOf (by decide) rfl rfl rfl (Nat.le_of_ble_eq_true rfl) (Nat.le_of_ble_eq_true rfl) ((k_X6_lossOf h226 hI x229 (by omega)).mono (fun r336 h337 p338 => ?_))
              obtain ⟨rfl, x339, rfl, q340⟩ := p338
              show RUN d_X6_noteSums 48 [(6, .inl x229), (5, .inl x228), (4, .inl x6), (0, .inr (.inr (.inl 75))), (1, .inr (.inr (.inl 16))), (2, .inr (.inr (.inl 70))), (3, .inl a2)] [.inl x339, .inl x228] h226 _
              have b341 := i_rng x228
              have b342 := i_rng x339
              refine R_iadd rfl ?_
              refine N_any (fun x343 => ?_)
              refine R_istore (k := 5) [(5, .inl x343), (6, .inl x229), (4, .inl x6), (0, .inr (.inr (.inl 75))), (1, .inr (.inr (.inl 16))), (2, .inr (.inr (.inl 70))), (3, .inl a2)] rfl rfl (by decide) ?_
              refine N_iinc (a := x229.toInt) (c := 1) (fun w => [(6, .inl w), (5, .inl x343), (4, .inl x6), (0, .inr (.inr (.inl 75))), (1, .inr (.inr (.inl 16))), (2, .inr (.inr (.inl 70))), (3, .inl a2)]) rfl rfl (fun _ => rfl) (by decide) rfl (by decide) (by omega) (fun x344 q345 => ?_)
              refine R_goto 18 rfl rfl ?_
              exact RUN_weak (psub_cons rfl (psub_cons rfl (psub_cons rfl (psub_cons rfl (psub_cons rfl (psub_cons rfl (psub_cons rfl (psub_nil _)))))))) (ih230 h226 x343 x344 hI fr fl227 (by omega) (by omega) (by omega))
    exact lp225 _ h (0 : Int32) (0 : Int32) hI fr (FR.rf _ _) (by decide) rfl (Nat.lt_succ_self _)
