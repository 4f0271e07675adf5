abbrev q_X6_tell (h : PH)  : Option PV → PH → Prop := fun r h' => INV h' ∧ FR [70, 74, 75, 76, 77, 78, 79, 80, 81, 82, 83, 84, 85, 86] h h' ∧ (True) ∧ r = none
set_option maxHeartbeats 4000000 in
set_option maxRecDepth 100000 in
theorem k_X6_tell (h : PH) (hI : INV h)  : CALL d_X6_tell [.inr (.inr (.inl 75)), .inr (.inr (.inl 16)), .inr (.inr (.inl 70))] h (q_X6_tell h) := by
  show RUN d_X6_tell 0 [(0, .inr (.inr (.inl 75))), (1, .inr (.inr (.inl 16))), (2, .inr (.inr (.inl 70)))] [] h _
  have fr : FR [70, 74, 75, 76, 77, 78, 79, 80, 81, 82, 83, 84, 85, 86] h h := FR.rf _ _
  refine R_iconst 0 rfl rfl ?_
  refine R_istore_n (k := 3) rfl [(3, .inl 0), (0, .inr (.inr (.inl 75))), (1, .inr (.inr (.inl 16))), (2, .inr (.inr (.inl 70)))] rfl rfl (by decide) ?_
  have lp2 : ∀ (n1 : Nat) (h3 : PH) (x5 : Int32), INV h3 → FR [70, 74, 75, 76, 77, 78, 79, 80, 81, 82, 83, 84, 85, 86] h h3 → FR [70, 74, 75, 76, 77, 78, 79, 80, 81, 82, 83, 84, 85, 86] h h3 → 0 ≤ x5.toInt ∧ x5.toInt ≤ 7 → (7 - x5.toInt).toNat < n1 → RUN d_X6_tell 2 [(3, .inl x5), (0, .inr (.inr (.inl 75))), (1, .inr (.inr (.inl 16))), (2, .inr (.inr (.inl 70)))] [] h3 (q_X6_tell h) := by
    intro n1
    induction n1 with
    | zero => intro h3 x5 m7 m8 m9 m10 hz; exact absurd hz (Nat.not_lt_zero _)
    | succ n1 ih6 =>
      intro h3 x5 hI fr fl4 m10 hz
      refine R_iload_n (k := 3) rfl rfl rfl ?_
      refine R_bipush 6 rfl rfl ?_
      refine N_icmp_gt (a := x5.toInt) (b := 6) 25 rfl rfl rfl (by decide) (fun c11 => ?_) (fun c11 => ?_)
      · refine R_aload_n (k := 0) rfl rfl rfl ?_
        refine R_aload_n (k := 2) rfl rfl rfl ?_
        refine R_callV (v := .inr (.inr (.inl 70))) (As := []) (rest := [.inr (.inr (.inl 75))]) rfl mt_6_i59 pp_X2_poured (by decide) rfl rfl rfl (Nat.le_of_ble_eq_true rfl) (Nat.le_of_ble_eq_true rfl) ((k_X2_poured h3 hI).mono (fun r12 h13 p14 => ?_))
        obtain ⟨rfl, x15, rfl, q16⟩ := p14
        show RUN d_X6_tell 30 [(3, .inl x5), (0, .inr (.inr (.inl 75))), (1, .inr (.inr (.inl 16))), (2, .inr (.inr (.inl 70)))] [.inl x15, .inr (.inr (.inl 75))] h3 _
        refine K_putf (j := 12) (lo := (-2147483648)) (hi' := 2147483647) rfl ft_6_49 sh_75 rfl hI (by decide) rfl (i_rng _) fr (by decide) (fun h17 g18 hI fr => ?_)
        have fl4 : FR [70, 74, 75, 76, 77, 78, 79, 80, 81, 82, 83, 84, 85, 86] h h17 := by rw [g18]; exact FR_wI _ _ fl4 (by decide)
        have s19 : (h17.1 75 12).toInt = x15.toInt := by rw [g18, wI_is]
        refine R_aload_n (k := 0) rfl rfl rfl ?_
        refine R_lconst 0 rfl rfl ?_
        refine K_putl (j := 11) rfl ft_6_45 sh_75 rfl hI fr (by decide) (fun h20 g21 hI fr => ?_)
        have fl4 : FR [70, 74, 75, 76, 77, 78, 79, 80, 81, 82, 83, 84, 85, 86] h h20 := by rw [g21]; exact FR_wL _ _ fl4 (by decide)
        have s22 : (h20.1 75 12).toInt = (h17.1 75 12).toInt := by rw [g21, wL_fst]
        refine R_aload_n (k := 2) rfl rfl rfl ?_
        refine R_callV (v := .inr (.inr (.inl 70))) (As := []) (rest := []) rfl mt_6_i62 pp_X2_begin (by decide) rfl rfl rfl (Nat.le_of_ble_eq_true rfl) (Nat.le_of_ble_eq_true rfl) ((k_X2_begin h20 hI).mono (fun r23 h24 p25 => ?_))
        obtain ⟨hJ, fj, ⟨kp26, -⟩, rfl⟩ := p25
        have f27 := fj
        have fr := fr.trans fj (by decide)
        have hI := hJ
        have fl4 : FR [70, 74, 75, 76, 77, 78, 79, 80, 81, 82, 83, 84, 85, 86] h h24 := fl4.trans fj (by decide)
        have s28 : (h24.1 75 12).toInt = (h20.1 75 12).toInt := by rw [(f27 75 (by decide)).1]
        show RUN d_X6_tell 42 [(3, .inl x5), (0, .inr (.inr (.inl 75))), (1, .inr (.inr (.inl 16))), (2, .inr (.inr (.inl 70)))] [] h24 _
        refine R_iconst 0 rfl rfl ?_
        refine R_istore_n (k := 3) rfl [(3, .inl 0), (0, .inr (.inr (.inl 75))), (1, .inr (.inr (.inl 16))), (2, .inr (.inr (.inl 70)))] rfl rfl (by decide) ?_
        have lp30 : ∀ (n29 : Nat) (h31 : PH) (x33 : Int32), INV h31 → FR [70, 74, 75, 76, 77, 78, 79, 80, 81, 82, 83, 84, 85, 86] h h31 → FR [70, 74, 75, 76, 77, 78, 79, 80, 81, 82, 83, 84, 85] h24 h31 → 0 ≤ x33.toInt ∧ x33.toInt ≤ 60 → (h31.1 75 12).toInt = (h24.1 75 12).toInt → (60 - x33.toInt).toNat < n29 → RUN d_X6_tell 44 [(3, .inl x33), (0, .inr (.inr (.inl 75))), (1, .inr (.inr (.inl 16))), (2, .inr (.inr (.inl 70)))] [] h31 (q_X6_tell h) := by
          intro n29
          induction n29 with
          | zero => intro h31 x33 m35 m36 m37 m38 m39 hz; exact absurd hz (Nat.not_lt_zero _)
          | succ n29 ih34 =>
            intro h31 x33 hI fr fl32 m38 m39 hz
            have fl4 : FR [70, 74, 75, 76, 77, 78, 79, 80, 81, 82, 83, 84, 85, 86] h h31 := fl4.trans fl32 (by decide)
            refine R_iload_n (k := 3) rfl rfl rfl ?_
            refine R_aload_n (k := 1) rfl rfl rfl ?_
            refine R_getf_r (j := 0) rfl ft_6_65 sh_16 rfl ?_
            refine R_iconst 0 rfl rfl ?_
            refine R_iald rfl sh_17 (by decide) ?_
            have b40 : (0 : Int) ≤ (h31.1 17 0).toInt ∧ (h31.1 17 0).toInt ≤ 60 := hI.1 17 0
            show RUN d_X6_tell 51 [(3, .inl x33), (0, .inr (.inr (.inl 75))), (1, .inr (.inr (.inl 16))), (2, .inr (.inr (.inl 70)))] [.inl (h31.1 17 0), .inl x33] h31 _
            refine N_icmp_ge (a := x33.toInt) (b := (h31.1 17 0).toInt) 114 rfl rfl rfl rfl (fun c41 => ?_) (fun c41 => ?_)
            · exact R_vret rfl rfl ⟨hI, fr, trivial, rfl⟩
            · refine R_iload_n (k := 3) rfl rfl rfl ?_
              refine R_bipush 60 rfl rfl ?_
              refine N_icmp_ge (a := x33.toInt) (b := 60) 114 rfl rfl rfl (by decide) (fun c42 => ?_) (fun c42 => ?_)
              · exfalso; omega
              · refine R_aload_n (k := 2) rfl rfl rfl ?_
                refine R_callV (v := .inr (.inr (.inl 70))) (As := []) (rest := []) rfl mt_6_i70 pp_X2_readyBits (by decide) rfl rfl rfl (Nat.le_of_ble_eq_true rfl) (Nat.le_of_ble_eq_true rfl) ((k_X2_readyBits h31 hI).mono (fun r43 h44 p45 => ?_))
                obtain ⟨rfl, x46, rfl, q47⟩ := p45
                show RUN d_X6_tell 64 [(3, .inl x33), (0, .inr (.inr (.inl 75))), (1, .inr (.inr (.inl 16))), (2, .inr (.inr (.inl 70)))] [.inl x46] h31 _
                refine R_istore (k := 4) [(4, .inl x46), (3, .inl x33), (0, .inr (.inr (.inl 75))), (1, .inr (.inr (.inl 16))), (2, .inr (.inr (.inl 70)))] rfl rfl (by decide) ?_
                refine R_aload_n (k := 0) rfl rfl rfl ?_
                refine R_getf_r (j := 4) rfl ft_6_24 sh_75 rfl ?_
                refine R_iload_n (k := 3) rfl rfl rfl ?_
                refine R_aload_n (k := 2) rfl rfl rfl ?_
                refine R_iload_n (k := 3) rfl rfl rfl ?_
                refine R_iconst 0 rfl rfl ?_
                have k48 : (0 : Int32).toInt = 0 := by decide
                refine R_callV (v := .inr (.inr (.inl 70))) (As := [.inl x33, .inl 0]) (rest := [.inl x33, .inr (.inr (.inl 80))]) rfl mt_6_i73 pp_X2_step (by decide) rfl rfl rfl (Nat.le_of_ble_eq_true rfl) (Nat.le_of_ble_eq_true rfl) ((k_X2_step h31 hI x33 (0 : Int32) (by omega) (by decide)).mono (fun r49 h50 p51 => ?_))
                obtain ⟨hJ, fj, ⟨kp52, -⟩, x53, rfl, q54⟩ := p51
                have f55 := fj
                have fr := fr.trans fj (by decide)
                have hI := hJ
                have fl32 : FR [70, 74, 75, 76, 77, 78, 79, 80, 81, 82, 83, 84, 85] h24 h50 := fl32.trans fj (by decide)
                have fl4 : FR [70, 74, 75, 76, 77, 78, 79, 80, 81, 82, 83, 84, 85, 86] h h50 := fl4.trans fj (by decide)
                have s56 : (h50.1 75 12).toInt = (h31.1 75 12).toInt := by rw [(f55 75 (by decide)).1]
                have s57 : (h50.1 17 0).toInt = (h31.1 17 0).toInt := by rw [(f55 17 (by decide)).1]
                show RUN d_X6_tell 77 [(4, .inl x46), (3, .inl x33), (0, .inr (.inr (.inl 75))), (1, .inr (.inr (.inl 16))), (2, .inr (.inr (.inl 70)))] [.inl x53, .inl x33, .inr (.inr (.inl 80))] h50 _
                refine K_iast (a := x33.toInt) (lo := (-2147483648)) (hi' := 2147483647) rfl sh_80 rfl ⟨by omega, by omega⟩ hI (by decide) rfl (i_rng _) fr (by decide) (fun h58 g59 hI fr => ?_)
                have fl32 : FR [70, 74, 75, 76, 77, 78, 79, 80, 81, 82, 83, 84, 85] h24 h58 := by rw [g59]; exact FR_wI _ _ fl32 (by decide)
                have fl4 : FR [70, 74, 75, 76, 77, 78, 79, 80, 81, 82, 83, 84, 85, 86] h h58 := by rw [g59]; exact FR_wI _ _ fl4 (by decide)
                have s60 : (h58.1 75 12).toInt = (h50.1 75 12).toInt := by rw [g59, wI_ne _ _ _ (by decide)]
                have s61 : (h58.1 17 0).toInt = (h50.1 17 0).toInt := by rw [g59, wI_ne _ _ _ (by decide)]
                refine R_aload_n (k := 0) rfl rfl rfl ?_
                refine R_getf_r (j := 2) rfl ft_6_18 sh_75 rfl ?_
                refine R_iload_n (k := 3) rfl rfl rfl ?_
                refine R_iload (k := 4) rfl rfl ?_
                refine R_aload_n (k := 0) rfl rfl rfl ?_
                refine R_getf_r (j := 4) rfl ft_6_24 sh_75 rfl ?_
                refine R_iload_n (k := 3) rfl rfl rfl ?_
                refine R_iald rfl sh_80 ⟨by omega, by omega⟩ ?_
                refine N_any (fun x62 => ?_)
                refine R_iconst (-1) rfl rfl ?_
                refine R_ixor rfl ?_
                refine N_any (fun x63 => ?_)
                refine R_iand rfl ?_
                refine N_any (fun x64 => ?_)
                refine K_iast (a := x33.toInt) (lo := (-2147483648)) (hi' := 2147483647) rfl sh_78 rfl ⟨by omega, by omega⟩ hI (by decide) rfl (i_rng _) fr (by decide) (fun h65 g66 hI fr => ?_)
                have fl32 : FR [70, 74, 75, 76, 77, 78, 79, 80, 81, 82, 83, 84, 85] h24 h65 := by rw [g66]; exact FR_wI _ _ fl32 (by decide)
                have fl4 : FR [70, 74, 75, 76, 77, 78, 79, 80, 81, 82, 83, 84, 85, 86] h h65 := by rw [g66]; exact FR_wI _ _ fl4 (by decide)
                have s67 : (h65.1 75 12).toInt = (h58.1 75 12).toInt := by rw [g66, wI_ne _ _ _ (by decide)]
                have s68 : (h65.1 17 0).toInt = (h58.1 17 0).toInt := by rw [g66, wI_ne _ _ _ (by decide)]
                refine R_aload_n (k := 0) rfl rfl rfl ?_
                refine R_aload_n (k := 2) rfl rfl rfl ?_
                refine R_iload_n (k := 3) rfl rfl rfl ?_
                refine R_callV (v := .inr (.inr (.inl 75))) (As := [.inr (.inr (.inl 70)), .inl x33]) (rest := []) rfl mt_6_i77 pp_X6_noteLine (by decide) rfl rfl rfl (Nat.le_of_ble_eq_true rfl) (Nat.le_of_ble_eq_true rfl) ((k_X6_noteLine h65 hI x33 (by omega)).mono (fun r69 h70 p71 => ?_))
                obtain ⟨hJ, fj, -, rfl⟩ := p71
                have f72 := fj
                have fr := fr.trans fj (by decide)
                have hI := hJ
                have fl32 : FR [70, 74, 75, 76, 77, 78, 79, 80, 81, 82, 83, 84, 85] h24 h70 := fl32.trans fj (by decide)
                have fl4 : FR [70, 74, 75, 76, 77, 78, 79, 80, 81, 82, 83, 84, 85, 86] h h70 := fl4.trans fj (by decide)
                have s73 : (h70.1 75 12).toInt = (h65.1 75 12).toInt := by rw [(f72 75 (by decide)).1]
                have s74 : (h70.1 17 0).toInt = (h65.1 17 0).toInt := by rw [(f72 17 (by decide)).1]
                show RUN d_X6_tell 101 [(4, .inl x46), (3, .inl x33), (0, .inr (.inr (.inl 75))), (1, .inr (.inr (.inl 16))), (2, .inr (.inr (.inl 70)))] [] h70 _
                refine R_aload_n (k := 0) rfl rfl rfl ?_
                refine R_aload_n (k := 1) rfl rfl rfl ?_
                refine R_aload_n (k := 2) rfl rfl rfl ?_
                refine R_iload_n (k := 3) rfl rfl rfl ?_
                refine R_callV (v := .inr (.inr (.inl 75))) (As := [.inr (.inr (.inl 16)), .inr (.inr (.inl 70)), .inl x33]) (rest := []) rfl mt_6_i81 pp_X6_noteSums (by decide) rfl rfl rfl (Nat.le_of_ble_eq_true rfl) (Nat.le_of_ble_eq_true rfl) ((k_X6_noteSums h70 hI x33 (by omega)).mono (fun r75 h76 p77 => ?_))
                obtain ⟨hJ, fj, ⟨kp78, -⟩, rfl⟩ := p77
                have f79 := fj
                have fr := fr.trans fj (by decide)
                have hI := hJ
                have fl32 : FR [70, 74, 75, 76, 77, 78, 79, 80, 81, 82, 83, 84, 85] h24 h76 := fl32.trans fj (by decide)
                have fl4 : FR [70, 74, 75, 76, 77, 78, 79, 80, 81, 82, 83, 84, 85, 86] h h76 := fl4.trans fj (by decide)
                have s80 : (h76.1 17 0).toInt = (h70.1 17 0).toInt := by rw [(f79 17 (by decide)).1]
                show RUN d_X6_tell 108 [(4, .inl x46), (3, .inl x33), (0, .inr (.inr (.inl 75))), (1, .inr (.inr (.inl 16))), (2, .inr (.inr (.inl 70)))] [] h76 _
                refine N_iinc (a := x33.toInt) (c := 1) (fun w => [(3, .inl w), (4, .inl x46), (0, .inr (.inr (.inl 75))), (1, .inr (.inr (.inl 16))), (2, .inr (.inr (.inl 70)))]) rfl rfl (fun _ => rfl) (by decide) rfl (by decide) (by omega) (fun x81 q82 => ?_)
                refine R_goto 44 rfl rfl ?_
                exact RUN_weak (psub_cons rfl (psub_cons rfl (psub_cons rfl (psub_cons rfl (psub_nil _))))) (ih34 h76 x81 hI fr fl32 (by omega) (by omega) (by omega))
        exact lp30 _ h24 (0 : Int32) hI fr (FR.rf _ _) (by decide) rfl (Nat.lt_succ_self _)
      · refine R_aload_n (k := 0) rfl rfl rfl ?_
        refine R_getf_r (j := 10) rfl ft_6_42 sh_75 rfl ?_
        refine R_iload_n (k := 3) rfl rfl rfl ?_
        refine R_aload_n (k := 2) rfl rfl rfl ?_
        refine R_iload_n (k := 3) rfl rfl rfl ?_
        refine R_callV (v := .inr (.inr (.inl 70))) (As := [.inl x5]) (rest := [.inl x5, .inr (.inr (.inl 86))]) rfl mt_6_i53 pp_X2_loadAt (by decide) rfl rfl rfl (Nat.le_of_ble_eq_true rfl) (Nat.le_of_ble_eq_true rfl) ((k_X2_loadAt h3 hI x5 (by omega)).mono (fun r83 h84 p85 => ?_))
        obtain ⟨rfl, x86, rfl, q87⟩ := p85
        show RUN d_X6_tell 18 [(3, .inl x5), (0, .inr (.inr (.inl 75))), (1, .inr (.inr (.inl 16))), (2, .inr (.inr (.inl 70)))] [.inl x86, .inl x5, .inr (.inr (.inl 86))] h3 _
        refine K_iast (a := x5.toInt) (lo := (-2147483648)) (hi' := 2147483647) rfl sh_86 rfl ⟨by omega, by omega⟩ hI (by decide) rfl (i_rng _) fr (by decide) (fun h88 g89 hI fr => ?_)
        have fl4 : FR [70, 74, 75, 76, 77, 78, 79, 80, 81, 82, 83, 84, 85, 86] h h88 := by rw [g89]; exact FR_wI _ _ fl4 (by decide)
        refine N_iinc (a := x5.toInt) (c := 1) (fun w => [(3, .inl w), (0, .inr (.inr (.inl 75))), (1, .inr (.inr (.inl 16))), (2, .inr (.inr (.inl 70)))]) rfl rfl (fun _ => rfl) (by decide) rfl (by decide) (by omega) (fun x90 q91 => ?_)
        refine R_goto 2 rfl rfl ?_
        exact RUN_weak (psub_cons rfl (psub_cons rfl (psub_cons rfl (psub_cons rfl (psub_nil _))))) (ih6 h88 x90 hI fr fl4 (by omega) (by omega))
  exact lp2 _ h (0 : Int32) hI fr (FR.rf _ _) (by decide) (Nat.lt_succ_self _)
abbrev q_X8_told (h : PH)  : Option PV → PH → Prop := fun r h' => INV h' ∧ FR [0, 70, 71, 72, 73, 74, 75, 76, 77, 78, 79, 80, 81, 82, 83, 84, 85, 86] h h' ∧ (True) ∧ r = some (.inr (.inr (.inl 75)))
set_option maxHeartbeats 4000000 in
set_option maxRecDepth 100000 in
theorem k_X8_told (h : PH) (hI : INV h)  : CALL d_X8_told [.inr (.inr (.inl 0))] h (q_X8_told h) := by
  show RUN d_X8_told 0 [(0, .inr (.inr (.inl 0)))] [] h _
  have fr : FR [0, 70, 71, 72, 73, 74, 75, 76, 77, 78, 79, 80, 81, 82, 83, 84, 85, 86] h h := FR.rf _ _
  refine R_aload_n (k := 0) rfl rfl rfl ?_
  refine R_getf_i (j := 11) rfl ft_8_74 sh_0 rfl ?_
  refine N_if_ne (a := (h.1 0 11).toInt) 31 rfl rfl rfl (fun c1 => ?_) (fun c1 => ?_)
  · refine R_aload_n (k := 0) rfl rfl rfl ?_
    refine R_getf_r (j := 8) rfl ft_8_56 sh_0 rfl ?_
    exact R_aret rfl rfl ⟨hI, fr, trivial, rfl⟩
  · refine R_aload_n (k := 0) rfl rfl rfl ?_
    refine R_callV (v := .inr (.inr (.inl 0))) (As := []) (rest := []) rfl mt_8_i237 pp_X8_lineAsNow (by decide) rfl rfl rfl (Nat.le_of_ble_eq_true rfl) (Nat.le_of_ble_eq_true rfl) ((k_X8_lineAsNow h hI).mono (fun r2 h3 p4 => ?_))
    obtain ⟨hJ, fj, -, rfl⟩ := p4
    have f5 := fj
    have fr := fr.trans fj (by decide)
    have hI := hJ
    have s6 : (h3.1 0 11).toInt = (h.1 0 11).toInt := by rw [(f5 0 (by decide)).1]
    show RUN d_X8_told 11 [(0, .inr (.inr (.inl 0)))] [] h3 _
    refine R_aload_n (k := 0) rfl rfl rfl ?_
    refine R_getf_r (j := 8) rfl ft_8_56 sh_0 rfl ?_
    refine R_aload_n (k := 0) rfl rfl rfl ?_
    refine R_getf_r (j := 3) rfl ft_8_28 sh_0 rfl ?_
    refine R_aload_n (k := 0) rfl rfl rfl ?_
    refine R_getf_r (j := 7) rfl ft_8_49 sh_0 rfl ?_
    refine R_callV (v := .inr (.inr (.inl 75))) (As := [.inr (.inr (.inl 16)), .inr (.inr (.inl 70))]) (rest := []) rfl mt_8_i412 pp_X6_tell (by decide) rfl rfl rfl (Nat.le_of_ble_eq_true rfl) (Nat.le_of_ble_eq_true rfl) ((k_X6_tell h3 hI).mono (fun r7 h8 p9 => ?_))
    obtain ⟨hJ, fj, -, rfl⟩ := p9
    have f10 := fj
    have fr := fr.trans fj (by decide)
    have hI := hJ
    have s11 : (h8.1 0 11).toInt = (h3.1 0 11).toInt := by rw [(f10 0 (by decide)).1]
    show RUN d_X8_told 26 [(0, .inr (.inr (.inl 0)))] [] h8 _
    refine R_aload_n (k := 0) rfl rfl rfl ?_
    refine R_iconst 1 rfl rfl ?_
    refine K_putz (j := 11) rfl ft_8_74 sh_0 rfl (by decide) hI (by decide) rfl fr (by decide) (fun h12 g13 hI fr => ?_)
    have s14 : (h12.1 0 11).toInt = 1 := by rw [g13, wI_is]; rfl
    refine R_aload_n (k := 0) rfl rfl rfl ?_
    refine R_getf_r (j := 8) rfl ft_8_56 sh_0 rfl ?_
    exact R_aret rfl rfl ⟨hI, fr, trivial, rfl⟩
abbrev q_X8_holds (h : PH) (a0 : Int32) (a1 : Int32) : Option PV → PH → Prop := fun r h' => INV h' ∧ FR [0, 70, 71, 72, 73, 74, 75, 76, 77, 78, 79, 80, 81, 82, 83, 84, 85, 86] h h' ∧ (True) ∧ ∃ z : Int32, r = some (.inl z) ∧ ((True))
set_option maxHeartbeats 4000000 in
set_option maxRecDepth 100000 in
theorem k_X8_holds (h : PH) (hI : INV h) (a0 : Int32) (a1 : Int32) : CALL d_X8_holds [.inr (.inr (.inl 0)), .inl a0, .inl a1] h (q_X8_holds h a0 a1) := by
  show RUN d_X8_holds 0 [(0, .inr (.inr (.inl 0))), (1, .inl a0), (2, .inl a1)] [] h _
  have b1 := i_rng a0
  have b2 := i_rng a1
  have fr : FR [0, 70, 71, 72, 73, 74, 75, 76, 77, 78, 79, 80, 81, 82, 83, 84, 85, 86] h h := FR.rf _ _
  refine R_aload_n (k := 0) rfl rfl rfl ?_
  refine R_getf_r (j := 3) rfl ft_8_28 sh_0 rfl ?_
  refine R_iload_n (k := 1) rfl rfl rfl ?_
  have b3 : (0 : Int) ≤ (h.1 17 5).toInt ∧ (h.1 17 5).toInt ≤ 6 := hI.1 17 5
  refine R_callV (v := .inr (.inr (.inl 16))) (As := [.inl a0]) (rest := []) rfl mt_8_i119 pp_X1_hasHand (by decide) rfl rfl rfl (Nat.le_of_ble_eq_true rfl) (Nat.le_of_ble_eq_true rfl) ((k_X1_hasHand h hI a0).mono (fun r4 h5 p6 => ?_))
  obtain ⟨rfl, x7, rfl, q8 | q8 | q8⟩ := p6
  · show RUN d_X8_holds 8 [(0, .inr (.inr (.inl 0))), (1, .inl a0), (2, .inl a1)] [.inl x7] h _
    refine N_if_eq (a := x7.toInt) 22 rfl rfl rfl (fun c9 => ?_) (fun c9 => ?_)
    · refine R_bipush (-2) rfl rfl ?_
      exact R_iret rfl rfl rfl ⟨hI, fr, trivial, _, rfl, trivial⟩
    · exfalso; omega
  · show RUN d_X8_holds 8 [(0, .inr (.inr (.inl 0))), (1, .inl a0), (2, .inl a1)] [.inl x7] h _
    refine N_if_eq (a := x7.toInt) 22 rfl rfl rfl (fun c10 => ?_) (fun c10 => ?_)
    · refine R_bipush (-2) rfl rfl ?_
      exact R_iret rfl rfl rfl ⟨hI, fr, trivial, _, rfl, trivial⟩
    · exfalso; omega
  · show RUN d_X8_holds 8 [(0, .inr (.inr (.inl 0))), (1, .inl a0), (2, .inl a1)] [.inl x7] h _
    refine N_if_eq (a := x7.toInt) 22 rfl rfl rfl (fun c11 => ?_) (fun c11 => ?_)
    · exfalso; omega
    · refine R_aload_n (k := 0) rfl rfl rfl ?_
      refine R_getf_r (j := 3) rfl ft_8_28 sh_0 rfl ?_
      refine R_iload_n (k := 2) rfl rfl rfl ?_
      have b12 : (0 : Int) ≤ (h.1 17 0).toInt ∧ (h.1 17 0).toInt ≤ 60 := hI.1 17 0
      refine R_callV (v := .inr (.inr (.inl 16))) (As := [.inl a1]) (rest := []) rfl mt_8_i150 pp_X1_hasSecond (by decide) rfl rfl rfl (Nat.le_of_ble_eq_true rfl) (Nat.le_of_ble_eq_true rfl) ((k_X1_hasSecond h hI a1).mono (fun r13 h14 p15 => ?_))
      obtain ⟨rfl, x16, rfl, q17 | q17 | q17⟩ := p15
      · show RUN d_X8_holds 19 [(0, .inr (.inr (.inl 0))), (1, .inl a0), (2, .inl a1)] [.inl x16] h _
        refine N_if_ne (a := x16.toInt) 25 rfl rfl rfl (fun c18 => ?_) (fun c18 => ?_)
        · exfalso; omega
        · refine R_bipush (-2) rfl rfl ?_
          exact R_iret rfl rfl rfl ⟨hI, fr, trivial, _, rfl, trivial⟩
      · show RUN d_X8_holds 19 [(0, .inr (.inr (.inl 0))), (1, .inl a0), (2, .inl a1)] [.inl x16] h _
        refine N_if_ne (a := x16.toInt) 25 rfl rfl rfl (fun c19 => ?_) (fun c19 => ?_)
        · exfalso; omega
        · refine R_bipush (-2) rfl rfl ?_
          exact R_iret rfl rfl rfl ⟨hI, fr, trivial, _, rfl, trivial⟩
      · show RUN d_X8_holds 19 [(0, .inr (.inr (.inl 0))), (1, .inl a0), (2, .inl a1)] [.inl x16] h _
        refine N_if_ne (a := x16.toInt) 25 rfl rfl rfl (fun c20 => ?_) (fun c20 => ?_)
        · refine R_aload_n (k := 0) rfl rfl rfl ?_
          refine R_callV (v := .inr (.inr (.inl 0))) (As := []) (rest := []) rfl mt_8_i153 pp_X8_told (by decide) rfl rfl rfl (Nat.le_of_ble_eq_true rfl) (Nat.le_of_ble_eq_true rfl) ((k_X8_told h hI).mono (fun r21 h22 p23 => ?_))
          obtain ⟨hJ, fj, -, rfl⟩ := p23
          have f24 := fj
          have fr := fr.trans fj (by decide)
          have hI := hJ
          have s25 : (h22.1 17 5).toInt = (h.1 17 5).toInt := by rw [(f24 17 (by decide)).1]
          have s26 : (h22.1 17 0).toInt = (h.1 17 0).toInt := by rw [(f24 17 (by decide)).1]
          show RUN d_X8_holds 29 [(0, .inr (.inr (.inl 0))), (1, .inl a0), (2, .inl a1)] [.inr (.inr (.inl 75))] h22 _
          refine R_getf_r (j := 1) rfl ft_8_157 sh_75 rfl ?_
          refine R_iload_n (k := 2) rfl rfl rfl ?_
          refine R_iald rfl sh_77 ⟨by omega, by omega⟩ ?_
          refine N_any (fun x27 => ?_)
          refine N_i2l rfl (fun w28 q29 => ?_)
          refine R_iload_n (k := 1) rfl rfl rfl ?_
          refine R_callS (As := [.inr (.inl w28), .inl a0]) (rest := []) rfl mt_8_i160 (by decide) pp_X8_hasBit (by decide) rfl rfl (Nat.le_of_ble_eq_true rfl) (Nat.le_of_ble_eq_true rfl) ((k_X8_hasBit h22 hI w28 a0).mono (fun r30 h31 p32 => ?_))
          obtain ⟨rfl, x33, rfl, q34 | q34⟩ := p32
          · show RUN d_X8_holds 39 [(0, .inr (.inr (.inl 0))), (1, .inl a0), (2, .inl a1)] [.inl x33] h22 _
            refine N_if_eq (a := x33.toInt) 54 rfl rfl rfl (fun c35 => ?_) (fun c35 => ?_)
            · refine R_iconst (-1) rfl rfl ?_
              exact R_iret rfl rfl rfl ⟨hI, fr, trivial, _, rfl, trivial⟩
            · exfalso; omega
          · show RUN d_X8_holds 39 [(0, .inr (.inr (.inl 0))), (1, .inl a0), (2, .inl a1)] [.inl x33] h22 _
            refine N_if_eq (a := x33.toInt) 54 rfl rfl rfl (fun c36 => ?_) (fun c36 => ?_)
            · exfalso; omega
            · refine R_aload_n (k := 0) rfl rfl rfl ?_
              refine R_getf_r (j := 8) rfl ft_8_56 sh_0 rfl ?_
              refine R_getf_r (j := 10) rfl ft_8_164 sh_75 rfl ?_
              refine R_iload_n (k := 1) rfl rfl rfl ?_
              refine R_iald rfl sh_86 ⟨by omega, by omega⟩ ?_
              refine N_any (fun x37 => ?_)
              refine R_goto 55 rfl rfl ?_
              exact R_iret rfl rfl rfl ⟨hI, fr, trivial, _, rfl, trivial⟩
        · exfalso; omega
abbrev q_X9_isBrigade (h : PH)  : Option PV → PH → Prop := fun r h' => h = h' ∧ ∃ z : Int32, r = some (.inl z) ∧ ((z.toInt = 0 ∧ (h.1 97 10).toInt ≤ 0) ∨ (z.toInt = 1 ∧ 1 ≤ (h.1 97 0).toInt ∧ (h.1 97 0).toInt ≤ 60 ∧ 1 ≤ (h.1 97 10).toInt))
set_option maxHeartbeats 4000000 in
set_option maxRecDepth 100000 in
theorem k_X9_isBrigade (h : PH) (hI : INV h)  : CALL d_X9_isBrigade [.inr (.inr (.inl 96))] h (q_X9_isBrigade h) := by
  show RUN d_X9_isBrigade 0 [(0, .inr (.inr (.inl 96)))] [] h _
  refine R_aload_n (k := 0) rfl rfl rfl ?_
  refine R_getf_r (j := 1) rfl ft_9_9 sh_96 rfl ?_
  refine R_bipush 10 rfl rfl ?_
  refine R_iald rfl sh_97 (by decide) ?_
  have b1 : (0 : Int) ≤ (h.1 97 0).toInt ∧ (h.1 97 0).toInt ≤ 60 := hI.1 97 0
  have e2 : 0 < (h.1 97 10).toInt → 1 ≤ (h.1 97 0).toInt := hI.2.2.2.2.2.1.2.1
  show RUN d_X9_isBrigade 7 [(0, .inr (.inr (.inl 96)))] [.inl (h.1 97 10)] h _
  refine N_if_le (a := (h.1 97 10).toInt) 14 rfl rfl rfl (fun c3 => ?_) (fun c3 => ?_)
  · refine R_iconst 0 rfl rfl ?_
    exact R_iret rfl rfl rfl ⟨rfl, _, rfl, by rw [show (0 : Int32).toInt = 0 from rfl] <;> omega⟩
  · refine R_iconst 1 rfl rfl ?_
    refine R_goto 15 rfl rfl ?_
    exact R_iret rfl rfl rfl ⟨rfl, _, rfl, by rw [show (1 : Int32).toInt = 1 from rfl] <;> omega⟩
abbrev q_X9_last (h : PH)  : Option PV → PH → Prop := fun r h' => h = h' ∧ ∃ z : Int32, r = some (.inl z) ∧ (((-1) ≤ z.toInt ∧ z.toInt ≤ 59 ∧ z.toInt = (h.1 97 0).toInt + (-1)))
set_option maxHeartbeats 4000000 in
set_option maxRecDepth 100000 in
theorem k_X9_last (h : PH) (hI : INV h)  : CALL d_X9_last [.inr (.inr (.inl 96))] h (q_X9_last h) := by
  show RUN d_X9_last 0 [(0, .inr (.inr (.inl 96)))] [] h _
  refine R_aload_n (k := 0) rfl rfl rfl ?_
  refine R_getf_r (j := 1) rfl ft_9_9 sh_96 rfl ?_
  refine R_iconst 0 rfl rfl ?_
  refine R_iald rfl sh_97 (by decide) ?_
  have b1 : (0 : Int) ≤ (h.1 97 0).toInt ∧ (h.1 97 0).toInt ≤ 60 := hI.1 97 0
  show RUN d_X9_last 6 [(0, .inr (.inr (.inl 96)))] [.inl (h.1 97 0)] h _
  refine R_iconst 1 rfl rfl ?_
  refine N_isub (a := (h.1 97 0).toInt) (b := 1) rfl rfl (by decide) (by omega) (fun x2 q3 => ?_)
  exact R_iret rfl rfl rfl ⟨rfl, _, rfl, by omega⟩
abbrev q_X9_startLine (h : PH)  : Option PV → PH → Prop := fun r h' => INV h' ∧ FR [96, 107, 108, 109, 117, 118] h h' ∧ ((h'.1 96 19).toInt = (h.1 96 19).toInt ∧ (h'.1 96 42).toInt = (h.1 96 42).toInt ∧ (h'.1 96 18).toInt = (h.1 96 18).toInt ∧ (h'.1 96 20).toInt = (h.1 96 20).toInt ∧ (h'.1 96 46).toInt = (h.1 96 46).toInt ∧ (h'.1 96 44).toInt = (h.1 96 44).toInt ∧ (h'.1 96 47).toInt = (h.1 96 47).toInt ∧ (h'.1 96 48).toInt = (h.1 96 48).toInt ∧ (h'.1 96 51).toInt = (h.1 96 51).toInt ∧ True) ∧ r = none
set_option maxHeartbeats 4000000 in
set_option maxRecDepth 100000 in
theorem k_X9_startLine (h : PH) (hI : INV h)  : CALL d_X9_startLine [.inr (.inr (.inl 96))] h (q_X9_startLine h) := by
  show RUN d_X9_startLine 0 [(0, .inr (.inr (.inl 96)))] [] h _
  have fr : FR [96, 107, 108, 109, 117, 118] h h := FR.rf _ _
  have b1 : (0 : Int) ≤ (h.1 96 18).toInt ∧ (h.1 96 18).toInt ≤ 6 := hI.1 96 18
  have b2 : (0 : Int) ≤ (h.1 96 51).toInt ∧ (h.1 96 51).toInt ≤ 720 := hI.1 96 51
  refine R_iconst 0 rfl rfl ?_
  refine R_istore_n (k := 1) rfl [(1, .inl 0), (0, .inr (.inr (.inl 96)))] rfl rfl (by decide) ?_
  have lp4 : ∀ (n3 : Nat) (h5 : PH) (x7 : Int32), INV h5 → FR [96, 107, 108, 109, 117, 118] h h5 → FR [96, 107, 108, 109, 117, 118] h h5 → 0 ≤ x7.toInt ∧ x7.toInt ≤ 6 → (h5.1 96 19).toInt = (h.1 96 19).toInt → (h5.1 96 42).toInt = (h.1 96 42).toInt → (h5.1 96 18).toInt = (h.1 96 18).toInt → (h5.1 96 20).toInt = (h.1 96 20).toInt → (h5.1 96 46).toInt = (h.1 96 46).toInt → (h5.1 96 44).toInt = (h.1 96 44).toInt → (h5.1 96 47).toInt = (h.1 96 47).toInt → (h5.1 96 48).toInt = (h.1 96 48).toInt → (h5.1 96 51).toInt = (h.1 96 51).toInt → (6 - x7.toInt).toNat < n3 → RUN d_X9_startLine 2 [(1, .inl x7), (0, .inr (.inr (.inl 96)))] [] h5 (q_X9_startLine h) := by
    intro n3
    induction n3 with
    | zero => intro h5 x7 m9 m10 m11 m12 m13 m14 m15 m16 m17 m18 m19 m20 m21 hz; exact absurd hz (Nat.not_lt_zero _)
    | succ n3 ih8 =>
      intro h5 x7 hI fr fl6 m12 m13 m14 m15 m16 m17 m18 m19 m20 m21 hz
      refine R_iload_n (k := 1) rfl rfl rfl ?_
      refine R_bipush 6 rfl rfl ?_
      refine N_icmp_ge (a := x7.toInt) (b := 6) 42 rfl rfl rfl (by decide) (fun c22 => ?_) (fun c22 => ?_)
      · refine R_iconst 0 rfl rfl ?_
        refine R_istore_n (k := 1) rfl [(1, .inl 0), (0, .inr (.inr (.inl 96)))] rfl rfl (by decide) ?_
        have lp24 : ∀ (n23 : Nat) (h25 : PH) (x27 : Int32), INV h25 → FR [96, 107, 108, 109, 117, 118] h h25 → FR [96, 109] h5 h25 → 0 ≤ x27.toInt ∧ x27.toInt ≤ 23 → (h25.1 96 19).toInt = (h5.1 96 19).toInt → (h25.1 96 42).toInt = (h5.1 96 42).toInt → (h25.1 96 18).toInt = (h5.1 96 18).toInt → (h25.1 96 20).toInt = (h5.1 96 20).toInt → (h25.1 96 46).toInt = (h5.1 96 46).toInt → (h25.1 96 44).toInt = (h5.1 96 44).toInt → (h25.1 96 47).toInt = (h5.1 96 47).toInt → (h25.1 96 48).toInt = (h5.1 96 48).toInt → (h25.1 96 51).toInt = (h5.1 96 51).toInt → (23 - x27.toInt).toNat < n23 → RUN d_X9_startLine 44 [(1, .inl x27), (0, .inr (.inr (.inl 96)))] [] h25 (q_X9_startLine h) := by
          intro n23
          induction n23 with
          | zero => intro h25 x27 m29 m30 m31 m32 m33 m34 m35 m36 m37 m38 m39 m40 m41 hz; exact absurd hz (Nat.not_lt_zero _)
          | succ n23 ih28 =>
            intro h25 x27 hI fr fl26 m32 m33 m34 m35 m36 m37 m38 m39 m40 m41 hz
            have fl6 : FR [96, 107, 108, 109, 117, 118] h h25 := fl6.trans fl26 (by decide)
            refine R_iload_n (k := 1) rfl rfl rfl ?_
            refine R_bipush 23 rfl rfl ?_
            refine N_icmp_ge (a := x27.toInt) (b := 23) 63 rfl rfl rfl (by decide) (fun c42 => ?_) (fun c42 => ?_)
            · refine R_aload_n (k := 0) rfl rfl rfl ?_
              refine R_getf_r (j := 24) rfl ft_9_52 sh_96 rfl ?_
              refine R_iconst 0 rfl rfl ?_
              refine R_aload_n (k := 0) rfl rfl rfl ?_
              refine R_getf_i (j := 19) rfl ft_9_256 sh_96 rfl ?_
              refine K_iast (a := 0) (lo := (-2147483648)) (hi' := 2147483647) rfl sh_109 (by decide) (by decide) hI (by decide) rfl (i_rng _) fr (by decide) (fun h43 g44 hI fr => ?_)
              have fl26 : FR [96, 109] h5 h43 := by rw [g44]; exact FR_wI _ _ fl26 (by decide)
              have fl6 : FR [96, 107, 108, 109, 117, 118] h h43 := by rw [g44]; exact FR_wI _ _ fl6 (by decide)
              have s45 : (h43.1 96 19).toInt = (h25.1 96 19).toInt := by rw [g44, wI_ne _ _ _ (by decide)]
              have s46 : (h43.1 96 42).toInt = (h25.1 96 42).toInt := by rw [g44, wI_ne _ _ _ (by decide)]
              have s47 : (h43.1 96 18).toInt = (h25.1 96 18).toInt := by rw [g44, wI_ne _ _ _ (by decide)]
              have s48 : (h43.1 96 20).toInt = (h25.1 96 20).toInt := by rw [g44, wI_ne _ _ _ (by decide)]
              have s49 : (h43.1 96 46).toInt = (h25.1 96 46).toInt := by rw [g44, wI_ne _ _ _ (by decide)]
              have s50 : (h43.1 96 44).toInt = (h25.1 96 44).toInt := by rw [g44, wI_ne _ _ _ (by decide)]
              have s51 : (h43.1 96 47).toInt = (h25.1 96 47).toInt := by rw [g44, wI_ne _ _ _ (by decide)]
              have s52 : (h43.1 96 48).toInt = (h25.1 96 48).toInt := by rw [g44, wI_ne _ _ _ (by decide)]
              have s53 : (h43.1 96 51).toInt = (h25.1 96 51).toInt := by rw [g44, wI_ne _ _ _ (by decide)]
              have s54 : (h43.1 109 0).toInt = (h25.1 96 19).toInt := by rw [g44, show (0 : Int32).toNatClampNeg = 0 from rfl, wI_is]
              refine R_aload_n (k := 0) rfl rfl rfl ?_
              refine R_iconst 0 rfl rfl ?_
              refine K_putf (j := 34) (lo := (-2147483648)) (hi' := 2147483647) rfl ft_9_262 sh_96 rfl hI (by decide) rfl (by decide) fr (by decide) (fun h55 g56 hI fr => ?_)
              have fl26 : FR [96, 109] h5 h55 := by rw [g56]; exact FR_wI _ _ fl26 (by decide)
              have fl6 : FR [96, 107, 108, 109, 117, 118] h h55 := by rw [g56]; exact FR_wI _ _ fl6 (by decide)
              have s57 : (h55.1 96 19).toInt = (h43.1 96 19).toInt := by rw [g56, wI_at (by decide)]
              have s58 : (h55.1 96 42).toInt = (h43.1 96 42).toInt := by rw [g56, wI_at (by decide)]
              have s59 : (h55.1 96 18).toInt = (h43.1 96 18).toInt := by rw [g56, wI_at (by decide)]
              have s60 : (h55.1 96 20).toInt = (h43.1 96 20).toInt := by rw [g56, wI_at (by decide)]
              have s61 : (h55.1 96 46).toInt = (h43.1 96 46).toInt := by rw [g56, wI_at (by decide)]
              have s62 : (h55.1 96 44).toInt = (h43.1 96 44).toInt := by rw [g56, wI_at (by decide)]
              have s63 : (h55.1 96 47).toInt = (h43.1 96 47).toInt := by rw [g56, wI_at (by decide)]
              have s64 : (h55.1 96 48).toInt = (h43.1 96 48).toInt := by rw [g56, wI_at (by decide)]
              have s65 : (h55.1 96 51).toInt = (h43.1 96 51).toInt := by rw [g56, wI_at (by decide)]
              have s66 : (h55.1 109 0).toInt = (h43.1 109 0).toInt := by rw [g56, wI_ne _ _ _ (by decide)]
              have s67 : (h55.1 96 34).toInt = 0 := by rw [g56, wI_is]; rfl
              refine R_aload_n (k := 0) rfl rfl rfl ?_
              refine R_iconst 0 rfl rfl ?_
              refine K_putf (j := 35) (lo := (-2147483648)) (hi' := 2147483647) rfl ft_9_265 sh_96 rfl hI (by decide) rfl (by decide) fr (by decide) (fun h68 g69 hI fr => ?_)
              have fl26 : FR [96, 109] h5 h68 := by rw [g69]; exact FR_wI _ _ fl26 (by decide)
              have fl6 : FR [96, 107, 108, 109, 117, 118] h h68 := by rw [g69]; exact FR_wI _ _ fl6 (by decide)
              have s70 : (h68.1 96 19).toInt = (h55.1 96 19).toInt := by rw [g69, wI_at (by decide)]
              have s71 : (h68.1 96 42).toInt = (h55.1 96 42).toInt := by rw [g69, wI_at (by decide)]
              have s72 : (h68.1 96 18).toInt = (h55.1 96 18).toInt := by rw [g69, wI_at (by decide)]
              have s73 : (h68.1 96 20).toInt = (h55.1 96 20).toInt := by rw [g69, wI_at (by decide)]
              have s74 : (h68.1 96 46).toInt = (h55.1 96 46).toInt := by rw [g69, wI_at (by decide)]
              have s75 : (h68.1 96 44).toInt = (h55.1 96 44).toInt := by rw [g69, wI_at (by decide)]
              have s76 : (h68.1 96 47).toInt = (h55.1 96 47).toInt := by rw [g69, wI_at (by decide)]
              have s77 : (h68.1 96 48).toInt = (h55.1 96 48).toInt := by rw [g69, wI_at (by decide)]
              have s78 : (h68.1 96 51).toInt = (h55.1 96 51).toInt := by rw [g69, wI_at (by decide)]
              have s79 : (h68.1 109 0).toInt = (h55.1 109 0).toInt := by rw [g69, wI_ne _ _ _ (by decide)]
              have s80 : (h68.1 96 34).toInt = (h55.1 96 34).toInt := by rw [g69, wI_at (by decide)]
              have s81 : (h68.1 96 35).toInt = 0 := by rw [g69, wI_is]; rfl
              refine R_aload_n (k := 0) rfl rfl rfl ?_
              refine R_iconst 0 rfl rfl ?_
              refine K_putf (j := 36) (lo := (-2147483648)) (hi' := 2147483647) rfl ft_9_268 sh_96 rfl hI (by decide) rfl (by decide) fr (by decide) (fun h82 g83 hI fr => ?_)
              have fl26 : FR [96, 109] h5 h82 := by rw [g83]; exact FR_wI _ _ fl26 (by decide)
              have fl6 : FR [96, 107, 108, 109, 117, 118] h h82 := by rw [g83]; exact FR_wI _ _ fl6 (by decide)
              have s84 : (h82.1 96 19).toInt = (h68.1 96 19).toInt := by rw [g83, wI_at (by decide)]
              have s85 : (h82.1 96 42).toInt = (h68.1 96 42).toInt := by rw [g83, wI_at (by decide)]
              have s86 : (h82.1 96 18).toInt = (h68.1 96 18).toInt := by rw [g83, wI_at (by decide)]
              have s87 : (h82.1 96 20).toInt = (h68.1 96 20).toInt := by rw [g83, wI_at (by decide)]
              have s88 : (h82.1 96 46).toInt = (h68.1 96 46).toInt := by rw [g83, wI_at (by decide)]
              have s89 : (h82.1 96 44).toInt = (h68.1 96 44).toInt := by rw [g83, wI_at (by decide)]
              have s90 : (h82.1 96 47).toInt = (h68.1 96 47).toInt := by rw [g83, wI_at (by decide)]
              have s91 : (h82.1 96 48).toInt = (h68.1 96 48).toInt := by rw [g83, wI_at (by decide)]
              have s92 : (h82.1 96 51).toInt = (h68.1 96 51).toInt := by rw [g83, wI_at (by decide)]
              have s93 : (h82.1 109 0).toInt = (h68.1 109 0).toInt := by rw [g83, wI_ne _ _ _ (by decide)]
              have s94 : (h82.1 96 34).toInt = (h68.1 96 34).toInt := by rw [g83, wI_at (by decide)]
              have s95 : (h82.1 96 35).toInt = (h68.1 96 35).toInt := by rw [g83, wI_at (by decide)]
              have s96 : (h82.1 96 36).toInt = 0 := by rw [g83, wI_is]; rfl
              exact R_vret rfl rfl ⟨hI, fr, ⟨by omega, by omega, by omega, by omega, by omega, by omega, by omega, by omega, by omega, trivial⟩, rfl⟩
            · refine R_aload_n (k := 0) rfl rfl rfl ?_
              refine R_getf_r (j := 24) rfl ft_9_52 sh_96 rfl ?_
              refine R_iload_n (k := 1) rfl rfl rfl ?_
              refine R_iconst 0 rfl rfl ?_
              refine K_iast (a := x27.toInt) (lo := (-2147483648)) (hi' := 2147483647) rfl sh_109 rfl ⟨by omega, by omega⟩ hI (by decide) rfl (by decide) fr (by decide) (fun h97 g98 hI fr => ?_)
              have fl26 : FR [96, 109] h5 h97 := by rw [g98]; exact FR_wI _ _ fl26 (by decide)
              have fl6 : FR [96, 107, 108, 109, 117, 118] h h97 := by rw [g98]; exact FR_wI _ _ fl6 (by decide)
              have s99 : (h97.1 96 19).toInt = (h25.1 96 19).toInt := by rw [g98, wI_ne _ _ _ (by decide)]
              have s100 : (h97.1 96 42).toInt = (h25.1 96 42).toInt := by rw [g98, wI_ne _ _ _ (by decide)]
              have s101 : (h97.1 96 18).toInt = (h25.1 96 18).toInt := by rw [g98, wI_ne _ _ _ (by decide)]
              have s102 : (h97.1 96 20).toInt = (h25.1 96 20).toInt := by rw [g98, wI_ne _ _ _ (by decide)]
              have s103 : (h97.1 96 46).toInt = (h25.1 96 46).toInt := by rw [g98, wI_ne _ _ _ (by decide)]
              have s104 : (h97.1 96 44).toInt = (h25.1 96 44).toInt := by rw [g98, wI_ne _ _ _ (by decide)]
              have s105 : (h97.1 96 47).toInt = (h25.1 96 47).toInt := by rw [g98, wI_ne _ _ _ (by decide)]
              have s106 : (h97.1 96 48).toInt = (h25.1 96 48).toInt := by rw [g98, wI_ne _ _ _ (by decide)]
              have s107 : (h97.1 96 51).toInt = (h25.1 96 51).toInt := by rw [g98, wI_ne _ _ _ (by decide)]
              refine N_iinc (a := x27.toInt) (c := 1) (fun w => [(1, .inl w), (0, .inr (.inr (.inl 96)))]) rfl rfl (fun _ => rfl) (by decide) rfl (by decide) (by omega) (fun x108 q109 => ?_)
              refine R_goto 44 rfl rfl ?_
              exact RUN_weak (psub_cons rfl (psub_cons rfl (psub_nil _))) (ih28 h97 x108 hI fr fl26 (by omega) (by omega) (by omega) (by omega) (by omega) (by omega) (by omega) (by omega) (by omega) (by omega) (by omega))
        exact lp24 _ h5 (0 : Int32) hI fr (FR.rf _ _) (by decide) rfl rfl rfl rfl rfl rfl rfl rfl rfl (Nat.lt_succ_self _)
      · refine R_aload_n (k := 0) rfl rfl rfl ?_
        refine R_getf_r (j := 22) rfl ft_9_46 sh_96 rfl ?_
        refine R_iload_n (k := 1) rfl rfl rfl ?_
        refine R_iconst (-1) rfl rfl ?_
        refine K_iast (a := x7.toInt) (lo := (-2147483648)) (hi' := 2147483647) rfl sh_107 rfl ⟨by omega, by omega⟩ hI (by decide) rfl (by decide) fr (by decide) (fun h110 g111 hI fr => ?_)
        have fl6 : FR [96, 107, 108, 109, 117, 118] h h110 := by rw [g111]; exact FR_wI _ _ fl6 (by decide)
        have s112 : (h110.1 96 19).toInt = (h5.1 96 19).toInt := by rw [g111, wI_ne _ _ _ (by decide)]
        have s113 : (h110.1 96 42).toInt = (h5.1 96 42).toInt := by rw [g111, wI_ne _ _ _ (by decide)]
        have s114 : (h110.1 96 18).toInt = (h5.1 96 18).toInt := by rw [g111, wI_ne _ _ _ (by decide)]
        have s115 : (h110.1 96 20).toInt = (h5.1 96 20).toInt := by rw [g111, wI_ne _ _ _ (by decide)]
        have s116 : (h110.1 96 46).toInt = (h5.1 96 46).toInt := by rw [g111, wI_ne _ _ _ (by decide)]
        have s117 : (h110.1 96 44).toInt = (h5.1 96 44).toInt := by rw [g111, wI_ne _ _ _ (by decide)]
        have s118 : (h110.1 96 47).toInt = (h5.1 96 47).toInt := by rw [g111, wI_ne _ _ _ (by decide)]
        have s119 : (h110.1 96 48).toInt = (h5.1 96 48).toInt := by rw [g111, wI_ne _ _ _ (by decide)]
        have s120 : (h110.1 96 51).toInt = (h5.1 96 51).toInt := by rw [g111, wI_ne _ _ _ (by decide)]
        refine R_aload_n (k := 0) rfl rfl rfl ?_
        refine R_getf_r (j := 23) rfl ft_9_49 sh_96 rfl ?_
        refine R_iload_n (k := 1) rfl rfl rfl ?_
        refine R_iconst 0 rfl rfl ?_
        refine K_iast (a := x7.toInt) (lo := (-2147483648)) (hi' := 2147483647) rfl sh_108 rfl ⟨by omega, by omega⟩ hI (by decide) rfl (by decide) fr (by decide) (fun h121 g122 hI fr => ?_)
        have fl6 : FR [96, 107, 108, 109, 117, 118] h h121 := by rw [g122]; exact FR_wI _ _ fl6 (by decide)
        have s123 : (h121.1 96 19).toInt = (h110.1 96 19).toInt := by rw [g122, wI_ne _ _ _ (by decide)]
        have s124 : (h121.1 96 42).toInt = (h110.1 96 42).toInt := by rw [g122, wI_ne _ _ _ (by decide)]
        have s125 : (h121.1 96 18).toInt = (h110.1 96 18).toInt := by rw [g122, wI_ne _ _ _ (by decide)]
        have s126 : (h121.1 96 20).toInt = (h110.1 96 20).toInt := by rw [g122, wI_ne _ _ _ (by decide)]
        have s127 : (h121.1 96 46).toInt = (h110.1 96 46).toInt := by rw [g122, wI_ne _ _ _ (by decide)]
        have s128 : (h121.1 96 44).toInt = (h110.1 96 44).toInt := by rw [g122, wI_ne _ _ _ (by decide)]
        have s129 : (h121.1 96 47).toInt = (h110.1 96 47).toInt := by rw [g122, wI_ne _ _ _ (by decide)]
        have s130 : (h121.1 96 48).toInt = (h110.1 96 48).toInt := by rw [g122, wI_ne _ _ _ (by decide)]
        have s131 : (h121.1 96 51).toInt = (h110.1 96 51).toInt := by rw [g122, wI_ne _ _ _ (by decide)]
        refine R_aload_n (k := 0) rfl rfl rfl ?_
        refine R_getf_r (j := 32) rfl ft_9_76 sh_96 rfl ?_
        refine R_iload_n (k := 1) rfl rfl rfl ?_
        refine R_iconst 0 rfl rfl ?_
        refine K_iast (a := x7.toInt) (lo := (-2147483648)) (hi' := 2147483647) rfl sh_117 rfl ⟨by omega, by omega⟩ hI (by decide) rfl (by decide) fr (by decide) (fun h132 g133 hI fr => ?_)
        have fl6 : FR [96, 107, 108, 109, 117, 118] h h132 := by rw [g133]; exact FR_wI _ _ fl6 (by decide)
        have s134 : (h132.1 96 19).toInt = (h121.1 96 19).toInt := by rw [g133, wI_ne _ _ _ (by decide)]
        have s135 : (h132.1 96 42).toInt = (h121.1 96 42).toInt := by rw [g133, wI_ne _ _ _ (by decide)]
        have s136 : (h132.1 96 18).toInt = (h121.1 96 18).toInt := by rw [g133, wI_ne _ _ _ (by decide)]
        have s137 : (h132.1 96 20).toInt = (h121.1 96 20).toInt := by rw [g133, wI_ne _ _ _ (by decide)]
        have s138 : (h132.1 96 46).toInt = (h121.1 96 46).toInt := by rw [g133, wI_ne _ _ _ (by decide)]
        have s139 : (h132.1 96 44).toInt = (h121.1 96 44).toInt := by rw [g133, wI_ne _ _ _ (by decide)]
        have s140 : (h132.1 96 47).toInt = (h121.1 96 47).toInt := by rw [g133, wI_ne _ _ _ (by decide)]
        have s141 : (h132.1 96 48).toInt = (h121.1 96 48).toInt := by rw [g133, wI_ne _ _ _ (by decide)]
        have s142 : (h132.1 96 51).toInt = (h121.1 96 51).toInt := by rw [g133, wI_ne _ _ _ (by decide)]
        refine R_aload_n (k := 0) rfl rfl rfl ?_
        refine R_getf_r (j := 33) rfl ft_9_79 sh_96 rfl ?_
        refine R_iload_n (k := 1) rfl rfl rfl ?_
        refine R_iconst 0 rfl rfl ?_
        refine K_iast (a := x7.toInt) (lo := (-2147483648)) (hi' := 2147483647) rfl sh_118 rfl ⟨by omega, by omega⟩ hI (by decide) rfl (by decide) fr (by decide) (fun h143 g144 hI fr => ?_)
        have fl6 : FR [96, 107, 108, 109, 117, 118] h h143 := by rw [g144]; exact FR_wI _ _ fl6 (by decide)
        have s145 : (h143.1 96 19).toInt = (h132.1 96 19).toInt := by rw [g144, wI_ne _ _ _ (by decide)]
        have s146 : (h143.1 96 42).toInt = (h132.1 96 42).toInt := by rw [g144, wI_ne _ _ _ (by decide)]
        have s147 : (h143.1 96 18).toInt = (h132.1 96 18).toInt := by rw [g144, wI_ne _ _ _ (by decide)]
        have s148 : (h143.1 96 20).toInt = (h132.1 96 20).toInt := by rw [g144, wI_ne _ _ _ (by decide)]
        have s149 : (h143.1 96 46).toInt = (h132.1 96 46).toInt := by rw [g144, wI_ne _ _ _ (by decide)]
        have s150 : (h143.1 96 44).toInt = (h132.1 96 44).toInt := by rw [g144, wI_ne _ _ _ (by decide)]
        have s151 : (h143.1 96 47).toInt = (h132.1 96 47).toInt := by rw [g144, wI_ne _ _ _ (by decide)]
        have s152 : (h143.1 96 48).toInt = (h132.1 96 48).toInt := by rw [g144, wI_ne _ _ _ (by decide)]
        have s153 : (h143.1 96 51).toInt = (h132.1 96 51).toInt := by rw [g144, wI_ne _ _ _ (by decide)]
        refine N_iinc (a := x7.toInt) (c := 1) (fun w => [(1, .inl w), (0, .inr (.inr (.inl 96)))]) rfl rfl (fun _ => rfl) (by decide) rfl (by decide) (by omega) (fun x154 q155 => ?_)
        refine R_goto 2 rfl rfl ?_
        exact RUN_weak (psub_cons rfl (psub_cons rfl (psub_nil _))) (ih8 h143 x154 hI fr fl6 (by omega) (by omega) (by omega) (by omega) (by omega) (by omega) (by omega) (by omega) (by omega) (by omega) (by omega))
  exact lp4 _ h (0 : Int32) hI fr (FR.rf _ _) (by decide) rfl rfl rfl rfl rfl rfl rfl rfl rfl (Nat.lt_succ_self _)
abbrev q_X9_readyNow (h : PH)  : Option PV → PH → Prop := fun r h' => h = h' ∧ ∃ z : Int32, r = some (.inl z) ∧ ((True))
set_option maxHeartbeats 4000000 in
set_option maxRecDepth 100000 in
theorem k_X9_readyNow (h : PH) (hI : INV h)  : CALL d_X9_readyNow [.inr (.inr (.inl 96))] h (q_X9_readyNow h) := by
  show RUN d_X9_readyNow 0 [(0, .inr (.inr (.inl 96)))] [] h _
  refine R_iconst 0 rfl rfl ?_
  refine R_istore_n (k := 1) rfl [(1, .inl 0), (0, .inr (.inr (.inl 96)))] rfl rfl (by decide) ?_
  refine R_iconst 0 rfl rfl ?_
  refine R_istore_n (k := 2) rfl [(2, .inl 0), (1, .inl 0), (0, .inr (.inr (.inl 96)))] rfl rfl (by decide) ?_
  have lp2 : ∀ (n1 : Nat) (x3 : Int32) (x4 : Int32), 0 ≤ x4.toInt ∧ x4.toInt ≤ 6 → (6 - x4.toInt).toNat < n1 → RUN d_X9_readyNow 4 [(2, .inl x4), (1, .inl x3), (0, .inr (.inr (.inl 96)))] [] h (q_X9_readyNow h) := by
    intro n1
    induction n1 with
    | zero => intro x3 x4 m6 hz; exact absurd hz (Nat.not_lt_zero _)
    | succ n1 ih5 =>
      intro x3 x4 m6 hz
      refine R_iload_n (k := 2) rfl rfl rfl ?_
      refine R_aload_n (k := 0) rfl rfl rfl ?_
      refine R_getf_i (j := 18) rfl ft_9_253 sh_96 rfl ?_
      have b7 : (0 : Int) ≤ (h.1 96 18).toInt ∧ (h.1 96 18).toInt ≤ 6 := hI.1 96 18
      refine N_icmp_ge (a := x4.toInt) (b := (h.1 96 18).toInt) 58 rfl rfl rfl rfl (fun c8 => ?_) (fun c8 => ?_)
      · refine R_iload_n (k := 1) rfl rfl rfl ?_
        exact R_iret rfl rfl rfl ⟨rfl, _, rfl, trivial⟩
      · refine R_iload_n (k := 1) rfl rfl rfl ?_
        refine R_aload_n (k := 0) rfl rfl rfl ?_
        refine R_getf_r (j := 22) rfl ft_9_46 sh_96 rfl ?_
        refine R_aload_n (k := 0) rfl rfl rfl ?_
        refine R_getf_r (j := 17) rfl ft_9_40 sh_96 rfl ?_
        refine R_iload_n (k := 2) rfl rfl rfl ?_
        refine R_iald rfl sh_105 ⟨by omega, by omega⟩ ?_
        refine N_bd (lo := 0) (hi := 5) (hI.1 105 _) (fun x9 q10 => ?_)
        refine R_iald rfl sh_107 ⟨by omega, by omega⟩ ?_
        refine N_any (fun x11 => ?_)
        refine R_aload_n (k := 0) rfl rfl rfl ?_
        refine R_getf_r (j := 15) rfl ft_9_34 sh_96 rfl ?_
        refine R_aload_n (k := 0) rfl rfl rfl ?_
        refine R_getf_r (j := 17) rfl ft_9_40 sh_96 rfl ?_
        refine R_iload_n (k := 2) rfl rfl rfl ?_
        refine R_iald rfl sh_105 ⟨by omega, by omega⟩ ?_
        refine N_bd (lo := 0) (hi := 5) (hI.1 105 _) (fun x12 q13 => ?_)
        refine R_iald rfl sh_103 ⟨by omega, by omega⟩ ?_
        refine N_any (fun x14 => ?_)
        refine N_icmp_lt (a := x11.toInt) (b := x14.toInt) 49 rfl rfl rfl rfl (fun c15 => ?_) (fun c15 => ?_)
        · refine R_iconst 0 rfl rfl ?_
          refine R_ior rfl ?_
          refine N_any (fun x16 => ?_)
          refine R_istore_n (k := 1) rfl [(1, .inl x16), (2, .inl x4), (0, .inr (.inr (.inl 96)))] rfl rfl (by decide) ?_
          refine N_iinc (a := x4.toInt) (c := 1) (fun w => [(2, .inl w), (1, .inl x16), (0, .inr (.inr (.inl 96)))]) rfl rfl (fun _ => rfl) (by decide) rfl (by decide) (by omega) (fun x17 q18 => ?_)
          refine R_goto 4 rfl rfl ?_
          exact RUN_weak (psub_cons rfl (psub_cons rfl (psub_cons rfl (psub_nil _)))) (ih5 x16 x17 (by omega) (by omega))
        · refine R_iconst 1 rfl rfl ?_
          refine R_aload_n (k := 0) rfl rfl rfl ?_
          refine R_getf_r (j := 17) rfl ft_9_40 sh_96 rfl ?_
          refine R_iload_n (k := 2) rfl rfl rfl ?_
          refine R_iald rfl sh_105 ⟨by omega, by omega⟩ ?_
          refine N_bd (lo := 0) (hi := 5) (hI.1 105 _) (fun x19 q20 => ?_)
          refine N_ishl1 (b := x19.toInt) rfl rfl (by omega) (fun x21 q22 => ?_)
          refine R_goto 50 rfl rfl ?_
          refine R_ior rfl ?_
          refine N_any (fun x23 => ?_)
          refine R_istore_n (k := 1) rfl [(1, .inl x23), (2, .inl x4), (0, .inr (.inr (.inl 96)))] rfl rfl (by decide) ?_
          refine N_iinc (a := x4.toInt) (c := 1) (fun w => [(2, .inl w), (1, .inl x23), (0, .inr (.inr (.inl 96)))]) rfl rfl (fun _ => rfl) (by decide) rfl (by decide) (by omega) (fun x24 q25 => ?_)
          refine R_goto 4 rfl rfl ?_
          exact RUN_weak (psub_cons rfl (psub_cons rfl (psub_cons rfl (psub_nil _)))) (ih5 x23 x24 (by omega) (by omega))
  exact lp2 _ (0 : Int32) (0 : Int32) (by decide) (Nat.lt_succ_self _)
abbrev q_X9_doesRest (h : PH) (a0 : Int32) (a1 : Int32) : Option PV → PH → Prop := fun r h' => h = h' ∧ ∃ z : Int32, r = some (.inl z) ∧ ((z.toInt = 0 ∧ 60 ≤ a1.toInt) ∨ (z.toInt = 0 ∧ 0 ≤ a1.toInt ∧ a1.toInt ≤ 59) ∨ (z.toInt = 1 ∧ 0 ≤ a1.toInt ∧ a1.toInt ≤ 59))
set_option maxHeartbeats 4000000 in
set_option maxRecDepth 100000 in
theorem k_X9_doesRest (h : PH) (hI : INV h) (a0 : Int32) (a1 : Int32) (h0a : 0 ≤ a0.toInt ∧ a0.toInt ≤ 5) (h1a : 0 ≤ a1.toInt ∧ a1.toInt ≤ 2147483647) : CALL d_X9_doesRest [.inr (.inr (.inl 96)), .inl a0, .inl a1] h (q_X9_doesRest h a0 a1) := by
  show RUN d_X9_doesRest 0 [(0, .inr (.inr (.inl 96))), (1, .inl a0), (2, .inl a1)] [] h _
  refine R_iload_n (k := 2) rfl rfl rfl ?_
  refine R_bipush 60 rfl rfl ?_
  refine N_icmp_ge (a := a1.toInt) (b := 60) 24 rfl rfl rfl (by decide) (fun c1 => ?_) (fun c1 => ?_)
  · refine R_iconst 0 rfl rfl ?_
    exact R_iret rfl rfl rfl ⟨rfl, _, rfl, by rw [show (0 : Int32).toInt = 0 from rfl] <;> omega⟩
  · refine R_aload_n (k := 0) rfl rfl rfl ?_
    refine R_getf_r (j := 16) rfl ft_9_37 sh_96 rfl ?_
    refine R_bipush 6 rfl rfl ?_
    refine R_iload_n (k := 2) rfl rfl rfl ?_
    refine N_imul (a := 6) (b := a1.toInt) rfl (by decide) rfl (by omega) (fun x2 q3 => ?_)
    refine R_iload_n (k := 1) rfl rfl rfl ?_
    refine N_iadd (a := x2.toInt) (b := a0.toInt) rfl rfl rfl (by omega) (fun x4 q5 => ?_)
    refine R_zald rfl sh_104 ⟨by omega, by omega⟩ ?_
    refine N_any (fun x6 => ?_)
    refine N_if_eq (a := x6.toInt) 24 rfl rfl rfl (fun c7 => ?_) (fun c7 => ?_)
    · refine R_iconst 0 rfl rfl ?_
      exact R_iret rfl rfl rfl ⟨rfl, _, rfl, by rw [show (0 : Int32).toInt = 0 from rfl] <;> omega⟩
    · refine R_iconst 1 rfl rfl ?_
      refine R_goto 25 rfl rfl ?_
      exact R_iret rfl rfl rfl ⟨rfl, _, rfl, by rw [show (1 : Int32).toInt = 1 from rfl] <;> omega⟩
abbrev q_X9_spill (h : PH) (a0 : Int32) : Option PV → PH → Prop := fun r h' => INV h' ∧ FR [96, 108, 117, 118] h h' ∧ ((h'.1 96 18).toInt = (h.1 96 18).toInt ∧ (h'.1 96 34).toInt = (h.1 96 34).toInt ∧ (h'.1 96 35).toInt = (h.1 96 35).toInt ∧ (h'.1 96 41).toInt = (h.1 96 41).toInt ∧ (h'.1 96 42).toInt = (h.1 96 42).toInt ∧ (h'.1 96 19).toInt = (h.1 96 19).toInt ∧ (h'.1 96 20).toInt = (h.1 96 20).toInt ∧ (h'.1 96 46).toInt = (h.1 96 46).toInt ∧ (h'.1 96 44).toInt = (h.1 96 44).toInt ∧ (h'.1 96 47).toInt = (h.1 96 47).toInt ∧ (h'.1 96 48).toInt = (h.1 96 48).toInt ∧ (h'.1 96 51).toInt = (h.1 96 51).toInt ∧ True) ∧ r = none
set_option maxHeartbeats 4000000 in
set_option maxRecDepth 100000 in
theorem k_X9_spill (h : PH) (hI : INV h) (a0 : Int32) (h0a : 0 ≤ a0.toInt ∧ a0.toInt ≤ 5) : CALL d_X9_spill [.inr (.inr (.inl 96)), .inl a0] h (q_X9_spill h a0) := by
  show RUN d_X9_spill 0 [(0, .inr (.inr (.inl 96))), (1, .inl a0)] [] h _
  have fr : FR [96, 108, 117, 118] h h := FR.rf _ _
  have b1 : (0 : Int) ≤ (h.1 96 18).toInt ∧ (h.1 96 18).toInt ≤ 6 := hI.1 96 18
  have b2 : (0 : Int) ≤ (h.1 96 51).toInt ∧ (h.1 96 51).toInt ≤ 720 := hI.1 96 51
  refine R_aload_n (k := 0) rfl rfl rfl ?_
  refine R_getf_r (j := 23) rfl ft_9_49 sh_96 rfl ?_
  refine R_iload_n (k := 1) rfl rfl rfl ?_
  refine R_iald rfl sh_108 ⟨by omega, by omega⟩ ?_
  refine N_any (fun x3 => ?_)
  refine R_aload_n (k := 0) rfl rfl rfl ?_
  refine R_getf_r (j := 1) rfl ft_9_9 sh_96 rfl ?_
  refine R_bipush 11 rfl rfl ?_
  refine R_iconst 2 rfl rfl ?_
  refine R_iload_n (k := 1) rfl rfl rfl ?_
  refine N_imul (a := 2) (b := a0.toInt) rfl (by decide) rfl (by omega) (fun x4 q5 => ?_)
  refine N_iadd (a := 11) (b := x4.toInt) rfl (by decide) rfl (by omega) (fun x6 q7 => ?_)
  refine R_iconst 1 rfl rfl ?_
  refine N_iadd (a := x6.toInt) (b := 1) rfl rfl (by decide) (by omega) (fun x8 q9 => ?_)
  refine R_iald rfl sh_97 ⟨by omega, by omega⟩ ?_
  refine N_any (fun x10 => ?_)
  refine N_min (a := x3.toInt) (b := x10.toInt) rfl mt_9_i167 rfl rfl ⟨by decide, by decide, Nat.le_of_ble_eq_true rfl⟩ (fun x11 q12 => ?_)
  refine R_istore_n (k := 2) rfl [(2, .inl x11), (0, .inr (.inr (.inl 96))), (1, .inl a0)] rfl rfl (by decide) ?_
  refine R_aload_n (k := 0) rfl rfl rfl ?_
  refine R_getf_r (j := 23) rfl ft_9_49 sh_96 rfl ?_
  refine R_iload_n (k := 1) rfl rfl rfl ?_
  refine R_dup2 rfl ?_
  refine R_iald rfl sh_108 ⟨by omega, by omega⟩ ?_
  refine N_any (fun x13 => ?_)
  refine R_iload_n (k := 2) rfl rfl rfl ?_
  have b14 := i_rng x13
  have b15 := i_rng x11
  refine R_isub rfl ?_
  refine N_any (fun x16 => ?_)
  refine K_iast (a := a0.toInt) (lo := (-2147483648)) (hi' := 2147483647) rfl sh_108 rfl ⟨by omega, by omega⟩ hI (by decide) rfl (i_rng _) fr (by decide) (fun h17 g18 hI fr => ?_)
  have s19 : (h17.1 96 18).toInt = (h.1 96 18).toInt := by rw [g18, wI_ne _ _ _ (by decide)]
  have s20 : (h17.1 96 34).toInt = (h.1 96 34).toInt := by rw [g18, wI_ne _ _ _ (by decide)]
  have s21 : (h17.1 96 35).toInt = (h.1 96 35).toInt := by rw [g18, wI_ne _ _ _ (by decide)]
  have s22 : (h17.1 96 36).toInt = (h.1 96 36).toInt := by rw [g18, wI_ne _ _ _ (by decide)]
  have s23 : (h17.1 96 41).toInt = (h.1 96 41).toInt := by rw [g18, wI_ne _ _ _ (by decide)]
  have s24 : (h17.1 96 42).toInt = (h.1 96 42).toInt := by rw [g18, wI_ne _ _ _ (by decide)]
  have s25 : (h17.1 96 19).toInt = (h.1 96 19).toInt := by rw [g18, wI_ne _ _ _ (by decide)]
  have s26 : (h17.1 96 20).toInt = (h.1 96 20).toInt := by rw [g18, wI_ne _ _ _ (by decide)]
  have s27 : (h17.1 96 46).toInt = (h.1 96 46).toInt := by rw [g18, wI_ne _ _ _ (by decide)]
  have s28 : (h17.1 96 44).toInt = (h.1 96 44).toInt := by rw [g18, wI_ne _ _ _ (by decide)]
  have s29 : (h17.1 96 47).toInt = (h.1 96 47).toInt := by rw [g18, wI_ne _ _ _ (by decide)]
  have s30 : (h17.1 96 48).toInt = (h.1 96 48).toInt := by rw [g18, wI_ne _ _ _ (by decide)]
  have s31 : (h17.1 96 51).toInt = (h.1 96 51).toInt := by rw [g18, wI_ne _ _ _ (by decide)]
  refine R_aload_n (k := 0) rfl rfl rfl ?_
  refine R_getf_r (j := 33) rfl ft_9_79 sh_96 rfl ?_
  refine R_iload_n (k := 1) rfl rfl rfl ?_
  refine R_dup2 rfl ?_
  refine R_iald rfl sh_118 ⟨by omega, by omega⟩ ?_
  refine N_any (fun x32 => ?_)
  refine R_iload_n (k := 2) rfl rfl rfl ?_
  have b33 := i_rng x32
  have b34 := i_rng x11
  refine R_iadd rfl ?_
  refine N_any (fun x35 => ?_)
  refine K_iast (a := a0.toInt) (lo := (-2147483648)) (hi' := 2147483647) rfl sh_118 rfl ⟨by omega, by omega⟩ hI (by decide) rfl (i_rng _) fr (by decide) (fun h36 g37 hI fr => ?_)
  have s38 : (h36.1 96 18).toInt = (h17.1 96 18).toInt := by rw [g37, wI_ne _ _ _ (by decide)]
  have s39 : (h36.1 96 34).toInt = (h17.1 96 34).toInt := by rw [g37, wI_ne _ _ _ (by decide)]
  have s40 : (h36.1 96 35).toInt = (h17.1 96 35).toInt := by rw [g37, wI_ne _ _ _ (by decide)]
  have s41 : (h36.1 96 36).toInt = (h17.1 96 36).toInt := by rw [g37, wI_ne _ _ _ (by decide)]
  have s42 : (h36.1 96 41).toInt = (h17.1 96 41).toInt := by rw [g37, wI_ne _ _ _ (by decide)]
  have s43 : (h36.1 96 42).toInt = (h17.1 96 42).toInt := by rw [g37, wI_ne _ _ _ (by decide)]
  have s44 : (h36.1 96 19).toInt = (h17.1 96 19).toInt := by rw [g37, wI_ne _ _ _ (by decide)]
  have s45 : (h36.1 96 20).toInt = (h17.1 96 20).toInt := by rw [g37, wI_ne _ _ _ (by decide)]
  have s46 : (h36.1 96 46).toInt = (h17.1 96 46).toInt := by rw [g37, wI_ne _ _ _ (by decide)]
  have s47 : (h36.1 96 44).toInt = (h17.1 96 44).toInt := by rw [g37, wI_ne _ _ _ (by decide)]
  have s48 : (h36.1 96 47).toInt = (h17.1 96 47).toInt := by rw [g37, wI_ne _ _ _ (by decide)]
  have s49 : (h36.1 96 48).toInt = (h17.1 96 48).toInt := by rw [g37, wI_ne _ _ _ (by decide)]
  have s50 : (h36.1 96 51).toInt = (h17.1 96 51).toInt := by rw [g37, wI_ne _ _ _ (by decide)]
  refine R_aload_n (k := 0) rfl rfl rfl ?_
  refine R_dup_r rfl ?_
  refine R_getf_i (j := 36) rfl ft_9_268 sh_96 rfl ?_
  refine R_iload_n (k := 2) rfl rfl rfl ?_
  have b51 := i_rng (h36.1 96 36)
  have b52 := i_rng x11
  refine R_iadd rfl ?_
  refine N_any (fun x53 => ?_)
  refine K_putf (j := 36) (lo := (-2147483648)) (hi' := 2147483647) rfl ft_9_268 sh_96 rfl hI (by decide) rfl (i_rng _) fr (by decide) (fun h54 g55 hI fr => ?_)
  have s56 : (h54.1 96 18).toInt = (h36.1 96 18).toInt := by rw [g55, wI_at (by decide)]
  have s57 : (h54.1 96 34).toInt = (h36.1 96 34).toInt := by rw [g55, wI_at (by decide)]
  have s58 : (h54.1 96 35).toInt = (h36.1 96 35).toInt := by rw [g55, wI_at (by decide)]
  have s59 : (h54.1 96 41).toInt = (h36.1 96 41).toInt := by rw [g55, wI_at (by decide)]
  have s60 : (h54.1 96 42).toInt = (h36.1 96 42).toInt := by rw [g55, wI_at (by decide)]
  have s61 : (h54.1 96 19).toInt = (h36.1 96 19).toInt := by rw [g55, wI_at (by decide)]
  have s62 : (h54.1 96 20).toInt = (h36.1 96 20).toInt := by rw [g55, wI_at (by decide)]
  have s63 : (h54.1 96 46).toInt = (h36.1 96 46).toInt := by rw [g55, wI_at (by decide)]
  have s64 : (h54.1 96 44).toInt = (h36.1 96 44).toInt := by rw [g55, wI_at (by decide)]
  have s65 : (h54.1 96 47).toInt = (h36.1 96 47).toInt := by rw [g55, wI_at (by decide)]
  have s66 : (h54.1 96 48).toInt = (h36.1 96 48).toInt := by rw [g55, wI_at (by decide)]
  have s67 : (h54.1 96 51).toInt = (h36.1 96 51).toInt := by rw [g55, wI_at (by decide)]
  have s68 : (h54.1 96 36).toInt = x53.toInt := by rw [g55, wI_is]
  refine R_aload_n (k := 0) rfl rfl rfl ?_
  refine R_getf_r (j := 32) rfl ft_9_76 sh_96 rfl ?_
  refine R_iload_n (k := 1) rfl rfl rfl ?_
  refine R_dup2 rfl ?_
  refine R_iald rfl sh_117 ⟨by omega, by omega⟩ ?_
  refine N_any (fun x69 => ?_)
  refine R_iconst 1 rfl rfl ?_
  have b70 := i_rng x69
  refine R_iadd rfl ?_
  refine N_any (fun x71 => ?_)
  refine K_iast (a := a0.toInt) (lo := (-2147483648)) (hi' := 2147483647) rfl sh_117 rfl ⟨by omega, by omega⟩ hI (by decide) rfl (i_rng _) fr (by decide) (fun h72 g73 hI fr => ?_)
  have s74 : (h72.1 96 18).toInt = (h54.1 96 18).toInt := by rw [g73, wI_ne _ _ _ (by decide)]
  have s75 : (h72.1 96 34).toInt = (h54.1 96 34).toInt := by rw [g73, wI_ne _ _ _ (by decide)]
  have s76 : (h72.1 96 35).toInt = (h54.1 96 35).toInt := by rw [g73, wI_ne _ _ _ (by decide)]
  have s77 : (h72.1 96 41).toInt = (h54.1 96 41).toInt := by rw [g73, wI_ne _ _ _ (by decide)]
  have s78 : (h72.1 96 42).toInt = (h54.1 96 42).toInt := by rw [g73, wI_ne _ _ _ (by decide)]
  have s79 : (h72.1 96 19).toInt = (h54.1 96 19).toInt := by rw [g73, wI_ne _ _ _ (by decide)]
  have s80 : (h72.1 96 20).toInt = (h54.1 96 20).toInt := by rw [g73, wI_ne _ _ _ (by decide)]
  have s81 : (h72.1 96 46).toInt = (h54.1 96 46).toInt := by rw [g73, wI_ne _ _ _ (by decide)]
  have s82 : (h72.1 96 44).toInt = (h54.1 96 44).toInt := by rw [g73, wI_ne _ _ _ (by decide)]
  have s83 : (h72.1 96 47).toInt = (h54.1 96 47).toInt := by rw [g73, wI_ne _ _ _ (by decide)]
  have s84 : (h72.1 96 48).toInt = (h54.1 96 48).toInt := by rw [g73, wI_ne _ _ _ (by decide)]
  have s85 : (h72.1 96 51).toInt = (h54.1 96 51).toInt := by rw [g73, wI_ne _ _ _ (by decide)]
  have s86 : (h72.1 96 36).toInt = (h54.1 96 36).toInt := by rw [g73, wI_ne _ _ _ (by decide)]
  exact R_vret rfl rfl ⟨hI, fr, ⟨by omega, by omega, by omega, by omega, by omega, by omega, by omega, by omega, by omega, by omega, by omega, by omega, trivial⟩, rfl⟩
abbrev q_X9_goPlace (h : PH) (a0 : Int32) (a1 : Int32) : Option PV → PH → Prop := fun r h' => INV h' ∧ FR [96, 107, 108, 109, 117, 118] h h' ∧ ((h'.1 96 18).toInt = (h.1 96 18).toInt ∧ (h'.1 96 41).toInt = (h.1 96 41).toInt ∧ (h'.1 96 42).toInt = (h.1 96 42).toInt ∧ (h'.1 96 19).toInt = (h.1 96 19).toInt ∧ (h'.1 96 20).toInt = (h.1 96 20).toInt ∧ (h'.1 96 46).toInt = (h.1 96 46).toInt ∧ (h'.1 96 44).toInt = (h.1 96 44).toInt ∧ (h'.1 96 47).toInt = (h.1 96 47).toInt ∧ (h'.1 96 48).toInt = (h.1 96 48).toInt ∧ (h'.1 96 51).toInt = (h.1 96 51).toInt ∧ True) ∧ r = none
set_option maxHeartbeats 4000000 in
set_option maxRecDepth 100000 in
theorem k_X9_goPlace (h : PH) (hI : INV h) (a0 : Int32) (a1 : Int32) (h0a : 0 ≤ a0.toInt ∧ a0.toInt ≤ 5) (h1a : 0 ≤ a1.toInt ∧ a1.toInt ≤ 2147483647) (pr0 : a0.toInt ≤ (h.1 96 18).toInt + (-1)) : CALL d_X9_goPlace [.inr (.inr (.inl 96)), .inl a0, .inl a1] h (q_X9_goPlace h a0 a1) := by
  show RUN d_X9_goPlace 0 [(0, .inr (.inr (.inl 96))), (1, .inl a0), (2, .inl a1)] [] h _
  have fr : FR [96, 107, 108, 109, 117, 118] h h := FR.rf _ _
  have b1 : (0 : Int) ≤ (h.1 96 18).toInt ∧ (h.1 96 18).toInt ≤ 6 := hI.1 96 18
  have b2 : (0 : Int) ≤ (h.1 96 51).toInt ∧ (h.1 96 51).toInt ≤ 720 := hI.1 96 51
  refine R_aload_n (k := 0) rfl rfl rfl ?_
  refine R_getf_r (j := 17) rfl ft_9_40 sh_96 rfl ?_
  refine R_iload_n (k := 1) rfl rfl rfl ?_
  refine R_iald rfl sh_105 ⟨by omega, by omega⟩ ?_
  refine N_bd (lo := 0) (hi := 5) (hI.1 105 _) (fun x3 q4 => ?_)
  refine R_istore_n (k := 3) rfl [(3, .inl x3), (0, .inr (.inr (.inl 96))), (1, .inl a0), (2, .inl a1)] rfl rfl (by decide) ?_
  refine R_aload_n (k := 0) rfl rfl rfl ?_
  refine R_getf_r (j := 22) rfl ft_9_46 sh_96 rfl ?_
  refine R_iload_n (k := 3) rfl rfl rfl ?_
  refine R_iald rfl sh_107 ⟨by omega, by omega⟩ ?_
  refine N_any (fun x5 => ?_)
  refine R_aload_n (k := 0) rfl rfl rfl ?_
  refine R_getf_r (j := 15) rfl ft_9_34 sh_96 rfl ?_
  refine R_iload_n (k := 3) rfl rfl rfl ?_
  refine R_iald rfl sh_103 ⟨by omega, by omega⟩ ?_
  refine N_any (fun x6 => ?_)
  refine N_icmp_lt (a := x5.toInt) (b := x6.toInt) 31 rfl rfl rfl rfl (fun c7 => ?_) (fun c7 => ?_)
  · exact R_vret rfl rfl ⟨hI, fr, ⟨by omega, by omega, by omega, by omega, by omega, by omega, by omega, by omega, by omega, by omega, trivial⟩, rfl⟩
  · refine R_aload_n (k := 0) rfl rfl rfl ?_
    refine R_iload_n (k := 3) rfl rfl rfl ?_
    refine R_iload_n (k := 2) rfl rfl rfl ?_
    have b8 := i_rng a1
    refine R_callV (v := .inr (.inr (.inl 96))) (As := [.inl x3, .inl a1]) (rest := []) rfl mt_9_i271 pp_X9_doesRest (by decide) rfl rfl rfl (Nat.le_of_ble_eq_true rfl) (Nat.le_of_ble_eq_true rfl) ((k_X9_doesRest h hI x3 a1 (by omega) (by omega)).mono (fun r9 h10 p11 => ?_))
    obtain ⟨rfl, x12, rfl, q13 | q13 | q13⟩ := p11
    · show RUN d_X9_goPlace 28 [(3, .inl x3), (0, .inr (.inr (.inl 96))), (1, .inl a0), (2, .inl a1)] [.inl x12] h _
      refine N_if_eq (a := x12.toInt) 32 rfl rfl rfl (fun c14 => ?_) (fun c14 => ?_)
      · refine R_iload_n (k := 1) rfl rfl rfl ?_
        refine R_aload_n (k := 0) rfl rfl rfl ?_
        refine R_getf_i (j := 18) rfl ft_9_253 sh_96 rfl ?_
        refine R_iconst 1 rfl rfl ?_
        refine N_isub (a := (h.1 96 18).toInt) (b := 1) rfl rfl (by decide) (by omega) (fun x15 q16 => ?_)
        refine N_icmp_ne (a := a0.toInt) (b := x15.toInt) 104 rfl rfl rfl rfl (fun c17 => ?_) (fun c17 => ?_)
        · refine R_aload_n (k := 0) rfl rfl rfl ?_
          refine R_getf_r (j := 17) rfl ft_9_40 sh_96 rfl ?_
          refine R_iload_n (k := 1) rfl rfl rfl ?_
          refine R_iconst 1 rfl rfl ?_
          refine N_iadd (a := a0.toInt) (b := 1) rfl rfl (by decide) (by omega) (fun x18 q19 => ?_)
          refine R_iald rfl sh_105 ⟨by omega, by omega⟩ ?_
          refine N_bd (lo := 0) (hi := 5) (hI.1 105 _) (fun x20 q21 => ?_)
          refine R_istore (k := 4) [(4, .inl x20), (3, .inl x3), (0, .inr (.inr (.inl 96))), (1, .inl a0), (2, .inl a1)] rfl rfl (by decide) ?_
          refine R_aload_n (k := 0) rfl rfl rfl ?_
          refine R_getf_r (j := 22) rfl ft_9_46 sh_96 rfl ?_
          refine R_iload (k := 4) rfl rfl ?_
          refine R_iald rfl sh_107 ⟨by omega, by omega⟩ ?_
          refine N_any (fun x22 => ?_)
          refine R_iconst (-1) rfl rfl ?_
          refine N_icmp_ne (a := x22.toInt) (b := (-1)) 135 rfl rfl rfl (by decide) (fun c23 => ?_) (fun c23 => ?_)
          · exact R_vret rfl rfl ⟨hI, fr, ⟨by omega, by omega, by omega, by omega, by omega, by omega, by omega, by omega, by omega, by omega, trivial⟩, rfl⟩
          · refine R_aload_n (k := 0) rfl rfl rfl ?_
            refine R_iload (k := 4) rfl rfl ?_
            refine R_iload_n (k := 2) rfl rfl rfl ?_
            have b24 := i_rng a1
            refine R_callV (v := .inr (.inr (.inl 96))) (As := [.inl x20, .inl a1]) (rest := []) rfl mt_9_i271 pp_X9_doesRest (by decide) rfl rfl rfl (Nat.le_of_ble_eq_true rfl) (Nat.le_of_ble_eq_true rfl) ((k_X9_doesRest h hI x20 a1 (by omega) (by omega)).mono (fun r25 h26 p27 => ?_))
            obtain ⟨rfl, x28, rfl, q29 | q29 | q29⟩ := p27
            · show RUN d_X9_goPlace 132 [(4, .inl x20), (3, .inl x3), (0, .inr (.inr (.inl 96))), (1, .inl a0), (2, .inl a1)] [.inl x28] h _
              refine N_if_eq (a := x28.toInt) 136 rfl rfl rfl (fun c30 => ?_) (fun c30 => ?_)
              · refine R_aload_n (k := 0) rfl rfl rfl ?_
                refine R_iload_n (k := 3) rfl rfl rfl ?_
                refine R_callV (v := .inr (.inr (.inl 96))) (As := [.inl x3]) (rest := []) rfl mt_9_i275 pp_X9_spill (by decide) rfl rfl rfl (Nat.le_of_ble_eq_true rfl) (Nat.le_of_ble_eq_true rfl) ((k_X9_spill h hI x3 (by omega)).mono (fun r31 h32 p33 => ?_))
                obtain ⟨hJ, fj, ⟨kp34, kp35, kp36, kp37, kp38, kp39, kp40, kp41, kp42, kp43, kp44, kp45, -⟩, rfl⟩ := p33
                have f46 := fj
                have fr := fr.trans fj (by decide)
                have hI := hJ
                have s47 : (h32.1 109 22).toInt = (h.1 109 22).toInt := by rw [(f46 109 (by decide)).1]
                show RUN d_X9_goPlace 141 [(4, .inl x20), (3, .inl x3), (0, .inr (.inr (.inl 96))), (1, .inl a0), (2, .inl a1)] [] h32 _
                refine R_aload_n (k := 0) rfl rfl rfl ?_
                refine R_getf_r (j := 22) rfl ft_9_46 sh_96 rfl ?_
                refine R_iload (k := 4) rfl rfl ?_
                refine R_iconst 0 rfl rfl ?_
                refine K_iast (a := x20.toInt) (lo := (-2147483648)) (hi' := 2147483647) rfl sh_107 rfl ⟨by omega, by omega⟩ hI (by decide) rfl (by decide) fr (by decide) (fun h48 g49 hI fr => ?_)
                have s50 : (h48.1 96 18).toInt = (h32.1 96 18).toInt := by rw [g49, wI_ne _ _ _ (by decide)]
                have s51 : (h48.1 109 22).toInt = (h32.1 109 22).toInt := by rw [g49, wI_ne _ _ _ (by decide)]
                have s52 : (h48.1 96 34).toInt = (h32.1 96 34).toInt := by rw [g49, wI_ne _ _ _ (by decide)]
                have s53 : (h48.1 96 35).toInt = (h32.1 96 35).toInt := by rw [g49, wI_ne _ _ _ (by decide)]
                have s54 : (h48.1 96 41).toInt = (h32.1 96 41).toInt := by rw [g49, wI_ne _ _ _ (by decide)]
                have s55 : (h48.1 96 42).toInt = (h32.1 96 42).toInt := by rw [g49, wI_ne _ _ _ (by decide)]
                have s56 : (h48.1 96 19).toInt = (h32.1 96 19).toInt := by rw [g49, wI_ne _ _ _ (by decide)]
                have s57 : (h48.1 96 20).toInt = (h32.1 96 20).toInt := by rw [g49, wI_ne _ _ _ (by decide)]
                have s58 : (h48.1 96 46).toInt = (h32.1 96 46).toInt := by rw [g49, wI_ne _ _ _ (by decide)]
                have s59 : (h48.1 96 44).toInt = (h32.1 96 44).toInt := by rw [g49, wI_ne _ _ _ (by decide)]
                have s60 : (h48.1 96 47).toInt = (h32.1 96 47).toInt := by rw [g49, wI_ne _ _ _ (by decide)]
                have s61 : (h48.1 96 48).toInt = (h32.1 96 48).toInt := by rw [g49, wI_ne _ _ _ (by decide)]
                have s62 : (h48.1 96 51).toInt = (h32.1 96 51).toInt := by rw [g49, wI_ne _ _ _ (by decide)]
                refine R_aload_n (k := 0) rfl rfl rfl ?_
                refine R_getf_r (j := 23) rfl ft_9_49 sh_96 rfl ?_
                refine R_iload (k := 4) rfl rfl ?_
                refine R_aload_n (k := 0) rfl rfl rfl ?_
                refine R_getf_r (j := 23) rfl ft_9_49 sh_96 rfl ?_
                refine R_iload_n (k := 3) rfl rfl rfl ?_
                refine R_iald rfl sh_108 ⟨by omega, by omega⟩ ?_
                refine N_any (fun x63 => ?_)
                refine K_iast (a := x20.toInt) (lo := (-2147483648)) (hi' := 2147483647) rfl sh_108 rfl ⟨by omega, by omega⟩ hI (by decide) rfl (i_rng _) fr (by decide) (fun h64 g65 hI fr => ?_)
                have s66 : (h64.1 96 18).toInt = (h48.1 96 18).toInt := by rw [g65, wI_ne _ _ _ (by decide)]
                have s67 : (h64.1 109 22).toInt = (h48.1 109 22).toInt := by rw [g65, wI_ne _ _ _ (by decide)]
                have s68 : (h64.1 96 34).toInt = (h48.1 96 34).toInt := by rw [g65, wI_ne _ _ _ (by decide)]
                have s69 : (h64.1 96 35).toInt = (h48.1 96 35).toInt := by rw [g65, wI_ne _ _ _ (by decide)]
                have s70 : (h64.1 96 41).toInt = (h48.1 96 41).toInt := by rw [g65, wI_ne _ _ _ (by decide)]
                have s71 : (h64.1 96 42).toInt = (h48.1 96 42).toInt := by rw [g65, wI_ne _ _ _ (by decide)]
                have s72 : (h64.1 96 19).toInt = (h48.1 96 19).toInt := by rw [g65, wI_ne _ _ _ (by decide)]
                have s73 : (h64.1 96 20).toInt = (h48.1 96 20).toInt := by rw [g65, wI_ne _ _ _ (by decide)]
                have s74 : (h64.1 96 46).toInt = (h48.1 96 46).toInt := by rw [g65, wI_ne _ _ _ (by decide)]
                have s75 : (h64.1 96 44).toInt = (h48.1 96 44).toInt := by rw [g65, wI_ne _ _ _ (by decide)]
                have s76 : (h64.1 96 47).toInt = (h48.1 96 47).toInt := by rw [g65, wI_ne _ _ _ (by decide)]
                have s77 : (h64.1 96 48).toInt = (h48.1 96 48).toInt := by rw [g65, wI_ne _ _ _ (by decide)]
                have s78 : (h64.1 96 51).toInt = (h48.1 96 51).toInt := by rw [g65, wI_ne _ _ _ (by decide)]
                refine R_aload_n (k := 0) rfl rfl rfl ?_
                refine R_getf_r (j := 22) rfl ft_9_46 sh_96 rfl ?_
                refine R_iload_n (k := 3) rfl rfl rfl ?_
                refine R_iconst (-1) rfl rfl ?_
                refine K_iast (a := x3.toInt) (lo := (-2147483648)) (hi' := 2147483647) rfl sh_107 rfl ⟨by omega, by omega⟩ hI (by decide) rfl (by decide) fr (by decide) (fun h79 g80 hI fr => ?_)
                have s81 : (h79.1 96 18).toInt = (h64.1 96 18).toInt := by rw [g80, wI_ne _ _ _ (by decide)]
                have s82 : (h79.1 109 22).toInt = (h64.1 109 22).toInt := by rw [g80, wI_ne _ _ _ (by decide)]
                have s83 : (h79.1 96 34).toInt = (h64.1 96 34).toInt := by rw [g80, wI_ne _ _ _ (by decide)]
                have s84 : (h79.1 96 35).toInt = (h64.1 96 35).toInt := by rw [g80, wI_ne _ _ _ (by decide)]
                have s85 : (h79.1 96 41).toInt = (h64.1 96 41).toInt := by rw [g80, wI_ne _ _ _ (by decide)]
                have s86 : (h79.1 96 42).toInt = (h64.1 96 42).toInt := by rw [g80, wI_ne _ _ _ (by decide)]
                have s87 : (h79.1 96 19).toInt = (h64.1 96 19).toInt := by rw [g80, wI_ne _ _ _ (by decide)]
                have s88 : (h79.1 96 20).toInt = (h64.1 96 20).toInt := by rw [g80, wI_ne _ _ _ (by decide)]
                have s89 : (h79.1 96 46).toInt = (h64.1 96 46).toInt := by rw [g80, wI_ne _ _ _ (by decide)]
                have s90 : (h79.1 96 44).toInt = (h64.1 96 44).toInt := by rw [g80, wI_ne _ _ _ (by decide)]
                have s91 : (h79.1 96 47).toInt = (h64.1 96 47).toInt := by rw [g80, wI_ne _ _ _ (by decide)]
                have s92 : (h79.1 96 48).toInt = (h64.1 96 48).toInt := by rw [g80, wI_ne _ _ _ (by decide)]
                have s93 : (h79.1 96 51).toInt = (h64.1 96 51).toInt := by rw [g80, wI_ne _ _ _ (by decide)]
                refine R_aload_n (k := 0) rfl rfl rfl ?_
                refine R_getf_r (j := 23) rfl ft_9_49 sh_96 rfl ?_
                refine R_iload_n (k := 3) rfl rfl rfl ?_
                refine R_iconst 0 rfl rfl ?_
                refine K_iast (a := x3.toInt) (lo := (-2147483648)) (hi' := 2147483647) rfl sh_108 rfl ⟨by omega, by omega⟩ hI (by decide) rfl (by decide) fr (by decide) (fun h94 g95 hI fr => ?_)
                have s96 : (h94.1 96 18).toInt = (h79.1 96 18).toInt := by rw [g95, wI_ne _ _ _ (by decide)]
                have s97 : (h94.1 109 22).toInt = (h79.1 109 22).toInt := by rw [g95, wI_ne _ _ _ (by decide)]
                have s98 : (h94.1 96 34).toInt = (h79.1 96 34).toInt := by rw [g95, wI_ne _ _ _ (by decide)]
                have s99 : (h94.1 96 35).toInt = (h79.1 96 35).toInt := by rw [g95, wI_ne _ _ _ (by decide)]
                have s100 : (h94.1 96 41).toInt = (h79.1 96 41).toInt := by rw [g95, wI_ne _ _ _ (by decide)]
                have s101 : (h94.1 96 42).toInt = (h79.1 96 42).toInt := by rw [g95, wI_ne _ _ _ (by decide)]
                have s102 : (h94.1 96 19).toInt = (h79.1 96 19).toInt := by rw [g95, wI_ne _ _ _ (by decide)]
                have s103 : (h94.1 96 20).toInt = (h79.1 96 20).toInt := by rw [g95, wI_ne _ _ _ (by decide)]
                have s104 : (h94.1 96 46).toInt = (h79.1 96 46).toInt := by rw [g95, wI_ne _ _ _ (by decide)]
                have s105 : (h94.1 96 44).toInt = (h79.1 96 44).toInt := by rw [g95, wI_ne _ _ _ (by decide)]
                have s106 : (h94.1 96 47).toInt = (h79.1 96 47).toInt := by rw [g95, wI_ne _ _ _ (by decide)]
                have s107 : (h94.1 96 48).toInt = (h79.1 96 48).toInt := by rw [g95, wI_ne _ _ _ (by decide)]
                have s108 : (h94.1 96 51).toInt = (h79.1 96 51).toInt := by rw [g95, wI_ne _ _ _ (by decide)]
                exact R_vret rfl rfl ⟨hI, fr, ⟨by omega, by omega, by omega, by omega, by omega, by omega, by omega, by omega, by omega, by omega, trivial⟩, rfl⟩
              · exfalso; omega
            · exfalso; omega
            · exfalso; omega
        · refine R_aload_n (k := 0) rfl rfl rfl ?_
          refine R_iload_n (k := 3) rfl rfl rfl ?_
          refine R_callV (v := .inr (.inr (.inl 96))) (As := [.inl x3]) (rest := []) rfl mt_9_i275 pp_X9_spill (by decide) rfl rfl rfl (Nat.le_of_ble_eq_true rfl) (Nat.le_of_ble_eq_true rfl) ((k_X9_spill h hI x3 (by omega)).mono (fun r109 h110 p111 => ?_))
          obtain ⟨hJ, fj, ⟨kp112, kp113, kp114, kp115, kp116, kp117, kp118, kp119, kp120, kp121, kp122, kp123, -⟩, rfl⟩ := p111
          have f124 := fj
          have fr := fr.trans fj (by decide)
          have hI := hJ
          have s125 : (h110.1 109 22).toInt = (h.1 109 22).toInt := by rw [(f124 109 (by decide)).1]
          show RUN d_X9_goPlace 47 [(3, .inl x3), (0, .inr (.inr (.inl 96))), (1, .inl a0), (2, .inl a1)] [] h110 _
          refine R_aload_n (k := 0) rfl rfl rfl ?_
          refine R_dup_r rfl ?_
          refine R_getf_i (j := 35) rfl ft_9_265 sh_96 rfl ?_
          refine R_aload_n (k := 0) rfl rfl rfl ?_
          refine R_getf_r (j := 23) rfl ft_9_49 sh_96 rfl ?_
          refine R_iload_n (k := 3) rfl rfl rfl ?_
          refine R_iald rfl sh_108 ⟨by omega, by omega⟩ ?_
          refine N_any (fun x126 => ?_)
          have b127 := i_rng (h110.1 96 35)
          have b128 := i_rng x126
          refine R_iadd rfl ?_
          refine N_any (fun x129 => ?_)
          refine K_putf (j := 35) (lo := (-2147483648)) (hi' := 2147483647) rfl ft_9_265 sh_96 rfl hI (by decide) rfl (i_rng _) fr (by decide) (fun h130 g131 hI fr => ?_)
          have s132 : (h130.1 96 18).toInt = (h110.1 96 18).toInt := by rw [g131, wI_at (by decide)]
          have s133 : (h130.1 109 22).toInt = (h110.1 109 22).toInt := by rw [g131, wI_ne _ _ _ (by decide)]
          have s134 : (h130.1 96 34).toInt = (h110.1 96 34).toInt := by rw [g131, wI_at (by decide)]
          have s135 : (h130.1 96 41).toInt = (h110.1 96 41).toInt := by rw [g131, wI_at (by decide)]
          have s136 : (h130.1 96 42).toInt = (h110.1 96 42).toInt := by rw [g131, wI_at (by decide)]
          have s137 : (h130.1 96 19).toInt = (h110.1 96 19).toInt := by rw [g131, wI_at (by decide)]
          have s138 : (h130.1 96 20).toInt = (h110.1 96 20).toInt := by rw [g131, wI_at (by decide)]
          have s139 : (h130.1 96 46).toInt = (h110.1 96 46).toInt := by rw [g131, wI_at (by decide)]
          have s140 : (h130.1 96 44).toInt = (h110.1 96 44).toInt := by rw [g131, wI_at (by decide)]
          have s141 : (h130.1 96 47).toInt = (h110.1 96 47).toInt := by rw [g131, wI_at (by decide)]
          have s142 : (h130.1 96 48).toInt = (h110.1 96 48).toInt := by rw [g131, wI_at (by decide)]
          have s143 : (h130.1 96 51).toInt = (h110.1 96 51).toInt := by rw [g131, wI_at (by decide)]
          have s144 : (h130.1 96 35).toInt = x129.toInt := by rw [g131, wI_is]
          refine R_aload_n (k := 0) rfl rfl rfl ?_
          refine R_dup_r rfl ?_
          refine R_getf_i (j := 34) rfl ft_9_262 sh_96 rfl ?_
          refine R_iconst 1 rfl rfl ?_
          have b145 := i_rng (h130.1 96 34)
          refine R_iadd rfl ?_
          refine N_any (fun x146 => ?_)
          refine K_putf (j := 34) (lo := (-2147483648)) (hi' := 2147483647) rfl ft_9_262 sh_96 rfl hI (by decide) rfl (i_rng _) fr (by decide) (fun h147 g148 hI fr => ?_)
          have s149 : (h147.1 96 18).toInt = (h130.1 96 18).toInt := by rw [g148, wI_at (by decide)]
          have s150 : (h147.1 109 22).toInt = (h130.1 109 22).toInt := by rw [g148, wI_ne _ _ _ (by decide)]
          have s151 : (h147.1 96 41).toInt = (h130.1 96 41).toInt := by rw [g148, wI_at (by decide)]
          have s152 : (h147.1 96 42).toInt = (h130.1 96 42).toInt := by rw [g148, wI_at (by decide)]
          have s153 : (h147.1 96 19).toInt = (h130.1 96 19).toInt := by rw [g148, wI_at (by decide)]
          have s154 : (h147.1 96 20).toInt = (h130.1 96 20).toInt := by rw [g148, wI_at (by decide)]
          have s155 : (h147.1 96 46).toInt = (h130.1 96 46).toInt := by rw [g148, wI_at (by decide)]
          have s156 : (h147.1 96 44).toInt = (h130.1 96 44).toInt := by rw [g148, wI_at (by decide)]
          have s157 : (h147.1 96 47).toInt = (h130.1 96 47).toInt := by rw [g148, wI_at (by decide)]
          have s158 : (h147.1 96 48).toInt = (h130.1 96 48).toInt := by rw [g148, wI_at (by decide)]
          have s159 : (h147.1 96 51).toInt = (h130.1 96 51).toInt := by rw [g148, wI_at (by decide)]
          have s160 : (h147.1 96 35).toInt = (h130.1 96 35).toInt := by rw [g148, wI_at (by decide)]
          have s161 : (h147.1 96 34).toInt = x146.toInt := by rw [g148, wI_is]
          refine R_aload_n (k := 0) rfl rfl rfl ?_
          refine R_getf_r (j := 24) rfl ft_9_52 sh_96 rfl ?_
          refine R_aload_n (k := 0) rfl rfl rfl ?_
          refine R_getf_r (j := 1) rfl ft_9_9 sh_96 rfl ?_
          refine R_iconst 3 rfl rfl ?_
          refine R_iald rfl sh_97 (by decide) ?_
          have b162 : (0 : Int) ≤ (h147.1 97 3).toInt ∧ (h147.1 97 3).toInt ≤ 20 := hI.1 97 3
          show RUN d_X9_goPlace 82 [(3, .inl x3), (0, .inr (.inr (.inl 96))), (1, .inl a0), (2, .inl a1)] [.inl (h147.1 97 3), .inr (.inr (.inl 109))] h147 _
          refine R_iconst 1 rfl rfl ?_
          refine N_iadd (a := (h147.1 97 3).toInt) (b := 1) rfl rfl (by decide) (by omega) (fun x163 q164 => ?_)
          refine R_dup2 rfl ?_
          refine R_iald rfl sh_109 ⟨by omega, by omega⟩ ?_
          refine N_any (fun x165 => ?_)
          refine R_iconst 1 rfl rfl ?_
          have b166 := i_rng x165
          refine R_iadd rfl ?_
          refine N_any (fun x167 => ?_)
          refine K_iast (a := x163.toInt) (lo := (-2147483648)) (hi' := 2147483647) rfl sh_109 rfl ⟨by omega, by omega⟩ hI (by decide) rfl (i_rng _) fr (by decide) (fun h168 g169 hI fr => ?_)
          have s170 : (h168.1 96 18).toInt = (h147.1 96 18).toInt := by rw [g169, wI_ne _ _ _ (by decide)]
          have s171 : (h168.1 96 41).toInt = (h147.1 96 41).toInt := by rw [g169, wI_ne _ _ _ (by decide)]
          have s172 : (h168.1 96 42).toInt = (h147.1 96 42).toInt := by rw [g169, wI_ne _ _ _ (by decide)]
          have s173 : (h168.1 96 19).toInt = (h147.1 96 19).toInt := by rw [g169, wI_ne _ _ _ (by decide)]
          have s174 : (h168.1 96 20).toInt = (h147.1 96 20).toInt := by rw [g169, wI_ne _ _ _ (by decide)]
          have s175 : (h168.1 96 46).toInt = (h147.1 96 46).toInt := by rw [g169, wI_ne _ _ _ (by decide)]
          have s176 : (h168.1 96 44).toInt = (h147.1 96 44).toInt := by rw [g169, wI_ne _ _ _ (by decide)]
          have s177 : (h168.1 96 47).toInt = (h147.1 96 47).toInt := by rw [g169, wI_ne _ _ _ (by decide)]
          have s178 : (h168.1 96 48).toInt = (h147.1 96 48).toInt := by rw [g169, wI_ne _ _ _ (by decide)]
          have s179 : (h168.1 96 51).toInt = (h147.1 96 51).toInt := by rw [g169, wI_ne _ _ _ (by decide)]
          have s180 : (h168.1 96 35).toInt = (h147.1 96 35).toInt := by rw [g169, wI_ne _ _ _ (by decide)]
          have s181 : (h168.1 96 34).toInt = (h147.1 96 34).toInt := by rw [g169, wI_ne _ _ _ (by decide)]
          have s182 : (h168.1 97 3).toInt = (h147.1 97 3).toInt := by rw [g169, wI_ne _ _ _ (by decide)]
          refine R_aload_n (k := 0) rfl rfl rfl ?_
          refine R_getf_r (j := 22) rfl ft_9_46 sh_96 rfl ?_
          refine R_iload_n (k := 3) rfl rfl rfl ?_
          refine R_iconst (-1) rfl rfl ?_
          refine K_iast (a := x3.toInt) (lo := (-2147483648)) (hi' := 2147483647) rfl sh_107 rfl ⟨by omega, by omega⟩ hI (by decide) rfl (by decide) fr (by decide) (fun h183 g184 hI fr => ?_)
          have s185 : (h183.1 96 18).toInt = (h168.1 96 18).toInt := by rw [g184, wI_ne _ _ _ (by decide)]
          have s186 : (h183.1 96 41).toInt = (h168.1 96 41).toInt := by rw [g184, wI_ne _ _ _ (by decide)]
          have s187 : (h183.1 96 42).toInt = (h168.1 96 42).toInt := by rw [g184, wI_ne _ _ _ (by decide)]
          have s188 : (h183.1 96 19).toInt = (h168.1 96 19).toInt := by rw [g184, wI_ne _ _ _ (by decide)]
          have s189 : (h183.1 96 20).toInt = (h168.1 96 20).toInt := by rw [g184, wI_ne _ _ _ (by decide)]
          have s190 : (h183.1 96 46).toInt = (h168.1 96 46).toInt := by rw [g184, wI_ne _ _ _ (by decide)]
          have s191 : (h183.1 96 44).toInt = (h168.1 96 44).toInt := by rw [g184, wI_ne _ _ _ (by decide)]
          have s192 : (h183.1 96 47).toInt = (h168.1 96 47).toInt := by rw [g184, wI_ne _ _ _ (by decide)]
          have s193 : (h183.1 96 48).toInt = (h168.1 96 48).toInt := by rw [g184, wI_ne _ _ _ (by decide)]
          have s194 : (h183.1 96 51).toInt = (h168.1 96 51).toInt := by rw [g184, wI_ne _ _ _ (by decide)]
          have s195 : (h183.1 96 35).toInt = (h168.1 96 35).toInt := by rw [g184, wI_ne _ _ _ (by decide)]
          have s196 : (h183.1 96 34).toInt = (h168.1 96 34).toInt := by rw [g184, wI_ne _ _ _ (by decide)]
          have s197 : (h183.1 97 3).toInt = (h168.1 97 3).toInt := by rw [g184, wI_ne _ _ _ (by decide)]
          refine R_aload_n (k := 0) rfl rfl rfl ?_
          refine R_getf_r (j := 23) rfl ft_9_49 sh_96 rfl ?_
          refine R_iload_n (k := 3) rfl rfl rfl ?_
          refine R_iconst 0 rfl rfl ?_
          refine K_iast (a := x3.toInt) (lo := (-2147483648)) (hi' := 2147483647) rfl sh_108 rfl ⟨by omega, by omega⟩ hI (by decide) rfl (by decide) fr (by decide) (fun h198 g199 hI fr => ?_)
          have s200 : (h198.1 96 18).toInt = (h183.1 96 18).toInt := by rw [g199, wI_ne _ _ _ (by decide)]
          have s201 : (h198.1 96 41).toInt = (h183.1 96 41).toInt := by rw [g199, wI_ne _ _ _ (by decide)]
          have s202 : (h198.1 96 42).toInt = (h183.1 96 42).toInt := by rw [g199, wI_ne _ _ _ (by decide)]
          have s203 : (h198.1 96 19).toInt = (h183.1 96 19).toInt := by rw [g199, wI_ne _ _ _ (by decide)]
          have s204 : (h198.1 96 20).toInt = (h183.1 96 20).toInt := by rw [g199, wI_ne _ _ _ (by decide)]
          have s205 : (h198.1 96 46).toInt = (h183.1 96 46).toInt := by rw [g199, wI_ne _ _ _ (by decide)]
          have s206 : (h198.1 96 44).toInt = (h183.1 96 44).toInt := by rw [g199, wI_ne _ _ _ (by decide)]
          have s207 : (h198.1 96 47).toInt = (h183.1 96 47).toInt := by rw [g199, wI_ne _ _ _ (by decide)]
          have s208 : (h198.1 96 48).toInt = (h183.1 96 48).toInt := by rw [g199, wI_ne _ _ _ (by decide)]
          have s209 : (h198.1 96 51).toInt = (h183.1 96 51).toInt := by rw [g199, wI_ne _ _ _ (by decide)]
          have s210 : (h198.1 96 35).toInt = (h183.1 96 35).toInt := by rw [g199, wI_ne _ _ _ (by decide)]
          have s211 : (h198.1 96 34).toInt = (h183.1 96 34).toInt := by rw [g199, wI_ne _ _ _ (by decide)]
          have s212 : (h198.1 97 3).toInt = (h183.1 97 3).toInt := by rw [g199, wI_ne _ _ _ (by decide)]
          exact R_vret rfl rfl ⟨hI, fr, ⟨by omega, by omega, by omega, by omega, by omega, by omega, by omega, by omega, by omega, by omega, trivial⟩, rfl⟩
      · exfalso; omega
    · show RUN d_X9_goPlace 28 [(3, .inl x3), (0, .inr (.inr (.inl 96))), (1, .inl a0), (2, .inl a1)] [.inl x12] h _
      refine N_if_eq (a := x12.toInt) 32 rfl rfl rfl (fun c213 => ?_) (fun c213 => ?_)
      · refine R_iload_n (k := 1) rfl rfl rfl ?_
        refine R_aload_n (k := 0) rfl rfl rfl ?_
        refine R_getf_i (j := 18) rfl ft_9_253 sh_96 rfl ?_
        refine R_iconst 1 rfl rfl ?_
        refine N_isub (a := (h.1 96 18).toInt) (b := 1) rfl rfl (by decide) (by omega) (fun x214 q215 => ?_)
        refine N_icmp_ne (a := a0.toInt) (b := x214.toInt) 104 rfl rfl rfl rfl (fun c216 => ?_) (fun c216 => ?_)
        · refine R_aload_n (k := 0) rfl rfl rfl ?_
          refine R_getf_r (j := 17) rfl ft_9_40 sh_96 rfl ?_
          refine R_iload_n (k := 1) rfl rfl rfl ?_
          refine R_iconst 1 rfl rfl ?_
          refine N_iadd (a := a0.toInt) (b := 1) rfl rfl (by decide) (by omega) (fun x217 q218 => ?_)
          refine R_iald rfl sh_105 ⟨by omega, by omega⟩ ?_
          refine N_bd (lo := 0) (hi := 5) (hI.1 105 _) (fun x219 q220 => ?_)
          refine R_istore (k := 4) [(4, .inl x219), (3, .inl x3), (0, .inr (.inr (.inl 96))), (1, .inl a0), (2, .inl a1)] rfl rfl (by decide) ?_
          refine R_aload_n (k := 0) rfl rfl rfl ?_
          refine R_getf_r (j := 22) rfl ft_9_46 sh_96 rfl ?_
          refine R_iload (k := 4) rfl rfl ?_
          refine R_iald rfl sh_107 ⟨by omega, by omega⟩ ?_
          refine N_any (fun x221 => ?_)
          refine R_iconst (-1) rfl rfl ?_
          refine N_icmp_ne (a := x221.toInt) (b := (-1)) 135 rfl rfl rfl (by decide) (fun c222 => ?_) (fun c222 => ?_)
          · exact R_vret rfl rfl ⟨hI, fr, ⟨by omega, by omega, by omega, by omega, by omega, by omega, by omega, by omega, by omega, by omega, trivial⟩, rfl⟩
          · refine R_aload_n (k := 0) rfl rfl rfl ?_
            refine R_iload (k := 4) rfl rfl ?_
            refine R_iload_n (k := 2) rfl rfl rfl ?_
            refine R_callV (v := .inr (.inr (.inl 96))) (As := [.inl x219, .inl a1]) (rest := []) rfl mt_9_i271 pp_X9_doesRest (by decide) rfl rfl rfl (Nat.le_of_ble_eq_true rfl) (Nat.le_of_ble_eq_true rfl) ((k_X9_doesRest h hI x219 a1 (by omega) (by omega)).mono (fun r223 h224 p225 => ?_))
            obtain ⟨rfl, x226, rfl, q227 | q227 | q227⟩ := p225
            · exfalso; omega
            · show RUN d_X9_goPlace 132 [(4, .inl x219), (3, .inl x3), (0, .inr (.inr (.inl 96))), (1, .inl a0), (2, .inl a1)] [.inl x226] h _
              refine N_if_eq (a := x226.toInt) 136 rfl rfl rfl (fun c228 => ?_) (fun c228 => ?_)
              · refine R_aload_n (k := 0) rfl rfl rfl ?_
                refine R_iload_n (k := 3) rfl rfl rfl ?_
                refine R_callV (v := .inr (.inr (.inl 96))) (As := [.inl x3]) (rest := []) rfl mt_9_i275 pp_X9_spill (by decide) rfl rfl rfl (Nat.le_of_ble_eq_true rfl) (Nat.le_of_ble_eq_true rfl) ((k_X9_spill h hI x3 (by omega)).mono (fun r229 h230 p231 => ?_))
                obtain ⟨hJ, fj, ⟨kp232, kp233, kp234, kp235, kp236, kp237, kp238, kp239, kp240, kp241, kp242, kp243, -⟩, rfl⟩ := p231
                have f244 := fj
                have fr := fr.trans fj (by decide)
                have hI := hJ
                have s245 : (h230.1 109 22).toInt = (h.1 109 22).toInt := by rw [(f244 109 (by decide)).1]
                show RUN d_X9_goPlace 141 [(4, .inl x219), (3, .inl x3), (0, .inr (.inr (.inl 96))), (1, .inl a0), (2, .inl a1)] [] h230 _
                refine R_aload_n (k := 0) rfl rfl rfl ?_
                refine R_getf_r (j := 22) rfl ft_9_46 sh_96 rfl ?_
                refine R_iload (k := 4) rfl rfl ?_
                refine R_iconst 0 rfl rfl ?_
                refine K_iast (a := x219.toInt) (lo := (-2147483648)) (hi' := 2147483647) rfl sh_107 rfl ⟨by omega, by omega⟩ hI (by decide) rfl (by decide) fr (by decide) (fun h246 g247 hI fr => ?_)
                have s248 : (h246.1 96 18).toInt = (h230.1 96 18).toInt := by rw [g247, wI_ne _ _ _ (by decide)]
                have s249 : (h246.1 109 22).toInt = (h230.1 109 22).toInt := by rw [g247, wI_ne _ _ _ (by decide)]
                have s250 : (h246.1 96 34).toInt = (h230.1 96 34).toInt := by rw [g247, wI_ne _ _ _ (by decide)]
                have s251 : (h246.1 96 35).toInt = (h230.1 96 35).toInt := by rw [g247, wI_ne _ _ _ (by decide)]
                have s252 : (h246.1 96 41).toInt = (h230.1 96 41).toInt := by rw [g247, wI_ne _ _ _ (by decide)]
                have s253 : (h246.1 96 42).toInt = (h230.1 96 42).toInt := by rw [g247, wI_ne _ _ _ (by decide)]
                have s254 : (h246.1 96 19).toInt = (h230.1 96 19).toInt := by rw [g247, wI_ne _ _ _ (by decide)]
                have s255 : (h246.1 96 20).toInt = (h230.1 96 20).toInt := by rw [g247, wI_ne _ _ _ (by decide)]
                have s256 : (h246.1 96 46).toInt = (h230.1 96 46).toInt := by rw [g247, wI_ne _ _ _ (by decide)]
                have s257 : (h246.1 96 44).toInt = (h230.1 96 44).toInt := by rw [g247, wI_ne _ _ _ (by decide)]
                have s258 : (h246.1 96 47).toInt = (h230.1 96 47).toInt := by rw [g247, wI_ne _ _ _ (by decide)]
                have s259 : (h246.1 96 48).toInt = (h230.1 96 48).toInt := by rw [g247, wI_ne _ _ _ (by decide)]
                have s260 : (h246.1 96 51).toInt = (h230.1 96 51).toInt := by rw [g247, wI_ne _ _ _ (by decide)]
                refine R_aload_n (k := 0) rfl rfl rfl ?_
                refine R_getf_r (j := 23) rfl ft_9_49 sh_96 rfl ?_
                refine R_iload (k := 4) rfl rfl ?_
                refine R_aload_n (k := 0) rfl rfl rfl ?_
                refine R_getf_r (j := 23) rfl ft_9_49 sh_96 rfl ?_
                refine R_iload_n (k := 3) rfl rfl rfl ?_
                refine R_iald rfl sh_108 ⟨by omega, by omega⟩ ?_
                refine N_any (fun x261 => ?_)
                refine K_iast (a := x219.toInt) (lo := (-2147483648)) (hi' := 2147483647) rfl sh_108 rfl ⟨by omega, by omega⟩ hI (by decide) rfl (i_rng _) fr (by decide) (fun h262 g263 hI fr => ?_)
                have s264 : (h262.1 96 18).toInt = (h246.1 96 18).toInt := by rw [g263, wI_ne _ _ _ (by decide)]
                have s265 : (h262.1 109 22).toInt = (h246.1 109 22).toInt := by rw [g263, wI_ne _ _ _ (by decide)]
                have s266 : (h262.1 96 34).toInt = (h246.1 96 34).toInt := by rw [g263, wI_ne _ _ _ (by decide)]
                have s267 : (h262.1 96 35).toInt = (h246.1 96 35).toInt := by rw [g263, wI_ne _ _ _ (by decide)]
                have s268 : (h262.1 96 41).toInt = (h246.1 96 41).toInt := by rw [g263, wI_ne _ _ _ (by decide)]
                have s269 : (h262.1 96 42).toInt = (h246.1 96 42).toInt := by rw [g263, wI_ne _ _ _ (by decide)]
                have s270 : (h262.1 96 19).toInt = (h246.1 96 19).toInt := by rw [g263, wI_ne _ _ _ (by decide)]
                have s271 : (h262.1 96 20).toInt = (h246.1 96 20).toInt := by rw [g263, wI_ne _ _ _ (by decide)]
                have s272 : (h262.1 96 46).toInt = (h246.1 96 46).toInt := by rw [g263, wI_ne _ _ _ (by decide)]
                have s273 : (h262.1 96 44).toInt = (h246.1 96 44).toInt := by rw [g263, wI_ne _ _ _ (by decide)]
                have s274 : (h262.1 96 47).toInt = (h246.1 96 47).toInt := by rw [g263, wI_ne _ _ _ (by decide)]
                have s275 : (h262.1 96 48).toInt = (h246.1 96 48).toInt := by rw [g263, wI_ne _ _ _ (by decide)]
                have s276 : (h262.1 96 51).toInt = (h246.1 96 51).toInt := by rw [g263, wI_ne _ _ _ (by decide)]
                refine R_aload_n (k := 0) rfl rfl rfl ?_
                refine R_getf_r (j := 22) rfl ft_9_46 sh_96 rfl ?_
                refine R_iload_n (k := 3) rfl rfl rfl ?_
                refine R_iconst (-1) rfl rfl ?_
                refine K_iast (a := x3.toInt) (lo := (-2147483648)) (hi' := 2147483647) rfl sh_107 rfl ⟨by omega, by omega⟩ hI (by decide) rfl (by decide) fr (by decide) (fun h277 g278 hI fr => ?_)
                have s279 : (h277.1 96 18).toInt = (h262.1 96 18).toInt := by rw [g278, wI_ne _ _ _ (by decide)]
                have s280 : (h277.1 109 22).toInt = (h262.1 109 22).toInt := by rw [g278, wI_ne _ _ _ (by decide)]
                have s281 : (h277.1 96 34).toInt = (h262.1 96 34).toInt := by rw [g278, wI_ne _ _ _ (by decide)]
                have s282 : (h277.1 96 35).toInt = (h262.1 96 35).toInt := by rw [g278, wI_ne _ _ _ (by decide)]
                have s283 : (h277.1 96 41).toInt = (h262.1 96 41).toInt := by rw [g278, wI_ne _ _ _ (by decide)]
                have s284 : (h277.1 96 42).toInt = (h262.1 96 42).toInt := by rw [g278, wI_ne _ _ _ (by decide)]
                have s285 : (h277.1 96 19).toInt = (h262.1 96 19).toInt := by rw [g278, wI_ne _ _ _ (by decide)]
                have s286 : (h277.1 96 20).toInt = (h262.1 96 20).toInt := by rw [g278, wI_ne _ _ _ (by decide)]
                have s287 : (h277.1 96 46).toInt = (h262.1 96 46).toInt := by rw [g278, wI_ne _ _ _ (by decide)]
                have s288 : (h277.1 96 44).toInt = (h262.1 96 44).toInt := by rw [g278, wI_ne _ _ _ (by decide)]
                have s289 : (h277.1 96 47).toInt = (h262.1 96 47).toInt := by rw [g278, wI_ne _ _ _ (by decide)]
                have s290 : (h277.1 96 48).toInt = (h262.1 96 48).toInt := by rw [g278, wI_ne _ _ _ (by decide)]
                have s291 : (h277.1 96 51).toInt = (h262.1 96 51).toInt := by rw [g278, wI_ne _ _ _ (by decide)]
                refine R_aload_n (k := 0) rfl rfl rfl ?_
                refine R_getf_r (j := 23) rfl ft_9_49 sh_96 rfl ?_
                refine R_iload_n (k := 3) rfl rfl rfl ?_
                refine R_iconst 0 rfl rfl ?_
                refine K_iast (a := x3.toInt) (lo := (-2147483648)) (hi' := 2147483647) rfl sh_108 rfl ⟨by omega, by omega⟩ hI (by decide) rfl (by decide) fr (by decide) (fun h292 g293 hI fr => ?_)
                have s294 : (h292.1 96 18).toInt = (h277.1 96 18).toInt := by rw [g293, wI_ne _ _ _ (by decide)]
                have s295 : (h292.1 109 22).toInt = (h277.1 109 22).toInt := by rw [g293, wI_ne _ _ _ (by decide)]
                have s296 : (h292.1 96 34).toInt = (h277.1 96 34).toInt := by rw [g293, wI_ne _ _ _ (by decide)]
                have s297 : (h292.1 96 35).toInt = (h277.1 96 35).toInt := by rw [g293, wI_ne _ _ _ (by decide)]
                have s298 : (h292.1 96 41).toInt = (h277.1 96 41).toInt := by rw [g293, wI_ne _ _ _ (by decide)]
                have s299 : (h292.1 96 42).toInt = (h277.1 96 42).toInt := by rw [g293, wI_ne _ _ _ (by decide)]
                have s300 : (h292.1 96 19).toInt = (h277.1 96 19).toInt := by rw [g293, wI_ne _ _ _ (by decide)]
                have s301 : (h292.1 96 20).toInt = (h277.1 96 20).toInt := by rw [g293, wI_ne _ _ _ (by decide)]
                have s302 : (h292.1 96 46).toInt = (h277.1 96 46).toInt := by rw [g293, wI_ne _ _ _ (by decide)]
                have s303 : (h292.1 96 44).toInt = (h277.1 96 44).toInt := by rw [g293, wI_ne _ _ _ (by decide)]
                have s304 : (h292.1 96 47).toInt = (h277.1 96 47).toInt := by rw [g293, wI_ne _ _ _ (by decide)]
                have s305 : (h292.1 96 48).toInt = (h277.1 96 48).toInt := by rw [g293, wI_ne _ _ _ (by decide)]
                have s306 : (h292.1 96 51).toInt = (h277.1 96 51).toInt := by rw [g293, wI_ne _ _ _ (by decide)]
                exact R_vret rfl rfl ⟨hI, fr, ⟨by omega, by omega, by omega, by omega, by omega, by omega, by omega, by omega, by omega, by omega, trivial⟩, rfl⟩
              · exfalso; omega
            · show RUN d_X9_goPlace 132 [(4, .inl x219), (3, .inl x3), (0, .inr (.inr (.inl 96))), (1, .inl a0), (2, .inl a1)] [.inl x226] h _
              refine N_if_eq (a := x226.toInt) 136 rfl rfl rfl (fun c307 => ?_) (fun c307 => ?_)
              · exfalso; omega
              · exact R_vret rfl rfl ⟨hI, fr, ⟨by omega, by omega, by omega, by omega, by omega, by omega, by omega, by omega, by omega, by omega, trivial⟩, rfl⟩
        · refine R_aload_n (k := 0) rfl rfl rfl ?_
          refine R_iload_n (k := 3) rfl rfl rfl ?_
          refine R_callV (v := .inr (.inr (.inl 96))) (As := [.inl x3]) (rest := []) rfl mt_9_i275 pp_X9_spill (by decide) rfl rfl rfl (Nat.le_of_ble_eq_true rfl) (Nat.le_of_ble_eq_true rfl) ((k_X9_spill h hI x3 (by omega)).mono (fun r308 h309 p310 => ?_))
          obtain ⟨hJ, fj, ⟨kp311, kp312, kp313, kp314, kp315, kp316, kp317, kp318, kp319, kp320, kp321, kp322, -⟩, rfl⟩ := p310
          have f323 := fj
          have fr := fr.trans fj (by decide)
          have hI := hJ
          have s324 : (h309.1 109 22).toInt = (h.1 109 22).toInt := by rw [(f323 109 (by decide)).1]
          show RUN d_X9_goPlace 47 [(3, .inl x3), (0, .inr (.inr (.inl 96))), (1, .inl a0), (2, .inl a1)] [] h309 _
          refine R_aload_n (k := 0) rfl rfl rfl ?_
          refine R_dup_r rfl ?_
          refine R_getf_i (j := 35) rfl ft_9_265 sh_96 rfl ?_
          refine R_aload_n (k := 0) rfl rfl rfl ?_
          refine R_getf_r (j := 23) rfl ft_9_49 sh_96 rfl ?_
          refine R_iload_n (k := 3) rfl rfl rfl ?_
          refine R_iald rfl sh_108 ⟨by omega, by omega⟩ ?_
          refine N_any (fun x325 => ?_)
          have b326 := i_rng (h309.1 96 35)
          have b327 := i_rng x325
          refine R_iadd rfl ?_
          refine N_any (fun x328 => ?_)
          refine K_putf (j := 35) (lo := (-2147483648)) (hi' := 2147483647) rfl ft_9_265 sh_96 rfl hI (by decide) rfl (i_rng _) fr (by decide) (fun h329 g330 hI fr => ?_)
          have s331 : (h329.1 96 18).toInt = (h309.1 96 18).toInt := by rw [g330, wI_at (by decide)]
          have s332 : (h329.1 109 22).toInt = (h309.1 109 22).toInt := by rw [g330, wI_ne _ _ _ (by decide)]
          have s333 : (h329.1 96 34).toInt = (h309.1 96 34).toInt := by rw [g330, wI_at (by decide)]
          have s334 : (h329.1 96 41).toInt = (h309.1 96 41).toInt := by rw [g330, wI_at (by decide)]
          have s335 : (h329.1 96 42).toInt = (h309.1 96 42).toInt := by rw [g330, wI_at (by decide)]
          have s336 : (h329.1 96 19).toInt = (h309.1 96 19).toInt := by rw [g330, wI_at (by decide)]
          have s337 : (h329.1 96 20).toInt = (h309.1 96 20).toInt := by rw [g330, wI_at (by decide)]
          have s338 : (h329.1 96 46).toInt = (h309.1 96 46).toInt := by rw [g330, wI_at (by decide)]
          have s339 : (h329.1 96 44).toInt = (h309.1 96 44).toInt := by rw [g330, wI_at (by decide)]
          have s340 : (h329.1 96 47).toInt = (h309.1 96 47).toInt := by rw [g330, wI_at (by decide)]
          have s341 : (h329.1 96 48).toInt = (h309.1 96 48).toInt := by rw [g330, wI_at (by decide)]
          have s342 : (h329.1 96 51).toInt = (h309.1 96 51).toInt := by rw [g330, wI_at (by decide)]
          have s343 : (h329.1 96 35).toInt = x328.toInt := by rw [g330, wI_is]
          refine R_aload_n (k := 0) rfl rfl rfl ?_
          refine R_dup_r rfl ?_
          refine R_getf_i (j := 34) rfl ft_9_262 sh_96 rfl ?_
          refine R_iconst 1 rfl rfl ?_
          have b344 := i_rng (h329.1 96 34)
          refine R_iadd rfl ?_
          refine N_any (fun x345 => ?_)
          refine K_putf (j := 34) (lo := (-2147483648)) (hi' := 2147483647) rfl ft_9_262 sh_96 rfl hI (by decide) rfl (i_rng _) fr (by decide) (fun h346 g347 hI fr => ?_)
          have s348 : (h346.1 96 18).toInt = (h329.1 96 18).toInt := by rw [g347, wI_at (by decide)]
          have s349 : (h346.1 109 22).toInt = (h329.1 109 22).toInt := by rw [g347, wI_ne _ _ _ (by decide)]
          have s350 : (h346.1 96 41).toInt = (h329.1 96 41).toInt := by rw [g347, wI_at (by decide)]
          have s351 : (h346.1 96 42).toInt = (h329.1 96 42).toInt := by rw [g347, wI_at (by decide)]
          have s352 : (h346.1 96 19).toInt = (h329.1 96 19).toInt := by rw [g347, wI_at (by decide)]
          have s353 : (h346.1 96 20).toInt = (h329.1 96 20).toInt := by rw [g347, wI_at (by decide)]
          have s354 : (h346.1 96 46).toInt = (h329.1 96 46).toInt := by rw [g347, wI_at (by decide)]
          have s355 : (h346.1 96 44).toInt = (h329.1 96 44).toInt := by rw [g347, wI_at (by decide)]
          have s356 : (h346.1 96 47).toInt = (h329.1 96 47).toInt := by rw [g347, wI_at (by decide)]
          have s357 : (h346.1 96 48).toInt = (h329.1 96 48).toInt := by rw [g347, wI_at (by decide)]
          have s358 : (h346.1 96 51).toInt = (h329.1 96 51).toInt := by rw [g347, wI_at (by decide)]
          have s359 : (h346.1 96 35).toInt = (h329.1 96 35).toInt := by rw [g347, wI_at (by decide)]
          have s360 : (h346.1 96 34).toInt = x345.toInt := by rw [g347, wI_is]
          refine R_aload_n (k := 0) rfl rfl rfl ?_
          refine R_getf_r (j := 24) rfl ft_9_52 sh_96 rfl ?_
          refine R_aload_n (k := 0) rfl rfl rfl ?_
          refine R_getf_r (j := 1) rfl ft_9_9 sh_96 rfl ?_
          refine R_iconst 3 rfl rfl ?_
          refine R_iald rfl sh_97 (by decide) ?_
          have b361 : (0 : Int) ≤ (h346.1 97 3).toInt ∧ (h346.1 97 3).toInt ≤ 20 := hI.1 97 3
          show RUN d_X9_goPlace 82 [(3, .inl x3), (0, .inr (.inr (.inl 96))), (1, .inl a0), (2, .inl a1)] [.inl (h346.1 97 3), .inr (.inr (.inl 109))] h346 _
          refine R_iconst 1 rfl rfl ?_
          refine N_iadd (a := (h346.1 97 3).toInt) (b := 1) rfl rfl (by decide) (by omega) (fun x362 q363 => ?_)
          refine R_dup2 rfl ?_
          refine R_iald rfl sh_109 ⟨by omega, by omega⟩ ?_
          refine N_any (fun x364 => ?_)
          refine R_iconst 1 rfl rfl ?_
          have b365 := i_rng x364
          refine R_iadd rfl ?_
          refine N_any (fun x366 => ?_)
          refine K_iast (a := x362.toInt) (lo := (-2147483648)) (hi' := 2147483647) rfl sh_109 rfl ⟨by omega, by omega⟩ hI (by decide) rfl (i_rng _) fr (by decide) (fun h367 g368 hI fr => ?_)
          have s369 : (h367.1 96 18).toInt = (h346.1 96 18).toInt := by rw [g368, wI_ne _ _ _ (by decide)]
          have s370 : (h367.1 96 41).toInt = (h346.1 96 41).toInt := by rw [g368, wI_ne _ _ _ (by decide)]
          have s371 : (h367.1 96 42).toInt = (h346.1 96 42).toInt := by rw [g368, wI_ne _ _ _ (by decide)]
          have s372 : (h367.1 96 19).toInt = (h346.1 96 19).toInt := by rw [g368, wI_ne _ _ _ (by decide)]
          have s373 : (h367.1 96 20).toInt = (h346.1 96 20).toInt := by rw [g368, wI_ne _ _ _ (by decide)]
          have s374 : (h367.1 96 46).toInt = (h346.1 96 46).toInt := by rw [g368, wI_ne _ _ _ (by decide)]
          have s375 : (h367.1 96 44).toInt = (h346.1 96 44).toInt := by rw [g368, wI_ne _ _ _ (by decide)]
          have s376 : (h367.1 96 47).toInt = (h346.1 96 47).toInt := by rw [g368, wI_ne _ _ _ (by decide)]
          have s377 : (h367.1 96 48).toInt = (h346.1 96 48).toInt := by rw [g368, wI_ne _ _ _ (by decide)]
          have s378 : (h367.1 96 51).toInt = (h346.1 96 51).toInt := by rw [g368, wI_ne _ _ _ (by decide)]
          have s379 : (h367.1 96 35).toInt = (h346.1 96 35).toInt := by rw [g368, wI_ne _ _ _ (by decide)]
          have s380 : (h367.1 96 34).toInt = (h346.1 96 34).toInt := by rw [g368, wI_ne _ _ _ (by decide)]
          have s381 : (h367.1 97 3).toInt = (h346.1 97 3).toInt := by rw [g368, wI_ne _ _ _ (by decide)]
          refine R_aload_n (k := 0) rfl rfl rfl ?_
          refine R_getf_r (j := 22) rfl ft_9_46 sh_96 rfl ?_
          refine R_iload_n (k := 3) rfl rfl rfl ?_
          refine R_iconst (-1) rfl rfl ?_
          refine K_iast (a := x3.toInt) (lo := (-2147483648)) (hi' := 2147483647) rfl sh_107 rfl ⟨by omega, by omega⟩ hI (by decide) rfl (by decide) fr (by decide) (fun h382 g383 hI fr => ?_)
          have s384 : (h382.1 96 18).toInt = (h367.1 96 18).toInt := by rw [g383, wI_ne _ _ _ (by decide)]
          have s385 : (h382.1 96 41).toInt = (h367.1 96 41).toInt := by rw [g383, wI_ne _ _ _ (by decide)]
          have s386 : (h382.1 96 42).toInt = (h367.1 96 42).toInt := by rw [g383, wI_ne _ _ _ (by decide)]
          have s387 : (h382.1 96 19).toInt = (h367.1 96 19).toInt := by rw [g383, wI_ne _ _ _ (by decide)]
          have s388 : (h382.1 96 20).toInt = (h367.1 96 20).toInt := by rw [g383, wI_ne _ _ _ (by decide)]
          have s389 : (h382.1 96 46).toInt = (h367.1 96 46).toInt := by rw [g383, wI_ne _ _ _ (by decide)]
          have s390 : (h382.1 96 44).toInt = (h367.1 96 44).toInt := by rw [g383, wI_ne _ _ _ (by decide)]
          have s391 : (h382.1 96 47).toInt = (h367.1 96 47).toInt := by rw [g383, wI_ne _ _ _ (by decide)]
          have s392 : (h382.1 96 48).toInt = (h367.1 96 48).toInt := by rw [g383, wI_ne _ _ _ (by decide)]
          have s393 : (h382.1 96 51).toInt = (h367.1 96 51).toInt := by rw [g383, wI_ne _ _ _ (by decide)]
          have s394 : (h382.1 96 35).toInt = (h367.1 96 35).toInt := by rw [g383, wI_ne _ _ _ (by decide)]
          have s395 : (h382.1 96 34).toInt = (h367.1 96 34).toInt := by rw [g383, wI_ne _ _ _ (by decide)]
          have s396 : (h382.1 97 3).toInt = (h367.1 97 3).toInt := by rw [g383, wI_ne _ _ _ (by decide)]
          refine R_aload_n (k := 0) rfl rfl rfl ?_
          refine R_getf_r (j := 23) rfl ft_9_49 sh_96 rfl ?_
          refine R_iload_n (k := 3) rfl rfl rfl ?_
          refine R_iconst 0 rfl rfl ?_
          refine K_iast (a := x3.toInt) (lo := (-2147483648)) (hi' := 2147483647) rfl sh_108 rfl ⟨by omega, by omega⟩ hI (by decide) rfl (by decide) fr (by decide) (fun h397 g398 hI fr => ?_)
          have s399 : (h397.1 96 18).toInt = (h382.1 96 18).toInt := by rw [g398, wI_ne _ _ _ (by decide)]
          have s400 : (h397.1 96 41).toInt = (h382.1 96 41).toInt := by rw [g398, wI_ne _ _ _ (by decide)]
          have s401 : (h397.1 96 42).toInt = (h382.1 96 42).toInt := by rw [g398, wI_ne _ _ _ (by decide)]
          have s402 : (h397.1 96 19).toInt = (h382.1 96 19).toInt := by rw [g398, wI_ne _ _ _ (by decide)]
          have s403 : (h397.1 96 20).toInt = (h382.1 96 20).toInt := by rw [g398, wI_ne _ _ _ (by decide)]
          have s404 : (h397.1 96 46).toInt = (h382.1 96 46).toInt := by rw [g398, wI_ne _ _ _ (by decide)]
          have s405 : (h397.1 96 44).toInt = (h382.1 96 44).toInt := by rw [g398, wI_ne _ _ _ (by decide)]
          have s406 : (h397.1 96 47).toInt = (h382.1 96 47).toInt := by rw [g398, wI_ne _ _ _ (by decide)]
          have s407 : (h397.1 96 48).toInt = (h382.1 96 48).toInt := by rw [g398, wI_ne _ _ _ (by decide)]
          have s408 : (h397.1 96 51).toInt = (h382.1 96 51).toInt := by rw [g398, wI_ne _ _ _ (by decide)]
          have s409 : (h397.1 96 35).toInt = (h382.1 96 35).toInt := by rw [g398, wI_ne _ _ _ (by decide)]
          have s410 : (h397.1 96 34).toInt = (h382.1 96 34).toInt := by rw [g398, wI_ne _ _ _ (by decide)]
          have s411 : (h397.1 97 3).toInt = (h382.1 97 3).toInt := by rw [g398, wI_ne _ _ _ (by decide)]
          exact R_vret rfl rfl ⟨hI, fr, ⟨by omega, by omega, by omega, by omega, by omega, by omega, by omega, by omega, by omega, by omega, trivial⟩, rfl⟩
      · exfalso; omega
    · show RUN d_X9_goPlace 28 [(3, .inl x3), (0, .inr (.inr (.inl 96))), (1, .inl a0), (2, .inl a1)] [.inl x12] h _
      refine N_if_eq (a := x12.toInt) 32 rfl rfl rfl (fun c412 => ?_) (fun c412 => ?_)
      · exfalso; omega
      · exact R_vret rfl rfl ⟨hI, fr, ⟨by omega, by omega, by omega, by omega, by omega, by omega, by omega, by omega, by omega, by omega, trivial⟩, rfl⟩
abbrev q_X9_goSecond (h : PH) (a0 : Int32) (a1 : Int32) : Option PV → PH → Prop := fun r h' => INV h' ∧ FR [96, 107, 108, 109, 117, 118] h h' ∧ ((h'.1 96 41).toInt = (h.1 96 41).toInt ∧ (h'.1 96 42).toInt = (h.1 96 42).toInt ∧ (h'.1 96 19).toInt = (h.1 96 19).toInt ∧ (h'.1 96 18).toInt = (h.1 96 18).toInt ∧ (h'.1 96 20).toInt = (h.1 96 20).toInt ∧ (h'.1 96 46).toInt = (h.1 96 46).toInt ∧ (h'.1 96 44).toInt = (h.1 96 44).toInt ∧ (h'.1 96 47).toInt = (h.1 96 47).toInt ∧ (h'.1 96 48).toInt = (h.1 96 48).toInt ∧ (h'.1 96 51).toInt = (h.1 96 51).toInt ∧ True) ∧ r = none
set_option maxHeartbeats 4000000 in
set_option maxRecDepth 100000 in
theorem k_X9_goSecond (h : PH) (hI : INV h) (a0 : Int32) (a1 : Int32) (h0a : 0 ≤ a0.toInt ∧ a0.toInt ≤ 2147483647) : CALL d_X9_goSecond [.inr (.inr (.inl 96)), .inl a0, .inl a1] h (q_X9_goSecond h a0 a1) := by
  show RUN d_X9_goSecond 0 [(0, .inr (.inr (.inl 96))), (1, .inl a0), (2, .inl a1)] [] h _
  have b1 := i_rng a1
  have fr : FR [96, 107, 108, 109, 117, 118] h h := FR.rf _ _
  have b2 : (0 : Int) ≤ (h.1 96 18).toInt ∧ (h.1 96 18).toInt ≤ 6 := hI.1 96 18
  have b3 : (0 : Int) ≤ (h.1 96 51).toInt ∧ (h.1 96 51).toInt ≤ 720 := hI.1 96 51
  refine R_iload_n (k := 1) rfl rfl rfl ?_
  refine N_if_le (a := a0.toInt) 55 rfl rfl rfl (fun c4 => ?_) (fun c4 => ?_)
  · refine R_aload_n (k := 0) rfl rfl rfl ?_
    refine R_getf_i (j := 18) rfl ft_9_253 sh_96 rfl ?_
    refine R_iconst 1 rfl rfl ?_
    refine N_isub (a := (h.1 96 18).toInt) (b := 1) rfl rfl (by decide) (by omega) (fun x5 q6 => ?_)
    refine R_istore_n (k := 3) rfl [(3, .inl x5), (0, .inr (.inr (.inl 96))), (1, .inl a0), (2, .inl a1)] rfl rfl (by decide) ?_
    have lp8 : ∀ (n7 : Nat) (h9 : PH) (x11 : Int32), INV h9 → FR [96, 107, 108, 109, 117, 118] h h9 → FR [96, 107, 108, 109, 117, 118] h h9 → (-1) ≤ x11.toInt ∧ x11.toInt ≤ 5 → (h9.1 96 41).toInt = (h.1 96 41).toInt → (h9.1 96 42).toInt = (h.1 96 42).toInt → (h9.1 96 19).toInt = (h.1 96 19).toInt → (h9.1 96 18).toInt = (h.1 96 18).toInt → (h9.1 96 20).toInt = (h.1 96 20).toInt → (h9.1 96 46).toInt = (h.1 96 46).toInt → (h9.1 96 44).toInt = (h.1 96 44).toInt → (h9.1 96 47).toInt = (h.1 96 47).toInt → (h9.1 96 48).toInt = (h.1 96 48).toInt → (h9.1 96 51).toInt = (h.1 96 51).toInt → x11.toInt ≤ (h.1 96 18).toInt + (-1) → (x11.toInt - (-1)).toNat < n7 → RUN d_X9_goSecond 62 [(3, .inl x11), (0, .inr (.inr (.inl 96))), (1, .inl a0), (2, .inl a1)] [] h9 (q_X9_goSecond h a0 a1) := by
      intro n7
      induction n7 with
      | zero => intro h9 x11 m13 m14 m15 m16 m17 m18 m19 m20 m21 m22 m23 m24 m25 m26 m27 hz; exact absurd hz (Nat.not_lt_zero _)
      | succ n7 ih12 =>
        intro h9 x11 hI fr fl10 m16 m17 m18 m19 m20 m21 m22 m23 m24 m25 m26 m27 hz
        refine R_iload_n (k := 3) rfl rfl rfl ?_
        refine N_if_lt (a := x11.toInt) 82 rfl rfl rfl (fun c28 => ?_) (fun c28 => ?_)
        · refine R_aload_n (k := 0) rfl rfl rfl ?_
          refine R_getf_i (j := 18) rfl ft_9_253 sh_96 rfl ?_
          refine N_if_le (a := (h9.1 96 18).toInt) 164 rfl rfl rfl (fun c29 => ?_) (fun c29 => ?_)
          · refine R_iconst 0 rfl rfl ?_
            refine R_istore_n (k := 3) rfl [(3, .inl 0), (0, .inr (.inr (.inl 96))), (1, .inl a0), (2, .inl a1)] rfl rfl (by decide) ?_
            have lp31 : ∀ (n30 : Nat) (x32 : Int32), 0 ≤ x32.toInt ∧ x32.toInt ≤ 0 → 0 < n30 → RUN d_X9_goSecond 166 [(3, .inl x32), (0, .inr (.inr (.inl 96))), (1, .inl a0), (2, .inl a1)] [] h9 (q_X9_goSecond h a0 a1) := by
              intro n30
              induction n30 with
              | zero => intro x32 m34 hz; exact absurd hz (Nat.not_lt_zero _)
              | succ n30 ih33 =>
                intro x32 m34 hz
                refine R_iload_n (k := 3) rfl rfl rfl ?_
                refine R_aload_n (k := 0) rfl rfl rfl ?_
                refine R_getf_i (j := 18) rfl ft_9_253 sh_96 rfl ?_
                refine N_icmp_ge (a := x32.toInt) (b := (h9.1 96 18).toInt) 224 rfl rfl rfl rfl (fun c35 => ?_) (fun c35 => ?_)
                · exact R_vret rfl rfl ⟨hI, fr, ⟨by omega, by omega, by omega, by omega, by omega, by omega, by omega, by omega, by omega, by omega, trivial⟩, rfl⟩
                · exfalso; omega
            exact lp31 _ (0 : Int32) (by decide) (Nat.lt_succ_self _)
          · refine R_aload_n (k := 0) rfl rfl rfl ?_
            refine R_getf_r (j := 22) rfl ft_9_46 sh_96 rfl ?_
            refine R_aload_n (k := 0) rfl rfl rfl ?_
            refine R_getf_r (j := 17) rfl ft_9_40 sh_96 rfl ?_
            refine R_iconst 0 rfl rfl ?_
            refine R_iald rfl sh_105 (by decide) ?_
            have b36 : (0 : Int) ≤ (h9.1 105 0).toInt ∧ (h9.1 105 0).toInt ≤ 5 := hI.1 105 0
            show RUN d_X9_goSecond 99 [(3, .inl x11), (0, .inr (.inr (.inl 96))), (1, .inl a0), (2, .inl a1)] [.inl (h9.1 105 0), .inr (.inr (.inl 107))] h9 _
            refine R_iald rfl sh_107 ⟨by omega, by omega⟩ ?_
            refine N_any (fun x37 => ?_)
            refine R_iconst (-1) rfl rfl ?_
            refine N_icmp_ne (a := x37.toInt) (b := (-1)) 164 rfl rfl rfl (by decide) (fun c38 => ?_) (fun c38 => ?_)
            · refine R_iconst 0 rfl rfl ?_
              refine R_istore_n (k := 3) rfl [(3, .inl 0), (0, .inr (.inr (.inl 96))), (1, .inl a0), (2, .inl a1)] rfl rfl (by decide) ?_
              have lp40 : ∀ (n39 : Nat) (h41 : PH) (x43 : Int32), INV h41 → FR [96, 107, 108, 109, 117, 118] h h41 → FR [107] h9 h41 → 0 ≤ x43.toInt ∧ x43.toInt ≤ 6 → (6 - x43.toInt).toNat < n39 → RUN d_X9_goSecond 166 [(3, .inl x43), (0, .inr (.inr (.inl 96))), (1, .inl a0), (2, .inl a1)] [] h41 (q_X9_goSecond h a0 a1) := by
                intro n39
                induction n39 with
                | zero => intro h41 x43 m45 m46 m47 m48 hz; exact absurd hz (Nat.not_lt_zero _)
                | succ n39 ih44 =>
                  intro h41 x43 hI fr fl42 m48 hz
                  have s49 : (h41.1 96 41).toInt = (h9.1 96 41).toInt := by rw [(fl42 96 (by decide)).1]
                  have s50 : (h41.1 96 42).toInt = (h9.1 96 42).toInt := by rw [(fl42 96 (by decide)).1]
                  have s51 : (h41.1 96 19).toInt = (h9.1 96 19).toInt := by rw [(fl42 96 (by decide)).1]
                  have s52 : (h41.1 96 18).toInt = (h9.1 96 18).toInt := by rw [(fl42 96 (by decide)).1]
                  have s53 : (h41.1 96 20).toInt = (h9.1 96 20).toInt := by rw [(fl42 96 (by decide)).1]
                  have s54 : (h41.1 96 46).toInt = (h9.1 96 46).toInt := by rw [(fl42 96 (by decide)).1]
                  have s55 : (h41.1 96 44).toInt = (h9.1 96 44).toInt := by rw [(fl42 96 (by decide)).1]
                  have s56 : (h41.1 96 47).toInt = (h9.1 96 47).toInt := by rw [(fl42 96 (by decide)).1]
                  have s57 : (h41.1 96 48).toInt = (h9.1 96 48).toInt := by rw [(fl42 96 (by decide)).1]
                  have s58 : (h41.1 96 51).toInt = (h9.1 96 51).toInt := by rw [(fl42 96 (by decide)).1]
                  have s59 : (h41.1 105 0).toInt = (h9.1 105 0).toInt := by rw [(fl42 105 (by decide)).1]
                  have fl10 : FR [96, 107, 108, 109, 117, 118] h h41 := fl10.trans fl42 (by decide)
                  refine R_iload_n (k := 3) rfl rfl rfl ?_
                  refine R_aload_n (k := 0) rfl rfl rfl ?_
                  refine R_getf_i (j := 18) rfl ft_9_253 sh_96 rfl ?_
                  refine N_icmp_ge (a := x43.toInt) (b := (h41.1 96 18).toInt) 224 rfl rfl rfl rfl (fun c60 => ?_) (fun c60 => ?_)
                  · exact R_vret rfl rfl ⟨hI, fr, ⟨by omega, by omega, by omega, by omega, by omega, by omega, by omega, by omega, by omega, by omega, trivial⟩, rfl⟩
                  · refine R_aload_n (k := 0) rfl rfl rfl ?_
                    refine R_getf_r (j := 22) rfl ft_9_46 sh_96 rfl ?_
                    refine R_aload_n (k := 0) rfl rfl rfl ?_
                    refine R_getf_r (j := 17) rfl ft_9_40 sh_96 rfl ?_
                    refine R_iload_n (k := 3) rfl rfl rfl ?_
                    refine R_iald rfl sh_105 ⟨by omega, by omega⟩ ?_
                    refine N_bd (lo := 0) (hi := 5) (hI.1 105 _) (fun x61 q62 => ?_)
                    refine R_iald rfl sh_107 ⟨by omega, by omega⟩ ?_
                    refine N_any (fun x63 => ?_)
                    refine R_iconst (-1) rfl rfl ?_
                    refine N_icmp_eq (a := x63.toInt) (b := (-1)) 218 rfl rfl rfl (by decide) (fun c64 => ?_) (fun c64 => ?_)
                    · refine N_iinc (a := x43.toInt) (c := 1) (fun w => [(3, .inl w), (0, .inr (.inr (.inl 96))), (1, .inl a0), (2, .inl a1)]) rfl rfl (fun _ => rfl) (by decide) rfl (by decide) (by omega) (fun x65 q66 => ?_)
                      refine R_goto 166 rfl rfl ?_
                      exact RUN_weak (psub_cons rfl (psub_cons rfl (psub_cons rfl (psub_cons rfl (psub_nil _))))) (ih44 h41 x65 hI fr fl42 (by omega) (by omega))
                    · refine R_aload_n (k := 0) rfl rfl rfl ?_
                      refine R_aload_n (k := 0) rfl rfl rfl ?_
                      refine R_getf_r (j := 17) rfl ft_9_40 sh_96 rfl ?_
                      refine R_iload_n (k := 3) rfl rfl rfl ?_
                      refine R_iald rfl sh_105 ⟨by omega, by omega⟩ ?_
                      refine N_bd (lo := 0) (hi := 5) (hI.1 105 _) (fun x67 q68 => ?_)
                      refine R_iload_n (k := 1) rfl rfl rfl ?_
                      refine R_callV (v := .inr (.inr (.inl 96))) (As := [.inl x67, .inl a0]) (rest := []) rfl mt_9_i271 pp_X9_doesRest (by decide) rfl rfl rfl (Nat.le_of_ble_eq_true rfl) (Nat.le_of_ble_eq_true rfl) ((k_X9_doesRest h41 hI x67 a0 (by omega) (by omega)).mono (fun r69 h70 p71 => ?_))
                      obtain ⟨rfl, x72, rfl, q73 | q73 | q73⟩ := p71
                      · exfalso; omega
                      · show RUN d_X9_goSecond 200 [(3, .inl x43), (0, .inr (.inr (.inl 96))), (1, .inl a0), (2, .inl a1)] [.inl x72] h41 _
                        refine N_if_ne (a := x72.toInt) 218 rfl rfl rfl (fun c74 => ?_) (fun c74 => ?_)
                        · exfalso; omega
                        · refine R_aload_n (k := 0) rfl rfl rfl ?_
                          refine R_getf_r (j := 22) rfl ft_9_46 sh_96 rfl ?_
                          refine R_aload_n (k := 0) rfl rfl rfl ?_
                          refine R_getf_r (j := 17) rfl ft_9_40 sh_96 rfl ?_
                          refine R_iload_n (k := 3) rfl rfl rfl ?_
                          refine R_iald rfl sh_105 ⟨by omega, by omega⟩ ?_
                          refine N_bd (lo := 0) (hi := 5) (hI.1 105 _) (fun x75 q76 => ?_)
                          refine R_dup2 rfl ?_
                          refine R_iald rfl sh_107 ⟨by omega, by omega⟩ ?_
                          refine N_any (fun x77 => ?_)
                          refine R_iconst 1 rfl rfl ?_
                          have b78 := i_rng x77
                          refine R_iadd rfl ?_
                          refine N_any (fun x79 => ?_)
                          refine K_iast (a := x75.toInt) (lo := (-2147483648)) (hi' := 2147483647) rfl sh_107 rfl ⟨by omega, by omega⟩ hI (by decide) rfl (i_rng _) fr (by decide) (fun h80 g81 hI fr => ?_)
                          have fl42 : FR [107] h9 h80 := by rw [g81]; exact FR_wI _ _ fl42 (by decide)
                          have fl10 : FR [96, 107, 108, 109, 117, 118] h h80 := by rw [g81]; exact FR_wI _ _ fl10 (by decide)
                          have s82 : (h80.1 96 41).toInt = (h41.1 96 41).toInt := by rw [g81, wI_ne _ _ _ (by decide)]
                          have s83 : (h80.1 96 42).toInt = (h41.1 96 42).toInt := by rw [g81, wI_ne _ _ _ (by decide)]
                          have s84 : (h80.1 96 19).toInt = (h41.1 96 19).toInt := by rw [g81, wI_ne _ _ _ (by decide)]
                          have s85 : (h80.1 96 18).toInt = (h41.1 96 18).toInt := by rw [g81, wI_ne _ _ _ (by decide)]
                          have s86 : (h80.1 96 20).toInt = (h41.1 96 20).toInt := by rw [g81, wI_ne _ _ _ (by decide)]
                          have s87 : (h80.1 96 46).toInt = (h41.1 96 46).toInt := by rw [g81, wI_ne _ _ _ (by decide)]
                          have s88 : (h80.1 96 44).toInt = (h41.1 96 44).toInt := by rw [g81, wI_ne _ _ _ (by decide)]
                          have s89 : (h80.1 96 47).toInt = (h41.1 96 47).toInt := by rw [g81, wI_ne _ _ _ (by decide)]
                          have s90 : (h80.1 96 48).toInt = (h41.1 96 48).toInt := by rw [g81, wI_ne _ _ _ (by decide)]
                          have s91 : (h80.1 96 51).toInt = (h41.1 96 51).toInt := by rw [g81, wI_ne _ _ _ (by decide)]
                          have s92 : (h80.1 105 0).toInt = (h41.1 105 0).toInt := by rw [g81, wI_ne _ _ _ (by decide)]
                          refine N_iinc (a := x43.toInt) (c := 1) (fun w => [(3, .inl w), (0, .inr (.inr (.inl 96))), (1, .inl a0), (2, .inl a1)]) rfl rfl (fun _ => rfl) (by decide) rfl (by decide) (by omega) (fun x93 q94 => ?_)
                          refine R_goto 166 rfl rfl ?_
                          exact RUN_weak (psub_cons rfl (psub_cons rfl (psub_cons rfl (psub_cons rfl (psub_nil _))))) (ih44 h80 x93 hI fr fl42 (by omega) (by omega))
                      · show RUN d_X9_goSecond 200 [(3, .inl x43), (0, .inr (.inr (.inl 96))), (1, .inl a0), (2, .inl a1)] [.inl x72] h41 _
                        refine N_if_ne (a := x72.toInt) 218 rfl rfl rfl (fun c95 => ?_) (fun c95 => ?_)
                        · refine N_iinc (a := x43.toInt) (c := 1) (fun w => [(3, .inl w), (0, .inr (.inr (.inl 96))), (1, .inl a0), (2, .inl a1)]) rfl rfl (fun _ => rfl) (by decide) rfl (by decide) (by omega) (fun x96 q97 => ?_)
                          refine R_goto 166 rfl rfl ?_
                          exact RUN_weak (psub_cons rfl (psub_cons rfl (psub_cons rfl (psub_cons rfl (psub_nil _))))) (ih44 h41 x96 hI fr fl42 (by omega) (by omega))
                        · exfalso; omega
              exact lp40 _ h9 (0 : Int32) hI fr (FR.rf _ _) (by decide) (Nat.lt_succ_self _)
            · refine R_aload_n (k := 0) rfl rfl rfl ?_
              refine R_aload_n (k := 0) rfl rfl rfl ?_
              refine R_getf_r (j := 17) rfl ft_9_40 sh_96 rfl ?_
              refine R_iconst 0 rfl rfl ?_
              refine R_iald rfl sh_105 (by decide) ?_
              show RUN d_X9_goSecond 111 [(3, .inl x11), (0, .inr (.inr (.inl 96))), (1, .inl a0), (2, .inl a1)] [.inl (h9.1 105 0), .inr (.inr (.inl 96))] h9 _
              refine R_iload_n (k := 1) rfl rfl rfl ?_
              refine R_callV (v := .inr (.inr (.inl 96))) (As := [.inl (h9.1 105 0), .inl a0]) (rest := []) rfl mt_9_i271 pp_X9_doesRest (by decide) rfl rfl rfl (Nat.le_of_ble_eq_true rfl) (Nat.le_of_ble_eq_true rfl) ((k_X9_doesRest h9 hI (h9.1 105 0) a0 (by omega) (by omega)).mono (fun r98 h99 p100 => ?_))
              obtain ⟨rfl, x101, rfl, q102 | q102 | q102⟩ := p100
              · exfalso; omega
              · show RUN d_X9_goSecond 115 [(3, .inl x11), (0, .inr (.inr (.inl 96))), (1, .inl a0), (2, .inl a1)] [.inl x101] h9 _
                refine N_if_ne (a := x101.toInt) 164 rfl rfl rfl (fun c103 => ?_) (fun c103 => ?_)
                · exfalso; omega
                · refine R_aload_n (k := 0) rfl rfl rfl ?_
                  refine R_getf_r (j := 24) rfl ft_9_52 sh_96 rfl ?_
                  refine R_iconst 0 rfl rfl ?_
                  refine R_iald rfl sh_109 (by decide) ?_
                  show RUN d_X9_goSecond 124 [(3, .inl x11), (0, .inr (.inr (.inl 96))), (1, .inl a0), (2, .inl a1)] [.inl (h9.1 109 0)] h9 _
                  refine N_if_le (a := (h9.1 109 0).toInt) 164 rfl rfl rfl (fun c104 => ?_) (fun c104 => ?_)
                  · refine R_iconst 0 rfl rfl ?_
                    refine R_istore_n (k := 3) rfl [(3, .inl 0), (0, .inr (.inr (.inl 96))), (1, .inl a0), (2, .inl a1)] rfl rfl (by decide) ?_
                    have lp106 : ∀ (n105 : Nat) (h107 : PH) (x109 : Int32), INV h107 → FR [96, 107, 108, 109, 117, 118] h h107 → FR [107] h9 h107 → 0 ≤ x109.toInt ∧ x109.toInt ≤ 6 → (6 - x109.toInt).toNat < n105 → RUN d_X9_goSecond 166 [(3, .inl x109), (0, .inr (.inr (.inl 96))), (1, .inl a0), (2, .inl a1)] [] h107 (q_X9_goSecond h a0 a1) := by
                      intro n105
                      induction n105 with
                      | zero => intro h107 x109 m111 m112 m113 m114 hz; exact absurd hz (Nat.not_lt_zero _)
                      | succ n105 ih110 =>
                        intro h107 x109 hI fr fl108 m114 hz
                        have s115 : (h107.1 96 41).toInt = (h9.1 96 41).toInt := by rw [(fl108 96 (by decide)).1]
                        have s116 : (h107.1 96 42).toInt = (h9.1 96 42).toInt := by rw [(fl108 96 (by decide)).1]
                        have s117 : (h107.1 96 19).toInt = (h9.1 96 19).toInt := by rw [(fl108 96 (by decide)).1]
                        have s118 : (h107.1 96 18).toInt = (h9.1 96 18).toInt := by rw [(fl108 96 (by decide)).1]
                        have s119 : (h107.1 96 20).toInt = (h9.1 96 20).toInt := by rw [(fl108 96 (by decide)).1]
                        have s120 : (h107.1 96 46).toInt = (h9.1 96 46).toInt := by rw [(fl108 96 (by decide)).1]
                        have s121 : (h107.1 96 44).toInt = (h9.1 96 44).toInt := by rw [(fl108 96 (by decide)).1]
                        have s122 : (h107.1 96 47).toInt = (h9.1 96 47).toInt := by rw [(fl108 96 (by decide)).1]
                        have s123 : (h107.1 96 48).toInt = (h9.1 96 48).toInt := by rw [(fl108 96 (by decide)).1]
                        have s124 : (h107.1 96 51).toInt = (h9.1 96 51).toInt := by rw [(fl108 96 (by decide)).1]
                        have s125 : (h107.1 105 0).toInt = (h9.1 105 0).toInt := by rw [(fl108 105 (by decide)).1]
                        have s126 : (h107.1 109 0).toInt = (h9.1 109 0).toInt := by rw [(fl108 109 (by decide)).1]
                        have fl10 : FR [96, 107, 108, 109, 117, 118] h h107 := fl10.trans fl108 (by decide)
                        refine R_iload_n (k := 3) rfl rfl rfl ?_
                        refine R_aload_n (k := 0) rfl rfl rfl ?_
                        refine R_getf_i (j := 18) rfl ft_9_253 sh_96 rfl ?_
                        refine N_icmp_ge (a := x109.toInt) (b := (h107.1 96 18).toInt) 224 rfl rfl rfl rfl (fun c127 => ?_) (fun c127 => ?_)
                        · exact R_vret rfl rfl ⟨hI, fr, ⟨by omega, by omega, by omega, by omega, by omega, by omega, by omega, by omega, by omega, by omega, trivial⟩, rfl⟩
                        · refine R_aload_n (k := 0) rfl rfl rfl ?_
                          refine R_getf_r (j := 22) rfl ft_9_46 sh_96 rfl ?_
                          refine R_aload_n (k := 0) rfl rfl rfl ?_
                          refine R_getf_r (j := 17) rfl ft_9_40 sh_96 rfl ?_
                          refine R_iload_n (k := 3) rfl rfl rfl ?_
                          refine R_iald rfl sh_105 ⟨by omega, by omega⟩ ?_
                          refine N_bd (lo := 0) (hi := 5) (hI.1 105 _) (fun x128 q129 => ?_)
                          refine R_iald rfl sh_107 ⟨by omega, by omega⟩ ?_
                          refine N_any (fun x130 => ?_)
                          refine R_iconst (-1) rfl rfl ?_
                          refine N_icmp_eq (a := x130.toInt) (b := (-1)) 218 rfl rfl rfl (by decide) (fun c131 => ?_) (fun c131 => ?_)
                          · refine N_iinc (a := x109.toInt) (c := 1) (fun w => [(3, .inl w), (0, .inr (.inr (.inl 96))), (1, .inl a0), (2, .inl a1)]) rfl rfl (fun _ => rfl) (by decide) rfl (by decide) (by omega) (fun x132 q133 => ?_)
                            refine R_goto 166 rfl rfl ?_
                            exact RUN_weak (psub_cons rfl (psub_cons rfl (psub_cons rfl (psub_cons rfl (psub_nil _))))) (ih110 h107 x132 hI fr fl108 (by omega) (by omega))
                          · refine R_aload_n (k := 0) rfl rfl rfl ?_
                            refine R_aload_n (k := 0) rfl rfl rfl ?_
                            refine R_getf_r (j := 17) rfl ft_9_40 sh_96 rfl ?_
                            refine R_iload_n (k := 3) rfl rfl rfl ?_
                            refine R_iald rfl sh_105 ⟨by omega, by omega⟩ ?_
                            refine N_bd (lo := 0) (hi := 5) (hI.1 105 _) (fun x134 q135 => ?_)
                            refine R_iload_n (k := 1) rfl rfl rfl ?_
                            refine R_callV (v := .inr (.inr (.inl 96))) (As := [.inl x134, .inl a0]) (rest := []) rfl mt_9_i271 pp_X9_doesRest (by decide) rfl rfl rfl (Nat.le_of_ble_eq_true rfl) (Nat.le_of_ble_eq_true rfl) ((k_X9_doesRest h107 hI x134 a0 (by omega) (by omega)).mono (fun r136 h137 p138 => ?_))
                            obtain ⟨rfl, x139, rfl, q140 | q140 | q140⟩ := p138
                            · exfalso; omega
                            · show RUN d_X9_goSecond 200 [(3, .inl x109), (0, .inr (.inr (.inl 96))), (1, .inl a0), (2, .inl a1)] [.inl x139] h107 _
                              refine N_if_ne (a := x139.toInt) 218 rfl rfl rfl (fun c141 => ?_) (fun c141 => ?_)
                              · exfalso; omega
                              · refine R_aload_n (k := 0) rfl rfl rfl ?_
                                refine R_getf_r (j := 22) rfl ft_9_46 sh_96 rfl ?_
                                refine R_aload_n (k := 0) rfl rfl rfl ?_
                                refine R_getf_r (j := 17) rfl ft_9_40 sh_96 rfl ?_
                                refine R_iload_n (k := 3) rfl rfl rfl ?_
                                refine R_iald rfl sh_105 ⟨by omega, by omega⟩ ?_
                                refine N_bd (lo := 0) (hi := 5) (hI.1 105 _) (fun x142 q143 => ?_)
                                refine R_dup2 rfl ?_
                                refine R_iald rfl sh_107 ⟨by omega, by omega⟩ ?_
                                refine N_any (fun x144 => ?_)
                                refine R_iconst 1 rfl rfl ?_
                                have b145 := i_rng x144
                                refine R_iadd rfl ?_
                                refine N_any (fun x146 => ?_)
                                refine K_iast (a := x142.toInt) (lo := (-2147483648)) (hi' := 2147483647) rfl sh_107 rfl ⟨by omega, by omega⟩ hI (by decide) rfl (i_rng _) fr (by decide) (fun h147 g148 hI fr => ?_)
                                have fl108 : FR [107] h9 h147 := by rw [g148]; exact FR_wI _ _ fl108 (by decide)
                                have fl10 : FR [96, 107, 108, 109, 117, 118] h h147 := by rw [g148]; exact FR_wI _ _ fl10 (by decide)
                                have s149 : (h147.1 96 41).toInt = (h107.1 96 41).toInt := by rw [g148, wI_ne _ _ _ (by decide)]
                                have s150 : (h147.1 96 42).toInt = (h107.1 96 42).toInt := by rw [g148, wI_ne _ _ _ (by decide)]
                                have s151 : (h147.1 96 19).toInt = (h107.1 96 19).toInt := by rw [g148, wI_ne _ _ _ (by decide)]
                                have s152 : (h147.1 96 18).toInt = (h107.1 96 18).toInt := by rw [g148, wI_ne _ _ _ (by decide)]
                                have s153 : (h147.1 96 20).toInt = (h107.1 96 20).toInt := by rw [g148, wI_ne _ _ _ (by decide)]
                                have s154 : (h147.1 96 46).toInt = (h107.1 96 46).toInt := by rw [g148, wI_ne _ _ _ (by decide)]
                                have s155 : (h147.1 96 44).toInt = (h107.1 96 44).toInt := by rw [g148, wI_ne _ _ _ (by decide)]
                                have s156 : (h147.1 96 47).toInt = (h107.1 96 47).toInt := by rw [g148, wI_ne _ _ _ (by decide)]
                                have s157 : (h147.1 96 48).toInt = (h107.1 96 48).toInt := by rw [g148, wI_ne _ _ _ (by decide)]
                                have s158 : (h147.1 96 51).toInt = (h107.1 96 51).toInt := by rw [g148, wI_ne _ _ _ (by decide)]
                                have s159 : (h147.1 105 0).toInt = (h107.1 105 0).toInt := by rw [g148, wI_ne _ _ _ (by decide)]
                                have s160 : (h147.1 109 0).toInt = (h107.1 109 0).toInt := by rw [g148, wI_ne _ _ _ (by decide)]
                                refine N_iinc (a := x109.toInt) (c := 1) (fun w => [(3, .inl w), (0, .inr (.inr (.inl 96))), (1, .inl a0), (2, .inl a1)]) rfl rfl (fun _ => rfl) (by decide) rfl (by decide) (by omega) (fun x161 q162 => ?_)
                                refine R_goto 166 rfl rfl ?_
                                exact RUN_weak (psub_cons rfl (psub_cons rfl (psub_cons rfl (psub_cons rfl (psub_nil _))))) (ih110 h147 x161 hI fr fl108 (by omega) (by omega))
                            · show RUN d_X9_goSecond 200 [(3, .inl x109), (0, .inr (.inr (.inl 96))), (1, .inl a0), (2, .inl a1)] [.inl x139] h107 _
                              refine N_if_ne (a := x139.toInt) 218 rfl rfl rfl (fun c163 => ?_) (fun c163 => ?_)
                              · refine N_iinc (a := x109.toInt) (c := 1) (fun w => [(3, .inl w), (0, .inr (.inr (.inl 96))), (1, .inl a0), (2, .inl a1)]) rfl rfl (fun _ => rfl) (by decide) rfl (by decide) (by omega) (fun x164 q165 => ?_)
                                refine R_goto 166 rfl rfl ?_
                                exact RUN_weak (psub_cons rfl (psub_cons rfl (psub_cons rfl (psub_cons rfl (psub_nil _))))) (ih110 h107 x164 hI fr fl108 (by omega) (by omega))
                              · exfalso; omega
                    exact lp106 _ h9 (0 : Int32) hI fr (FR.rf _ _) (by decide) (Nat.lt_succ_self _)
                  · refine R_aload_n (k := 0) rfl rfl rfl ?_
                    refine R_getf_r (j := 24) rfl ft_9_52 sh_96 rfl ?_
                    refine R_iconst 0 rfl rfl ?_
                    refine R_dup2 rfl ?_
                    refine R_iald rfl sh_109 (by decide) ?_
                    show RUN d_X9_goSecond 134 [(3, .inl x11), (0, .inr (.inr (.inl 96))), (1, .inl a0), (2, .inl a1)] [.inl (h9.1 109 0), .inl 0, .inr (.inr (.inl 109))] h9 _
                    refine R_iconst 1 rfl rfl ?_
                    have b166 := i_rng (h9.1 109 0)
                    refine N_isub (a := (h9.1 109 0).toInt) (b := 1) rfl rfl (by decide) (by omega) (fun x167 q168 => ?_)
                    refine K_iast (a := 0) (lo := (-2147483648)) (hi' := 2147483647) rfl sh_109 (by decide) (by decide) hI (by decide) rfl (i_rng _) fr (by decide) (fun h169 g170 hI fr => ?_)
                    have fl10 : FR [96, 107, 108, 109, 117, 118] h h169 := by rw [g170]; exact FR_wI _ _ fl10 (by decide)
                    have s171 : (h169.1 96 41).toInt = (h9.1 96 41).toInt := by rw [g170, wI_ne _ _ _ (by decide)]
                    have s172 : (h169.1 96 42).toInt = (h9.1 96 42).toInt := by rw [g170, wI_ne _ _ _ (by decide)]
                    have s173 : (h169.1 96 19).toInt = (h9.1 96 19).toInt := by rw [g170, wI_ne _ _ _ (by decide)]
                    have s174 : (h169.1 96 18).toInt = (h9.1 96 18).toInt := by rw [g170, wI_ne _ _ _ (by decide)]
                    have s175 : (h169.1 96 20).toInt = (h9.1 96 20).toInt := by rw [g170, wI_ne _ _ _ (by decide)]
                    have s176 : (h169.1 96 46).toInt = (h9.1 96 46).toInt := by rw [g170, wI_ne _ _ _ (by decide)]
                    have s177 : (h169.1 96 44).toInt = (h9.1 96 44).toInt := by rw [g170, wI_ne _ _ _ (by decide)]
                    have s178 : (h169.1 96 47).toInt = (h9.1 96 47).toInt := by rw [g170, wI_ne _ _ _ (by decide)]
                    have s179 : (h169.1 96 48).toInt = (h9.1 96 48).toInt := by rw [g170, wI_ne _ _ _ (by decide)]
                    have s180 : (h169.1 96 51).toInt = (h9.1 96 51).toInt := by rw [g170, wI_ne _ _ _ (by decide)]
                    have s181 : (h169.1 105 0).toInt = (h9.1 105 0).toInt := by rw [g170, wI_ne _ _ _ (by decide)]
                    have s182 : (h169.1 109 0).toInt = x167.toInt := by rw [g170, show (0 : Int32).toNatClampNeg = 0 from rfl, wI_is]
                    refine R_aload_n (k := 0) rfl rfl rfl ?_
                    refine R_getf_r (j := 22) rfl ft_9_46 sh_96 rfl ?_
                    refine R_aload_n (k := 0) rfl rfl rfl ?_
                    refine R_getf_r (j := 17) rfl ft_9_40 sh_96 rfl ?_
                    refine R_iconst 0 rfl rfl ?_
                    refine R_iald rfl sh_105 (by decide) ?_
                    show RUN d_X9_goSecond 147 [(3, .inl x11), (0, .inr (.inr (.inl 96))), (1, .inl a0), (2, .inl a1)] [.inl (h169.1 105 0), .inr (.inr (.inl 107))] h169 _
                    refine R_iconst 0 rfl rfl ?_
                    refine K_iast (a := (h169.1 105 0).toInt) (lo := (-2147483648)) (hi' := 2147483647) rfl sh_107 rfl ⟨by omega, by omega⟩ hI (by decide) rfl (by decide) fr (by decide) (fun h183 g184 hI fr => ?_)
                    have fl10 : FR [96, 107, 108, 109, 117, 118] h h183 := by rw [g184]; exact FR_wI _ _ fl10 (by decide)
                    have s185 : (h183.1 96 41).toInt = (h169.1 96 41).toInt := by rw [g184, wI_ne _ _ _ (by decide)]
                    have s186 : (h183.1 96 42).toInt = (h169.1 96 42).toInt := by rw [g184, wI_ne _ _ _ (by decide)]
                    have s187 : (h183.1 96 19).toInt = (h169.1 96 19).toInt := by rw [g184, wI_ne _ _ _ (by decide)]
                    have s188 : (h183.1 96 18).toInt = (h169.1 96 18).toInt := by rw [g184, wI_ne _ _ _ (by decide)]
                    have s189 : (h183.1 96 20).toInt = (h169.1 96 20).toInt := by rw [g184, wI_ne _ _ _ (by decide)]
                    have s190 : (h183.1 96 46).toInt = (h169.1 96 46).toInt := by rw [g184, wI_ne _ _ _ (by decide)]
                    have s191 : (h183.1 96 44).toInt = (h169.1 96 44).toInt := by rw [g184, wI_ne _ _ _ (by decide)]
                    have s192 : (h183.1 96 47).toInt = (h169.1 96 47).toInt := by rw [g184, wI_ne _ _ _ (by decide)]
                    have s193 : (h183.1 96 48).toInt = (h169.1 96 48).toInt := by rw [g184, wI_ne _ _ _ (by decide)]
                    have s194 : (h183.1 96 51).toInt = (h169.1 96 51).toInt := by rw [g184, wI_ne _ _ _ (by decide)]
                    have s195 : (h183.1 105 0).toInt = (h169.1 105 0).toInt := by rw [g184, wI_ne _ _ _ (by decide)]
                    have s196 : (h183.1 109 0).toInt = (h169.1 109 0).toInt := by rw [g184, wI_ne _ _ _ (by decide)]
                    refine R_aload_n (k := 0) rfl rfl rfl ?_
                    refine R_getf_r (j := 23) rfl ft_9_49 sh_96 rfl ?_
                    refine R_aload_n (k := 0) rfl rfl rfl ?_
                    refine R_getf_r (j := 17) rfl ft_9_40 sh_96 rfl ?_
                    refine R_iconst 0 rfl rfl ?_
                    refine R_iald rfl sh_105 (by decide) ?_
                    show RUN d_X9_goSecond 159 [(3, .inl x11), (0, .inr (.inr (.inl 96))), (1, .inl a0), (2, .inl a1)] [.inl (h183.1 105 0), .inr (.inr (.inl 108))] h183 _
                    refine R_aload_n (k := 0) rfl rfl rfl ?_
                    refine R_getf_i (j := 20) rfl ft_9_259 sh_96 rfl ?_
                    refine K_iast (a := (h183.1 105 0).toInt) (lo := (-2147483648)) (hi' := 2147483647) rfl sh_108 rfl ⟨by omega, by omega⟩ hI (by decide) rfl (i_rng _) fr (by decide) (fun h197 g198 hI fr => ?_)
                    have fl10 : FR [96, 107, 108, 109, 117, 118] h h197 := by rw [g198]; exact FR_wI _ _ fl10 (by decide)
                    have s199 : (h197.1 96 41).toInt = (h183.1 96 41).toInt := by rw [g198, wI_ne _ _ _ (by decide)]
                    have s200 : (h197.1 96 42).toInt = (h183.1 96 42).toInt := by rw [g198, wI_ne _ _ _ (by decide)]
                    have s201 : (h197.1 96 19).toInt = (h183.1 96 19).toInt := by rw [g198, wI_ne _ _ _ (by decide)]
                    have s202 : (h197.1 96 18).toInt = (h183.1 96 18).toInt := by rw [g198, wI_ne _ _ _ (by decide)]
                    have s203 : (h197.1 96 20).toInt = (h183.1 96 20).toInt := by rw [g198, wI_ne _ _ _ (by decide)]
                    have s204 : (h197.1 96 46).toInt = (h183.1 96 46).toInt := by rw [g198, wI_ne _ _ _ (by decide)]
                    have s205 : (h197.1 96 44).toInt = (h183.1 96 44).toInt := by rw [g198, wI_ne _ _ _ (by decide)]
                    have s206 : (h197.1 96 47).toInt = (h183.1 96 47).toInt := by rw [g198, wI_ne _ _ _ (by decide)]
                    have s207 : (h197.1 96 48).toInt = (h183.1 96 48).toInt := by rw [g198, wI_ne _ _ _ (by decide)]
                    have s208 : (h197.1 96 51).toInt = (h183.1 96 51).toInt := by rw [g198, wI_ne _ _ _ (by decide)]
                    have s209 : (h197.1 105 0).toInt = (h183.1 105 0).toInt := by rw [g198, wI_ne _ _ _ (by decide)]
                    have s210 : (h197.1 109 0).toInt = (h183.1 109 0).toInt := by rw [g198, wI_ne _ _ _ (by decide)]
                    refine R_iconst 0 rfl rfl ?_
                    refine R_istore_n (k := 3) rfl [(3, .inl 0), (0, .inr (.inr (.inl 96))), (1, .inl a0), (2, .inl a1)] rfl rfl (by decide) ?_
                    have lp212 : ∀ (n211 : Nat) (h213 : PH) (x215 : Int32), INV h213 → FR [96, 107, 108, 109, 117, 118] h h213 → FR [107] h197 h213 → 0 ≤ x215.toInt ∧ x215.toInt ≤ 6 → (6 - x215.toInt).toNat < n211 → RUN d_X9_goSecond 166 [(3, .inl x215), (0, .inr (.inr (.inl 96))), (1, .inl a0), (2, .inl a1)] [] h213 (q_X9_goSecond h a0 a1) := by
                      intro n211
                      induction n211 with
                      | zero => intro h213 x215 m217 m218 m219 m220 hz; exact absurd hz (Nat.not_lt_zero _)
                      | succ n211 ih216 =>
                        intro h213 x215 hI fr fl214 m220 hz
                        have s221 : (h213.1 96 41).toInt = (h197.1 96 41).toInt := by rw [(fl214 96 (by decide)).1]
                        have s222 : (h213.1 96 42).toInt = (h197.1 96 42).toInt := by rw [(fl214 96 (by decide)).1]
                        have s223 : (h213.1 96 19).toInt = (h197.1 96 19).toInt := by rw [(fl214 96 (by decide)).1]
                        have s224 : (h213.1 96 18).toInt = (h197.1 96 18).toInt := by rw [(fl214 96 (by decide)).1]
                        have s225 : (h213.1 96 20).toInt = (h197.1 96 20).toInt := by rw [(fl214 96 (by decide)).1]
                        have s226 : (h213.1 96 46).toInt = (h197.1 96 46).toInt := by rw [(fl214 96 (by decide)).1]
                        have s227 : (h213.1 96 44).toInt = (h197.1 96 44).toInt := by rw [(fl214 96 (by decide)).1]
                        have s228 : (h213.1 96 47).toInt = (h197.1 96 47).toInt := by rw [(fl214 96 (by decide)).1]
                        have s229 : (h213.1 96 48).toInt = (h197.1 96 48).toInt := by rw [(fl214 96 (by decide)).1]
                        have s230 : (h213.1 96 51).toInt = (h197.1 96 51).toInt := by rw [(fl214 96 (by decide)).1]
                        have s231 : (h213.1 105 0).toInt = (h197.1 105 0).toInt := by rw [(fl214 105 (by decide)).1]
                        have s232 : (h213.1 109 0).toInt = (h197.1 109 0).toInt := by rw [(fl214 109 (by decide)).1]
                        have fl10 : FR [96, 107, 108, 109, 117, 118] h h213 := fl10.trans fl214 (by decide)
                        refine R_iload_n (k := 3) rfl rfl rfl ?_
                        refine R_aload_n (k := 0) rfl rfl rfl ?_
                        refine R_getf_i (j := 18) rfl ft_9_253 sh_96 rfl ?_
                        refine N_icmp_ge (a := x215.toInt) (b := (h213.1 96 18).toInt) 224 rfl rfl rfl rfl (fun c233 => ?_) (fun c233 => ?_)
                        · exact R_vret rfl rfl ⟨hI, fr, ⟨by omega, by omega, by omega, by omega, by omega, by omega, by omega, by omega, by omega, by omega, trivial⟩, rfl⟩
                        · refine R_aload_n (k := 0) rfl rfl rfl ?_
                          refine R_getf_r (j := 22) rfl ft_9_46 sh_96 rfl ?_
                          refine R_aload_n (k := 0) rfl rfl rfl ?_
                          refine R_getf_r (j := 17) rfl ft_9_40 sh_96 rfl ?_
                          refine R_iload_n (k := 3) rfl rfl rfl ?_
                          refine R_iald rfl sh_105 ⟨by omega, by omega⟩ ?_
                          refine N_bd (lo := 0) (hi := 5) (hI.1 105 _) (fun x234 q235 => ?_)
                          refine R_iald rfl sh_107 ⟨by omega, by omega⟩ ?_
                          refine N_any (fun x236 => ?_)
                          refine R_iconst (-1) rfl rfl ?_
                          refine N_icmp_eq (a := x236.toInt) (b := (-1)) 218 rfl rfl rfl (by decide) (fun c237 => ?_) (fun c237 => ?_)
                          · refine N_iinc (a := x215.toInt) (c := 1) (fun w => [(3, .inl w), (0, .inr (.inr (.inl 96))), (1, .inl a0), (2, .inl a1)]) rfl rfl (fun _ => rfl) (by decide) rfl (by decide) (by omega) (fun x238 q239 => ?_)
                            refine R_goto 166 rfl rfl ?_
                            exact RUN_weak (psub_cons rfl (psub_cons rfl (psub_cons rfl (psub_cons rfl (psub_nil _))))) (ih216 h213 x238 hI fr fl214 (by omega) (by omega))
                          · refine R_aload_n (k := 0) rfl rfl rfl ?_
                            refine R_aload_n (k := 0) rfl rfl rfl ?_
                            refine R_getf_r (j := 17) rfl ft_9_40 sh_96 rfl ?_
                            refine R_iload_n (k := 3) rfl rfl rfl ?_
                            refine R_iald rfl sh_105 ⟨by omega, by omega⟩ ?_
                            refine N_bd (lo := 0) (hi := 5) (hI.1 105 _) (fun x240 q241 => ?_)
                            refine R_iload_n (k := 1) rfl rfl rfl ?_
                            refine R_callV (v := .inr (.inr (.inl 96))) (As := [.inl x240, .inl a0]) (rest := []) rfl mt_9_i271 pp_X9_doesRest (by decide) rfl rfl rfl (Nat.le_of_ble_eq_true rfl) (Nat.le_of_ble_eq_true rfl) ((k_X9_doesRest h213 hI x240 a0 (by omega) (by omega)).mono (fun r242 h243 p244 => ?_))
                            obtain ⟨rfl, x245, rfl, q246 | q246 | q246⟩ := p244
                            · exfalso; omega
                            · show RUN d_X9_goSecond 200 [(3, .inl x215), (0, .inr (.inr (.inl 96))), (1, .inl a0), (2, .inl a1)] [.inl x245] h213 _
                              refine N_if_ne (a := x245.toInt) 218 rfl rfl rfl (fun c247 => ?_) (fun c247 => ?_)
                              · exfalso; omega
                              · refine R_aload_n (k := 0) rfl rfl rfl ?_
                                refine R_getf_r (j := 22) rfl ft_9_46 sh_96 rfl ?_
                                refine R_aload_n (k := 0) rfl rfl rfl ?_
                                refine R_getf_r (j := 17) rfl ft_9_40 sh_96 rfl ?_
                                refine R_iload_n (k := 3) rfl rfl rfl ?_
                                refine R_iald rfl sh_105 ⟨by omega, by omega⟩ ?_
                                refine N_bd (lo := 0) (hi := 5) (hI.1 105 _) (fun x248 q249 => ?_)
                                refine R_dup2 rfl ?_
                                refine R_iald rfl sh_107 ⟨by omega, by omega⟩ ?_
                                refine N_any (fun x250 => ?_)
                                refine R_iconst 1 rfl rfl ?_
                                have b251 := i_rng x250
                                refine R_iadd rfl ?_
                                refine N_any (fun x252 => ?_)
                                refine K_iast (a := x248.toInt) (lo := (-2147483648)) (hi' := 2147483647) rfl sh_107 rfl ⟨by omega, by omega⟩ hI (by decide) rfl (i_rng _) fr (by decide) (fun h253 g254 hI fr => ?_)
                                have fl214 : FR [107] h197 h253 := by rw [g254]; exact FR_wI _ _ fl214 (by decide)
                                have fl10 : FR [96, 107, 108, 109, 117, 118] h h253 := by rw [g254]; exact FR_wI _ _ fl10 (by decide)
                                have s255 : (h253.1 96 41).toInt = (h213.1 96 41).toInt := by rw [g254, wI_ne _ _ _ (by decide)]
                                have s256 : (h253.1 96 42).toInt = (h213.1 96 42).toInt := by rw [g254, wI_ne _ _ _ (by decide)]
                                have s257 : (h253.1 96 19).toInt = (h213.1 96 19).toInt := by rw [g254, wI_ne _ _ _ (by decide)]
                                have s258 : (h253.1 96 18).toInt = (h213.1 96 18).toInt := by rw [g254, wI_ne _ _ _ (by decide)]
                                have s259 : (h253.1 96 20).toInt = (h213.1 96 20).toInt := by rw [g254, wI_ne _ _ _ (by decide)]
                                have s260 : (h253.1 96 46).toInt = (h213.1 96 46).toInt := by rw [g254, wI_ne _ _ _ (by decide)]
                                have s261 : (h253.1 96 44).toInt = (h213.1 96 44).toInt := by rw [g254, wI_ne _ _ _ (by decide)]
                                have s262 : (h253.1 96 47).toInt = (h213.1 96 47).toInt := by rw [g254, wI_ne _ _ _ (by decide)]
                                have s263 : (h253.1 96 48).toInt = (h213.1 96 48).toInt := by rw [g254, wI_ne _ _ _ (by decide)]
                                have s264 : (h253.1 96 51).toInt = (h213.1 96 51).toInt := by rw [g254, wI_ne _ _ _ (by decide)]
                                have s265 : (h253.1 105 0).toInt = (h213.1 105 0).toInt := by rw [g254, wI_ne _ _ _ (by decide)]
                                have s266 : (h253.1 109 0).toInt = (h213.1 109 0).toInt := by rw [g254, wI_ne _ _ _ (by decide)]
                                refine N_iinc (a := x215.toInt) (c := 1) (fun w => [(3, .inl w), (0, .inr (.inr (.inl 96))), (1, .inl a0), (2, .inl a1)]) rfl rfl (fun _ => rfl) (by decide) rfl (by decide) (by omega) (fun x267 q268 => ?_)
                                refine R_goto 166 rfl rfl ?_
                                exact RUN_weak (psub_cons rfl (psub_cons rfl (psub_cons rfl (psub_cons rfl (psub_nil _))))) (ih216 h253 x267 hI fr fl214 (by omega) (by omega))
                            · show RUN d_X9_goSecond 200 [(3, .inl x215), (0, .inr (.inr (.inl 96))), (1, .inl a0), (2, .inl a1)] [.inl x245] h213 _
                              refine N_if_ne (a := x245.toInt) 218 rfl rfl rfl (fun c269 => ?_) (fun c269 => ?_)
                              · refine N_iinc (a := x215.toInt) (c := 1) (fun w => [(3, .inl w), (0, .inr (.inr (.inl 96))), (1, .inl a0), (2, .inl a1)]) rfl rfl (fun _ => rfl) (by decide) rfl (by decide) (by omega) (fun x270 q271 => ?_)
                                refine R_goto 166 rfl rfl ?_
                                exact RUN_weak (psub_cons rfl (psub_cons rfl (psub_cons rfl (psub_cons rfl (psub_nil _))))) (ih216 h213 x270 hI fr fl214 (by omega) (by omega))
                              · exfalso; omega
                    exact lp212 _ h197 (0 : Int32) hI fr (FR.rf _ _) (by decide) (Nat.lt_succ_self _)
              · show RUN d_X9_goSecond 115 [(3, .inl x11), (0, .inr (.inr (.inl 96))), (1, .inl a0), (2, .inl a1)] [.inl x101] h9 _
                refine N_if_ne (a := x101.toInt) 164 rfl rfl rfl (fun c272 => ?_) (fun c272 => ?_)
                · refine R_iconst 0 rfl rfl ?_
                  refine R_istore_n (k := 3) rfl [(3, .inl 0), (0, .inr (.inr (.inl 96))), (1, .inl a0), (2, .inl a1)] rfl rfl (by decide) ?_
                  have lp274 : ∀ (n273 : Nat) (h275 : PH) (x277 : Int32), INV h275 → FR [96, 107, 108, 109, 117, 118] h h275 → FR [107] h9 h275 → 0 ≤ x277.toInt ∧ x277.toInt ≤ 6 → (6 - x277.toInt).toNat < n273 → RUN d_X9_goSecond 166 [(3, .inl x277), (0, .inr (.inr (.inl 96))), (1, .inl a0), (2, .inl a1)] [] h275 (q_X9_goSecond h a0 a1) := by
                    intro n273
                    induction n273 with
                    | zero => intro h275 x277 m279 m280 m281 m282 hz; exact absurd hz (Nat.not_lt_zero _)
                    | succ n273 ih278 =>
                      intro h275 x277 hI fr fl276 m282 hz
                      have s283 : (h275.1 96 41).toInt = (h9.1 96 41).toInt := by rw [(fl276 96 (by decide)).1]
                      have s284 : (h275.1 96 42).toInt = (h9.1 96 42).toInt := by rw [(fl276 96 (by decide)).1]
                      have s285 : (h275.1 96 19).toInt = (h9.1 96 19).toInt := by rw [(fl276 96 (by decide)).1]
                      have s286 : (h275.1 96 18).toInt = (h9.1 96 18).toInt := by rw [(fl276 96 (by decide)).1]
                      have s287 : (h275.1 96 20).toInt = (h9.1 96 20).toInt := by rw [(fl276 96 (by decide)).1]
                      have s288 : (h275.1 96 46).toInt = (h9.1 96 46).toInt := by rw [(fl276 96 (by decide)).1]
                      have s289 : (h275.1 96 44).toInt = (h9.1 96 44).toInt := by rw [(fl276 96 (by decide)).1]
                      have s290 : (h275.1 96 47).toInt = (h9.1 96 47).toInt := by rw [(fl276 96 (by decide)).1]
                      have s291 : (h275.1 96 48).toInt = (h9.1 96 48).toInt := by rw [(fl276 96 (by decide)).1]
                      have s292 : (h275.1 96 51).toInt = (h9.1 96 51).toInt := by rw [(fl276 96 (by decide)).1]
                      have s293 : (h275.1 105 0).toInt = (h9.1 105 0).toInt := by rw [(fl276 105 (by decide)).1]
                      have fl10 : FR [96, 107, 108, 109, 117, 118] h h275 := fl10.trans fl276 (by decide)
                      refine R_iload_n (k := 3) rfl rfl rfl ?_
                      refine R_aload_n (k := 0) rfl rfl rfl ?_
                      refine R_getf_i (j := 18) rfl ft_9_253 sh_96 rfl ?_
                      refine N_icmp_ge (a := x277.toInt) (b := (h275.1 96 18).toInt) 224 rfl rfl rfl rfl (fun c294 => ?_) (fun c294 => ?_)
                      · exact R_vret rfl rfl ⟨hI, fr, ⟨by omega, by omega, by omega, by omega, by omega, by omega, by omega, by omega, by omega, by omega, trivial⟩, rfl⟩
                      · refine R_aload_n (k := 0) rfl rfl rfl ?_
                        refine R_getf_r (j := 22) rfl ft_9_46 sh_96 rfl ?_
                        refine R_aload_n (k := 0) rfl rfl rfl ?_
                        refine R_getf_r (j := 17) rfl ft_9_40 sh_96 rfl ?_
                        refine R_iload_n (k := 3) rfl rfl rfl ?_
                        refine R_iald rfl sh_105 ⟨by omega, by omega⟩ ?_
                        refine N_bd (lo := 0) (hi := 5) (hI.1 105 _) (fun x295 q296 => ?_)
                        refine R_iald rfl sh_107 ⟨by omega, by omega⟩ ?_
                        refine N_any (fun x297 => ?_)
                        refine R_iconst (-1) rfl rfl ?_
                        refine N_icmp_eq (a := x297.toInt) (b := (-1)) 218 rfl rfl rfl (by decide) (fun c298 => ?_) (fun c298 => ?_)
                        · refine N_iinc (a := x277.toInt) (c := 1) (fun w => [(3, .inl w), (0, .inr (.inr (.inl 96))), (1, .inl a0), (2, .inl a1)]) rfl rfl (fun _ => rfl) (by decide) rfl (by decide) (by omega) (fun x299 q300 => ?_)
                          refine R_goto 166 rfl rfl ?_
                          exact RUN_weak (psub_cons rfl (psub_cons rfl (psub_cons rfl (psub_cons rfl (psub_nil _))))) (ih278 h275 x299 hI fr fl276 (by omega) (by omega))
                        · refine R_aload_n (k := 0) rfl rfl rfl ?_
                          refine R_aload_n (k := 0) rfl rfl rfl ?_
                          refine R_getf_r (j := 17) rfl ft_9_40 sh_96 rfl ?_
                          refine R_iload_n (k := 3) rfl rfl rfl ?_
                          refine R_iald rfl sh_105 ⟨by omega, by omega⟩ ?_
                          refine N_bd (lo := 0) (hi := 5) (hI.1 105 _) (fun x301 q302 => ?_)
                          refine R_iload_n (k := 1) rfl rfl rfl ?_
                          refine R_callV (v := .inr (.inr (.inl 96))) (As := [.inl x301, .inl a0]) (rest := []) rfl mt_9_i271 pp_X9_doesRest (by decide) rfl rfl rfl (Nat.le_of_ble_eq_true rfl) (Nat.le_of_ble_eq_true rfl) ((k_X9_doesRest h275 hI x301 a0 (by omega) (by omega)).mono (fun r303 h304 p305 => ?_))
                          obtain ⟨rfl, x306, rfl, q307 | q307 | q307⟩ := p305
                          · exfalso; omega
                          · show RUN d_X9_goSecond 200 [(3, .inl x277), (0, .inr (.inr (.inl 96))), (1, .inl a0), (2, .inl a1)] [.inl x306] h275 _
                            refine N_if_ne (a := x306.toInt) 218 rfl rfl rfl (fun c308 => ?_) (fun c308 => ?_)
                            · exfalso; omega
                            · refine R_aload_n (k := 0) rfl rfl rfl ?_
                              refine R_getf_r (j := 22) rfl ft_9_46 sh_96 rfl ?_
                              refine R_aload_n (k := 0) rfl rfl rfl ?_
                              refine R_getf_r (j := 17) rfl ft_9_40 sh_96 rfl ?_
                              refine R_iload_n (k := 3) rfl rfl rfl ?_
                              refine R_iald rfl sh_105 ⟨by omega, by omega⟩ ?_
                              refine N_bd (lo := 0) (hi := 5) (hI.1 105 _) (fun x309 q310 => ?_)
                              refine R_dup2 rfl ?_
                              refine R_iald rfl sh_107 ⟨by omega, by omega⟩ ?_
                              refine N_any (fun x311 => ?_)
                              refine R_iconst 1 rfl rfl ?_
                              have b312 := i_rng x311
                              refine R_iadd rfl ?_
                              refine N_any (fun x313 => ?_)
                              refine K_iast (a := x309.toInt) (lo := (-2147483648)) (hi' := 2147483647) rfl sh_107 rfl ⟨by omega, by omega⟩ hI (by decide) rfl (i_rng _) fr (by decide) (fun h314 g315 hI fr => ?_)
                              have fl276 : FR [107] h9 h314 := by rw [g315]; exact FR_wI _ _ fl276 (by decide)
                              have fl10 : FR [96, 107, 108, 109, 117, 118] h h314 := by rw [g315]; exact FR_wI _ _ fl10 (by decide)
                              have s316 : (h314.1 96 41).toInt = (h275.1 96 41).toInt := by rw [g315, wI_ne _ _ _ (by decide)]
                              have s317 : (h314.1 96 42).toInt = (h275.1 96 42).toInt := by rw [g315, wI_ne _ _ _ (by decide)]
                              have s318 : (h314.1 96 19).toInt = (h275.1 96 19).toInt := by rw [g315, wI_ne _ _ _ (by decide)]
                              have s319 : (h314.1 96 18).toInt = (h275.1 96 18).toInt := by rw [g315, wI_ne _ _ _ (by decide)]
                              have s320 : (h314.1 96 20).toInt = (h275.1 96 20).toInt := by rw [g315, wI_ne _ _ _ (by decide)]
                              have s321 : (h314.1 96 46).toInt = (h275.1 96 46).toInt := by rw [g315, wI_ne _ _ _ (by decide)]
                              have s322 : (h314.1 96 44).toInt = (h275.1 96 44).toInt := by rw [g315, wI_ne _ _ _ (by decide)]
                              have s323 : (h314.1 96 47).toInt = (h275.1 96 47).toInt := by rw [g315, wI_ne _ _ _ (by decide)]
                              have s324 : (h314.1 96 48).toInt = (h275.1 96 48).toInt := by rw [g315, wI_ne _ _ _ (by decide)]
                              have s325 : (h314.1 96 51).toInt = (h275.1 96 51).toInt := by rw [g315, wI_ne _ _ _ (by decide)]
                              have s326 : (h314.1 105 0).toInt = (h275.1 105 0).toInt := by rw [g315, wI_ne _ _ _ (by decide)]
                              refine N_iinc (a := x277.toInt) (c := 1) (fun w => [(3, .inl w), (0, .inr (.inr (.inl 96))), (1, .inl a0), (2, .inl a1)]) rfl rfl (fun _ => rfl) (by decide) rfl (by decide) (by omega) (fun x327 q328 => ?_)
                              refine R_goto 166 rfl rfl ?_
                              exact RUN_weak (psub_cons rfl (psub_cons rfl (psub_cons rfl (psub_cons rfl (psub_nil _))))) (ih278 h314 x327 hI fr fl276 (by omega) (by omega))
                          · show RUN d_X9_goSecond 200 [(3, .inl x277), (0, .inr (.inr (.inl 96))), (1, .inl a0), (2, .inl a1)] [.inl x306] h275 _
                            refine N_if_ne (a := x306.toInt) 218 rfl rfl rfl (fun c329 => ?_) (fun c329 => ?_)
                            · refine N_iinc (a := x277.toInt) (c := 1) (fun w => [(3, .inl w), (0, .inr (.inr (.inl 96))), (1, .inl a0), (2, .inl a1)]) rfl rfl (fun _ => rfl) (by decide) rfl (by decide) (by omega) (fun x330 q331 => ?_)
                              refine R_goto 166 rfl rfl ?_
                              exact RUN_weak (psub_cons rfl (psub_cons rfl (psub_cons rfl (psub_cons rfl (psub_nil _))))) (ih278 h275 x330 hI fr fl276 (by omega) (by omega))
                            · exfalso; omega
                  exact lp274 _ h9 (0 : Int32) hI fr (FR.rf _ _) (by decide) (Nat.lt_succ_self _)
                · exfalso; omega
        · refine R_iload_n (k := 2) rfl rfl rfl ?_
          refine N_if_ne (a := a1.toInt) 82 rfl rfl rfl (fun c332 => ?_) (fun c332 => ?_)
          · refine R_aload_n (k := 0) rfl rfl rfl ?_
            refine R_getf_i (j := 18) rfl ft_9_253 sh_96 rfl ?_
            refine N_if_le (a := (h9.1 96 18).toInt) 164 rfl rfl rfl (fun c333 => ?_) (fun c333 => ?_)
            · exfalso; omega
            · refine R_aload_n (k := 0) rfl rfl rfl ?_
              refine R_getf_r (j := 22) rfl ft_9_46 sh_96 rfl ?_
              refine R_aload_n (k := 0) rfl rfl rfl ?_
              refine R_getf_r (j := 17) rfl ft_9_40 sh_96 rfl ?_
              refine R_iconst 0 rfl rfl ?_
              refine R_iald rfl sh_105 (by decide) ?_
              have b334 : (0 : Int) ≤ (h9.1 105 0).toInt ∧ (h9.1 105 0).toInt ≤ 5 := hI.1 105 0
              show RUN d_X9_goSecond 99 [(3, .inl x11), (0, .inr (.inr (.inl 96))), (1, .inl a0), (2, .inl a1)] [.inl (h9.1 105 0), .inr (.inr (.inl 107))] h9 _
              refine R_iald rfl sh_107 ⟨by omega, by omega⟩ ?_
              refine N_any (fun x335 => ?_)
              refine R_iconst (-1) rfl rfl ?_
              refine N_icmp_ne (a := x335.toInt) (b := (-1)) 164 rfl rfl rfl (by decide) (fun c336 => ?_) (fun c336 => ?_)
              · refine R_iconst 0 rfl rfl ?_
                refine R_istore_n (k := 3) rfl [(3, .inl 0), (0, .inr (.inr (.inl 96))), (1, .inl a0), (2, .inl a1)] rfl rfl (by decide) ?_
                have lp338 : ∀ (n337 : Nat) (h339 : PH) (x341 : Int32), INV h339 → FR [96, 107, 108, 109, 117, 118] h h339 → FR [107] h9 h339 → 0 ≤ x341.toInt ∧ x341.toInt ≤ 6 → (6 - x341.toInt).toNat < n337 → RUN d_X9_goSecond 166 [(3, .inl x341), (0, .inr (.inr (.inl 96))), (1, .inl a0), (2, .inl a1)] [] h339 (q_X9_goSecond h a0 a1) := by
                  intro n337
                  induction n337 with
                  | zero => intro h339 x341 m343 m344 m345 m346 hz; exact absurd hz (Nat.not_lt_zero _)
                  | succ n337 ih342 =>
                    intro h339 x341 hI fr fl340 m346 hz
                    have s347 : (h339.1 96 41).toInt = (h9.1 96 41).toInt := by rw [(fl340 96 (by decide)).1]
                    have s348 : (h339.1 96 42).toInt = (h9.1 96 42).toInt := by rw [(fl340 96 (by decide)).1]
                    have s349 : (h339.1 96 19).toInt = (h9.1 96 19).toInt := by rw [(fl340 96 (by decide)).1]
                    have s350 : (h339.1 96 18).toInt = (h9.1 96 18).toInt := by rw [(fl340 96 (by decide)).1]
                    have s351 : (h339.1 96 20).toInt = (h9.1 96 20).toInt := by rw [(fl340 96 (by decide)).1]
                    have s352 : (h339.1 96 46).toInt = (h9.1 96 46).toInt := by rw [(fl340 96 (by decide)).1]
                    have s353 : (h339.1 96 44).toInt = (h9.1 96 44).toInt := by rw [(fl340 96 (by decide)).1]
                    have s354 : (h339.1 96 47).toInt = (h9.1 96 47).toInt := by rw [(fl340 96 (by decide)).1]
                    have s355 : (h339.1 96 48).toInt = (h9.1 96 48).toInt := by rw [(fl340 96 (by decide)).1]
                    have s356 : (h339.1 96 51).toInt = (h9.1 96 51).toInt := by rw [(fl340 96 (by decide)).1]
                    have s357 : (h339.1 105 0).toInt = (h9.1 105 0).toInt := by rw [(fl340 105 (by decide)).1]
                    have fl10 : FR [96, 107, 108, 109, 117, 118] h h339 := fl10.trans fl340 (by decide)
                    refine R_iload_n (k := 3) rfl rfl rfl ?_
                    refine R_aload_n (k := 0) rfl rfl rfl ?_
                    refine R_getf_i (j := 18) rfl ft_9_253 sh_96 rfl ?_
                    refine N_icmp_ge (a := x341.toInt) (b := (h339.1 96 18).toInt) 224 rfl rfl rfl rfl (fun c358 => ?_) (fun c358 => ?_)
                    · exact R_vret rfl rfl ⟨hI, fr, ⟨by omega, by omega, by omega, by omega, by omega, by omega, by omega, by omega, by omega, by omega, trivial⟩, rfl⟩
                    · refine R_aload_n (k := 0) rfl rfl rfl ?_
                      refine R_getf_r (j := 22) rfl ft_9_46 sh_96 rfl ?_
                      refine R_aload_n (k := 0) rfl rfl rfl ?_
                      refine R_getf_r (j := 17) rfl ft_9_40 sh_96 rfl ?_
                      refine R_iload_n (k := 3) rfl rfl rfl ?_
                      refine R_iald rfl sh_105 ⟨by omega, by omega⟩ ?_
                      refine N_bd (lo := 0) (hi := 5) (hI.1 105 _) (fun x359 q360 => ?_)
                      refine R_iald rfl sh_107 ⟨by omega, by omega⟩ ?_
                      refine N_any (fun x361 => ?_)
                      refine R_iconst (-1) rfl rfl ?_
                      refine N_icmp_eq (a := x361.toInt) (b := (-1)) 218 rfl rfl rfl (by decide) (fun c362 => ?_) (fun c362 => ?_)
                      · refine N_iinc (a := x341.toInt) (c := 1) (fun w => [(3, .inl w), (0, .inr (.inr (.inl 96))), (1, .inl a0), (2, .inl a1)]) rfl rfl (fun _ => rfl) (by decide) rfl (by decide) (by omega) (fun x363 q364 => ?_)
                        refine R_goto 166 rfl rfl ?_
                        exact RUN_weak (psub_cons rfl (psub_cons rfl (psub_cons rfl (psub_cons rfl (psub_nil _))))) (ih342 h339 x363 hI fr fl340 (by omega) (by omega))
                      · refine R_aload_n (k := 0) rfl rfl rfl ?_
                        refine R_aload_n (k := 0) rfl rfl rfl ?_
                        refine R_getf_r (j := 17) rfl ft_9_40 sh_96 rfl ?_
                        refine R_iload_n (k := 3) rfl rfl rfl ?_
                        refine R_iald rfl sh_105 ⟨by omega, by omega⟩ ?_
                        refine N_bd (lo := 0) (hi := 5) (hI.1 105 _) (fun x365 q366 => ?_)
                        refine R_iload_n (k := 1) rfl rfl rfl ?_
                        refine R_callV (v := .inr (.inr (.inl 96))) (As := [.inl x365, .inl a0]) (rest := []) rfl mt_9_i271 pp_X9_doesRest (by decide) rfl rfl rfl (Nat.le_of_ble_eq_true rfl) (Nat.le_of_ble_eq_true rfl) ((k_X9_doesRest h339 hI x365 a0 (by omega) (by omega)).mono (fun r367 h368 p369 => ?_))
                        obtain ⟨rfl, x370, rfl, q371 | q371 | q371⟩ := p369
                        · exfalso; omega
                        · show RUN d_X9_goSecond 200 [(3, .inl x341), (0, .inr (.inr (.inl 96))), (1, .inl a0), (2, .inl a1)] [.inl x370] h339 _
                          refine N_if_ne (a := x370.toInt) 218 rfl rfl rfl (fun c372 => ?_) (fun c372 => ?_)
                          · exfalso; omega
                          · refine R_aload_n (k := 0) rfl rfl rfl ?_
                            refine R_getf_r (j := 22) rfl ft_9_46 sh_96 rfl ?_
                            refine R_aload_n (k := 0) rfl rfl rfl ?_
                            refine R_getf_r (j := 17) rfl ft_9_40 sh_96 rfl ?_
                            refine R_iload_n (k := 3) rfl rfl rfl ?_
                            refine R_iald rfl sh_105 ⟨by omega, by omega⟩ ?_
                            refine N_bd (lo := 0) (hi := 5) (hI.1 105 _) (fun x373 q374 => ?_)
                            refine R_dup2 rfl ?_
                            refine R_iald rfl sh_107 ⟨by omega, by omega⟩ ?_
                            refine N_any (fun x375 => ?_)
                            refine R_iconst 1 rfl rfl ?_
                            have b376 := i_rng x375
                            refine R_iadd rfl ?_
                            refine N_any (fun x377 => ?_)
                            refine K_iast (a := x373.toInt) (lo := (-2147483648)) (hi' := 2147483647) rfl sh_107 rfl ⟨by omega, by omega⟩ hI (by decide) rfl (i_rng _) fr (by decide) (fun h378 g379 hI fr => ?_)
                            have fl340 : FR [107] h9 h378 := by rw [g379]; exact FR_wI _ _ fl340 (by decide)
                            have fl10 : FR [96, 107, 108, 109, 117, 118] h h378 := by rw [g379]; exact FR_wI _ _ fl10 (by decide)
                            have s380 : (h378.1 96 41).toInt = (h339.1 96 41).toInt := by rw [g379, wI_ne _ _ _ (by decide)]
                            have s381 : (h378.1 96 42).toInt = (h339.1 96 42).toInt := by rw [g379, wI_ne _ _ _ (by decide)]
                            have s382 : (h378.1 96 19).toInt = (h339.1 96 19).toInt := by rw [g379, wI_ne _ _ _ (by decide)]
                            have s383 : (h378.1 96 18).toInt = (h339.1 96 18).toInt := by rw [g379, wI_ne _ _ _ (by decide)]
                            have s384 : (h378.1 96 20).toInt = (h339.1 96 20).toInt := by rw [g379, wI_ne _ _ _ (by decide)]
                            have s385 : (h378.1 96 46).toInt = (h339.1 96 46).toInt := by rw [g379, wI_ne _ _ _ (by decide)]
                            have s386 : (h378.1 96 44).toInt = (h339.1 96 44).toInt := by rw [g379, wI_ne _ _ _ (by decide)]
                            have s387 : (h378.1 96 47).toInt = (h339.1 96 47).toInt := by rw [g379, wI_ne _ _ _ (by decide)]
                            have s388 : (h378.1 96 48).toInt = (h339.1 96 48).toInt := by rw [g379, wI_ne _ _ _ (by decide)]
                            have s389 : (h378.1 96 51).toInt = (h339.1 96 51).toInt := by rw [g379, wI_ne _ _ _ (by decide)]
                            have s390 : (h378.1 105 0).toInt = (h339.1 105 0).toInt := by rw [g379, wI_ne _ _ _ (by decide)]
                            refine N_iinc (a := x341.toInt) (c := 1) (fun w => [(3, .inl w), (0, .inr (.inr (.inl 96))), (1, .inl a0), (2, .inl a1)]) rfl rfl (fun _ => rfl) (by decide) rfl (by decide) (by omega) (fun x391 q392 => ?_)
                            refine R_goto 166 rfl rfl ?_
                            exact RUN_weak (psub_cons rfl (psub_cons rfl (psub_cons rfl (psub_cons rfl (psub_nil _))))) (ih342 h378 x391 hI fr fl340 (by omega) (by omega))
                        · show RUN d_X9_goSecond 200 [(3, .inl x341), (0, .inr (.inr (.inl 96))), (1, .inl a0), (2, .inl a1)] [.inl x370] h339 _
                          refine N_if_ne (a := x370.toInt) 218 rfl rfl rfl (fun c393 => ?_) (fun c393 => ?_)
                          · refine N_iinc (a := x341.toInt) (c := 1) (fun w => [(3, .inl w), (0, .inr (.inr (.inl 96))), (1, .inl a0), (2, .inl a1)]) rfl rfl (fun _ => rfl) (by decide) rfl (by decide) (by omega) (fun x394 q395 => ?_)
                            refine R_goto 166 rfl rfl ?_
                            exact RUN_weak (psub_cons rfl (psub_cons rfl (psub_cons rfl (psub_cons rfl (psub_nil _))))) (ih342 h339 x394 hI fr fl340 (by omega) (by omega))
                          · exfalso; omega
                exact lp338 _ h9 (0 : Int32) hI fr (FR.rf _ _) (by decide) (Nat.lt_succ_self _)
              · refine R_aload_n (k := 0) rfl rfl rfl ?_
                refine R_aload_n (k := 0) rfl rfl rfl ?_
                refine R_getf_r (j := 17) rfl ft_9_40 sh_96 rfl ?_
                refine R_iconst 0 rfl rfl ?_
                refine R_iald rfl sh_105 (by decide) ?_
                show RUN d_X9_goSecond 111 [(3, .inl x11), (0, .inr (.inr (.inl 96))), (1, .inl a0), (2, .inl a1)] [.inl (h9.1 105 0), .inr (.inr (.inl 96))] h9 _
                refine R_iload_n (k := 1) rfl rfl rfl ?_
                refine R_callV (v := .inr (.inr (.inl 96))) (As := [.inl (h9.1 105 0), .inl a0]) (rest := []) rfl mt_9_i271 pp_X9_doesRest (by decide) rfl rfl rfl (Nat.le_of_ble_eq_true rfl) (Nat.le_of_ble_eq_true rfl) ((k_X9_doesRest h9 hI (h9.1 105 0) a0 (by omega) (by omega)).mono (fun r396 h397 p398 => ?_))
                obtain ⟨rfl, x399, rfl, q400 | q400 | q400⟩ := p398
                · exfalso; omega
                · show RUN d_X9_goSecond 115 [(3, .inl x11), (0, .inr (.inr (.inl 96))), (1, .inl a0), (2, .inl a1)] [.inl x399] h9 _
                  refine N_if_ne (a := x399.toInt) 164 rfl rfl rfl (fun c401 => ?_) (fun c401 => ?_)
                  · exfalso; omega
                  · refine R_aload_n (k := 0) rfl rfl rfl ?_
                    refine R_getf_r (j := 24) rfl ft_9_52 sh_96 rfl ?_
                    refine R_iconst 0 rfl rfl ?_
                    refine R_iald rfl sh_109 (by decide) ?_
                    show RUN d_X9_goSecond 124 [(3, .inl x11), (0, .inr (.inr (.inl 96))), (1, .inl a0), (2, .inl a1)] [.inl (h9.1 109 0)] h9 _
                    refine N_if_le (a := (h9.1 109 0).toInt) 164 rfl rfl rfl (fun c402 => ?_) (fun c402 => ?_)
                    · refine R_iconst 0 rfl rfl ?_
                      refine R_istore_n (k := 3) rfl [(3, .inl 0), (0, .inr (.inr (.inl 96))), (1, .inl a0), (2, .inl a1)] rfl rfl (by decide) ?_
                      have lp404 : ∀ (n403 : Nat) (h405 : PH) (x407 : Int32), INV h405 → FR [96, 107, 108, 109, 117, 118] h h405 → FR [107] h9 h405 → 0 ≤ x407.toInt ∧ x407.toInt ≤ 6 → (6 - x407.toInt).toNat < n403 → RUN d_X9_goSecond 166 [(3, .inl x407), (0, .inr (.inr (.inl 96))), (1, .inl a0), (2, .inl a1)] [] h405 (q_X9_goSecond h a0 a1) := by
                        intro n403
                        induction n403 with
                        | zero => intro h405 x407 m409 m410 m411 m412 hz; exact absurd hz (Nat.not_lt_zero _)
                        | succ n403 ih408 =>
                          intro h405 x407 hI fr fl406 m412 hz
                          have s413 : (h405.1 96 41).toInt = (h9.1 96 41).toInt := by rw [(fl406 96 (by decide)).1]
                          have s414 : (h405.1 96 42).toInt = (h9.1 96 42).toInt := by rw [(fl406 96 (by decide)).1]
                          have s415 : (h405.1 96 19).toInt = (h9.1 96 19).toInt := by rw [(fl406 96 (by decide)).1]
                          have s416 : (h405.1 96 18).toInt = (h9.1 96 18).toInt := by rw [(fl406 96 (by decide)).1]
                          have s417 : (h405.1 96 20).toInt = (h9.1 96 20).toInt := by rw [(fl406 96 (by decide)).1]
                          have s418 : (h405.1 96 46).toInt = (h9.1 96 46).toInt := by rw [(fl406 96 (by decide)).1]
                          have s419 : (h405.1 96 44).toInt = (h9.1 96 44).toInt := by rw [(fl406 96 (by decide)).1]
                          have s420 : (h405.1 96 47).toInt = (h9.1 96 47).toInt := by rw [(fl406 96 (by decide)).1]
                          have s421 : (h405.1 96 48).toInt = (h9.1 96 48).toInt := by rw [(fl406 96 (by decide)).1]
                          have s422 : (h405.1 96 51).toInt = (h9.1 96 51).toInt := by rw [(fl406 96 (by decide)).1]
                          have s423 : (h405.1 105 0).toInt = (h9.1 105 0).toInt := by rw [(fl406 105 (by decide)).1]
                          have s424 : (h405.1 109 0).toInt = (h9.1 109 0).toInt := by rw [(fl406 109 (by decide)).1]
                          have fl10 : FR [96, 107, 108, 109, 117, 118] h h405 := fl10.trans fl406 (by decide)
                          refine R_iload_n (k := 3) rfl rfl rfl ?_
                          refine R_aload_n (k := 0) rfl rfl rfl ?_
                          refine R_getf_i (j := 18) rfl ft_9_253 sh_96 rfl ?_
                          refine N_icmp_ge (a := x407.toInt) (b := (h405.1 96 18).toInt) 224 rfl rfl rfl rfl (fun c425 => ?_) (fun c425 => ?_)
                          · exact R_vret rfl rfl ⟨hI, fr, ⟨by omega, by omega, by omega, by omega, by omega, by omega, by omega, by omega, by omega, by omega, trivial⟩, rfl⟩
                          · refine R_aload_n (k := 0) rfl rfl rfl ?_
                            refine R_getf_r (j := 22) rfl ft_9_46 sh_96 rfl ?_
                            refine R_aload_n (k := 0) rfl rfl rfl ?_
                            refine R_getf_r (j := 17) rfl ft_9_40 sh_96 rfl ?_
                            refine R_iload_n (k := 3) rfl rfl rfl ?_
                            refine R_iald rfl sh_105 ⟨by omega, by omega⟩ ?_
                            refine N_bd (lo := 0) (hi := 5) (hI.1 105 _) (fun x426 q427 => ?_)
                            refine R_iald rfl sh_107 ⟨by omega, by omega⟩ ?_
                            refine N_any (fun x428 => ?_)
                            refine R_iconst (-1) rfl rfl ?_
                            refine N_icmp_eq (a := x428.toInt) (b := (-1)) 218 rfl rfl rfl (by decide) (fun c429 => ?_) (fun c429 => ?_)
                            · refine N_iinc (a := x407.toInt) (c := 1) (fun w => [(3, .inl w), (0, .inr (.inr (.inl 96))), (1, .inl a0), (2, .inl a1)]) rfl rfl (fun _ => rfl) (by decide) rfl (by decide) (by omega) (fun x430 q431 => ?_)
                              refine R_goto 166 rfl rfl ?_
                              exact RUN_weak (psub_cons rfl (psub_cons rfl (psub_cons rfl (psub_cons rfl (psub_nil _))))) (ih408 h405 x430 hI fr fl406 (by omega) (by omega))
                            · refine R_aload_n (k := 0) rfl rfl rfl ?_
                              refine R_aload_n (k := 0) rfl rfl rfl ?_
                              refine R_getf_r (j := 17) rfl ft_9_40 sh_96 rfl ?_
                              refine R_iload_n (k := 3) rfl rfl rfl ?_
                              refine R_iald rfl sh_105 ⟨by omega, by omega⟩ ?_
                              refine N_bd (lo := 0) (hi := 5) (hI.1 105 _) (fun x432 q433 => ?_)
                              refine R_iload_n (k := 1) rfl rfl rfl ?_
                              refine R_callV (v := .inr (.inr (.inl 96))) (As := [.inl x432, .inl a0]) (rest := []) rfl mt_9_i271 pp_X9_doesRest (by decide) rfl rfl rfl (Nat.le_of_ble_eq_true rfl) (Nat.le_of_ble_eq_true rfl) ((k_X9_doesRest h405 hI x432 a0 (by omega) (by omega)).mono (fun r434 h435 p436 => ?_))
                              obtain ⟨rfl, x437, rfl, q438 | q438 | q438⟩ := p436
                              · exfalso; omega
                              · show RUN d_X9_goSecond 200 [(3, .inl x407), (0, .inr (.inr (.inl 96))), (1, .inl a0), (2, .inl a1)] [.inl x437] h405 _
                                refine N_if_ne (a := x437.toInt) 218 rfl rfl rfl (fun c439 => ?_) (fun c439 => ?_)
                                · exfalso; omega
                                · refine R_aload_n (k := 0) rfl rfl rfl ?_
                                  refine R_getf_r (j := 22) rfl ft_9_46 sh_96 rfl ?_
                                  refine R_aload_n (k := 0) rfl rfl rfl ?_
                                  refine R_getf_r (j := 17) rfl ft_9_40 sh_96 rfl ?_
                                  refine R_iload_n (k := 3) rfl rfl rfl ?_
                                  refine R_iald rfl sh_105 ⟨by omega, by omega⟩ ?_
                                  refine N_bd (lo := 0) (hi := 5) (hI.1 105 _) (fun x440 q441 => ?_)
                                  refine R_dup2 rfl ?_
                                  refine R_iald rfl sh_107 ⟨by omega, by omega⟩ ?_
                                  refine N_any (fun x442 => ?_)
                                  refine R_iconst 1 rfl rfl ?_
                                  have b443 := i_rng x442
                                  refine R_iadd rfl ?_
                                  refine N_any (fun x444 => ?_)
                                  refine K_iast (a := x440.toInt) (lo := (-2147483648)) (hi' := 2147483647) rfl sh_107 rfl ⟨by omega, by omega⟩ hI (by decide) rfl (i_rng _) fr (by decide) (fun h445 g446 hI fr => ?_)
                                  have fl406 : FR [107] h9 h445 := by rw [g446]; exact FR_wI _ _ fl406 (by decide)
                                  have fl10 : FR [96, 107, 108, 109, 117, 118] h h445 := by rw [g446]; exact FR_wI _ _ fl10 (by decide)
                                  have s447 : (h445.1 96 41).toInt = (h405.1 96 41).toInt := by rw [g446, wI_ne _ _ _ (by decide)]
                                  have s448 : (h445.1 96 42).toInt = (h405.1 96 42).toInt := by rw [g446, wI_ne _ _ _ (by decide)]
                                  have s449 : (h445.1 96 19).toInt = (h405.1 96 19).toInt := by rw [g446, wI_ne _ _ _ (by decide)]
                                  have s450 : (h445.1 96 18).toInt = (h405.1 96 18).toInt := by rw [g446, wI_ne _ _ _ (by decide)]
                                  have s451 : (h445.1 96 20).toInt = (h405.1 96 20).toInt := by rw [g446, wI_ne _ _ _ (by decide)]
                                  have s452 : (h445.1 96 46).toInt = (h405.1 96 46).toInt := by rw [g446, wI_ne _ _ _ (by decide)]
                                  have s453 : (h445.1 96 44).toInt = (h405.1 96 44).toInt := by rw [g446, wI_ne _ _ _ (by decide)]
                                  have s454 : (h445.1 96 47).toInt = (h405.1 96 47).toInt := by rw [g446, wI_ne _ _ _ (by decide)]
                                  have s455 : (h445.1 96 48).toInt = (h405.1 96 48).toInt := by rw [g446, wI_ne _ _ _ (by decide)]
                                  have s456 : (h445.1 96 51).toInt = (h405.1 96 51).toInt := by rw [g446, wI_ne _ _ _ (by decide)]
                                  have s457 : (h445.1 105 0).toInt = (h405.1 105 0).toInt := by rw [g446, wI_ne _ _ _ (by decide)]
                                  have s458 : (h445.1 109 0).toInt = (h405.1 109 0).toInt := by rw [g446, wI_ne _ _ _ (by decide)]
                                  refine N_iinc (a := x407.toInt) (c := 1) (fun w => [(3, .inl w), (0, .inr (.inr (.inl 96))), (1, .inl a0), (2, .inl a1)]) rfl rfl (fun _ => rfl) (by decide) rfl (by decide) (by omega) (fun x459 q460 => ?_)
                                  refine R_goto 166 rfl rfl ?_
                                  exact RUN_weak (psub_cons rfl (psub_cons rfl (psub_cons rfl (psub_cons rfl (psub_nil _))))) (ih408 h445 x459 hI fr fl406 (by omega) (by omega))
                              · show RUN d_X9_goSecond 200 [(3, .inl x407), (0, .inr (.inr (.inl 96))), (1, .inl a0), (2, .inl a1)] [.inl x437] h405 _
                                refine N_if_ne (a := x437.toInt) 218 rfl rfl rfl (fun c461 => ?_) (fun c461 => ?_)
                                · refine N_iinc (a := x407.toInt) (c := 1) (fun w => [(3, .inl w), (0, .inr (.inr (.inl 96))), (1, .inl a0), (2, .inl a1)]) rfl rfl (fun _ => rfl) (by decide) rfl (by decide) (by omega) (fun x462 q463 => ?_)
                                  refine R_goto 166 rfl rfl ?_
                                  exact RUN_weak (psub_cons rfl (psub_cons rfl (psub_cons rfl (psub_cons rfl (psub_nil _))))) (ih408 h405 x462 hI fr fl406 (by omega) (by omega))
                                · exfalso; omega
                      exact lp404 _ h9 (0 : Int32) hI fr (FR.rf _ _) (by decide) (Nat.lt_succ_self _)
                    · refine R_aload_n (k := 0) rfl rfl rfl ?_
                      refine R_getf_r (j := 24) rfl ft_9_52 sh_96 rfl ?_
                      refine R_iconst 0 rfl rfl ?_
                      refine R_dup2 rfl ?_
                      refine R_iald rfl sh_109 (by decide) ?_
                      show RUN d_X9_goSecond 134 [(3, .inl x11), (0, .inr (.inr (.inl 96))), (1, .inl a0), (2, .inl a1)] [.inl (h9.1 109 0), .inl 0, .inr (.inr (.inl 109))] h9 _
                      refine R_iconst 1 rfl rfl ?_
                      have b464 := i_rng (h9.1 109 0)
                      refine N_isub (a := (h9.1 109 0).toInt) (b := 1) rfl rfl (by decide) (by omega) (fun x465 q466 => ?_)
                      refine K_iast (a := 0) (lo := (-2147483648)) (hi' := 2147483647) rfl sh_109 (by decide) (by decide) hI (by decide) rfl (i_rng _) fr (by decide) (fun h467 g468 hI fr => ?_)
                      have fl10 : FR [96, 107, 108, 109, 117, 118] h h467 := by rw [g468]; exact FR_wI _ _ fl10 (by decide)
                      have s469 : (h467.1 96 41).toInt = (h9.1 96 41).toInt := by rw [g468, wI_ne _ _ _ (by decide)]
                      have s470 : (h467.1 96 42).toInt = (h9.1 96 42).toInt := by rw [g468, wI_ne _ _ _ (by decide)]
                      have s471 : (h467.1 96 19).toInt = (h9.1 96 19).toInt := by rw [g468, wI_ne _ _ _ (by decide)]
                      have s472 : (h467.1 96 18).toInt = (h9.1 96 18).toInt := by rw [g468, wI_ne _ _ _ (by decide)]
                      have s473 : (h467.1 96 20).toInt = (h9.1 96 20).toInt := by rw [g468, wI_ne _ _ _ (by decide)]
                      have s474 : (h467.1 96 46).toInt = (h9.1 96 46).toInt := by rw [g468, wI_ne _ _ _ (by decide)]
                      have s475 : (h467.1 96 44).toInt = (h9.1 96 44).toInt := by rw [g468, wI_ne _ _ _ (by decide)]
                      have s476 : (h467.1 96 47).toInt = (h9.1 96 47).toInt := by rw [g468, wI_ne _ _ _ (by decide)]
                      have s477 : (h467.1 96 48).toInt = (h9.1 96 48).toInt := by rw [g468, wI_ne _ _ _ (by decide)]
                      have s478 : (h467.1 96 51).toInt = (h9.1 96 51).toInt := by rw [g468, wI_ne _ _ _ (by decide)]
                      have s479 : (h467.1 105 0).toInt = (h9.1 105 0).toInt := by rw [g468, wI_ne _ _ _ (by decide)]
                      have s480 : (h467.1 109 0).toInt = x465.toInt := by rw [g468, show (0 : Int32).toNatClampNeg = 0 from rfl, wI_is]
                      refine R_aload_n (k := 0) rfl rfl rfl ?_
                      refine R_getf_r (j := 22) rfl ft_9_46 sh_96 rfl ?_
                      refine R_aload_n (k := 0) rfl rfl rfl ?_
                      refine R_getf_r (j := 17) rfl ft_9_40 sh_96 rfl ?_
                      refine R_iconst 0 rfl rfl ?_
                      refine R_iald rfl sh_105 (by decide) ?_
                      show RUN d_X9_goSecond 147 [(3, .inl x11), (0, .inr (.inr (.inl 96))), (1, .inl a0), (2, .inl a1)] [.inl (h467.1 105 0), .inr (.inr (.inl 107))] h467 _
                      refine R_iconst 0 rfl rfl ?_
                      refine K_iast (a := (h467.1 105 0).toInt) (lo := (-2147483648)) (hi' := 2147483647) rfl sh_107 rfl ⟨by omega, by omega⟩ hI (by decide) rfl (by decide) fr (by decide) (fun h481 g482 hI fr => ?_)
                      have fl10 : FR [96, 107, 108, 109, 117, 118] h h481 := by rw [g482]; exact FR_wI _ _ fl10 (by decide)
                      have s483 : (h481.1 96 41).toInt = (h467.1 96 41).toInt := by rw [g482, wI_ne _ _ _ (by decide)]
                      have s484 : (h481.1 96 42).toInt = (h467.1 96 42).toInt := by rw [g482, wI_ne _ _ _ (by decide)]
                      have s485 : (h481.1 96 19).toInt = (h467.1 96 19).toInt := by rw [g482, wI_ne _ _ _ (by decide)]
                      have s486 : (h481.1 96 18).toInt = (h467.1 96 18).toInt := by rw [g482, wI_ne _ _ _ (by decide)]
                      have s487 : (h481.1 96 20).toInt = (h467.1 96 20).toInt := by rw [g482, wI_ne _ _ _ (by decide)]
                      have s488 : (h481.1 96 46).toInt = (h467.1 96 46).toInt := by rw [g482, wI_ne _ _ _ (by decide)]
                      have s489 : (h481.1 96 44).toInt = (h467.1 96 44).toInt := by rw [g482, wI_ne _ _ _ (by decide)]
                      have s490 : (h481.1 96 47).toInt = (h467.1 96 47).toInt := by rw [g482, wI_ne _ _ _ (by decide)]
                      have s491 : (h481.1 96 48).toInt = (h467.1 96 48).toInt := by rw [g482, wI_ne _ _ _ (by decide)]
                      have s492 : (h481.1 96 51).toInt = (h467.1 96 51).toInt := by rw [g482, wI_ne _ _ _ (by decide)]
                      have s493 : (h481.1 105 0).toInt = (h467.1 105 0).toInt := by rw [g482, wI_ne _ _ _ (by decide)]
                      have s494 : (h481.1 109 0).toInt = (h467.1 109 0).toInt := by rw [g482, wI_ne _ _ _ (by decide)]
                      refine R_aload_n (k := 0) rfl rfl rfl ?_
                      refine R_getf_r (j := 23) rfl ft_9_49 sh_96 rfl ?_
                      refine R_aload_n (k := 0) rfl rfl rfl ?_
                      refine R_getf_r (j := 17) rfl ft_9_40 sh_96 rfl ?_
                      refine R_iconst 0 rfl rfl ?_
                      refine R_iald rfl sh_105 (by decide) ?_
                      show RUN d_X9_goSecond 159 [(3, .inl x11), (0, .inr (.inr (.inl 96))), (1, .inl a0), (2, .inl a1)] [.inl (h481.1 105 0), .inr (.inr (.inl 108))] h481 _
                      refine R_aload_n (k := 0) rfl rfl rfl ?_
                      refine R_getf_i (j := 20) rfl ft_9_259 sh_96 rfl ?_
                      refine K_iast (a := (h481.1 105 0).toInt) (lo := (-2147483648)) (hi' := 2147483647) rfl sh_108 rfl ⟨by omega, by omega⟩ hI (by decide) rfl (i_rng _) fr (by decide) (fun h495 g496 hI fr => ?_)
                      have fl10 : FR [96, 107, 108, 109, 117, 118] h h495 := by rw [g496]; exact FR_wI _ _ fl10 (by decide)
                      have s497 : (h495.1 96 41).toInt = (h481.1 96 41).toInt := by rw [g496, wI_ne _ _ _ (by decide)]
                      have s498 : (h495.1 96 42).toInt = (h481.1 96 42).toInt := by rw [g496, wI_ne _ _ _ (by decide)]
                      have s499 : (h495.1 96 19).toInt = (h481.1 96 19).toInt := by rw [g496, wI_ne _ _ _ (by decide)]
                      have s500 : (h495.1 96 18).toInt = (h481.1 96 18).toInt := by rw [g496, wI_ne _ _ _ (by decide)]
                      have s501 : (h495.1 96 20).toInt = (h481.1 96 20).toInt := by rw [g496, wI_ne _ _ _ (by decide)]
                      have s502 : (h495.1 96 46).toInt = (h481.1 96 46).toInt := by rw [g496, wI_ne _ _ _ (by decide)]
                      have s503 : (h495.1 96 44).toInt = (h481.1 96 44).toInt := by rw [g496, wI_ne _ _ _ (by decide)]
                      have s504 : (h495.1 96 47).toInt = (h481.1 96 47).toInt := by rw [g496, wI_ne _ _ _ (by decide)]
                      have s505 : (h495.1 96 48).toInt = (h481.1 96 48).toInt := by rw [g496, wI_ne _ _ _ (by decide)]
                      have s506 : (h495.1 96 51).toInt = (h481.1 96 51).toInt := by rw [g496, wI_ne _ _ _ (by decide)]
                      have s507 : (h495.1 105 0).toInt = (h481.1 105 0).toInt := by rw [g496, wI_ne _ _ _ (by decide)]
                      have s508 : (h495.1 109 0).toInt = (h481.1 109 0).toInt := by rw [g496, wI_ne _ _ _ (by decide)]
                      refine R_iconst 0 rfl rfl ?_
                      refine R_istore_n (k := 3) rfl [(3, .inl 0), (0, .inr (.inr (.inl 96))), (1, .inl a0), (2, .inl a1)] rfl rfl (by decide) ?_
                      have lp510 : ∀ (n509 : Nat) (h511 : PH) (x513 : Int32), INV h511 → FR [96, 107, 108, 109, 117, 118] h h511 → FR [107] h495 h511 → 0 ≤ x513.toInt ∧ x513.toInt ≤ 6 → (6 - x513.toInt).toNat < n509 → RUN d_X9_goSecond 166 [(3, .inl x513), (0, .inr (.inr (.inl 96))), (1, .inl a0), (2, .inl a1)] [] h511 (q_X9_goSecond h a0 a1) := by
                        intro n509
                        induction n509 with
                        | zero => intro h511 x513 m515 m516 m517 m518 hz; exact absurd hz (Nat.not_lt_zero _)
                        | succ n509 ih514 =>
                          intro h511 x513 hI fr fl512 m518 hz
                          have s519 : (h511.1 96 41).toInt = (h495.1 96 41).toInt := by rw [(fl512 96 (by decide)).1]
                          have s520 : (h511.1 96 42).toInt = (h495.1 96 42).toInt := by rw [(fl512 96 (by decide)).1]
                          have s521 : (h511.1 96 19).toInt = (h495.1 96 19).toInt := by rw [(fl512 96 (by decide)).1]
                          have s522 : (h511.1 96 18).toInt = (h495.1 96 18).toInt := by rw [(fl512 96 (by decide)).1]
                          have s523 : (h511.1 96 20).toInt = (h495.1 96 20).toInt := by rw [(fl512 96 (by decide)).1]
                          have s524 : (h511.1 96 46).toInt = (h495.1 96 46).toInt := by rw [(fl512 96 (by decide)).1]
                          have s525 : (h511.1 96 44).toInt = (h495.1 96 44).toInt := by rw [(fl512 96 (by decide)).1]
                          have s526 : (h511.1 96 47).toInt = (h495.1 96 47).toInt := by rw [(fl512 96 (by decide)).1]
                          have s527 : (h511.1 96 48).toInt = (h495.1 96 48).toInt := by rw [(fl512 96 (by decide)).1]
                          have s528 : (h511.1 96 51).toInt = (h495.1 96 51).toInt := by rw [(fl512 96 (by decide)).1]
                          have s529 : (h511.1 105 0).toInt = (h495.1 105 0).toInt := by rw [(fl512 105 (by decide)).1]
                          have s530 : (h511.1 109 0).toInt = (h495.1 109 0).toInt := by rw [(fl512 109 (by decide)).1]
                          have fl10 : FR [96, 107, 108, 109, 117, 118] h h511 := fl10.trans fl512 (by decide)
                          refine R_iload_n (k := 3) rfl rfl rfl ?_
                          refine R_aload_n (k := 0) rfl rfl rfl ?_
                          refine R_getf_i (j := 18) rfl ft_9_253 sh_96 rfl ?_
                          refine N_icmp_ge (a := x513.toInt) (b := (h511.1 96 18).toInt) 224 rfl rfl rfl rfl (fun c531 => ?_) (fun c531 => ?_)
                          · exact R_vret rfl rfl ⟨hI, fr, ⟨by omega, by omega, by omega, by omega, by omega, by omega, by omega, by omega, by omega, by omega, trivial⟩, rfl⟩
                          · refine R_aload_n (k := 0) rfl rfl rfl ?_
                            refine R_getf_r (j := 22) rfl ft_9_46 sh_96 rfl ?_
                            refine R_aload_n (k := 0) rfl rfl rfl ?_
                            refine R_getf_r (j := 17) rfl ft_9_40 sh_96 rfl ?_
                            refine R_iload_n (k := 3) rfl rfl rfl ?_
                            refine R_iald rfl sh_105 ⟨by omega, by omega⟩ ?_
                            refine N_bd (lo := 0) (hi := 5) (hI.1 105 _) (fun x532 q533 => ?_)
                            refine R_iald rfl sh_107 ⟨by omega, by omega⟩ ?_
                            refine N_any (fun x534 => ?_)
                            refine R_iconst (-1) rfl rfl ?_
                            refine N_icmp_eq (a := x534.toInt) (b := (-1)) 218 rfl rfl rfl (by decide) (fun c535 => ?_) (fun c535 => ?_)
                            · refine N_iinc (a := x513.toInt) (c := 1) (fun w => [(3, .inl w), (0, .inr (.inr (.inl 96))), (1, .inl a0), (2, .inl a1)]) rfl rfl (fun _ => rfl) (by decide) rfl (by decide) (by omega) (fun x536 q537 => ?_)
                              refine R_goto 166 rfl rfl ?_
                              exact RUN_weak (psub_cons rfl (psub_cons rfl (psub_cons rfl (psub_cons rfl (psub_nil _))))) (ih514 h511 x536 hI fr fl512 (by omega) (by omega))
                            · refine R_aload_n (k := 0) rfl rfl rfl ?_
                              refine R_aload_n (k := 0) rfl rfl rfl ?_
                              refine R_getf_r (j := 17) rfl ft_9_40 sh_96 rfl ?_
                              refine R_iload_n (k := 3) rfl rfl rfl ?_
                              refine R_iald rfl sh_105 ⟨by omega, by omega⟩ ?_
                              refine N_bd (lo := 0) (hi := 5) (hI.1 105 _) (fun x538 q539 => ?_)
                              refine R_iload_n (k := 1) rfl rfl rfl ?_
                              refine R_callV (v := .inr (.inr (.inl 96))) (As := [.inl x538, .inl a0]) (rest := []) rfl mt_9_i271 pp_X9_doesRest (by decide) rfl rfl rfl (Nat.le_of_ble_eq_true rfl) (Nat.le_of_ble_eq_true rfl) ((k_X9_doesRest h511 hI x538 a0 (by omega) (by omega)).mono (fun r540 h541 p542 => ?_))
                              obtain ⟨rfl, x543, rfl, q544 | q544 | q544⟩ := p542
                              · exfalso; omega
                              · show RUN d_X9_goSecond 200 [(3, .inl x513), (0, .inr (.inr (.inl 96))), (1, .inl a0), (2, .inl a1)] [.inl x543] h511 _
                                refine N_if_ne (a := x543.toInt) 218 rfl rfl rfl (fun c545 => ?_) (fun c545 => ?_)
                                · exfalso; omega
                                · refine R_aload_n (k := 0) rfl rfl rfl ?_
                                  refine R_getf_r (j := 22) rfl ft_9_46 sh_96 rfl ?_
                                  refine R_aload_n (k := 0) rfl rfl rfl ?_
                                  refine R_getf_r (j := 17) rfl ft_9_40 sh_96 rfl ?_
                                  refine R_iload_n (k := 3) rfl rfl rfl ?_
                                  refine R_iald rfl sh_105 ⟨by omega, by omega⟩ ?_
                                  refine N_bd (lo := 0) (hi := 5) (hI.1 105 _) (fun x546 q547 => ?_)
                                  refine R_dup2 rfl ?_
                                  refine R_iald rfl sh_107 ⟨by omega, by omega⟩ ?_
                                  refine N_any (fun x548 => ?_)
                                  refine R_iconst 1 rfl rfl ?_
                                  have b549 := i_rng x548
                                  refine R_iadd rfl ?_
                                  refine N_any (fun x550 => ?_)
                                  refine K_iast (a := x546.toInt) (lo := (-2147483648)) (hi' := 2147483647) rfl sh_107 rfl ⟨by omega, by omega⟩ hI (by decide) rfl (i_rng _) fr (by decide) (fun h551 g552 hI fr => ?_)
                                  have fl512 : FR [107] h495 h551 := by rw [g552]; exact FR_wI _ _ fl512 (by decide)
                                  have fl10 : FR [96, 107, 108, 109, 117, 118] h h551 := by rw [g552]; exact FR_wI _ _ fl10 (by decide)
                                  have s553 : (h551.1 96 41).toInt = (h511.1 96 41).toInt := by rw [g552, wI_ne _ _ _ (by decide)]
                                  have s554 : (h551.1 96 42).toInt = (h511.1 96 42).toInt := by rw [g552, wI_ne _ _ _ (by decide)]
                                  have s555 : (h551.1 96 19).toInt = (h511.1 96 19).toInt := by rw [g552, wI_ne _ _ _ (by decide)]
                                  have s556 : (h551.1 96 18).toInt = (h511.1 96 18).toInt := by rw [g552, wI_ne _ _ _ (by decide)]
                                  have s557 : (h551.1 96 20).toInt = (h511.1 96 20).toInt := by rw [g552, wI_ne _ _ _ (by decide)]
                                  have s558 : (h551.1 96 46).toInt = (h511.1 96 46).toInt := by rw [g552, wI_ne _ _ _ (by decide)]
                                  have s559 : (h551.1 96 44).toInt = (h511.1 96 44).toInt := by rw [g552, wI_ne _ _ _ (by decide)]
                                  have s560 : (h551.1 96 47).toInt = (h511.1 96 47).toInt := by rw [g552, wI_ne _ _ _ (by decide)]
                                  have s561 : (h551.1 96 48).toInt = (h511.1 96 48).toInt := by rw [g552, wI_ne _ _ _ (by decide)]
                                  have s562 : (h551.1 96 51).toInt = (h511.1 96 51).toInt := by rw [g552, wI_ne _ _ _ (by decide)]
                                  have s563 : (h551.1 105 0).toInt = (h511.1 105 0).toInt := by rw [g552, wI_ne _ _ _ (by decide)]
                                  have s564 : (h551.1 109 0).toInt = (h511.1 109 0).toInt := by rw [g552, wI_ne _ _ _ (by decide)]
                                  refine N_iinc (a := x513.toInt) (c := 1) (fun w => [(3, .inl w), (0, .inr (.inr (.inl 96))), (1, .inl a0), (2, .inl a1)]) rfl rfl (fun _ => rfl) (by decide) rfl (by decide) (by omega) (fun x565 q566 => ?_)
                                  refine R_goto 166 rfl rfl ?_
                                  exact RUN_weak (psub_cons rfl (psub_cons rfl (psub_cons rfl (psub_cons rfl (psub_nil _))))) (ih514 h551 x565 hI fr fl512 (by omega) (by omega))
                              · show RUN d_X9_goSecond 200 [(3, .inl x513), (0, .inr (.inr (.inl 96))), (1, .inl a0), (2, .inl a1)] [.inl x543] h511 _
                                refine N_if_ne (a := x543.toInt) 218 rfl rfl rfl (fun c567 => ?_) (fun c567 => ?_)
                                · refine N_iinc (a := x513.toInt) (c := 1) (fun w => [(3, .inl w), (0, .inr (.inr (.inl 96))), (1, .inl a0), (2, .inl a1)]) rfl rfl (fun _ => rfl) (by decide) rfl (by decide) (by omega) (fun x568 q569 => ?_)
                                  refine R_goto 166 rfl rfl ?_
                                  exact RUN_weak (psub_cons rfl (psub_cons rfl (psub_cons rfl (psub_cons rfl (psub_nil _))))) (ih514 h511 x568 hI fr fl512 (by omega) (by omega))
                                · exfalso; omega
                      exact lp510 _ h495 (0 : Int32) hI fr (FR.rf _ _) (by decide) (Nat.lt_succ_self _)
                · show RUN d_X9_goSecond 115 [(3, .inl x11), (0, .inr (.inr (.inl 96))), (1, .inl a0), (2, .inl a1)] [.inl x399] h9 _
                  refine N_if_ne (a := x399.toInt) 164 rfl rfl rfl (fun c570 => ?_) (fun c570 => ?_)
                  · refine R_iconst 0 rfl rfl ?_
                    refine R_istore_n (k := 3) rfl [(3, .inl 0), (0, .inr (.inr (.inl 96))), (1, .inl a0), (2, .inl a1)] rfl rfl (by decide) ?_
                    have lp572 : ∀ (n571 : Nat) (h573 : PH) (x575 : Int32), INV h573 → FR [96, 107, 108, 109, 117, 118] h h573 → FR [107] h9 h573 → 0 ≤ x575.toInt ∧ x575.toInt ≤ 6 → (6 - x575.toInt).toNat < n571 → RUN d_X9_goSecond 166 [(3, .inl x575), (0, .inr (.inr (.inl 96))), (1, .inl a0), (2, .inl a1)] [] h573 (q_X9_goSecond h a0 a1) := by
                      intro n571
                      induction n571 with
                      | zero => intro h573 x575 m577 m578 m579 m580 hz; exact absurd hz (Nat.not_lt_zero _)
                      | succ n571 ih576 =>
                        intro h573 x575 hI fr fl574 m580 hz
                        have s581 : (h573.1 96 41).toInt = (h9.1 96 41).toInt := by rw [(fl574 96 (by decide)).1]
                        have s582 : (h573.1 96 42).toInt = (h9.1 96 42).toInt := by rw [(fl574 96 (by decide)).1]
                        have s583 : (h573.1 96 19).toInt = (h9.1 96 19).toInt := by rw [(fl574 96 (by decide)).1]
                        have s584 : (h573.1 96 18).toInt = (h9.1 96 18).toInt := by rw [(fl574 96 (by decide)).1]
                        have s585 : (h573.1 96 20).toInt = (h9.1 96 20).toInt := by rw [(fl574 96 (by decide)).1]
                        have s586 : (h573.1 96 46).toInt = (h9.1 96 46).toInt := by rw [(fl574 96 (by decide)).1]
                        have s587 : (h573.1 96 44).toInt = (h9.1 96 44).toInt := by rw [(fl574 96 (by decide)).1]
                        have s588 : (h573.1 96 47).toInt = (h9.1 96 47).toInt := by rw [(fl574 96 (by decide)).1]
                        have s589 : (h573.1 96 48).toInt = (h9.1 96 48).toInt := by rw [(fl574 96 (by decide)).1]
                        have s590 : (h573.1 96 51).toInt = (h9.1 96 51).toInt := by rw [(fl574 96 (by decide)).1]
                        have s591 : (h573.1 105 0).toInt = (h9.1 105 0).toInt := by rw [(fl574 105 (by decide)).1]
                        have fl10 : FR [96, 107, 108, 109, 117, 118] h h573 := fl10.trans fl574 (by decide)
                        refine R_iload_n (k := 3) rfl rfl rfl ?_
                        refine R_aload_n (k := 0) rfl rfl rfl ?_
                        refine R_getf_i (j := 18) rfl ft_9_253 sh_96 rfl ?_
                        refine N_icmp_ge (a := x575.toInt) (b := (h573.1 96 18).toInt) 224 rfl rfl rfl rfl (fun c592 => ?_) (fun c592 => ?_)
                        · exact R_vret rfl rfl ⟨hI, fr, ⟨by omega, by omega, by omega, by omega, by omega, by omega, by omega, by omega, by omega, by omega, trivial⟩, rfl⟩
                        · refine R_aload_n (k := 0) rfl rfl rfl ?_
                          refine R_getf_r (j := 22) rfl ft_9_46 sh_96 rfl ?_
                          refine R_aload_n (k := 0) rfl rfl rfl ?_
                          refine R_getf_r (j := 17) rfl ft_9_40 sh_96 rfl ?_
                          refine R_iload_n (k := 3) rfl rfl rfl ?_
                          refine R_iald rfl sh_105 ⟨by omega, by omega⟩ ?_
                          refine N_bd (lo := 0) (hi := 5) (hI.1 105 _) (fun x593 q594 => ?_)
                          refine R_iald rfl sh_107 ⟨by omega, by omega⟩ ?_
                          refine N_any (fun x595 => ?_)
                          refine R_iconst (-1) rfl rfl ?_
                          refine N_icmp_eq (a := x595.toInt) (b := (-1)) 218 rfl rfl rfl (by decide) (fun c596 => ?_) (fun c596 => ?_)
                          · refine N_iinc (a := x575.toInt) (c := 1) (fun w => [(3, .inl w), (0, .inr (.inr (.inl 96))), (1, .inl a0), (2, .inl a1)]) rfl rfl (fun _ => rfl) (by decide) rfl (by decide) (by omega) (fun x597 q598 => ?_)
                            refine R_goto 166 rfl rfl ?_
                            exact RUN_weak (psub_cons rfl (psub_cons rfl (psub_cons rfl (psub_cons rfl (psub_nil _))))) (ih576 h573 x597 hI fr fl574 (by omega) (by omega))
                          · refine R_aload_n (k := 0) rfl rfl rfl ?_
                            refine R_aload_n (k := 0) rfl rfl rfl ?_
                            refine R_getf_r (j := 17) rfl ft_9_40 sh_96 rfl ?_
                            refine R_iload_n (k := 3) rfl rfl rfl ?_
                            refine R_iald rfl sh_105 ⟨by omega, by omega⟩ ?_
                            refine N_bd (lo := 0) (hi := 5) (hI.1 105 _) (fun x599 q600 => ?_)
                            refine R_iload_n (k := 1) rfl rfl rfl ?_
                            refine R_callV (v := .inr (.inr (.inl 96))) (As := [.inl x599, .inl a0]) (rest := []) rfl mt_9_i271 pp_X9_doesRest (by decide) rfl rfl rfl (Nat.le_of_ble_eq_true rfl) (Nat.le_of_ble_eq_true rfl) ((k_X9_doesRest h573 hI x599 a0 (by omega) (by omega)).mono (fun r601 h602 p603 => ?_))
                            obtain ⟨rfl, x604, rfl, q605 | q605 | q605⟩ := p603
                            · exfalso; omega
                            · show RUN d_X9_goSecond 200 [(3, .inl x575), (0, .inr (.inr (.inl 96))), (1, .inl a0), (2, .inl a1)] [.inl x604] h573 _
                              refine N_if_ne (a := x604.toInt) 218 rfl rfl rfl (fun c606 => ?_) (fun c606 => ?_)
                              · exfalso; omega
                              · refine R_aload_n (k := 0) rfl rfl rfl ?_
                                refine R_getf_r (j := 22) rfl ft_9_46 sh_96 rfl ?_
                                refine R_aload_n (k := 0) rfl rfl rfl ?_
                                refine R_getf_r (j := 17) rfl ft_9_40 sh_96 rfl ?_
                                refine R_iload_n (k := 3) rfl rfl rfl ?_
                                refine R_iald rfl sh_105 ⟨by omega, by omega⟩ ?_
                                refine N_bd (lo := 0) (hi := 5) (hI.1 105 _) (fun x607 q608 => ?_)
                                refine R_dup2 rfl ?_
                                refine R_iald rfl sh_107 ⟨by omega, by omega⟩ ?_
                                refine N_any (fun x609 => ?_)
                                refine R_iconst 1 rfl rfl ?_
                                have b610 := i_rng x609
                                refine R_iadd rfl ?_
                                refine N_any (fun x611 => ?_)
                                refine K_iast (a := x607.toInt) (lo := (-2147483648)) (hi' := 2147483647) rfl sh_107 rfl ⟨by omega, by omega⟩ hI (by decide) rfl (i_rng _) fr (by decide) (fun h612 g613 hI fr => ?_)
                                have fl574 : FR [107] h9 h612 := by rw [g613]; exact FR_wI _ _ fl574 (by decide)
                                have fl10 : FR [96, 107, 108, 109, 117, 118] h h612 := by rw [g613]; exact FR_wI _ _ fl10 (by decide)
                                have s614 : (h612.1 96 41).toInt = (h573.1 96 41).toInt := by rw [g613, wI_ne _ _ _ (by decide)]
                                have s615 : (h612.1 96 42).toInt = (h573.1 96 42).toInt := by rw [g613, wI_ne _ _ _ (by decide)]
                                have s616 : (h612.1 96 19).toInt = (h573.1 96 19).toInt := by rw [g613, wI_ne _ _ _ (by decide)]
                                have s617 : (h612.1 96 18).toInt = (h573.1 96 18).toInt := by rw [g613, wI_ne _ _ _ (by decide)]
                                have s618 : (h612.1 96 20).toInt = (h573.1 96 20).toInt := by rw [g613, wI_ne _ _ _ (by decide)]
                                have s619 : (h612.1 96 46).toInt = (h573.1 96 46).toInt := by rw [g613, wI_ne _ _ _ (by decide)]
                                have s620 : (h612.1 96 44).toInt = (h573.1 96 44).toInt := by rw [g613, wI_ne _ _ _ (by decide)]
                                have s621 : (h612.1 96 47).toInt = (h573.1 96 47).toInt := by rw [g613, wI_ne _ _ _ (by decide)]
                                have s622 : (h612.1 96 48).toInt = (h573.1 96 48).toInt := by rw [g613, wI_ne _ _ _ (by decide)]
                                have s623 : (h612.1 96 51).toInt = (h573.1 96 51).toInt := by rw [g613, wI_ne _ _ _ (by decide)]
                                have s624 : (h612.1 105 0).toInt = (h573.1 105 0).toInt := by rw [g613, wI_ne _ _ _ (by decide)]
                                refine N_iinc (a := x575.toInt) (c := 1) (fun w => [(3, .inl w), (0, .inr (.inr (.inl 96))), (1, .inl a0), (2, .inl a1)]) rfl rfl (fun _ => rfl) (by decide) rfl (by decide) (by omega) (fun x625 q626 => ?_)
                                refine R_goto 166 rfl rfl ?_
                                exact RUN_weak (psub_cons rfl (psub_cons rfl (psub_cons rfl (psub_cons rfl (psub_nil _))))) (ih576 h612 x625 hI fr fl574 (by omega) (by omega))
                            · show RUN d_X9_goSecond 200 [(3, .inl x575), (0, .inr (.inr (.inl 96))), (1, .inl a0), (2, .inl a1)] [.inl x604] h573 _
                              refine N_if_ne (a := x604.toInt) 218 rfl rfl rfl (fun c627 => ?_) (fun c627 => ?_)
                              · refine N_iinc (a := x575.toInt) (c := 1) (fun w => [(3, .inl w), (0, .inr (.inr (.inl 96))), (1, .inl a0), (2, .inl a1)]) rfl rfl (fun _ => rfl) (by decide) rfl (by decide) (by omega) (fun x628 q629 => ?_)
                                refine R_goto 166 rfl rfl ?_
                                exact RUN_weak (psub_cons rfl (psub_cons rfl (psub_cons rfl (psub_cons rfl (psub_nil _))))) (ih576 h573 x628 hI fr fl574 (by omega) (by omega))
                              · exfalso; omega
                    exact lp572 _ h9 (0 : Int32) hI fr (FR.rf _ _) (by decide) (Nat.lt_succ_self _)
                  · exfalso; omega
          · refine R_aload_n (k := 0) rfl rfl rfl ?_
            refine R_iload_n (k := 3) rfl rfl rfl ?_
            refine R_iload_n (k := 1) rfl rfl rfl ?_
            refine R_callV (v := .inr (.inr (.inl 96))) (As := [.inl x11, .inl a0]) (rest := []) rfl mt_9_i278 pp_X9_goPlace (by decide) rfl rfl rfl (Nat.le_of_ble_eq_true rfl) (Nat.le_of_ble_eq_true rfl) ((k_X9_goPlace h9 hI x11 a0 (by omega) (by omega) (by omega)).mono (fun r630 h631 p632 => ?_))
            obtain ⟨hJ, fj, ⟨kp633, kp634, kp635, kp636, kp637, kp638, kp639, kp640, kp641, kp642, -⟩, rfl⟩ := p632
            have f643 := fj
            have fr := fr.trans fj (by decide)
            have hI := hJ
            have fl10 : FR [96, 107, 108, 109, 117, 118] h h631 := fl10.trans fj (by decide)
            show RUN d_X9_goSecond 76 [(3, .inl x11), (0, .inr (.inr (.inl 96))), (1, .inl a0), (2, .inl a1)] [] h631 _
            refine N_iinc (a := x11.toInt) (c := (-1)) (fun w => [(3, .inl w), (0, .inr (.inr (.inl 96))), (1, .inl a0), (2, .inl a1)]) rfl rfl (fun _ => rfl) (by decide) rfl (by decide) (by omega) (fun x644 q645 => ?_)
            refine R_goto 62 rfl rfl ?_
            exact RUN_weak (psub_cons rfl (psub_cons rfl (psub_cons rfl (psub_cons rfl (psub_nil _))))) (ih12 h631 x644 hI fr fl10 (by omega) (by omega) (by omega) (by omega) (by omega) (by omega) (by omega) (by omega) (by omega) (by omega) (by omega) (by omega) (by omega))
    exact lp8 _ h x5 hI fr (FR.rf _ _) (by omega) rfl rfl rfl rfl rfl rfl rfl rfl rfl rfl (by omega) (Nat.lt_succ_self _)
  · refine R_aload_n (k := 0) rfl rfl rfl ?_
    refine R_getf_r (j := 24) rfl ft_9_52 sh_96 rfl ?_
    refine R_iconst 0 rfl rfl ?_
    refine R_dup2 rfl ?_
    refine R_iald rfl sh_109 (by decide) ?_
    show RUN d_X9_goSecond 11 [(0, .inr (.inr (.inl 96))), (1, .inl a0), (2, .inl a1)] [.inl (h.1 109 0), .inl 0, .inr (.inr (.inl 109))] h _
    refine R_aload_n (k := 0) rfl rfl rfl ?_
    refine R_getf_r (j := 24) rfl ft_9_52 sh_96 rfl ?_
    refine R_iconst 1 rfl rfl ?_
    refine R_iald rfl sh_109 (by decide) ?_
    show RUN d_X9_goSecond 17 [(0, .inr (.inr (.inl 96))), (1, .inl a0), (2, .inl a1)] [.inl (h.1 109 1), .inl (h.1 109 0), .inl 0, .inr (.inr (.inl 109))] h _
    have b646 := i_rng (h.1 109 0)
    have b647 := i_rng (h.1 109 1)
    refine R_iadd rfl ?_
    refine N_any (fun x648 => ?_)
    refine K_iast (a := 0) (lo := (-2147483648)) (hi' := 2147483647) rfl sh_109 (by decide) (by decide) hI (by decide) rfl (i_rng _) fr (by decide) (fun h649 g650 hI fr => ?_)
    have s651 : (h649.1 96 34).toInt = (h.1 96 34).toInt := by rw [g650, wI_ne _ _ _ (by decide)]
    have s652 : (h649.1 96 35).toInt = (h.1 96 35).toInt := by rw [g650, wI_ne _ _ _ (by decide)]
    have s653 : (h649.1 96 36).toInt = (h.1 96 36).toInt := by rw [g650, wI_ne _ _ _ (by decide)]
    have s654 : (h649.1 96 41).toInt = (h.1 96 41).toInt := by rw [g650, wI_ne _ _ _ (by decide)]
    have s655 : (h649.1 96 42).toInt = (h.1 96 42).toInt := by rw [g650, wI_ne _ _ _ (by decide)]
    have s656 : (h649.1 96 19).toInt = (h.1 96 19).toInt := by rw [g650, wI_ne _ _ _ (by decide)]
    have s657 : (h649.1 96 18).toInt = (h.1 96 18).toInt := by rw [g650, wI_ne _ _ _ (by decide)]
    have s658 : (h649.1 96 20).toInt = (h.1 96 20).toInt := by rw [g650, wI_ne _ _ _ (by decide)]
    have s659 : (h649.1 96 46).toInt = (h.1 96 46).toInt := by rw [g650, wI_ne _ _ _ (by decide)]
    have s660 : (h649.1 96 44).toInt = (h.1 96 44).toInt := by rw [g650, wI_ne _ _ _ (by decide)]
    have s661 : (h649.1 96 47).toInt = (h.1 96 47).toInt := by rw [g650, wI_ne _ _ _ (by decide)]
    have s662 : (h649.1 96 48).toInt = (h.1 96 48).toInt := by rw [g650, wI_ne _ _ _ (by decide)]
    have s663 : (h649.1 96 51).toInt = (h.1 96 51).toInt := by rw [g650, wI_ne _ _ _ (by decide)]
    have s664 : (h649.1 109 1).toInt = (h.1 109 1).toInt := by rw [g650, show (0 : Int32).toNatClampNeg = 0 from rfl, wI_at (by decide)]
    have s665 : (h649.1 109 0).toInt = x648.toInt := by rw [g650, show (0 : Int32).toNatClampNeg = 0 from rfl, wI_is]
    refine R_iconst 1 rfl rfl ?_
    refine R_istore_n (k := 3) rfl [(3, .inl 1), (0, .inr (.inr (.inl 96))), (1, .inl a0), (2, .inl a1)] rfl rfl (by decide) ?_
    have lp667 : ∀ (n666 : Nat) (h668 : PH) (x670 : Int32), INV h668 → FR [96, 107, 108, 109, 117, 118] h h668 → FR [96, 107, 108, 109, 117, 118] h649 h668 → 1 ≤ x670.toInt ∧ x670.toInt ≤ 22 → (h668.1 96 41).toInt = (h649.1 96 41).toInt → (h668.1 96 42).toInt = (h649.1 96 42).toInt → (h668.1 96 19).toInt = (h649.1 96 19).toInt → (h668.1 96 18).toInt = (h649.1 96 18).toInt → (h668.1 96 20).toInt = (h649.1 96 20).toInt → (h668.1 96 46).toInt = (h649.1 96 46).toInt → (h668.1 96 44).toInt = (h649.1 96 44).toInt → (h668.1 96 47).toInt = (h649.1 96 47).toInt → (h668.1 96 48).toInt = (h649.1 96 48).toInt → (h668.1 96 51).toInt = (h649.1 96 51).toInt → True → True → True → (22 - x670.toInt).toNat < n666 → RUN d_X9_goSecond 21 [(3, .inl x670), (0, .inr (.inr (.inl 96))), (1, .inl a0), (2, .inl a1)] [] h668 (q_X9_goSecond h a0 a1) := by
      intro n666
      induction n666 with
      | zero => intro h668 x670 m672 m673 m674 m675 m676 m677 m678 m679 m680 m681 m682 m683 m684 m685 m686 m687 m688 hz; exact absurd hz (Nat.not_lt_zero _)
      | succ n666 ih671 =>
        intro h668 x670 hI fr fl669 m675 m676 m677 m678 m679 m680 m681 m682 m683 m684 m685 m686 m687 m688 hz
        refine R_iload_n (k := 3) rfl rfl rfl ?_
        refine R_bipush 22 rfl rfl ?_
        refine N_icmp_ge (a := x670.toInt) (b := 22) 47 rfl rfl rfl (by decide) (fun c689 => ?_) (fun c689 => ?_)
        · refine R_aload_n (k := 0) rfl rfl rfl ?_
          refine R_getf_r (j := 24) rfl ft_9_52 sh_96 rfl ?_
          refine R_bipush 22 rfl rfl ?_
          refine R_iconst 0 rfl rfl ?_
          refine K_iast (a := 22) (lo := (-2147483648)) (hi' := 2147483647) rfl sh_109 (by decide) (by decide) hI (by decide) rfl (by decide) fr (by decide) (fun h690 g691 hI fr => ?_)
          have fl669 : FR [96, 107, 108, 109, 117, 118] h649 h690 := by rw [g691]; exact FR_wI _ _ fl669 (by decide)
          have s692 : (h690.1 96 34).toInt = (h668.1 96 34).toInt := by rw [g691, wI_ne _ _ _ (by decide)]
          have s693 : (h690.1 96 35).toInt = (h668.1 96 35).toInt := by rw [g691, wI_ne _ _ _ (by decide)]
          have s694 : (h690.1 96 36).toInt = (h668.1 96 36).toInt := by rw [g691, wI_ne _ _ _ (by decide)]
          have s695 : (h690.1 96 41).toInt = (h668.1 96 41).toInt := by rw [g691, wI_ne _ _ _ (by decide)]
          have s696 : (h690.1 96 42).toInt = (h668.1 96 42).toInt := by rw [g691, wI_ne _ _ _ (by decide)]
          have s697 : (h690.1 96 19).toInt = (h668.1 96 19).toInt := by rw [g691, wI_ne _ _ _ (by decide)]
          have s698 : (h690.1 96 18).toInt = (h668.1 96 18).toInt := by rw [g691, wI_ne _ _ _ (by decide)]
          have s699 : (h690.1 96 20).toInt = (h668.1 96 20).toInt := by rw [g691, wI_ne _ _ _ (by decide)]
          have s700 : (h690.1 96 46).toInt = (h668.1 96 46).toInt := by rw [g691, wI_ne _ _ _ (by decide)]
          have s701 : (h690.1 96 44).toInt = (h668.1 96 44).toInt := by rw [g691, wI_ne _ _ _ (by decide)]
          have s702 : (h690.1 96 47).toInt = (h668.1 96 47).toInt := by rw [g691, wI_ne _ _ _ (by decide)]
          have s703 : (h690.1 96 48).toInt = (h668.1 96 48).toInt := by rw [g691, wI_ne _ _ _ (by decide)]
          have s704 : (h690.1 96 51).toInt = (h668.1 96 51).toInt := by rw [g691, wI_ne _ _ _ (by decide)]
          have s705 : (h690.1 109 22).toInt = 0 := by rw [g691, show (22 : Int32).toNatClampNeg = 22 from rfl, wI_is]; rfl
          refine R_aload_n (k := 0) rfl rfl rfl ?_
          refine R_getf_i (j := 18) rfl ft_9_253 sh_96 rfl ?_
          refine R_iconst 1 rfl rfl ?_
          refine N_isub (a := (h690.1 96 18).toInt) (b := 1) rfl rfl (by decide) (by omega) (fun x706 q707 => ?_)
          refine R_istore_n (k := 3) rfl [(3, .inl x706), (0, .inr (.inr (.inl 96))), (1, .inl a0), (2, .inl a1)] rfl rfl (by decide) ?_
          have lp709 : ∀ (n708 : Nat) (h710 : PH) (x712 : Int32), INV h710 → FR [96, 107, 108, 109, 117, 118] h h710 → FR [96, 107, 108, 109, 117, 118] h690 h710 → (-1) ≤ x712.toInt ∧ x712.toInt ≤ 5 → (h710.1 96 41).toInt = (h690.1 96 41).toInt → (h710.1 96 42).toInt = (h690.1 96 42).toInt → (h710.1 96 19).toInt = (h690.1 96 19).toInt → (h710.1 96 18).toInt = (h690.1 96 18).toInt → (h710.1 96 20).toInt = (h690.1 96 20).toInt → (h710.1 96 46).toInt = (h690.1 96 46).toInt → (h710.1 96 44).toInt = (h690.1 96 44).toInt → (h710.1 96 47).toInt = (h690.1 96 47).toInt → (h710.1 96 48).toInt = (h690.1 96 48).toInt → (h710.1 96 51).toInt = (h690.1 96 51).toInt → x712.toInt ≤ (h690.1 96 18).toInt + (-1) → (x712.toInt - (-1)).toNat < n708 → RUN d_X9_goSecond 62 [(3, .inl x712), (0, .inr (.inr (.inl 96))), (1, .inl a0), (2, .inl a1)] [] h710 (q_X9_goSecond h a0 a1) := by
            intro n708
            induction n708 with
            | zero => intro h710 x712 m714 m715 m716 m717 m718 m719 m720 m721 m722 m723 m724 m725 m726 m727 m728 hz; exact absurd hz (Nat.not_lt_zero _)
            | succ n708 ih713 =>
              intro h710 x712 hI fr fl711 m717 m718 m719 m720 m721 m722 m723 m724 m725 m726 m727 m728 hz
              have fl669 : FR [96, 107, 108, 109, 117, 118] h649 h710 := fl669.trans fl711 (by decide)
              refine R_iload_n (k := 3) rfl rfl rfl ?_
              refine N_if_lt (a := x712.toInt) 82 rfl rfl rfl (fun c729 => ?_) (fun c729 => ?_)
              · refine R_aload_n (k := 0) rfl rfl rfl ?_
                refine R_getf_i (j := 18) rfl ft_9_253 sh_96 rfl ?_
                refine N_if_le (a := (h710.1 96 18).toInt) 164 rfl rfl rfl (fun c730 => ?_) (fun c730 => ?_)
                · refine R_iconst 0 rfl rfl ?_
                  refine R_istore_n (k := 3) rfl [(3, .inl 0), (0, .inr (.inr (.inl 96))), (1, .inl a0), (2, .inl a1)] rfl rfl (by decide) ?_
                  have lp732 : ∀ (n731 : Nat) (x733 : Int32), 0 ≤ x733.toInt ∧ x733.toInt ≤ 0 → 0 < n731 → RUN d_X9_goSecond 166 [(3, .inl x733), (0, .inr (.inr (.inl 96))), (1, .inl a0), (2, .inl a1)] [] h710 (q_X9_goSecond h a0 a1) := by
                    intro n731
                    induction n731 with
                    | zero => intro x733 m735 hz; exact absurd hz (Nat.not_lt_zero _)
                    | succ n731 ih734 =>
                      intro x733 m735 hz
                      refine R_iload_n (k := 3) rfl rfl rfl ?_
                      refine R_aload_n (k := 0) rfl rfl rfl ?_
                      refine R_getf_i (j := 18) rfl ft_9_253 sh_96 rfl ?_
                      refine N_icmp_ge (a := x733.toInt) (b := (h710.1 96 18).toInt) 224 rfl rfl rfl rfl (fun c736 => ?_) (fun c736 => ?_)
                      · exact R_vret rfl rfl ⟨hI, fr, ⟨by omega, by omega, by omega, by omega, by omega, by omega, by omega, by omega, by omega, by omega, trivial⟩, rfl⟩
                      · exfalso; omega
                  exact lp732 _ (0 : Int32) (by decide) (Nat.lt_succ_self _)
                · refine R_aload_n (k := 0) rfl rfl rfl ?_
                  refine R_getf_r (j := 22) rfl ft_9_46 sh_96 rfl ?_
                  refine R_aload_n (k := 0) rfl rfl rfl ?_
                  refine R_getf_r (j := 17) rfl ft_9_40 sh_96 rfl ?_
                  refine R_iconst 0 rfl rfl ?_
                  refine R_iald rfl sh_105 (by decide) ?_
                  have b737 : (0 : Int) ≤ (h710.1 105 0).toInt ∧ (h710.1 105 0).toInt ≤ 5 := hI.1 105 0
                  show RUN d_X9_goSecond 99 [(3, .inl x712), (0, .inr (.inr (.inl 96))), (1, .inl a0), (2, .inl a1)] [.inl (h710.1 105 0), .inr (.inr (.inl 107))] h710 _
                  refine R_iald rfl sh_107 ⟨by omega, by omega⟩ ?_
                  refine N_any (fun x738 => ?_)
                  refine R_iconst (-1) rfl rfl ?_
                  refine N_icmp_ne (a := x738.toInt) (b := (-1)) 164 rfl rfl rfl (by decide) (fun c739 => ?_) (fun c739 => ?_)
                  · refine R_iconst 0 rfl rfl ?_
                    refine R_istore_n (k := 3) rfl [(3, .inl 0), (0, .inr (.inr (.inl 96))), (1, .inl a0), (2, .inl a1)] rfl rfl (by decide) ?_
                    have lp741 : ∀ (n740 : Nat) (h742 : PH) (x744 : Int32), INV h742 → FR [96, 107, 108, 109, 117, 118] h h742 → FR [107] h710 h742 → 0 ≤ x744.toInt ∧ x744.toInt ≤ 6 → (6 - x744.toInt).toNat < n740 → RUN d_X9_goSecond 166 [(3, .inl x744), (0, .inr (.inr (.inl 96))), (1, .inl a0), (2, .inl a1)] [] h742 (q_X9_goSecond h a0 a1) := by
                      intro n740
                      induction n740 with
                      | zero => intro h742 x744 m746 m747 m748 m749 hz; exact absurd hz (Nat.not_lt_zero _)
                      | succ n740 ih745 =>
                        intro h742 x744 hI fr fl743 m749 hz
                        have s750 : (h742.1 96 41).toInt = (h710.1 96 41).toInt := by rw [(fl743 96 (by decide)).1]
                        have s751 : (h742.1 96 42).toInt = (h710.1 96 42).toInt := by rw [(fl743 96 (by decide)).1]
                        have s752 : (h742.1 96 19).toInt = (h710.1 96 19).toInt := by rw [(fl743 96 (by decide)).1]
                        have s753 : (h742.1 96 18).toInt = (h710.1 96 18).toInt := by rw [(fl743 96 (by decide)).1]
                        have s754 : (h742.1 96 20).toInt = (h710.1 96 20).toInt := by rw [(fl743 96 (by decide)).1]
                        have s755 : (h742.1 96 46).toInt = (h710.1 96 46).toInt := by rw [(fl743 96 (by decide)).1]
                        have s756 : (h742.1 96 44).toInt = (h710.1 96 44).toInt := by rw [(fl743 96 (by decide)).1]
                        have s757 : (h742.1 96 47).toInt = (h710.1 96 47).toInt := by rw [(fl743 96 (by decide)).1]
                        have s758 : (h742.1 96 48).toInt = (h710.1 96 48).toInt := by rw [(fl743 96 (by decide)).1]
                        have s759 : (h742.1 96 51).toInt = (h710.1 96 51).toInt := by rw [(fl743 96 (by decide)).1]
                        have s760 : (h742.1 105 0).toInt = (h710.1 105 0).toInt := by rw [(fl743 105 (by decide)).1]
                        have fl711 : FR [96, 107, 108, 109, 117, 118] h690 h742 := fl711.trans fl743 (by decide)
                        have fl669 : FR [96, 107, 108, 109, 117, 118] h649 h742 := fl669.trans fl743 (by decide)
                        refine R_iload_n (k := 3) rfl rfl rfl ?_
                        refine R_aload_n (k := 0) rfl rfl rfl ?_
                        refine R_getf_i (j := 18) rfl ft_9_253 sh_96 rfl ?_
                        refine N_icmp_ge (a := x744.toInt) (b := (h742.1 96 18).toInt) 224 rfl rfl rfl rfl (fun c761 => ?_) (fun c761 => ?_)
                        · exact R_vret rfl rfl ⟨hI, fr, ⟨by omega, by omega, by omega, by omega, by omega, by omega, by omega, by omega, by omega, by omega, trivial⟩, rfl⟩
                        · refine R_aload_n (k := 0) rfl rfl rfl ?_
                          refine R_getf_r (j := 22) rfl ft_9_46 sh_96 rfl ?_
                          refine R_aload_n (k := 0) rfl rfl rfl ?_
                          refine R_getf_r (j := 17) rfl ft_9_40 sh_96 rfl ?_
                          refine R_iload_n (k := 3) rfl rfl rfl ?_
                          refine R_iald rfl sh_105 ⟨by omega, by omega⟩ ?_
                          refine N_bd (lo := 0) (hi := 5) (hI.1 105 _) (fun x762 q763 => ?_)
                          refine R_iald rfl sh_107 ⟨by omega, by omega⟩ ?_
                          refine N_any (fun x764 => ?_)
                          refine R_iconst (-1) rfl rfl ?_
                          refine N_icmp_eq (a := x764.toInt) (b := (-1)) 218 rfl rfl rfl (by decide) (fun c765 => ?_) (fun c765 => ?_)
                          · refine N_iinc (a := x744.toInt) (c := 1) (fun w => [(3, .inl w), (0, .inr (.inr (.inl 96))), (1, .inl a0), (2, .inl a1)]) rfl rfl (fun _ => rfl) (by decide) rfl (by decide) (by omega) (fun x766 q767 => ?_)
                            refine R_goto 166 rfl rfl ?_
                            exact RUN_weak (psub_cons rfl (psub_cons rfl (psub_cons rfl (psub_cons rfl (psub_nil _))))) (ih745 h742 x766 hI fr fl743 (by omega) (by omega))
                          · refine R_aload_n (k := 0) rfl rfl rfl ?_
                            refine R_aload_n (k := 0) rfl rfl rfl ?_
                            refine R_getf_r (j := 17) rfl ft_9_40 sh_96 rfl ?_
                            refine R_iload_n (k := 3) rfl rfl rfl ?_
                            refine R_iald rfl sh_105 ⟨by omega, by omega⟩ ?_
                            refine N_bd (lo := 0) (hi := 5) (hI.1 105 _) (fun x768 q769 => ?_)
                            refine R_iload_n (k := 1) rfl rfl rfl ?_
                            have b770 := i_rng a0
                            refine R_callV (v := .inr (.inr (.inl 96))) (As := [.inl x768, .inl a0]) (rest := []) rfl mt_9_i271 pp_X9_doesRest (by decide) rfl rfl rfl (Nat.le_of_ble_eq_true rfl) (Nat.le_of_ble_eq_true rfl) ((k_X9_doesRest h742 hI x768 a0 (by omega) (by omega)).mono (fun r771 h772 p773 => ?_))
                            obtain ⟨rfl, x774, rfl, q775 | q775 | q775⟩ := p773
                            · show RUN d_X9_goSecond 200 [(3, .inl x744), (0, .inr (.inr (.inl 96))), (1, .inl a0), (2, .inl a1)] [.inl x774] h742 _
                              refine N_if_ne (a := x774.toInt) 218 rfl rfl rfl (fun c776 => ?_) (fun c776 => ?_)
                              · exfalso; omega
                              · refine R_aload_n (k := 0) rfl rfl rfl ?_
                                refine R_getf_r (j := 22) rfl ft_9_46 sh_96 rfl ?_
                                refine R_aload_n (k := 0) rfl rfl rfl ?_
                                refine R_getf_r (j := 17) rfl ft_9_40 sh_96 rfl ?_
                                refine R_iload_n (k := 3) rfl rfl rfl ?_
                                refine R_iald rfl sh_105 ⟨by omega, by omega⟩ ?_
                                refine N_bd (lo := 0) (hi := 5) (hI.1 105 _) (fun x777 q778 => ?_)
                                refine R_dup2 rfl ?_
                                refine R_iald rfl sh_107 ⟨by omega, by omega⟩ ?_
                                refine N_any (fun x779 => ?_)
                                refine R_iconst 1 rfl rfl ?_
                                have b780 := i_rng x779
                                refine R_iadd rfl ?_
                                refine N_any (fun x781 => ?_)
                                refine K_iast (a := x777.toInt) (lo := (-2147483648)) (hi' := 2147483647) rfl sh_107 rfl ⟨by omega, by omega⟩ hI (by decide) rfl (i_rng _) fr (by decide) (fun h782 g783 hI fr => ?_)
                                have fl743 : FR [107] h710 h782 := by rw [g783]; exact FR_wI _ _ fl743 (by decide)
                                have fl711 : FR [96, 107, 108, 109, 117, 118] h690 h782 := by rw [g783]; exact FR_wI _ _ fl711 (by decide)
                                have fl669 : FR [96, 107, 108, 109, 117, 118] h649 h782 := by rw [g783]; exact FR_wI _ _ fl669 (by decide)
                                have s784 : (h782.1 96 41).toInt = (h742.1 96 41).toInt := by rw [g783, wI_ne _ _ _ (by decide)]
                                have s785 : (h782.1 96 42).toInt = (h742.1 96 42).toInt := by rw [g783, wI_ne _ _ _ (by decide)]
                                have s786 : (h782.1 96 19).toInt = (h742.1 96 19).toInt := by rw [g783, wI_ne _ _ _ (by decide)]
                                have s787 : (h782.1 96 18).toInt = (h742.1 96 18).toInt := by rw [g783, wI_ne _ _ _ (by decide)]
                                have s788 : (h782.1 96 20).toInt = (h742.1 96 20).toInt := by rw [g783, wI_ne _ _ _ (by decide)]
                                have s789 : (h782.1 96 46).toInt = (h742.1 96 46).toInt := by rw [g783, wI_ne _ _ _ (by decide)]
                                have s790 : (h782.1 96 44).toInt = (h742.1 96 44).toInt := by rw [g783, wI_ne _ _ _ (by decide)]
                                have s791 : (h782.1 96 47).toInt = (h742.1 96 47).toInt := by rw [g783, wI_ne _ _ _ (by decide)]
                                have s792 : (h782.1 96 48).toInt = (h742.1 96 48).toInt := by rw [g783, wI_ne _ _ _ (by decide)]
                                have s793 : (h782.1 96 51).toInt = (h742.1 96 51).toInt := by rw [g783, wI_ne _ _ _ (by decide)]
                                have s794 : (h782.1 105 0).toInt = (h742.1 105 0).toInt := by rw [g783, wI_ne _ _ _ (by decide)]
                                refine N_iinc (a := x744.toInt) (c := 1) (fun w => [(3, .inl w), (0, .inr (.inr (.inl 96))), (1, .inl a0), (2, .inl a1)]) rfl rfl (fun _ => rfl) (by decide) rfl (by decide) (by omega) (fun x795 q796 => ?_)
                                refine R_goto 166 rfl rfl ?_
                                exact RUN_weak (psub_cons rfl (psub_cons rfl (psub_cons rfl (psub_cons rfl (psub_nil _))))) (ih745 h782 x795 hI fr fl743 (by omega) (by omega))
                            · show RUN d_X9_goSecond 200 [(3, .inl x744), (0, .inr (.inr (.inl 96))), (1, .inl a0), (2, .inl a1)] [.inl x774] h742 _
                              refine N_if_ne (a := x774.toInt) 218 rfl rfl rfl (fun c797 => ?_) (fun c797 => ?_)
                              · exfalso; omega
                              · refine R_aload_n (k := 0) rfl rfl rfl ?_
                                refine R_getf_r (j := 22) rfl ft_9_46 sh_96 rfl ?_
                                refine R_aload_n (k := 0) rfl rfl rfl ?_
                                refine R_getf_r (j := 17) rfl ft_9_40 sh_96 rfl ?_
                                refine R_iload_n (k := 3) rfl rfl rfl ?_
                                refine R_iald rfl sh_105 ⟨by omega, by omega⟩ ?_
                                refine N_bd (lo := 0) (hi := 5) (hI.1 105 _) (fun x798 q799 => ?_)
                                refine R_dup2 rfl ?_
                                refine R_iald rfl sh_107 ⟨by omega, by omega⟩ ?_
                                refine N_any (fun x800 => ?_)
                                refine R_iconst 1 rfl rfl ?_
                                have b801 := i_rng x800
                                refine R_iadd rfl ?_
                                refine N_any (fun x802 => ?_)
                                refine K_iast (a := x798.toInt) (lo := (-2147483648)) (hi' := 2147483647) rfl sh_107 rfl ⟨by omega, by omega⟩ hI (by decide) rfl (i_rng _) fr (by decide) (fun h803 g804 hI fr => ?_)
                                have fl743 : FR [107] h710 h803 := by rw [g804]; exact FR_wI _ _ fl743 (by decide)
                                have fl711 : FR [96, 107, 108, 109, 117, 118] h690 h803 := by rw [g804]; exact FR_wI _ _ fl711 (by decide)
                                have fl669 : FR [96, 107, 108, 109, 117, 118] h649 h803 := by rw [g804]; exact FR_wI _ _ fl669 (by decide)
                                have s805 : (h803.1 96 41).toInt = (h742.1 96 41).toInt := by rw [g804, wI_ne _ _ _ (by decide)]
                                have s806 : (h803.1 96 42).toInt = (h742.1 96 42).toInt := by rw [g804, wI_ne _ _ _ (by decide)]
                                have s807 : (h803.1 96 19).toInt = (h742.1 96 19).toInt := by rw [g804, wI_ne _ _ _ (by decide)]
                                have s808 : (h803.1 96 18).toInt = (h742.1 96 18).toInt := by rw [g804, wI_ne _ _ _ (by decide)]
                                have s809 : (h803.1 96 20).toInt = (h742.1 96 20).toInt := by rw [g804, wI_ne _ _ _ (by decide)]
                                have s810 : (h803.1 96 46).toInt = (h742.1 96 46).toInt := by rw [g804, wI_ne _ _ _ (by decide)]
                                have s811 : (h803.1 96 44).toInt = (h742.1 96 44).toInt := by rw [g804, wI_ne _ _ _ (by decide)]
                                have s812 : (h803.1 96 47).toInt = (h742.1 96 47).toInt := by rw [g804, wI_ne _ _ _ (by decide)]
                                have s813 : (h803.1 96 48).toInt = (h742.1 96 48).toInt := by rw [g804, wI_ne _ _ _ (by decide)]
                                have s814 : (h803.1 96 51).toInt = (h742.1 96 51).toInt := by rw [g804, wI_ne _ _ _ (by decide)]
                                have s815 : (h803.1 105 0).toInt = (h742.1 105 0).toInt := by rw [g804, wI_ne _ _ _ (by decide)]
                                refine N_iinc (a := x744.toInt) (c := 1) (fun w => [(3, .inl w), (0, .inr (.inr (.inl 96))), (1, .inl a0), (2, .inl a1)]) rfl rfl (fun _ => rfl) (by decide) rfl (by decide) (by omega) (fun x816 q817 => ?_)
                                refine R_goto 166 rfl rfl ?_
                                exact RUN_weak (psub_cons rfl (psub_cons rfl (psub_cons rfl (psub_cons rfl (psub_nil _))))) (ih745 h803 x816 hI fr fl743 (by omega) (by omega))
                            · show RUN d_X9_goSecond 200 [(3, .inl x744), (0, .inr (.inr (.inl 96))), (1, .inl a0), (2, .inl a1)] [.inl x774] h742 _
                              refine N_if_ne (a := x774.toInt) 218 rfl rfl rfl (fun c818 => ?_) (fun c818 => ?_)
                              · refine N_iinc (a := x744.toInt) (c := 1) (fun w => [(3, .inl w), (0, .inr (.inr (.inl 96))), (1, .inl a0), (2, .inl a1)]) rfl rfl (fun _ => rfl) (by decide) rfl (by decide) (by omega) (fun x819 q820 => ?_)
                                refine R_goto 166 rfl rfl ?_
                                exact RUN_weak (psub_cons rfl (psub_cons rfl (psub_cons rfl (psub_cons rfl (psub_nil _))))) (ih745 h742 x819 hI fr fl743 (by omega) (by omega))
                              · exfalso; omega
                    exact lp741 _ h710 (0 : Int32) hI fr (FR.rf _ _) (by decide) (Nat.lt_succ_self _)
                  · refine R_aload_n (k := 0) rfl rfl rfl ?_
                    refine R_aload_n (k := 0) rfl rfl rfl ?_
                    refine R_getf_r (j := 17) rfl ft_9_40 sh_96 rfl ?_
                    refine R_iconst 0 rfl rfl ?_
                    refine R_iald rfl sh_105 (by decide) ?_
                    show RUN d_X9_goSecond 111 [(3, .inl x712), (0, .inr (.inr (.inl 96))), (1, .inl a0), (2, .inl a1)] [.inl (h710.1 105 0), .inr (.inr (.inl 96))] h710 _
                    refine R_iload_n (k := 1) rfl rfl rfl ?_
                    have b821 := i_rng a0
                    refine R_callV (v := .inr (.inr (.inl 96))) (As := [.inl (h710.1 105 0), .inl a0]) (rest := []) rfl mt_9_i271 pp_X9_doesRest (by decide) rfl rfl rfl (Nat.le_of_ble_eq_true rfl) (Nat.le_of_ble_eq_true rfl) ((k_X9_doesRest h710 hI (h710.1 105 0) a0 (by omega) (by omega)).mono (fun r822 h823 p824 => ?_))
                    obtain ⟨rfl, x825, rfl, q826 | q826 | q826⟩ := p824
                    · show RUN d_X9_goSecond 115 [(3, .inl x712), (0, .inr (.inr (.inl 96))), (1, .inl a0), (2, .inl a1)] [.inl x825] h710 _
                      refine N_if_ne (a := x825.toInt) 164 rfl rfl rfl (fun c827 => ?_) (fun c827 => ?_)
                      · exfalso; omega
                      · refine R_aload_n (k := 0) rfl rfl rfl ?_
                        refine R_getf_r (j := 24) rfl ft_9_52 sh_96 rfl ?_
                        refine R_iconst 0 rfl rfl ?_
                        refine R_iald rfl sh_109 (by decide) ?_
                        show RUN d_X9_goSecond 124 [(3, .inl x712), (0, .inr (.inr (.inl 96))), (1, .inl a0), (2, .inl a1)] [.inl (h710.1 109 0)] h710 _
                        refine N_if_le (a := (h710.1 109 0).toInt) 164 rfl rfl rfl (fun c828 => ?_) (fun c828 => ?_)
                        · refine R_iconst 0 rfl rfl ?_
                          refine R_istore_n (k := 3) rfl [(3, .inl 0), (0, .inr (.inr (.inl 96))), (1, .inl a0), (2, .inl a1)] rfl rfl (by decide) ?_
                          have lp830 : ∀ (n829 : Nat) (h831 : PH) (x833 : Int32), INV h831 → FR [96, 107, 108, 109, 117, 118] h h831 → FR [107] h710 h831 → 0 ≤ x833.toInt ∧ x833.toInt ≤ 6 → (6 - x833.toInt).toNat < n829 → RUN d_X9_goSecond 166 [(3, .inl x833), (0, .inr (.inr (.inl 96))), (1, .inl a0), (2, .inl a1)] [] h831 (q_X9_goSecond h a0 a1) := by
                            intro n829
                            induction n829 with
                            | zero => intro h831 x833 m835 m836 m837 m838 hz; exact absurd hz (Nat.not_lt_zero _)
                            | succ n829 ih834 =>
                              intro h831 x833 hI fr fl832 m838 hz
                              have s839 : (h831.1 96 41).toInt = (h710.1 96 41).toInt := by rw [(fl832 96 (by decide)).1]
                              have s840 : (h831.1 96 42).toInt = (h710.1 96 42).toInt := by rw [(fl832 96 (by decide)).1]
                              have s841 : (h831.1 96 19).toInt = (h710.1 96 19).toInt := by rw [(fl832 96 (by decide)).1]
                              have s842 : (h831.1 96 18).toInt = (h710.1 96 18).toInt := by rw [(fl832 96 (by decide)).1]
                              have s843 : (h831.1 96 20).toInt = (h710.1 96 20).toInt := by rw [(fl832 96 (by decide)).1]
                              have s844 : (h831.1 96 46).toInt = (h710.1 96 46).toInt := by rw [(fl832 96 (by decide)).1]
                              have s845 : (h831.1 96 44).toInt = (h710.1 96 44).toInt := by rw [(fl832 96 (by decide)).1]
                              have s846 : (h831.1 96 47).toInt = (h710.1 96 47).toInt := by rw [(fl832 96 (by decide)).1]
                              have s847 : (h831.1 96 48).toInt = (h710.1 96 48).toInt := by rw [(fl832 96 (by decide)).1]
                              have s848 : (h831.1 96 51).toInt = (h710.1 96 51).toInt := by rw [(fl832 96 (by decide)).1]
                              have s849 : (h831.1 105 0).toInt = (h710.1 105 0).toInt := by rw [(fl832 105 (by decide)).1]
                              have s850 : (h831.1 109 0).toInt = (h710.1 109 0).toInt := by rw [(fl832 109 (by decide)).1]
                              have fl711 : FR [96, 107, 108, 109, 117, 118] h690 h831 := fl711.trans fl832 (by decide)
                              have fl669 : FR [96, 107, 108, 109, 117, 118] h649 h831 := fl669.trans fl832 (by decide)
                              refine R_iload_n (k := 3) rfl rfl rfl ?_
                              refine R_aload_n (k := 0) rfl rfl rfl ?_
                              refine R_getf_i (j := 18) rfl ft_9_253 sh_96 rfl ?_
                              refine N_icmp_ge (a := x833.toInt) (b := (h831.1 96 18).toInt) 224 rfl rfl rfl rfl (fun c851 => ?_) (fun c851 => ?_)
                              · exact R_vret rfl rfl ⟨hI, fr, ⟨by omega, by omega, by omega, by omega, by omega, by omega, by omega, by omega, by omega, by omega, trivial⟩, rfl⟩
                              · refine R_aload_n (k := 0) rfl rfl rfl ?_
                                refine R_getf_r (j := 22) rfl ft_9_46 sh_96 rfl ?_
                                refine R_aload_n (k := 0) rfl rfl rfl ?_
                                refine R_getf_r (j := 17) rfl ft_9_40 sh_96 rfl ?_
                                refine R_iload_n (k := 3) rfl rfl rfl ?_
                                refine R_iald rfl sh_105 ⟨by omega, by omega⟩ ?_
                                refine N_bd (lo := 0) (hi := 5) (hI.1 105 _) (fun x852 q853 => ?_)
                                refine R_iald rfl sh_107 ⟨by omega, by omega⟩ ?_
                                refine N_any (fun x854 => ?_)
                                refine R_iconst (-1) rfl rfl ?_
                                refine N_icmp_eq (a := x854.toInt) (b := (-1)) 218 rfl rfl rfl (by decide) (fun c855 => ?_) (fun c855 => ?_)
                                · refine N_iinc (a := x833.toInt) (c := 1) (fun w => [(3, .inl w), (0, .inr (.inr (.inl 96))), (1, .inl a0), (2, .inl a1)]) rfl rfl (fun _ => rfl) (by decide) rfl (by decide) (by omega) (fun x856 q857 => ?_)
                                  refine R_goto 166 rfl rfl ?_
                                  exact RUN_weak (psub_cons rfl (psub_cons rfl (psub_cons rfl (psub_cons rfl (psub_nil _))))) (ih834 h831 x856 hI fr fl832 (by omega) (by omega))
                                · refine R_aload_n (k := 0) rfl rfl rfl ?_
                                  refine R_aload_n (k := 0) rfl rfl rfl ?_
                                  refine R_getf_r (j := 17) rfl ft_9_40 sh_96 rfl ?_
                                  refine R_iload_n (k := 3) rfl rfl rfl ?_
                                  refine R_iald rfl sh_105 ⟨by omega, by omega⟩ ?_
                                  refine N_bd (lo := 0) (hi := 5) (hI.1 105 _) (fun x858 q859 => ?_)
                                  refine R_iload_n (k := 1) rfl rfl rfl ?_
                                  have b860 := i_rng a0
                                  refine R_callV (v := .inr (.inr (.inl 96))) (As := [.inl x858, .inl a0]) (rest := []) rfl mt_9_i271 pp_X9_doesRest (by decide) rfl rfl rfl (Nat.le_of_ble_eq_true rfl) (Nat.le_of_ble_eq_true rfl) ((k_X9_doesRest h831 hI x858 a0 (by omega) (by omega)).mono (fun r861 h862 p863 => ?_))
                                  obtain ⟨rfl, x864, rfl, q865 | q865 | q865⟩ := p863
                                  · show RUN d_X9_goSecond 200 [(3, .inl x833), (0, .inr (.inr (.inl 96))), (1, .inl a0), (2, .inl a1)] [.inl x864] h831 _
                                    refine N_if_ne (a := x864.toInt) 218 rfl rfl rfl (fun c866 => ?_) (fun c866 => ?_)
                                    · exfalso; omega
                                    · refine R_aload_n (k := 0) rfl rfl rfl ?_
                                      refine R_getf_r (j := 22) rfl ft_9_46 sh_96 rfl ?_
                                      refine R_aload_n (k := 0) rfl rfl rfl ?_
                                      refine R_getf_r (j := 17) rfl ft_9_40 sh_96 rfl ?_
                                      refine R_iload_n (k := 3) rfl rfl rfl ?_
                                      refine R_iald rfl sh_105 ⟨by omega, by omega⟩ ?_
                                      refine N_bd (lo := 0) (hi := 5) (hI.1 105 _) (fun x867 q868 => ?_)
                                      refine R_dup2 rfl ?_
                                      refine R_iald rfl sh_107 ⟨by omega, by omega⟩ ?_
                                      refine N_any (fun x869 => ?_)
                                      refine R_iconst 1 rfl rfl ?_
                                      have b870 := i_rng x869
                                      refine R_iadd rfl ?_
                                      refine N_any (fun x871 => ?_)
                                      refine K_iast (a := x867.toInt) (lo := (-2147483648)) (hi' := 2147483647) rfl sh_107 rfl ⟨by omega, by omega⟩ hI (by decide) rfl (i_rng _) fr (by decide) (fun h872 g873 hI fr => ?_)
                                      have fl832 : FR [107] h710 h872 := by rw [g873]; exact FR_wI _ _ fl832 (by decide)
                                      have fl711 : FR [96, 107, 108, 109, 117, 118] h690 h872 := by rw [g873]; exact FR_wI _ _ fl711 (by decide)
                                      have fl669 : FR [96, 107, 108, 109, 117, 118] h649 h872 := by rw [g873]; exact FR_wI _ _ fl669 (by decide)
                                      have s874 : (h872.1 96 41).toInt = (h831.1 96 41).toInt := by rw [g873, wI_ne _ _ _ (by decide)]
                                      have s875 : (h872.1 96 42).toInt = (h831.1 96 42).toInt := by rw [g873, wI_ne _ _ _ (by decide)]
                                      have s876 : (h872.1 96 19).toInt = (h831.1 96 19).toInt := by rw [g873, wI_ne _ _ _ (by decide)]
                                      have s877 : (h872.1 96 18).toInt = (h831.1 96 18).toInt := by rw [g873, wI_ne _ _ _ (by decide)]
                                      have s878 : (h872.1 96 20).toInt = (h831.1 96 20).toInt := by rw [g873, wI_ne _ _ _ (by decide)]
                                      have s879 : (h872.1 96 46).toInt = (h831.1 96 46).toInt := by rw [g873, wI_ne _ _ _ (by decide)]
                                      have s880 : (h872.1 96 44).toInt = (h831.1 96 44).toInt := by rw [g873, wI_ne _ _ _ (by decide)]
                                      have s881 : (h872.1 96 47).toInt = (h831.1 96 47).toInt := by rw [g873, wI_ne _ _ _ (by decide)]
                                      have s882 : (h872.1 96 48).toInt = (h831.1 96 48).toInt := by rw [g873, wI_ne _ _ _ (by decide)]
                                      have s883 : (h872.1 96 51).toInt = (h831.1 96 51).toInt := by rw [g873, wI_ne _ _ _ (by decide)]
                                      have s884 : (h872.1 105 0).toInt = (h831.1 105 0).toInt := by rw [g873, wI_ne _ _ _ (by decide)]
                                      have s885 : (h872.1 109 0).toInt = (h831.1 109 0).toInt := by rw [g873, wI_ne _ _ _ (by decide)]
                                      refine N_iinc (a := x833.toInt) (c := 1) (fun w => [(3, .inl w), (0, .inr (.inr (.inl 96))), (1, .inl a0), (2, .inl a1)]) rfl rfl (fun _ => rfl) (by decide) rfl (by decide) (by omega) (fun x886 q887 => ?_)
                                      refine R_goto 166 rfl rfl ?_
                                      exact RUN_weak (psub_cons rfl (psub_cons rfl (psub_cons rfl (psub_cons rfl (psub_nil _))))) (ih834 h872 x886 hI fr fl832 (by omega) (by omega))
                                  · exfalso; omega
                                  · exfalso; omega
                          exact lp830 _ h710 (0 : Int32) hI fr (FR.rf _ _) (by decide) (Nat.lt_succ_self _)
                        · refine R_aload_n (k := 0) rfl rfl rfl ?_
                          refine R_getf_r (j := 24) rfl ft_9_52 sh_96 rfl ?_
                          refine R_iconst 0 rfl rfl ?_
                          refine R_dup2 rfl ?_
                          refine R_iald rfl sh_109 (by decide) ?_
                          show RUN d_X9_goSecond 134 [(3, .inl x712), (0, .inr (.inr (.inl 96))), (1, .inl a0), (2, .inl a1)] [.inl (h710.1 109 0), .inl 0, .inr (.inr (.inl 109))] h710 _
                          refine R_iconst 1 rfl rfl ?_
                          have b888 := i_rng (h710.1 109 0)
                          refine N_isub (a := (h710.1 109 0).toInt) (b := 1) rfl rfl (by decide) (by omega) (fun x889 q890 => ?_)
                          refine K_iast (a := 0) (lo := (-2147483648)) (hi' := 2147483647) rfl sh_109 (by decide) (by decide) hI (by decide) rfl (i_rng _) fr (by decide) (fun h891 g892 hI fr => ?_)
                          have fl711 : FR [96, 107, 108, 109, 117, 118] h690 h891 := by rw [g892]; exact FR_wI _ _ fl711 (by decide)
                          have fl669 : FR [96, 107, 108, 109, 117, 118] h649 h891 := by rw [g892]; exact FR_wI _ _ fl669 (by decide)
                          have s893 : (h891.1 96 41).toInt = (h710.1 96 41).toInt := by rw [g892, wI_ne _ _ _ (by decide)]
                          have s894 : (h891.1 96 42).toInt = (h710.1 96 42).toInt := by rw [g892, wI_ne _ _ _ (by decide)]
                          have s895 : (h891.1 96 19).toInt = (h710.1 96 19).toInt := by rw [g892, wI_ne _ _ _ (by decide)]
                          have s896 : (h891.1 96 18).toInt = (h710.1 96 18).toInt := by rw [g892, wI_ne _ _ _ (by decide)]
                          have s897 : (h891.1 96 20).toInt = (h710.1 96 20).toInt := by rw [g892, wI_ne _ _ _ (by decide)]
                          have s898 : (h891.1 96 46).toInt = (h710.1 96 46).toInt := by rw [g892, wI_ne _ _ _ (by decide)]
                          have s899 : (h891.1 96 44).toInt = (h710.1 96 44).toInt := by rw [g892, wI_ne _ _ _ (by decide)]
                          have s900 : (h891.1 96 47).toInt = (h710.1 96 47).toInt := by rw [g892, wI_ne _ _ _ (by decide)]
                          have s901 : (h891.1 96 48).toInt = (h710.1 96 48).toInt := by rw [g892, wI_ne _ _ _ (by decide)]
                          have s902 : (h891.1 96 51).toInt = (h710.1 96 51).toInt := by rw [g892, wI_ne _ _ _ (by decide)]
                          have s903 : (h891.1 105 0).toInt = (h710.1 105 0).toInt := by rw [g892, wI_ne _ _ _ (by decide)]
                          have s904 : (h891.1 109 0).toInt = x889.toInt := by rw [g892, show (0 : Int32).toNatClampNeg = 0 from rfl, wI_is]
                          refine R_aload_n (k := 0) rfl rfl rfl ?_
                          refine R_getf_r (j := 22) rfl ft_9_46 sh_96 rfl ?_
                          refine R_aload_n (k := 0) rfl rfl rfl ?_
                          refine R_getf_r (j := 17) rfl ft_9_40 sh_96 rfl ?_
                          refine R_iconst 0 rfl rfl ?_
                          refine R_iald rfl sh_105 (by decide) ?_
                          show RUN d_X9_goSecond 147 [(3, .inl x712), (0, .inr (.inr (.inl 96))), (1, .inl a0), (2, .inl a1)] [.inl (h891.1 105 0), .inr (.inr (.inl 107))] h891 _
                          refine R_iconst 0 rfl rfl ?_
                          refine K_iast (a := (h891.1 105 0).toInt) (lo := (-2147483648)) (hi' := 2147483647) rfl sh_107 rfl ⟨by omega, by omega⟩ hI (by decide) rfl (by decide) fr (by decide) (fun h905 g906 hI fr => ?_)
                          have fl711 : FR [96, 107, 108, 109, 117, 118] h690 h905 := by rw [g906]; exact FR_wI _ _ fl711 (by decide)
                          have fl669 : FR [96, 107, 108, 109, 117, 118] h649 h905 := by rw [g906]; exact FR_wI _ _ fl669 (by decide)
                          have s907 : (h905.1 96 41).toInt = (h891.1 96 41).toInt := by rw [g906, wI_ne _ _ _ (by decide)]
                          have s908 : (h905.1 96 42).toInt = (h891.1 96 42).toInt := by rw [g906, wI_ne _ _ _ (by decide)]
                          have s909 : (h905.1 96 19).toInt = (h891.1 96 19).toInt := by rw [g906, wI_ne _ _ _ (by decide)]
                          have s910 : (h905.1 96 18).toInt = (h891.1 96 18).toInt := by rw [g906, wI_ne _ _ _ (by decide)]
                          have s911 : (h905.1 96 20).toInt = (h891.1 96 20).toInt := by rw [g906, wI_ne _ _ _ (by decide)]
                          have s912 : (h905.1 96 46).toInt = (h891.1 96 46).toInt := by rw [g906, wI_ne _ _ _ (by decide)]
                          have s913 : (h905.1 96 44).toInt = (h891.1 96 44).toInt := by rw [g906, wI_ne _ _ _ (by decide)]
                          have s914 : (h905.1 96 47).toInt = (h891.1 96 47).toInt := by rw [g906, wI_ne _ _ _ (by decide)]
                          have s915 : (h905.1 96 48).toInt = (h891.1 96 48).toInt := by rw [g906, wI_ne _ _ _ (by decide)]
                          have s916 : (h905.1 96 51).toInt = (h891.1 96 51).toInt := by rw [g906, wI_ne _ _ _ (by decide)]
                          have s917 : (h905.1 105 0).toInt = (h891.1 105 0).toInt := by rw [g906, wI_ne _ _ _ (by decide)]
                          have s918 : (h905.1 109 0).toInt = (h891.1 109 0).toInt := by rw [g906, wI_ne _ _ _ (by decide)]
                          refine R_aload_n (k := 0) rfl rfl rfl ?_
                          refine R_getf_r (j := 23) rfl ft_9_49 sh_96 rfl ?_
                          refine R_aload_n (k := 0) rfl rfl rfl ?_
                          refine R_getf_r (j := 17) rfl ft_9_40 sh_96 rfl ?_
                          refine R_iconst 0 rfl rfl ?_
                          refine R_iald rfl sh_105 (by decide) ?_
                          show RUN d_X9_goSecond 159 [(3, .inl x712), (0, .inr (.inr (.inl 96))), (1, .inl a0), (2, .inl a1)] [.inl (h905.1 105 0), .inr (.inr (.inl 108))] h905 _
                          refine R_aload_n (k := 0) rfl rfl rfl ?_
                          refine R_getf_i (j := 20) rfl ft_9_259 sh_96 rfl ?_
                          refine K_iast (a := (h905.1 105 0).toInt) (lo := (-2147483648)) (hi' := 2147483647) rfl sh_108 rfl ⟨by omega, by omega⟩ hI (by decide) rfl (i_rng _) fr (by decide) (fun h919 g920 hI fr => ?_)
                          have fl711 : FR [96, 107, 108, 109, 117, 118] h690 h919 := by rw [g920]; exact FR_wI _ _ fl711 (by decide)
                          have fl669 : FR [96, 107, 108, 109, 117, 118] h649 h919 := by rw [g920]; exact FR_wI _ _ fl669 (by decide)
                          have s921 : (h919.1 96 41).toInt = (h905.1 96 41).toInt := by rw [g920, wI_ne _ _ _ (by decide)]
                          have s922 : (h919.1 96 42).toInt = (h905.1 96 42).toInt := by rw [g920, wI_ne _ _ _ (by decide)]
                          have s923 : (h919.1 96 19).toInt = (h905.1 96 19).toInt := by rw [g920, wI_ne _ _ _ (by decide)]
                          have s924 : (h919.1 96 18).toInt = (h905.1 96 18).toInt := by rw [g920, wI_ne _ _ _ (by decide)]
                          have s925 : (h919.1 96 20).toInt = (h905.1 96 20).toInt := by rw [g920, wI_ne _ _ _ (by decide)]
                          have s926 : (h919.1 96 46).toInt = (h905.1 96 46).toInt := by rw [g920, wI_ne _ _ _ (by decide)]
                          have s927 : (h919.1 96 44).toInt = (h905.1 96 44).toInt := by rw [g920, wI_ne _ _ _ (by decide)]
                          have s928 : (h919.1 96 47).toInt = (h905.1 96 47).toInt := by rw [g920, wI_ne _ _ _ (by decide)]
                          have s929 : (h919.1 96 48).toInt = (h905.1 96 48).toInt := by rw [g920, wI_ne _ _ _ (by decide)]
                          have s930 : (h919.1 96 51).toInt = (h905.1 96 51).toInt := by rw [g920, wI_ne _ _ _ (by decide)]
                          have s931 : (h919.1 105 0).toInt = (h905.1 105 0).toInt := by rw [g920, wI_ne _ _ _ (by decide)]
                          have s932 : (h919.1 109 0).toInt = (h905.1 109 0).toInt := by rw [g920, wI_ne _ _ _ (by decide)]
                          refine R_iconst 0 rfl rfl ?_
                          refine R_istore_n (k := 3) rfl [(3, .inl 0), (0, .inr (.inr (.inl 96))), (1, .inl a0), (2, .inl a1)] rfl rfl (by decide) ?_
                          have lp934 : ∀ (n933 : Nat) (h935 : PH) (x937 : Int32), INV h935 → FR [96, 107, 108, 109, 117, 118] h h935 → FR [107] h919 h935 → 0 ≤ x937.toInt ∧ x937.toInt ≤ 6 → (6 - x937.toInt).toNat < n933 → RUN d_X9_goSecond 166 [(3, .inl x937), (0, .inr (.inr (.inl 96))), (1, .inl a0), (2, .inl a1)] [] h935 (q_X9_goSecond h a0 a1) := by
                            intro n933
                            induction n933 with
                            | zero => intro h935 x937 m939 m940 m941 m942 hz; exact absurd hz (Nat.not_lt_zero _)
                            | succ n933 ih938 =>
                              intro h935 x937 hI fr fl936 m942 hz
                              have s943 : (h935.1 96 41).toInt = (h919.1 96 41).toInt := by rw [(fl936 96 (by decide)).1]
                              have s944 : (h935.1 96 42).toInt = (h919.1 96 42).toInt := by rw [(fl936 96 (by decide)).1]
                              have s945 : (h935.1 96 19).toInt = (h919.1 96 19).toInt := by rw [(fl936 96 (by decide)).1]
                              have s946 : (h935.1 96 18).toInt = (h919.1 96 18).toInt := by rw [(fl936 96 (by decide)).1]
                              have s947 : (h935.1 96 20).toInt = (h919.1 96 20).toInt := by rw [(fl936 96 (by decide)).1]
                              have s948 : (h935.1 96 46).toInt = (h919.1 96 46).toInt := by rw [(fl936 96 (by decide)).1]
                              have s949 : (h935.1 96 44).toInt = (h919.1 96 44).toInt := by rw [(fl936 96 (by decide)).1]
                              have s950 : (h935.1 96 47).toInt = (h919.1 96 47).toInt := by rw [(fl936 96 (by decide)).1]
                              have s951 : (h935.1 96 48).toInt = (h919.1 96 48).toInt := by rw [(fl936 96 (by decide)).1]
                              have s952 : (h935.1 96 51).toInt = (h919.1 96 51).toInt := by rw [(fl936 96 (by decide)).1]
                              have s953 : (h935.1 105 0).toInt = (h919.1 105 0).toInt := by rw [(fl936 105 (by decide)).1]
                              have s954 : (h935.1 109 0).toInt = (h919.1 109 0).toInt := by rw [(fl936 109 (by decide)).1]
                              have fl711 : FR [96, 107, 108, 109, 117, 118] h690 h935 := fl711.trans fl936 (by decide)
                              have fl669 : FR [96, 107, 108, 109, 117, 118] h649 h935 := fl669.trans fl936 (by decide)
                              refine R_iload_n (k := 3) rfl rfl rfl ?_
                              refine R_aload_n (k := 0) rfl rfl rfl ?_
                              refine R_getf_i (j := 18) rfl ft_9_253 sh_96 rfl ?_
                              refine N_icmp_ge (a := x937.toInt) (b := (h935.1 96 18).toInt) 224 rfl rfl rfl rfl (fun c955 => ?_) (fun c955 => ?_)
                              · exact R_vret rfl rfl ⟨hI, fr, ⟨by omega, by omega, by omega, by omega, by omega, by omega, by omega, by omega, by omega, by omega, trivial⟩, rfl⟩
                              · refine R_aload_n (k := 0) rfl rfl rfl ?_
                                refine R_getf_r (j := 22) rfl ft_9_46 sh_96 rfl ?_
                                refine R_aload_n (k := 0) rfl rfl rfl ?_
                                refine R_getf_r (j := 17) rfl ft_9_40 sh_96 rfl ?_
                                refine R_iload_n (k := 3) rfl rfl rfl ?_
                                refine R_iald rfl sh_105 ⟨by omega, by omega⟩ ?_
                                refine N_bd (lo := 0) (hi := 5) (hI.1 105 _) (fun x956 q957 => ?_)
                                refine R_iald rfl sh_107 ⟨by omega, by omega⟩ ?_
                                refine N_any (fun x958 => ?_)
                                refine R_iconst (-1) rfl rfl ?_
                                refine N_icmp_eq (a := x958.toInt) (b := (-1)) 218 rfl rfl rfl (by decide) (fun c959 => ?_) (fun c959 => ?_)
                                · refine N_iinc (a := x937.toInt) (c := 1) (fun w => [(3, .inl w), (0, .inr (.inr (.inl 96))), (1, .inl a0), (2, .inl a1)]) rfl rfl (fun _ => rfl) (by decide) rfl (by decide) (by omega) (fun x960 q961 => ?_)
                                  refine R_goto 166 rfl rfl ?_
                                  exact RUN_weak (psub_cons rfl (psub_cons rfl (psub_cons rfl (psub_cons rfl (psub_nil _))))) (ih938 h935 x960 hI fr fl936 (by omega) (by omega))
                                · refine R_aload_n (k := 0) rfl rfl rfl ?_
                                  refine R_aload_n (k := 0) rfl rfl rfl ?_
                                  refine R_getf_r (j := 17) rfl ft_9_40 sh_96 rfl ?_
                                  refine R_iload_n (k := 3) rfl rfl rfl ?_
                                  refine R_iald rfl sh_105 ⟨by omega, by omega⟩ ?_
                                  refine N_bd (lo := 0) (hi := 5) (hI.1 105 _) (fun x962 q963 => ?_)
                                  refine R_iload_n (k := 1) rfl rfl rfl ?_
                                  have b964 := i_rng a0
                                  refine R_callV (v := .inr (.inr (.inl 96))) (As := [.inl x962, .inl a0]) (rest := []) rfl mt_9_i271 pp_X9_doesRest (by decide) rfl rfl rfl (Nat.le_of_ble_eq_true rfl) (Nat.le_of_ble_eq_true rfl) ((k_X9_doesRest h935 hI x962 a0 (by omega) (by omega)).mono (fun r965 h966 p967 => ?_))
                                  obtain ⟨rfl, x968, rfl, q969 | q969 | q969⟩ := p967
                                  · show RUN d_X9_goSecond 200 [(3, .inl x937), (0, .inr (.inr (.inl 96))), (1, .inl a0), (2, .inl a1)] [.inl x968] h935 _
                                    refine N_if_ne (a := x968.toInt) 218 rfl rfl rfl (fun c970 => ?_) (fun c970 => ?_)
                                    · exfalso; omega
                                    · refine R_aload_n (k := 0) rfl rfl rfl ?_
                                      refine R_getf_r (j := 22) rfl ft_9_46 sh_96 rfl ?_
                                      refine R_aload_n (k := 0) rfl rfl rfl ?_
                                      refine R_getf_r (j := 17) rfl ft_9_40 sh_96 rfl ?_
                                      refine R_iload_n (k := 3) rfl rfl rfl ?_
                                      refine R_iald rfl sh_105 ⟨by omega, by omega⟩ ?_
                                      refine N_bd (lo := 0) (hi := 5) (hI.1 105 _) (fun x971 q972 => ?_)
                                      refine R_dup2 rfl ?_
                                      refine R_iald rfl sh_107 ⟨by omega, by omega⟩ ?_
                                      refine N_any (fun x973 => ?_)
                                      refine R_iconst 1 rfl rfl ?_
                                      have b974 := i_rng x973
                                      refine R_iadd rfl ?_
                                      refine N_any (fun x975 => ?_)
                                      refine K_iast (a := x971.toInt) (lo := (-2147483648)) (hi' := 2147483647) rfl sh_107 rfl ⟨by omega, by omega⟩ hI (by decide) rfl (i_rng _) fr (by decide) (fun h976 g977 hI fr => ?_)
                                      have fl936 : FR [107] h919 h976 := by rw [g977]; exact FR_wI _ _ fl936 (by decide)
                                      have fl711 : FR [96, 107, 108, 109, 117, 118] h690 h976 := by rw [g977]; exact FR_wI _ _ fl711 (by decide)
                                      have fl669 : FR [96, 107, 108, 109, 117, 118] h649 h976 := by rw [g977]; exact FR_wI _ _ fl669 (by decide)
                                      have s978 : (h976.1 96 41).toInt = (h935.1 96 41).toInt := by rw [g977, wI_ne _ _ _ (by decide)]
                                      have s979 : (h976.1 96 42).toInt = (h935.1 96 42).toInt := by rw [g977, wI_ne _ _ _ (by decide)]
                                      have s980 : (h976.1 96 19).toInt = (h935.1 96 19).toInt := by rw [g977, wI_ne _ _ _ (by decide)]
                                      have s981 : (h976.1 96 18).toInt = (h935.1 96 18).toInt := by rw [g977, wI_ne _ _ _ (by decide)]
                                      have s982 : (h976.1 96 20).toInt = (h935.1 96 20).toInt := by rw [g977, wI_ne _ _ _ (by decide)]
                                      have s983 : (h976.1 96 46).toInt = (h935.1 96 46).toInt := by rw [g977, wI_ne _ _ _ (by decide)]
                                      have s984 : (h976.1 96 44).toInt = (h935.1 96 44).toInt := by rw [g977, wI_ne _ _ _ (by decide)]
                                      have s985 : (h976.1 96 47).toInt = (h935.1 96 47).toInt := by rw [g977, wI_ne _ _ _ (by decide)]
                                      have s986 : (h976.1 96 48).toInt = (h935.1 96 48).toInt := by rw [g977, wI_ne _ _ _ (by decide)]
                                      have s987 : (h976.1 96 51).toInt = (h935.1 96 51).toInt := by rw [g977, wI_ne _ _ _ (by decide)]
                                      have s988 : (h976.1 105 0).toInt = (h935.1 105 0).toInt := by rw [g977, wI_ne _ _ _ (by decide)]
                                      have s989 : (h976.1 109 0).toInt = (h935.1 109 0).toInt := by rw [g977, wI_ne _ _ _ (by decide)]
                                      refine N_iinc (a := x937.toInt) (c := 1) (fun w => [(3, .inl w), (0, .inr (.inr (.inl 96))), (1, .inl a0), (2, .inl a1)]) rfl rfl (fun _ => rfl) (by decide) rfl (by decide) (by omega) (fun x990 q991 => ?_)
                                      refine R_goto 166 rfl rfl ?_
                                      exact RUN_weak (psub_cons rfl (psub_cons rfl (psub_cons rfl (psub_cons rfl (psub_nil _))))) (ih938 h976 x990 hI fr fl936 (by omega) (by omega))
                                  · exfalso; omega
                                  · exfalso; omega
                          exact lp934 _ h919 (0 : Int32) hI fr (FR.rf _ _) (by decide) (Nat.lt_succ_self _)
                    · show RUN d_X9_goSecond 115 [(3, .inl x712), (0, .inr (.inr (.inl 96))), (1, .inl a0), (2, .inl a1)] [.inl x825] h710 _
                      refine N_if_ne (a := x825.toInt) 164 rfl rfl rfl (fun c992 => ?_) (fun c992 => ?_)
                      · exfalso; omega
                      · refine R_aload_n (k := 0) rfl rfl rfl ?_
                        refine R_getf_r (j := 24) rfl ft_9_52 sh_96 rfl ?_
                        refine R_iconst 0 rfl rfl ?_
                        refine R_iald rfl sh_109 (by decide) ?_
                        show RUN d_X9_goSecond 124 [(3, .inl x712), (0, .inr (.inr (.inl 96))), (1, .inl a0), (2, .inl a1)] [.inl (h710.1 109 0)] h710 _
                        refine N_if_le (a := (h710.1 109 0).toInt) 164 rfl rfl rfl (fun c993 => ?_) (fun c993 => ?_)
                        · refine R_iconst 0 rfl rfl ?_
                          refine R_istore_n (k := 3) rfl [(3, .inl 0), (0, .inr (.inr (.inl 96))), (1, .inl a0), (2, .inl a1)] rfl rfl (by decide) ?_
                          have lp995 : ∀ (n994 : Nat) (h996 : PH) (x998 : Int32), INV h996 → FR [96, 107, 108, 109, 117, 118] h h996 → FR [107] h710 h996 → 0 ≤ x998.toInt ∧ x998.toInt ≤ 6 → (6 - x998.toInt).toNat < n994 → RUN d_X9_goSecond 166 [(3, .inl x998), (0, .inr (.inr (.inl 96))), (1, .inl a0), (2, .inl a1)] [] h996 (q_X9_goSecond h a0 a1) := by
                            intro n994
                            induction n994 with
                            | zero => intro h996 x998 m1000 m1001 m1002 m1003 hz; exact absurd hz (Nat.not_lt_zero _)
                            | succ n994 ih999 =>
                              intro h996 x998 hI fr fl997 m1003 hz
                              have s1004 : (h996.1 96 41).toInt = (h710.1 96 41).toInt := by rw [(fl997 96 (by decide)).1]
                              have s1005 : (h996.1 96 42).toInt = (h710.1 96 42).toInt := by rw [(fl997 96 (by decide)).1]
                              have s1006 : (h996.1 96 19).toInt = (h710.1 96 19).toInt := by rw [(fl997 96 (by decide)).1]
                              have s1007 : (h996.1 96 18).toInt = (h710.1 96 18).toInt := by rw [(fl997 96 (by decide)).1]
                              have s1008 : (h996.1 96 20).toInt = (h710.1 96 20).toInt := by rw [(fl997 96 (by decide)).1]
                              have s1009 : (h996.1 96 46).toInt = (h710.1 96 46).toInt := by rw [(fl997 96 (by decide)).1]
                              have s1010 : (h996.1 96 44).toInt = (h710.1 96 44).toInt := by rw [(fl997 96 (by decide)).1]
                              have s1011 : (h996.1 96 47).toInt = (h710.1 96 47).toInt := by rw [(fl997 96 (by decide)).1]
                              have s1012 : (h996.1 96 48).toInt = (h710.1 96 48).toInt := by rw [(fl997 96 (by decide)).1]
                              have s1013 : (h996.1 96 51).toInt = (h710.1 96 51).toInt := by rw [(fl997 96 (by decide)).1]
                              have s1014 : (h996.1 105 0).toInt = (h710.1 105 0).toInt := by rw [(fl997 105 (by decide)).1]
                              have s1015 : (h996.1 109 0).toInt = (h710.1 109 0).toInt := by rw [(fl997 109 (by decide)).1]
                              have fl711 : FR [96, 107, 108, 109, 117, 118] h690 h996 := fl711.trans fl997 (by decide)
                              have fl669 : FR [96, 107, 108, 109, 117, 118] h649 h996 := fl669.trans fl997 (by decide)
                              refine R_iload_n (k := 3) rfl rfl rfl ?_
                              refine R_aload_n (k := 0) rfl rfl rfl ?_
                              refine R_getf_i (j := 18) rfl ft_9_253 sh_96 rfl ?_
                              refine N_icmp_ge (a := x998.toInt) (b := (h996.1 96 18).toInt) 224 rfl rfl rfl rfl (fun c1016 => ?_) (fun c1016 => ?_)
                              · exact R_vret rfl rfl ⟨hI, fr, ⟨by omega, by omega, by omega, by omega, by omega, by omega, by omega, by omega, by omega, by omega, trivial⟩, rfl⟩
                              · refine R_aload_n (k := 0) rfl rfl rfl ?_
                                refine R_getf_r (j := 22) rfl ft_9_46 sh_96 rfl ?_
                                refine R_aload_n (k := 0) rfl rfl rfl ?_
                                refine R_getf_r (j := 17) rfl ft_9_40 sh_96 rfl ?_
                                refine R_iload_n (k := 3) rfl rfl rfl ?_
                                refine R_iald rfl sh_105 ⟨by omega, by omega⟩ ?_
                                refine N_bd (lo := 0) (hi := 5) (hI.1 105 _) (fun x1017 q1018 => ?_)
                                refine R_iald rfl sh_107 ⟨by omega, by omega⟩ ?_
                                refine N_any (fun x1019 => ?_)
                                refine R_iconst (-1) rfl rfl ?_
                                refine N_icmp_eq (a := x1019.toInt) (b := (-1)) 218 rfl rfl rfl (by decide) (fun c1020 => ?_) (fun c1020 => ?_)
                                · refine N_iinc (a := x998.toInt) (c := 1) (fun w => [(3, .inl w), (0, .inr (.inr (.inl 96))), (1, .inl a0), (2, .inl a1)]) rfl rfl (fun _ => rfl) (by decide) rfl (by decide) (by omega) (fun x1021 q1022 => ?_)
                                  refine R_goto 166 rfl rfl ?_
                                  exact RUN_weak (psub_cons rfl (psub_cons rfl (psub_cons rfl (psub_cons rfl (psub_nil _))))) (ih999 h996 x1021 hI fr fl997 (by omega) (by omega))
                                · refine R_aload_n (k := 0) rfl rfl rfl ?_
                                  refine R_aload_n (k := 0) rfl rfl rfl ?_
                                  refine R_getf_r (j := 17) rfl ft_9_40 sh_96 rfl ?_
                                  refine R_iload_n (k := 3) rfl rfl rfl ?_
                                  refine R_iald rfl sh_105 ⟨by omega, by omega⟩ ?_
                                  refine N_bd (lo := 0) (hi := 5) (hI.1 105 _) (fun x1023 q1024 => ?_)
                                  refine R_iload_n (k := 1) rfl rfl rfl ?_
                                  refine R_callV (v := .inr (.inr (.inl 96))) (As := [.inl x1023, .inl a0]) (rest := []) rfl mt_9_i271 pp_X9_doesRest (by decide) rfl rfl rfl (Nat.le_of_ble_eq_true rfl) (Nat.le_of_ble_eq_true rfl) ((k_X9_doesRest h996 hI x1023 a0 (by omega) (by omega)).mono (fun r1025 h1026 p1027 => ?_))
                                  obtain ⟨rfl, x1028, rfl, q1029 | q1029 | q1029⟩ := p1027
                                  · exfalso; omega
                                  · show RUN d_X9_goSecond 200 [(3, .inl x998), (0, .inr (.inr (.inl 96))), (1, .inl a0), (2, .inl a1)] [.inl x1028] h996 _
                                    refine N_if_ne (a := x1028.toInt) 218 rfl rfl rfl (fun c1030 => ?_) (fun c1030 => ?_)
                                    · exfalso; omega
                                    · refine R_aload_n (k := 0) rfl rfl rfl ?_
                                      refine R_getf_r (j := 22) rfl ft_9_46 sh_96 rfl ?_
                                      refine R_aload_n (k := 0) rfl rfl rfl ?_
                                      refine R_getf_r (j := 17) rfl ft_9_40 sh_96 rfl ?_
                                      refine R_iload_n (k := 3) rfl rfl rfl ?_
                                      refine R_iald rfl sh_105 ⟨by omega, by omega⟩ ?_
                                      refine N_bd (lo := 0) (hi := 5) (hI.1 105 _) (fun x1031 q1032 => ?_)
                                      refine R_dup2 rfl ?_
                                      refine R_iald rfl sh_107 ⟨by omega, by omega⟩ ?_
                                      refine N_any (fun x1033 => ?_)
                                      refine R_iconst 1 rfl rfl ?_
                                      have b1034 := i_rng x1033
                                      refine R_iadd rfl ?_
                                      refine N_any (fun x1035 => ?_)
                                      refine K_iast (a := x1031.toInt) (lo := (-2147483648)) (hi' := 2147483647) rfl sh_107 rfl ⟨by omega, by omega⟩ hI (by decide) rfl (i_rng _) fr (by decide) (fun h1036 g1037 hI fr => ?_)
                                      have fl997 : FR [107] h710 h1036 := by rw [g1037]; exact FR_wI _ _ fl997 (by decide)
                                      have fl711 : FR [96, 107, 108, 109, 117, 118] h690 h1036 := by rw [g1037]; exact FR_wI _ _ fl711 (by decide)
                                      have fl669 : FR [96, 107, 108, 109, 117, 118] h649 h1036 := by rw [g1037]; exact FR_wI _ _ fl669 (by decide)
                                      have s1038 : (h1036.1 96 41).toInt = (h996.1 96 41).toInt := by rw [g1037, wI_ne _ _ _ (by decide)]
                                      have s1039 : (h1036.1 96 42).toInt = (h996.1 96 42).toInt := by rw [g1037, wI_ne _ _ _ (by decide)]
                                      have s1040 : (h1036.1 96 19).toInt = (h996.1 96 19).toInt := by rw [g1037, wI_ne _ _ _ (by decide)]
                                      have s1041 : (h1036.1 96 18).toInt = (h996.1 96 18).toInt := by rw [g1037, wI_ne _ _ _ (by decide)]
                                      have s1042 : (h1036.1 96 20).toInt = (h996.1 96 20).toInt := by rw [g1037, wI_ne _ _ _ (by decide)]
                                      have s1043 : (h1036.1 96 46).toInt = (h996.1 96 46).toInt := by rw [g1037, wI_ne _ _ _ (by decide)]
                                      have s1044 : (h1036.1 96 44).toInt = (h996.1 96 44).toInt := by rw [g1037, wI_ne _ _ _ (by decide)]
                                      have s1045 : (h1036.1 96 47).toInt = (h996.1 96 47).toInt := by rw [g1037, wI_ne _ _ _ (by decide)]
                                      have s1046 : (h1036.1 96 48).toInt = (h996.1 96 48).toInt := by rw [g1037, wI_ne _ _ _ (by decide)]
                                      have s1047 : (h1036.1 96 51).toInt = (h996.1 96 51).toInt := by rw [g1037, wI_ne _ _ _ (by decide)]
                                      have s1048 : (h1036.1 105 0).toInt = (h996.1 105 0).toInt := by rw [g1037, wI_ne _ _ _ (by decide)]
                                      have s1049 : (h1036.1 109 0).toInt = (h996.1 109 0).toInt := by rw [g1037, wI_ne _ _ _ (by decide)]
                                      refine N_iinc (a := x998.toInt) (c := 1) (fun w => [(3, .inl w), (0, .inr (.inr (.inl 96))), (1, .inl a0), (2, .inl a1)]) rfl rfl (fun _ => rfl) (by decide) rfl (by decide) (by omega) (fun x1050 q1051 => ?_)
                                      refine R_goto 166 rfl rfl ?_
                                      exact RUN_weak (psub_cons rfl (psub_cons rfl (psub_cons rfl (psub_cons rfl (psub_nil _))))) (ih999 h1036 x1050 hI fr fl997 (by omega) (by omega))
                                  · show RUN d_X9_goSecond 200 [(3, .inl x998), (0, .inr (.inr (.inl 96))), (1, .inl a0), (2, .inl a1)] [.inl x1028] h996 _
                                    refine N_if_ne (a := x1028.toInt) 218 rfl rfl rfl (fun c1052 => ?_) (fun c1052 => ?_)
                                    · refine N_iinc (a := x998.toInt) (c := 1) (fun w => [(3, .inl w), (0, .inr (.inr (.inl 96))), (1, .inl a0), (2, .inl a1)]) rfl rfl (fun _ => rfl) (by decide) rfl (by decide) (by omega) (fun x1053 q1054 => ?_)
                                      refine R_goto 166 rfl rfl ?_
                                      exact RUN_weak (psub_cons rfl (psub_cons rfl (psub_cons rfl (psub_cons rfl (psub_nil _))))) (ih999 h996 x1053 hI fr fl997 (by omega) (by omega))
                                    · exfalso; omega
                          exact lp995 _ h710 (0 : Int32) hI fr (FR.rf _ _) (by decide) (Nat.lt_succ_self _)
                        · refine R_aload_n (k := 0) rfl rfl rfl ?_
                          refine R_getf_r (j := 24) rfl ft_9_52 sh_96 rfl ?_
                          refine R_iconst 0 rfl rfl ?_
                          refine R_dup2 rfl ?_
                          refine R_iald rfl sh_109 (by decide) ?_
                          show RUN d_X9_goSecond 134 [(3, .inl x712), (0, .inr (.inr (.inl 96))), (1, .inl a0), (2, .inl a1)] [.inl (h710.1 109 0), .inl 0, .inr (.inr (.inl 109))] h710 _
                          refine R_iconst 1 rfl rfl ?_
                          have b1055 := i_rng (h710.1 109 0)
                          refine N_isub (a := (h710.1 109 0).toInt) (b := 1) rfl rfl (by decide) (by omega) (fun x1056 q1057 => ?_)
                          refine K_iast (a := 0) (lo := (-2147483648)) (hi' := 2147483647) rfl sh_109 (by decide) (by decide) hI (by decide) rfl (i_rng _) fr (by decide) (fun h1058 g1059 hI fr => ?_)
                          have fl711 : FR [96, 107, 108, 109, 117, 118] h690 h1058 := by rw [g1059]; exact FR_wI _ _ fl711 (by decide)
                          have fl669 : FR [96, 107, 108, 109, 117, 118] h649 h1058 := by rw [g1059]; exact FR_wI _ _ fl669 (by decide)
                          have s1060 : (h1058.1 96 41).toInt = (h710.1 96 41).toInt := by rw [g1059, wI_ne _ _ _ (by decide)]
                          have s1061 : (h1058.1 96 42).toInt = (h710.1 96 42).toInt := by rw [g1059, wI_ne _ _ _ (by decide)]
                          have s1062 : (h1058.1 96 19).toInt = (h710.1 96 19).toInt := by rw [g1059, wI_ne _ _ _ (by decide)]
                          have s1063 : (h1058.1 96 18).toInt = (h710.1 96 18).toInt := by rw [g1059, wI_ne _ _ _ (by decide)]
                          have s1064 : (h1058.1 96 20).toInt = (h710.1 96 20).toInt := by rw [g1059, wI_ne _ _ _ (by decide)]
                          have s1065 : (h1058.1 96 46).toInt = (h710.1 96 46).toInt := by rw [g1059, wI_ne _ _ _ (by decide)]
                          have s1066 : (h1058.1 96 44).toInt = (h710.1 96 44).toInt := by rw [g1059, wI_ne _ _ _ (by decide)]
                          have s1067 : (h1058.1 96 47).toInt = (h710.1 96 47).toInt := by rw [g1059, wI_ne _ _ _ (by decide)]
                          have s1068 : (h1058.1 96 48).toInt = (h710.1 96 48).toInt := by rw [g1059, wI_ne _ _ _ (by decide)]
                          have s1069 : (h1058.1 96 51).toInt = (h710.1 96 51).toInt := by rw [g1059, wI_ne _ _ _ (by decide)]
                          have s1070 : (h1058.1 105 0).toInt = (h710.1 105 0).toInt := by rw [g1059, wI_ne _ _ _ (by decide)]
                          have s1071 : (h1058.1 109 0).toInt = x1056.toInt := by rw [g1059, show (0 : Int32).toNatClampNeg = 0 from rfl, wI_is]
                          refine R_aload_n (k := 0) rfl rfl rfl ?_
                          refine R_getf_r (j := 22) rfl ft_9_46 sh_96 rfl ?_
                          refine R_aload_n (k := 0) rfl rfl rfl ?_
                          refine R_getf_r (j := 17) rfl ft_9_40 sh_96 rfl ?_
                          refine R_iconst 0 rfl rfl ?_
                          refine R_iald rfl sh_105 (by decide) ?_
                          show RUN d_X9_goSecond 147 [(3, .inl x712), (0, .inr (.inr (.inl 96))), (1, .inl a0), (2, .inl a1)] [.inl (h1058.1 105 0), .inr (.inr (.inl 107))] h1058 _
                          refine R_iconst 0 rfl rfl ?_
                          refine K_iast (a := (h1058.1 105 0).toInt) (lo := (-2147483648)) (hi' := 2147483647) rfl sh_107 rfl ⟨by omega, by omega⟩ hI (by decide) rfl (by decide) fr (by decide) (fun h1072 g1073 hI fr => ?_)
                          have fl711 : FR [96, 107, 108, 109, 117, 118] h690 h1072 := by rw [g1073]; exact FR_wI _ _ fl711 (by decide)
                          have fl669 : FR [96, 107, 108, 109, 117, 118] h649 h1072 := by rw [g1073]; exact FR_wI _ _ fl669 (by decide)
                          have s1074 : (h1072.1 96 41).toInt = (h1058.1 96 41).toInt := by rw [g1073, wI_ne _ _ _ (by decide)]
                          have s1075 : (h1072.1 96 42).toInt = (h1058.1 96 42).toInt := by rw [g1073, wI_ne _ _ _ (by decide)]
                          have s1076 : (h1072.1 96 19).toInt = (h1058.1 96 19).toInt := by rw [g1073, wI_ne _ _ _ (by decide)]
                          have s1077 : (h1072.1 96 18).toInt = (h1058.1 96 18).toInt := by rw [g1073, wI_ne _ _ _ (by decide)]
                          have s1078 : (h1072.1 96 20).toInt = (h1058.1 96 20).toInt := by rw [g1073, wI_ne _ _ _ (by decide)]
                          have s1079 : (h1072.1 96 46).toInt = (h1058.1 96 46).toInt := by rw [g1073, wI_ne _ _ _ (by decide)]
                          have s1080 : (h1072.1 96 44).toInt = (h1058.1 96 44).toInt := by rw [g1073, wI_ne _ _ _ (by decide)]
                          have s1081 : (h1072.1 96 47).toInt = (h1058.1 96 47).toInt := by rw [g1073, wI_ne _ _ _ (by decide)]
                          have s1082 : (h1072.1 96 48).toInt = (h1058.1 96 48).toInt := by rw [g1073, wI_ne _ _ _ (by decide)]
                          have s1083 : (h1072.1 96 51).toInt = (h1058.1 96 51).toInt := by rw [g1073, wI_ne _ _ _ (by decide)]
                          have s1084 : (h1072.1 105 0).toInt = (h1058.1 105 0).toInt := by rw [g1073, wI_ne _ _ _ (by decide)]
                          have s1085 : (h1072.1 109 0).toInt = (h1058.1 109 0).toInt := by rw [g1073, wI_ne _ _ _ (by decide)]
                          refine R_aload_n (k := 0) rfl rfl rfl ?_
                          refine R_getf_r (j := 23) rfl ft_9_49 sh_96 rfl ?_
                          refine R_aload_n (k := 0) rfl rfl rfl ?_
                          refine R_getf_r (j := 17) rfl ft_9_40 sh_96 rfl ?_
                          refine R_iconst 0 rfl rfl ?_
                          refine R_iald rfl sh_105 (by decide) ?_
                          show RUN d_X9_goSecond 159 [(3, .inl x712), (0, .inr (.inr (.inl 96))), (1, .inl a0), (2, .inl a1)] [.inl (h1072.1 105 0), .inr (.inr (.inl 108))] h1072 _
                          refine R_aload_n (k := 0) rfl rfl rfl ?_
                          refine R_getf_i (j := 20) rfl ft_9_259 sh_96 rfl ?_
                          refine K_iast (a := (h1072.1 105 0).toInt) (lo := (-2147483648)) (hi' := 2147483647) rfl sh_108 rfl ⟨by omega, by omega⟩ hI (by decide) rfl (i_rng _) fr (by decide) (fun h1086 g1087 hI fr => ?_)
                          have fl711 : FR [96, 107, 108, 109, 117, 118] h690 h1086 := by rw [g1087]; exact FR_wI _ _ fl711 (by decide)
                          have fl669 : FR [96, 107, 108, 109, 117, 118] h649 h1086 := by rw [g1087]; exact FR_wI _ _ fl669 (by decide)
                          have s1088 : (h1086.1 96 41).toInt = (h1072.1 96 41).toInt := by rw [g1087, wI_ne _ _ _ (by decide)]
                          have s1089 : (h1086.1 96 42).toInt = (h1072.1 96 42).toInt := by rw [g1087, wI_ne _ _ _ (by decide)]
                          have s1090 : (h1086.1 96 19).toInt = (h1072.1 96 19).toInt := by rw [g1087, wI_ne _ _ _ (by decide)]
                          have s1091 : (h1086.1 96 18).toInt = (h1072.1 96 18).toInt := by rw [g1087, wI_ne _ _ _ (by decide)]
                          have s1092 : (h1086.1 96 20).toInt = (h1072.1 96 20).toInt := by rw [g1087, wI_ne _ _ _ (by decide)]
                          have s1093 : (h1086.1 96 46).toInt = (h1072.1 96 46).toInt := by rw [g1087, wI_ne _ _ _ (by decide)]
                          have s1094 : (h1086.1 96 44).toInt = (h1072.1 96 44).toInt := by rw [g1087, wI_ne _ _ _ (by decide)]
                          have s1095 : (h1086.1 96 47).toInt = (h1072.1 96 47).toInt := by rw [g1087, wI_ne _ _ _ (by decide)]
                          have s1096 : (h1086.1 96 48).toInt = (h1072.1 96 48).toInt := by rw [g1087, wI_ne _ _ _ (by decide)]
                          have s1097 : (h1086.1 96 51).toInt = (h1072.1 96 51).toInt := by rw [g1087, wI_ne _ _ _ (by decide)]
                          have s1098 : (h1086.1 105 0).toInt = (h1072.1 105 0).toInt := by rw [g1087, wI_ne _ _ _ (by decide)]
                          have s1099 : (h1086.1 109 0).toInt = (h1072.1 109 0).toInt := by rw [g1087, wI_ne _ _ _ (by decide)]
                          refine R_iconst 0 rfl rfl ?_
                          refine R_istore_n (k := 3) rfl [(3, .inl 0), (0, .inr (.inr (.inl 96))), (1, .inl a0), (2, .inl a1)] rfl rfl (by decide) ?_
                          have lp1101 : ∀ (n1100 : Nat) (h1102 : PH) (x1104 : Int32), INV h1102 → FR [96, 107, 108, 109, 117, 118] h h1102 → FR [107] h1086 h1102 → 0 ≤ x1104.toInt ∧ x1104.toInt ≤ 6 → (6 - x1104.toInt).toNat < n1100 → RUN d_X9_goSecond 166 [(3, .inl x1104), (0, .inr (.inr (.inl 96))), (1, .inl a0), (2, .inl a1)] [] h1102 (q_X9_goSecond h a0 a1) := by
                            intro n1100
                            induction n1100 with
                            | zero => intro h1102 x1104 m1106 m1107 m1108 m1109 hz; exact absurd hz (Nat.not_lt_zero _)
                            | succ n1100 ih1105 =>
                              intro h1102 x1104 hI fr fl1103 m1109 hz
                              have s1110 : (h1102.1 96 41).toInt = (h1086.1 96 41).toInt := by rw [(fl1103 96 (by decide)).1]
                              have s1111 : (h1102.1 96 42).toInt = (h1086.1 96 42).toInt := by rw [(fl1103 96 (by decide)).1]
                              have s1112 : (h1102.1 96 19).toInt = (h1086.1 96 19).toInt := by rw [(fl1103 96 (by decide)).1]
                              have s1113 : (h1102.1 96 18).toInt = (h1086.1 96 18).toInt := by rw [(fl1103 96 (by decide)).1]
                              have s1114 : (h1102.1 96 20).toInt = (h1086.1 96 20).toInt := by rw [(fl1103 96 (by decide)).1]
                              have s1115 : (h1102.1 96 46).toInt = (h1086.1 96 46).toInt := by rw [(fl1103 96 (by decide)).1]
                              have s1116 : (h1102.1 96 44).toInt = (h1086.1 96 44).toInt := by rw [(fl1103 96 (by decide)).1]
                              have s1117 : (h1102.1 96 47).toInt = (h1086.1 96 47).toInt := by rw [(fl1103 96 (by decide)).1]
                              have s1118 : (h1102.1 96 48).toInt = (h1086.1 96 48).toInt := by rw [(fl1103 96 (by decide)).1]
                              have s1119 : (h1102.1 96 51).toInt = (h1086.1 96 51).toInt := by rw [(fl1103 96 (by decide)).1]
                              have s1120 : (h1102.1 105 0).toInt = (h1086.1 105 0).toInt := by rw [(fl1103 105 (by decide)).1]
                              have s1121 : (h1102.1 109 0).toInt = (h1086.1 109 0).toInt := by rw [(fl1103 109 (by decide)).1]
                              have fl711 : FR [96, 107, 108, 109, 117, 118] h690 h1102 := fl711.trans fl1103 (by decide)
                              have fl669 : FR [96, 107, 108, 109, 117, 118] h649 h1102 := fl669.trans fl1103 (by decide)
                              refine R_iload_n (k := 3) rfl rfl rfl ?_
                              refine R_aload_n (k := 0) rfl rfl rfl ?_
                              refine R_getf_i (j := 18) rfl ft_9_253 sh_96 rfl ?_
                              refine N_icmp_ge (a := x1104.toInt) (b := (h1102.1 96 18).toInt) 224 rfl rfl rfl rfl (fun c1122 => ?_) (fun c1122 => ?_)
                              · exact R_vret rfl rfl ⟨hI, fr, ⟨by omega, by omega, by omega, by omega, by omega, by omega, by omega, by omega, by omega, by omega, trivial⟩, rfl⟩
                              · refine R_aload_n (k := 0) rfl rfl rfl ?_
                                refine R_getf_r (j := 22) rfl ft_9_46 sh_96 rfl ?_
                                refine R_aload_n (k := 0) rfl rfl rfl ?_
                                refine R_getf_r (j := 17) rfl ft_9_40 sh_96 rfl ?_
                                refine R_iload_n (k := 3) rfl rfl rfl ?_
                                refine R_iald rfl sh_105 ⟨by omega, by omega⟩ ?_
                                refine N_bd (lo := 0) (hi := 5) (hI.1 105 _) (fun x1123 q1124 => ?_)
                                refine R_iald rfl sh_107 ⟨by omega, by omega⟩ ?_
                                refine N_any (fun x1125 => ?_)
                                refine R_iconst (-1) rfl rfl ?_
                                refine N_icmp_eq (a := x1125.toInt) (b := (-1)) 218 rfl rfl rfl (by decide) (fun c1126 => ?_) (fun c1126 => ?_)
                                · refine N_iinc (a := x1104.toInt) (c := 1) (fun w => [(3, .inl w), (0, .inr (.inr (.inl 96))), (1, .inl a0), (2, .inl a1)]) rfl rfl (fun _ => rfl) (by decide) rfl (by decide) (by omega) (fun x1127 q1128 => ?_)
                                  refine R_goto 166 rfl rfl ?_
                                  exact RUN_weak (psub_cons rfl (psub_cons rfl (psub_cons rfl (psub_cons rfl (psub_nil _))))) (ih1105 h1102 x1127 hI fr fl1103 (by omega) (by omega))
                                · refine R_aload_n (k := 0) rfl rfl rfl ?_
                                  refine R_aload_n (k := 0) rfl rfl rfl ?_
                                  refine R_getf_r (j := 17) rfl ft_9_40 sh_96 rfl ?_
                                  refine R_iload_n (k := 3) rfl rfl rfl ?_
                                  refine R_iald rfl sh_105 ⟨by omega, by omega⟩ ?_
                                  refine N_bd (lo := 0) (hi := 5) (hI.1 105 _) (fun x1129 q1130 => ?_)
                                  refine R_iload_n (k := 1) rfl rfl rfl ?_
                                  refine R_callV (v := .inr (.inr (.inl 96))) (As := [.inl x1129, .inl a0]) (rest := []) rfl mt_9_i271 pp_X9_doesRest (by decide) rfl rfl rfl (Nat.le_of_ble_eq_true rfl) (Nat.le_of_ble_eq_true rfl) ((k_X9_doesRest h1102 hI x1129 a0 (by omega) (by omega)).mono (fun r1131 h1132 p1133 => ?_))
                                  obtain ⟨rfl, x1134, rfl, q1135 | q1135 | q1135⟩ := p1133
                                  · exfalso; omega
                                  · show RUN d_X9_goSecond 200 [(3, .inl x1104), (0, .inr (.inr (.inl 96))), (1, .inl a0), (2, .inl a1)] [.inl x1134] h1102 _
                                    refine N_if_ne (a := x1134.toInt) 218 rfl rfl rfl (fun c1136 => ?_) (fun c1136 => ?_)
                                    · exfalso; omega
                                    · refine R_aload_n (k := 0) rfl rfl rfl ?_
                                      refine R_getf_r (j := 22) rfl ft_9_46 sh_96 rfl ?_
                                      refine R_aload_n (k := 0) rfl rfl rfl ?_
                                      refine R_getf_r (j := 17) rfl ft_9_40 sh_96 rfl ?_
                                      refine R_iload_n (k := 3) rfl rfl rfl ?_
                                      refine R_iald rfl sh_105 ⟨by omega, by omega⟩ ?_
                                      refine N_bd (lo := 0) (hi := 5) (hI.1 105 _) (fun x1137 q1138 => ?_)
                                      refine R_dup2 rfl ?_
                                      refine R_iald rfl sh_107 ⟨by omega, by omega⟩ ?_
                                      refine N_any (fun x1139 => ?_)
                                      refine R_iconst 1 rfl rfl ?_
                                      have b1140 := i_rng x1139
                                      refine R_iadd rfl ?_
                                      refine N_any (fun x1141 => ?_)
                                      refine K_iast (a := x1137.toInt) (lo := (-2147483648)) (hi' := 2147483647) rfl sh_107 rfl ⟨by omega, by omega⟩ hI (by decide) rfl (i_rng _) fr (by decide) (fun h1142 g1143 hI fr => ?_)
                                      have fl1103 : FR [107] h1086 h1142 := by rw [g1143]; exact FR_wI _ _ fl1103 (by decide)
                                      have fl711 : FR [96, 107, 108, 109, 117, 118] h690 h1142 := by rw [g1143]; exact FR_wI _ _ fl711 (by decide)
                                      have fl669 : FR [96, 107, 108, 109, 117, 118] h649 h1142 := by rw [g1143]; exact FR_wI _ _ fl669 (by decide)
                                      have s1144 : (h1142.1 96 41).toInt = (h1102.1 96 41).toInt := by rw [g1143, wI_ne _ _ _ (by decide)]
                                      have s1145 : (h1142.1 96 42).toInt = (h1102.1 96 42).toInt := by rw [g1143, wI_ne _ _ _ (by decide)]
                                      have s1146 : (h1142.1 96 19).toInt = (h1102.1 96 19).toInt := by rw [g1143, wI_ne _ _ _ (by decide)]
                                      have s1147 : (h1142.1 96 18).toInt = (h1102.1 96 18).toInt := by rw [g1143, wI_ne _ _ _ (by decide)]
                                      have s1148 : (h1142.1 96 20).toInt = (h1102.1 96 20).toInt := by rw [g1143, wI_ne _ _ _ (by decide)]
                                      have s1149 : (h1142.1 96 46).toInt = (h1102.1 96 46).toInt := by rw [g1143, wI_ne _ _ _ (by decide)]
                                      have s1150 : (h1142.1 96 44).toInt = (h1102.1 96 44).toInt := by rw [g1143, wI_ne _ _ _ (by decide)]
                                      have s1151 : (h1142.1 96 47).toInt = (h1102.1 96 47).toInt := by rw [g1143, wI_ne _ _ _ (by decide)]
                                      have s1152 : (h1142.1 96 48).toInt = (h1102.1 96 48).toInt := by rw [g1143, wI_ne _ _ _ (by decide)]
                                      have s1153 : (h1142.1 96 51).toInt = (h1102.1 96 51).toInt := by rw [g1143, wI_ne _ _ _ (by decide)]
                                      have s1154 : (h1142.1 105 0).toInt = (h1102.1 105 0).toInt := by rw [g1143, wI_ne _ _ _ (by decide)]
                                      have s1155 : (h1142.1 109 0).toInt = (h1102.1 109 0).toInt := by rw [g1143, wI_ne _ _ _ (by decide)]
                                      refine N_iinc (a := x1104.toInt) (c := 1) (fun w => [(3, .inl w), (0, .inr (.inr (.inl 96))), (1, .inl a0), (2, .inl a1)]) rfl rfl (fun _ => rfl) (by decide) rfl (by decide) (by omega) (fun x1156 q1157 => ?_)
                                      refine R_goto 166 rfl rfl ?_
                                      exact RUN_weak (psub_cons rfl (psub_cons rfl (psub_cons rfl (psub_cons rfl (psub_nil _))))) (ih1105 h1142 x1156 hI fr fl1103 (by omega) (by omega))
                                  · show RUN d_X9_goSecond 200 [(3, .inl x1104), (0, .inr (.inr (.inl 96))), (1, .inl a0), (2, .inl a1)] [.inl x1134] h1102 _
                                    refine N_if_ne (a := x1134.toInt) 218 rfl rfl rfl (fun c1158 => ?_) (fun c1158 => ?_)
                                    · refine N_iinc (a := x1104.toInt) (c := 1) (fun w => [(3, .inl w), (0, .inr (.inr (.inl 96))), (1, .inl a0), (2, .inl a1)]) rfl rfl (fun _ => rfl) (by decide) rfl (by decide) (by omega) (fun x1159 q1160 => ?_)
                                      refine R_goto 166 rfl rfl ?_
                                      exact RUN_weak (psub_cons rfl (psub_cons rfl (psub_cons rfl (psub_cons rfl (psub_nil _))))) (ih1105 h1102 x1159 hI fr fl1103 (by omega) (by omega))
                                    · exfalso; omega
                          exact lp1101 _ h1086 (0 : Int32) hI fr (FR.rf _ _) (by decide) (Nat.lt_succ_self _)
                    · show RUN d_X9_goSecond 115 [(3, .inl x712), (0, .inr (.inr (.inl 96))), (1, .inl a0), (2, .inl a1)] [.inl x825] h710 _
                      refine N_if_ne (a := x825.toInt) 164 rfl rfl rfl (fun c1161 => ?_) (fun c1161 => ?_)
                      · refine R_iconst 0 rfl rfl ?_
                        refine R_istore_n (k := 3) rfl [(3, .inl 0), (0, .inr (.inr (.inl 96))), (1, .inl a0), (2, .inl a1)] rfl rfl (by decide) ?_
                        have lp1163 : ∀ (n1162 : Nat) (h1164 : PH) (x1166 : Int32), INV h1164 → FR [96, 107, 108, 109, 117, 118] h h1164 → FR [107] h710 h1164 → 0 ≤ x1166.toInt ∧ x1166.toInt ≤ 6 → (6 - x1166.toInt).toNat < n1162 → RUN d_X9_goSecond 166 [(3, .inl x1166), (0, .inr (.inr (.inl 96))), (1, .inl a0), (2, .inl a1)] [] h1164 (q_X9_goSecond h a0 a1) := by
                          intro n1162
                          induction n1162 with
                          | zero => intro h1164 x1166 m1168 m1169 m1170 m1171 hz; exact absurd hz (Nat.not_lt_zero _)
                          | succ n1162 ih1167 =>
                            intro h1164 x1166 hI fr fl1165 m1171 hz
                            have s1172 : (h1164.1 96 41).toInt = (h710.1 96 41).toInt := by rw [(fl1165 96 (by decide)).1]
                            have s1173 : (h1164.1 96 42).toInt = (h710.1 96 42).toInt := by rw [(fl1165 96 (by decide)).1]
                            have s1174 : (h1164.1 96 19).toInt = (h710.1 96 19).toInt := by rw [(fl1165 96 (by decide)).1]
                            have s1175 : (h1164.1 96 18).toInt = (h710.1 96 18).toInt := by rw [(fl1165 96 (by decide)).1]
                            have s1176 : (h1164.1 96 20).toInt = (h710.1 96 20).toInt := by rw [(fl1165 96 (by decide)).1]
                            have s1177 : (h1164.1 96 46).toInt = (h710.1 96 46).toInt := by rw [(fl1165 96 (by decide)).1]
                            have s1178 : (h1164.1 96 44).toInt = (h710.1 96 44).toInt := by rw [(fl1165 96 (by decide)).1]
                            have s1179 : (h1164.1 96 47).toInt = (h710.1 96 47).toInt := by rw [(fl1165 96 (by decide)).1]
                            have s1180 : (h1164.1 96 48).toInt = (h710.1 96 48).toInt := by rw [(fl1165 96 (by decide)).1]
                            have s1181 : (h1164.1 96 51).toInt = (h710.1 96 51).toInt := by rw [(fl1165 96 (by decide)).1]
                            have s1182 : (h1164.1 105 0).toInt = (h710.1 105 0).toInt := by rw [(fl1165 105 (by decide)).1]
                            have fl711 : FR [96, 107, 108, 109, 117, 118] h690 h1164 := fl711.trans fl1165 (by decide)
                            have fl669 : FR [96, 107, 108, 109, 117, 118] h649 h1164 := fl669.trans fl1165 (by decide)
                            refine R_iload_n (k := 3) rfl rfl rfl ?_
                            refine R_aload_n (k := 0) rfl rfl rfl ?_
                            refine R_getf_i (j := 18) rfl ft_9_253 sh_96 rfl ?_
                            refine N_icmp_ge (a := x1166.toInt) (b := (h1164.1 96 18).toInt) 224 rfl rfl rfl rfl (fun c1183 => ?_) (fun c1183 => ?_)
                            · exact R_vret rfl rfl ⟨hI, fr, ⟨by omega, by omega, by omega, by omega, by omega, by omega, by omega, by omega, by omega, by omega, trivial⟩, rfl⟩
                            · refine R_aload_n (k := 0) rfl rfl rfl ?_
                              refine R_getf_r (j := 22) rfl ft_9_46 sh_96 rfl ?_
                              refine R_aload_n (k := 0) rfl rfl rfl ?_
                              refine R_getf_r (j := 17) rfl ft_9_40 sh_96 rfl ?_
                              refine R_iload_n (k := 3) rfl rfl rfl ?_
                              refine R_iald rfl sh_105 ⟨by omega, by omega⟩ ?_
                              refine N_bd (lo := 0) (hi := 5) (hI.1 105 _) (fun x1184 q1185 => ?_)
                              refine R_iald rfl sh_107 ⟨by omega, by omega⟩ ?_
                              refine N_any (fun x1186 => ?_)
                              refine R_iconst (-1) rfl rfl ?_
                              refine N_icmp_eq (a := x1186.toInt) (b := (-1)) 218 rfl rfl rfl (by decide) (fun c1187 => ?_) (fun c1187 => ?_)
                              · refine N_iinc (a := x1166.toInt) (c := 1) (fun w => [(3, .inl w), (0, .inr (.inr (.inl 96))), (1, .inl a0), (2, .inl a1)]) rfl rfl (fun _ => rfl) (by decide) rfl (by decide) (by omega) (fun x1188 q1189 => ?_)
                                refine R_goto 166 rfl rfl ?_
                                exact RUN_weak (psub_cons rfl (psub_cons rfl (psub_cons rfl (psub_cons rfl (psub_nil _))))) (ih1167 h1164 x1188 hI fr fl1165 (by omega) (by omega))
                              · refine R_aload_n (k := 0) rfl rfl rfl ?_
                                refine R_aload_n (k := 0) rfl rfl rfl ?_
                                refine R_getf_r (j := 17) rfl ft_9_40 sh_96 rfl ?_
                                refine R_iload_n (k := 3) rfl rfl rfl ?_
                                refine R_iald rfl sh_105 ⟨by omega, by omega⟩ ?_
                                refine N_bd (lo := 0) (hi := 5) (hI.1 105 _) (fun x1190 q1191 => ?_)
                                refine R_iload_n (k := 1) rfl rfl rfl ?_
                                refine R_callV (v := .inr (.inr (.inl 96))) (As := [.inl x1190, .inl a0]) (rest := []) rfl mt_9_i271 pp_X9_doesRest (by decide) rfl rfl rfl (Nat.le_of_ble_eq_true rfl) (Nat.le_of_ble_eq_true rfl) ((k_X9_doesRest h1164 hI x1190 a0 (by omega) (by omega)).mono (fun r1192 h1193 p1194 => ?_))
                                obtain ⟨rfl, x1195, rfl, q1196 | q1196 | q1196⟩ := p1194
                                · exfalso; omega
                                · show RUN d_X9_goSecond 200 [(3, .inl x1166), (0, .inr (.inr (.inl 96))), (1, .inl a0), (2, .inl a1)] [.inl x1195] h1164 _
                                  refine N_if_ne (a := x1195.toInt) 218 rfl rfl rfl (fun c1197 => ?_) (fun c1197 => ?_)
                                  · exfalso; omega
                                  · refine R_aload_n (k := 0) rfl rfl rfl ?_
                                    refine R_getf_r (j := 22) rfl ft_9_46 sh_96 rfl ?_
                                    refine R_aload_n (k := 0) rfl rfl rfl ?_
                                    refine R_getf_r (j := 17) rfl ft_9_40 sh_96 rfl ?_
                                    refine R_iload_n (k := 3) rfl rfl rfl ?_
                                    refine R_iald rfl sh_105 ⟨by omega, by omega⟩ ?_
                                    refine N_bd (lo := 0) (hi := 5) (hI.1 105 _) (fun x1198 q1199 => ?_)
                                    refine R_dup2 rfl ?_
                                    refine R_iald rfl sh_107 ⟨by omega, by omega⟩ ?_
                                    refine N_any (fun x1200 => ?_)
                                    refine R_iconst 1 rfl rfl ?_
                                    have b1201 := i_rng x1200
                                    refine R_iadd rfl ?_
                                    refine N_any (fun x1202 => ?_)
                                    refine K_iast (a := x1198.toInt) (lo := (-2147483648)) (hi' := 2147483647) rfl sh_107 rfl ⟨by omega, by omega⟩ hI (by decide) rfl (i_rng _) fr (by decide) (fun h1203 g1204 hI fr => ?_)
                                    have fl1165 : FR [107] h710 h1203 := by rw [g1204]; exact FR_wI _ _ fl1165 (by decide)
                                    have fl711 : FR [96, 107, 108, 109, 117, 118] h690 h1203 := by rw [g1204]; exact FR_wI _ _ fl711 (by decide)
                                    have fl669 : FR [96, 107, 108, 109, 117, 118] h649 h1203 := by rw [g1204]; exact FR_wI _ _ fl669 (by decide)
                                    have s1205 : (h1203.1 96 41).toInt = (h1164.1 96 41).toInt := by rw [g1204, wI_ne _ _ _ (by decide)]
                                    have s1206 : (h1203.1 96 42).toInt = (h1164.1 96 42).toInt := by rw [g1204, wI_ne _ _ _ (by decide)]
                                    have s1207 : (h1203.1 96 19).toInt = (h1164.1 96 19).toInt := by rw [g1204, wI_ne _ _ _ (by decide)]
                                    have s1208 : (h1203.1 96 18).toInt = (h1164.1 96 18).toInt := by rw [g1204, wI_ne _ _ _ (by decide)]
                                    have s1209 : (h1203.1 96 20).toInt = (h1164.1 96 20).toInt := by rw [g1204, wI_ne _ _ _ (by decide)]
                                    have s1210 : (h1203.1 96 46).toInt = (h1164.1 96 46).toInt := by rw [g1204, wI_ne _ _ _ (by decide)]
                                    have s1211 : (h1203.1 96 44).toInt = (h1164.1 96 44).toInt := by rw [g1204, wI_ne _ _ _ (by decide)]
                                    have s1212 : (h1203.1 96 47).toInt = (h1164.1 96 47).toInt := by rw [g1204, wI_ne _ _ _ (by decide)]
                                    have s1213 : (h1203.1 96 48).toInt = (h1164.1 96 48).toInt := by rw [g1204, wI_ne _ _ _ (by decide)]
                                    have s1214 : (h1203.1 96 51).toInt = (h1164.1 96 51).toInt := by rw [g1204, wI_ne _ _ _ (by decide)]
                                    have s1215 : (h1203.1 105 0).toInt = (h1164.1 105 0).toInt := by rw [g1204, wI_ne _ _ _ (by decide)]
                                    refine N_iinc (a := x1166.toInt) (c := 1) (fun w => [(3, .inl w), (0, .inr (.inr (.inl 96))), (1, .inl a0), (2, .inl a1)]) rfl rfl (fun _ => rfl) (by decide) rfl (by decide) (by omega) (fun x1216 q1217 => ?_)
                                    refine R_goto 166 rfl rfl ?_
                                    exact RUN_weak (psub_cons rfl (psub_cons rfl (psub_cons rfl (psub_cons rfl (psub_nil _))))) (ih1167 h1203 x1216 hI fr fl1165 (by omega) (by omega))
                                · show RUN d_X9_goSecond 200 [(3, .inl x1166), (0, .inr (.inr (.inl 96))), (1, .inl a0), (2, .inl a1)] [.inl x1195] h1164 _
                                  refine N_if_ne (a := x1195.toInt) 218 rfl rfl rfl (fun c1218 => ?_) (fun c1218 => ?_)
                                  · refine N_iinc (a := x1166.toInt) (c := 1) (fun w => [(3, .inl w), (0, .inr (.inr (.inl 96))), (1, .inl a0), (2, .inl a1)]) rfl rfl (fun _ => rfl) (by decide) rfl (by decide) (by omega) (fun x1219 q1220 => ?_)
                                    refine R_goto 166 rfl rfl ?_
                                    exact RUN_weak (psub_cons rfl (psub_cons rfl (psub_cons rfl (psub_cons rfl (psub_nil _))))) (ih1167 h1164 x1219 hI fr fl1165 (by omega) (by omega))
                                  · exfalso; omega
                        exact lp1163 _ h710 (0 : Int32) hI fr (FR.rf _ _) (by decide) (Nat.lt_succ_self _)
                      · exfalso; omega
              · refine R_iload_n (k := 2) rfl rfl rfl ?_
                refine N_if_ne (a := a1.toInt) 82 rfl rfl rfl (fun c1221 => ?_) (fun c1221 => ?_)
                · refine R_aload_n (k := 0) rfl rfl rfl ?_
                  refine R_getf_i (j := 18) rfl ft_9_253 sh_96 rfl ?_
                  refine N_if_le (a := (h710.1 96 18).toInt) 164 rfl rfl rfl (fun c1222 => ?_) (fun c1222 => ?_)
                  · exfalso; omega
                  · refine R_aload_n (k := 0) rfl rfl rfl ?_
                    refine R_getf_r (j := 22) rfl ft_9_46 sh_96 rfl ?_
                    refine R_aload_n (k := 0) rfl rfl rfl ?_
                    refine R_getf_r (j := 17) rfl ft_9_40 sh_96 rfl ?_
                    refine R_iconst 0 rfl rfl ?_
                    refine R_iald rfl sh_105 (by decide) ?_
                    have b1223 : (0 : Int) ≤ (h710.1 105 0).toInt ∧ (h710.1 105 0).toInt ≤ 5 := hI.1 105 0
                    show RUN d_X9_goSecond 99 [(3, .inl x712), (0, .inr (.inr (.inl 96))), (1, .inl a0), (2, .inl a1)] [.inl (h710.1 105 0), .inr (.inr (.inl 107))] h710 _
                    refine R_iald rfl sh_107 ⟨by omega, by omega⟩ ?_
                    refine N_any (fun x1224 => ?_)
                    refine R_iconst (-1) rfl rfl ?_
                    refine N_icmp_ne (a := x1224.toInt) (b := (-1)) 164 rfl rfl rfl (by decide) (fun c1225 => ?_) (fun c1225 => ?_)
                    · refine R_iconst 0 rfl rfl ?_
                      refine R_istore_n (k := 3) rfl [(3, .inl 0), (0, .inr (.inr (.inl 96))), (1, .inl a0), (2, .inl a1)] rfl rfl (by decide) ?_
                      have lp1227 : ∀ (n1226 : Nat) (h1228 : PH) (x1230 : Int32), INV h1228 → FR [96, 107, 108, 109, 117, 118] h h1228 → FR [107] h710 h1228 → 0 ≤ x1230.toInt ∧ x1230.toInt ≤ 6 → (6 - x1230.toInt).toNat < n1226 → RUN d_X9_goSecond 166 [(3, .inl x1230), (0, .inr (.inr (.inl 96))), (1, .inl a0), (2, .inl a1)] [] h1228 (q_X9_goSecond h a0 a1) := by
                        intro n1226
                        induction n1226 with
                        | zero => intro h1228 x1230 m1232 m1233 m1234 m1235 hz; exact absurd hz (Nat.not_lt_zero _)
                        | succ n1226 ih1231 =>
                          intro h1228 x1230 hI fr fl1229 m1235 hz
                          have s1236 : (h1228.1 96 41).toInt = (h710.1 96 41).toInt := by rw [(fl1229 96 (by decide)).1]
                          have s1237 : (h1228.1 96 42).toInt = (h710.1 96 42).toInt := by rw [(fl1229 96 (by decide)).1]
                          have s1238 : (h1228.1 96 19).toInt = (h710.1 96 19).toInt := by rw [(fl1229 96 (by decide)).1]
                          have s1239 : (h1228.1 96 18).toInt = (h710.1 96 18).toInt := by rw [(fl1229 96 (by decide)).1]
                          have s1240 : (h1228.1 96 20).toInt = (h710.1 96 20).toInt := by rw [(fl1229 96 (by decide)).1]
                          have s1241 : (h1228.1 96 46).toInt = (h710.1 96 46).toInt := by rw [(fl1229 96 (by decide)).1]
                          have s1242 : (h1228.1 96 44).toInt = (h710.1 96 44).toInt := by rw [(fl1229 96 (by decide)).1]
                          have s1243 : (h1228.1 96 47).toInt = (h710.1 96 47).toInt := by rw [(fl1229 96 (by decide)).1]
                          have s1244 : (h1228.1 96 48).toInt = (h710.1 96 48).toInt := by rw [(fl1229 96 (by decide)).1]
                          have s1245 : (h1228.1 96 51).toInt = (h710.1 96 51).toInt := by rw [(fl1229 96 (by decide)).1]
                          have s1246 : (h1228.1 105 0).toInt = (h710.1 105 0).toInt := by rw [(fl1229 105 (by decide)).1]
                          have fl711 : FR [96, 107, 108, 109, 117, 118] h690 h1228 := fl711.trans fl1229 (by decide)
                          have fl669 : FR [96, 107, 108, 109, 117, 118] h649 h1228 := fl669.trans fl1229 (by decide)
                          refine R_iload_n (k := 3) rfl rfl rfl ?_
                          refine R_aload_n (k := 0) rfl rfl rfl ?_
                          refine R_getf_i (j := 18) rfl ft_9_253 sh_96 rfl ?_
                          refine N_icmp_ge (a := x1230.toInt) (b := (h1228.1 96 18).toInt) 224 rfl rfl rfl rfl (fun c1247 => ?_) (fun c1247 => ?_)
                          · exact R_vret rfl rfl ⟨hI, fr, ⟨by omega, by omega, by omega, by omega, by omega, by omega, by omega, by omega, by omega, by omega, trivial⟩, rfl⟩
                          · refine R_aload_n (k := 0) rfl rfl rfl ?_
                            refine R_getf_r (j := 22) rfl ft_9_46 sh_96 rfl ?_
                            refine R_aload_n (k := 0) rfl rfl rfl ?_
                            refine R_getf_r (j := 17) rfl ft_9_40 sh_96 rfl ?_
                            refine R_iload_n (k := 3) rfl rfl rfl ?_
                            refine R_iald rfl sh_105 ⟨by omega, by omega⟩ ?_
                            refine N_bd (lo := 0) (hi := 5) (hI.1 105 _) (fun x1248 q1249 => ?_)
                            refine R_iald rfl sh_107 ⟨by omega, by omega⟩ ?_
                            refine N_any (fun x1250 => ?_)
                            refine R_iconst (-1) rfl rfl ?_
                            refine N_icmp_eq (a := x1250.toInt) (b := (-1)) 218 rfl rfl rfl (by decide) (fun c1251 => ?_) (fun c1251 => ?_)
                            · refine N_iinc (a := x1230.toInt) (c := 1) (fun w => [(3, .inl w), (0, .inr (.inr (.inl 96))), (1, .inl a0), (2, .inl a1)]) rfl rfl (fun _ => rfl) (by decide) rfl (by decide) (by omega) (fun x1252 q1253 => ?_)
                              refine R_goto 166 rfl rfl ?_
                              exact RUN_weak (psub_cons rfl (psub_cons rfl (psub_cons rfl (psub_cons rfl (psub_nil _))))) (ih1231 h1228 x1252 hI fr fl1229 (by omega) (by omega))
                            · refine R_aload_n (k := 0) rfl rfl rfl ?_
                              refine R_aload_n (k := 0) rfl rfl rfl ?_
                              refine R_getf_r (j := 17) rfl ft_9_40 sh_96 rfl ?_
                              refine R_iload_n (k := 3) rfl rfl rfl ?_
                              refine R_iald rfl sh_105 ⟨by omega, by omega⟩ ?_
                              refine N_bd (lo := 0) (hi := 5) (hI.1 105 _) (fun x1254 q1255 => ?_)
                              refine R_iload_n (k := 1) rfl rfl rfl ?_
                              have b1256 := i_rng a0
                              refine R_callV (v := .inr (.inr (.inl 96))) (As := [.inl x1254, .inl a0]) (rest := []) rfl mt_9_i271 pp_X9_doesRest (by decide) rfl rfl rfl (Nat.le_of_ble_eq_true rfl) (Nat.le_of_ble_eq_true rfl) ((k_X9_doesRest h1228 hI x1254 a0 (by omega) (by omega)).mono (fun r1257 h1258 p1259 => ?_))
                              obtain ⟨rfl, x1260, rfl, q1261 | q1261 | q1261⟩ := p1259
                              · show RUN d_X9_goSecond 200 [(3, .inl x1230), (0, .inr (.inr (.inl 96))), (1, .inl a0), (2, .inl a1)] [.inl x1260] h1228 _
                                refine N_if_ne (a := x1260.toInt) 218 rfl rfl rfl (fun c1262 => ?_) (fun c1262 => ?_)
                                · exfalso; omega
                                · refine R_aload_n (k := 0) rfl rfl rfl ?_
                                  refine R_getf_r (j := 22) rfl ft_9_46 sh_96 rfl ?_
                                  refine R_aload_n (k := 0) rfl rfl rfl ?_
                                  refine R_getf_r (j := 17) rfl ft_9_40 sh_96 rfl ?_
                                  refine R_iload_n (k := 3) rfl rfl rfl ?_
                                  refine R_iald rfl sh_105 ⟨by omega, by omega⟩ ?_
                                  refine N_bd (lo := 0) (hi := 5) (hI.1 105 _) (fun x1263 q1264 => ?_)
                                  refine R_dup2 rfl ?_
                                  refine R_iald rfl sh_107 ⟨by omega, by omega⟩ ?_
                                  refine N_any (fun x1265 => ?_)
                                  refine R_iconst 1 rfl rfl ?_
                                  have b1266 := i_rng x1265
                                  refine R_iadd rfl ?_
                                  refine N_any (fun x1267 => ?_)
                                  refine K_iast (a := x1263.toInt) (lo := (-2147483648)) (hi' := 2147483647) rfl sh_107 rfl ⟨by omega, by omega⟩ hI (by decide) rfl (i_rng _) fr (by decide) (fun h1268 g1269 hI fr => ?_)
                                  have fl1229 : FR [107] h710 h1268 := by rw [g1269]; exact FR_wI _ _ fl1229 (by decide)
                                  have fl711 : FR [96, 107, 108, 109, 117, 118] h690 h1268 := by rw [g1269]; exact FR_wI _ _ fl711 (by decide)
                                  have fl669 : FR [96, 107, 108, 109, 117, 118] h649 h1268 := by rw [g1269]; exact FR_wI _ _ fl669 (by decide)
                                  have s1270 : (h1268.1 96 41).toInt = (h1228.1 96 41).toInt := by rw [g1269, wI_ne _ _ _ (by decide)]
                                  have s1271 : (h1268.1 96 42).toInt = (h1228.1 96 42).toInt := by rw [g1269, wI_ne _ _ _ (by decide)]
                                  have s1272 : (h1268.1 96 19).toInt = (h1228.1 96 19).toInt := by rw [g1269, wI_ne _ _ _ (by decide)]
                                  have s1273 : (h1268.1 96 18).toInt = (h1228.1 96 18).toInt := by rw [g1269, wI_ne _ _ _ (by decide)]
                                  have s1274 : (h1268.1 96 20).toInt = (h1228.1 96 20).toInt := by rw [g1269, wI_ne _ _ _ (by decide)]
                                  have s1275 : (h1268.1 96 46).toInt = (h1228.1 96 46).toInt := by rw [g1269, wI_ne _ _ _ (by decide)]
                                  have s1276 : (h1268.1 96 44).toInt = (h1228.1 96 44).toInt := by rw [g1269, wI_ne _ _ _ (by decide)]
                                  have s1277 : (h1268.1 96 47).toInt = (h1228.1 96 47).toInt := by rw [g1269, wI_ne _ _ _ (by decide)]
                                  have s1278 : (h1268.1 96 48).toInt = (h1228.1 96 48).toInt := by rw [g1269, wI_ne _ _ _ (by decide)]
                                  have s1279 : (h1268.1 96 51).toInt = (h1228.1 96 51).toInt := by rw [g1269, wI_ne _ _ _ (by decide)]
                                  have s1280 : (h1268.1 105 0).toInt = (h1228.1 105 0).toInt := by rw [g1269, wI_ne _ _ _ (by decide)]
                                  refine N_iinc (a := x1230.toInt) (c := 1) (fun w => [(3, .inl w), (0, .inr (.inr (.inl 96))), (1, .inl a0), (2, .inl a1)]) rfl rfl (fun _ => rfl) (by decide) rfl (by decide) (by omega) (fun x1281 q1282 => ?_)
                                  refine R_goto 166 rfl rfl ?_
                                  exact RUN_weak (psub_cons rfl (psub_cons rfl (psub_cons rfl (psub_cons rfl (psub_nil _))))) (ih1231 h1268 x1281 hI fr fl1229 (by omega) (by omega))
                              · show RUN d_X9_goSecond 200 [(3, .inl x1230), (0, .inr (.inr (.inl 96))), (1, .inl a0), (2, .inl a1)] [.inl x1260] h1228 _
                                refine N_if_ne (a := x1260.toInt) 218 rfl rfl rfl (fun c1283 => ?_) (fun c1283 => ?_)
                                · exfalso; omega
                                · refine R_aload_n (k := 0) rfl rfl rfl ?_
                                  refine R_getf_r (j := 22) rfl ft_9_46 sh_96 rfl ?_
                                  refine R_aload_n (k := 0) rfl rfl rfl ?_
                                  refine R_getf_r (j := 17) rfl ft_9_40 sh_96 rfl ?_
                                  refine R_iload_n (k := 3) rfl rfl rfl ?_
                                  refine R_iald rfl sh_105 ⟨by omega, by omega⟩ ?_
                                  refine N_bd (lo := 0) (hi := 5) (hI.1 105 _) (fun x1284 q1285 => ?_)
                                  refine R_dup2 rfl ?_
                                  refine R_iald rfl sh_107 ⟨by omega, by omega⟩ ?_
                                  refine N_any (fun x1286 => ?_)
                                  refine R_iconst 1 rfl rfl ?_
                                  have b1287 := i_rng x1286
                                  refine R_iadd rfl ?_
                                  refine N_any (fun x1288 => ?_)
                                  refine K_iast (a := x1284.toInt) (lo := (-2147483648)) (hi' := 2147483647) rfl sh_107 rfl ⟨by omega, by omega⟩ hI (by decide) rfl (i_rng _) fr (by decide) (fun h1289 g1290 hI fr => ?_)
                                  have fl1229 : FR [107] h710 h1289 := by rw [g1290]; exact FR_wI _ _ fl1229 (by decide)
                                  have fl711 : FR [96, 107, 108, 109, 117, 118] h690 h1289 := by rw [g1290]; exact FR_wI _ _ fl711 (by decide)
                                  have fl669 : FR [96, 107, 108, 109, 117, 118] h649 h1289 := by rw [g1290]; exact FR_wI _ _ fl669 (by decide)
                                  have s1291 : (h1289.1 96 41).toInt = (h1228.1 96 41).toInt := by rw [g1290, wI_ne _ _ _ (by decide)]
                                  have s1292 : (h1289.1 96 42).toInt = (h1228.1 96 42).toInt := by rw [g1290, wI_ne _ _ _ (by decide)]
                                  have s1293 : (h1289.1 96 19).toInt = (h1228.1 96 19).toInt := by rw [g1290, wI_ne _ _ _ (by decide)]
                                  have s1294 : (h1289.1 96 18).toInt = (h1228.1 96 18).toInt := by rw [g1290, wI_ne _ _ _ (by decide)]
                                  have s1295 : (h1289.1 96 20).toInt = (h1228.1 96 20).toInt := by rw [g1290, wI_ne _ _ _ (by decide)]
                                  have s1296 : (h1289.1 96 46).toInt = (h1228.1 96 46).toInt := by rw [g1290, wI_ne _ _ _ (by decide)]
                                  have s1297 : (h1289.1 96 44).toInt = (h1228.1 96 44).toInt := by rw [g1290, wI_ne _ _ _ (by decide)]
                                  have s1298 : (h1289.1 96 47).toInt = (h1228.1 96 47).toInt := by rw [g1290, wI_ne _ _ _ (by decide)]
                                  have s1299 : (h1289.1 96 48).toInt = (h1228.1 96 48).toInt := by rw [g1290, wI_ne _ _ _ (by decide)]
                                  have s1300 : (h1289.1 96 51).toInt = (h1228.1 96 51).toInt := by rw [g1290, wI_ne _ _ _ (by decide)]
                                  have s1301 : (h1289.1 105 0).toInt = (h1228.1 105 0).toInt := by rw [g1290, wI_ne _ _ _ (by decide)]
                                  refine N_iinc (a := x1230.toInt) (c := 1) (fun w => [(3, .inl w), (0, .inr (.inr (.inl 96))), (1, .inl a0), (2, .inl a1)]) rfl rfl (fun _ => rfl) (by decide) rfl (by decide) (by omega) (fun x1302 q1303 => ?_)
                                  refine R_goto 166 rfl rfl ?_
                                  exact RUN_weak (psub_cons rfl (psub_cons rfl (psub_cons rfl (psub_cons rfl (psub_nil _))))) (ih1231 h1289 x1302 hI fr fl1229 (by omega) (by omega))
                              · show RUN d_X9_goSecond 200 [(3, .inl x1230), (0, .inr (.inr (.inl 96))), (1, .inl a0), (2, .inl a1)] [.inl x1260] h1228 _
                                refine N_if_ne (a := x1260.toInt) 218 rfl rfl rfl (fun c1304 => ?_) (fun c1304 => ?_)
                                · refine N_iinc (a := x1230.toInt) (c := 1) (fun w => [(3, .inl w), (0, .inr (.inr (.inl 96))), (1, .inl a0), (2, .inl a1)]) rfl rfl (fun _ => rfl) (by decide) rfl (by decide) (by omega) (fun x1305 q1306 => ?_)
                                  refine R_goto 166 rfl rfl ?_
                                  exact RUN_weak (psub_cons rfl (psub_cons rfl (psub_cons rfl (psub_cons rfl (psub_nil _))))) (ih1231 h1228 x1305 hI fr fl1229 (by omega) (by omega))
                                · exfalso; omega
                      exact lp1227 _ h710 (0 : Int32) hI fr (FR.rf _ _) (by decide) (Nat.lt_succ_self _)
                    · refine R_aload_n (k := 0) rfl rfl rfl ?_
                      refine R_aload_n (k := 0) rfl rfl rfl ?_
                      refine R_getf_r (j := 17) rfl ft_9_40 sh_96 rfl ?_
                      refine R_iconst 0 rfl rfl ?_
                      refine R_iald rfl sh_105 (by decide) ?_
                      show RUN d_X9_goSecond 111 [(3, .inl x712), (0, .inr (.inr (.inl 96))), (1, .inl a0), (2, .inl a1)] [.inl (h710.1 105 0), .inr (.inr (.inl 96))] h710 _
                      refine R_iload_n (k := 1) rfl rfl rfl ?_
                      have b1307 := i_rng a0
                      refine R_callV (v := .inr (.inr (.inl 96))) (As := [.inl (h710.1 105 0), .inl a0]) (rest := []) rfl mt_9_i271 pp_X9_doesRest (by decide) rfl rfl rfl (Nat.le_of_ble_eq_true rfl) (Nat.le_of_ble_eq_true rfl) ((k_X9_doesRest h710 hI (h710.1 105 0) a0 (by omega) (by omega)).mono (fun r1308 h1309 p1310 => ?_))
                      obtain ⟨rfl, x1311, rfl, q1312 | q1312 | q1312⟩ := p1310
                      · show RUN d_X9_goSecond 115 [(3, .inl x712), (0, .inr (.inr (.inl 96))), (1, .inl a0), (2, .inl a1)] [.inl x1311] h710 _
                        refine N_if_ne (a := x1311.toInt) 164 rfl rfl rfl (fun c1313 => ?_) (fun c1313 => ?_)
                        · exfalso; omega
                        · refine R_aload_n (k := 0) rfl rfl rfl ?_
                          refine R_getf_r (j := 24) rfl ft_9_52 sh_96 rfl ?_
                          refine R_iconst 0 rfl rfl ?_
                          refine R_iald rfl sh_109 (by decide) ?_
                          show RUN d_X9_goSecond 124 [(3, .inl x712), (0, .inr (.inr (.inl 96))), (1, .inl a0), (2, .inl a1)] [.inl (h710.1 109 0)] h710 _
                          refine N_if_le (a := (h710.1 109 0).toInt) 164 rfl rfl rfl (fun c1314 => ?_) (fun c1314 => ?_)
                          · refine R_iconst 0 rfl rfl ?_
                            refine R_istore_n (k := 3) rfl [(3, .inl 0), (0, .inr (.inr (.inl 96))), (1, .inl a0), (2, .inl a1)] rfl rfl (by decide) ?_
                            have lp1316 : ∀ (n1315 : Nat) (h1317 : PH) (x1319 : Int32), INV h1317 → FR [96, 107, 108, 109, 117, 118] h h1317 → FR [107] h710 h1317 → 0 ≤ x1319.toInt ∧ x1319.toInt ≤ 6 → (6 - x1319.toInt).toNat < n1315 → RUN d_X9_goSecond 166 [(3, .inl x1319), (0, .inr (.inr (.inl 96))), (1, .inl a0), (2, .inl a1)] [] h1317 (q_X9_goSecond h a0 a1) := by
                              intro n1315
                              induction n1315 with
                              | zero => intro h1317 x1319 m1321 m1322 m1323 m1324 hz; exact absurd hz (Nat.not_lt_zero _)
                              | succ n1315 ih1320 =>
                                intro h1317 x1319 hI fr fl1318 m1324 hz
                                have s1325 : (h1317.1 96 41).toInt = (h710.1 96 41).toInt := by rw [(fl1318 96 (by decide)).1]
                                have s1326 : (h1317.1 96 42).toInt = (h710.1 96 42).toInt := by rw [(fl1318 96 (by decide)).1]
                                have s1327 : (h1317.1 96 19).toInt = (h710.1 96 19).toInt := by rw [(fl1318 96 (by decide)).1]
                                have s1328 : (h1317.1 96 18).toInt = (h710.1 96 18).toInt := by rw [(fl1318 96 (by decide)).1]
                                have s1329 : (h1317.1 96 20).toInt = (h710.1 96 20).toInt := by rw [(fl1318 96 (by decide)).1]
                                have s1330 : (h1317.1 96 46).toInt = (h710.1 96 46).toInt := by rw [(fl1318 96 (by decide)).1]
                                have s1331 : (h1317.1 96 44).toInt = (h710.1 96 44).toInt := by rw [(fl1318 96 (by decide)).1]
                                have s1332 : (h1317.1 96 47).toInt = (h710.1 96 47).toInt := by rw [(fl1318 96 (by decide)).1]
                                have s1333 : (h1317.1 96 48).toInt = (h710.1 96 48).toInt := by rw [(fl1318 96 (by decide)).1]
                                have s1334 : (h1317.1 96 51).toInt = (h710.1 96 51).toInt := by rw [(fl1318 96 (by decide)).1]
                                have s1335 : (h1317.1 105 0).toInt = (h710.1 105 0).toInt := by rw [(fl1318 105 (by decide)).1]
                                have s1336 : (h1317.1 109 0).toInt = (h710.1 109 0).toInt := by rw [(fl1318 109 (by decide)).1]
                                have fl711 : FR [96, 107, 108, 109, 117, 118] h690 h1317 := fl711.trans fl1318 (by decide)
                                have fl669 : FR [96, 107, 108, 109, 117, 118] h649 h1317 := fl669.trans fl1318 (by decide)
                                refine R_iload_n (k := 3) rfl rfl rfl ?_
                                refine R_aload_n (k := 0) rfl rfl rfl ?_
                                refine R_getf_i (j := 18) rfl ft_9_253 sh_96 rfl ?_
                                refine N_icmp_ge (a := x1319.toInt) (b := (h1317.1 96 18).toInt) 224 rfl rfl rfl rfl (fun c1337 => ?_) (fun c1337 => ?_)
                                · exact R_vret rfl rfl ⟨hI, fr, ⟨by omega, by omega, by omega, by omega, by omega, by omega, by omega, by omega, by omega, by omega, trivial⟩, rfl⟩
                                · refine R_aload_n (k := 0) rfl rfl rfl ?_
                                  refine R_getf_r (j := 22) rfl ft_9_46 sh_96 rfl ?_
                                  refine R_aload_n (k := 0) rfl rfl rfl ?_
                                  refine R_getf_r (j := 17) rfl ft_9_40 sh_96 rfl ?_
                                  refine R_iload_n (k := 3) rfl rfl rfl ?_
                                  refine R_iald rfl sh_105 ⟨by omega, by omega⟩ ?_
                                  refine N_bd (lo := 0) (hi := 5) (hI.1 105 _) (fun x1338 q1339 => ?_)
                                  refine R_iald rfl sh_107 ⟨by omega, by omega⟩ ?_
                                  refine N_any (fun x1340 => ?_)
                                  refine R_iconst (-1) rfl rfl ?_
                                  refine N_icmp_eq (a := x1340.toInt) (b := (-1)) 218 rfl rfl rfl (by decide) (fun c1341 => ?_) (fun c1341 => ?_)
                                  · refine N_iinc (a := x1319.toInt) (c := 1) (fun w => [(3, .inl w), (0, .inr (.inr (.inl 96))), (1, .inl a0), (2, .inl a1)]) rfl rfl (fun _ => rfl) (by decide) rfl (by decide) (by omega) (fun x1342 q1343 => ?_)
                                    refine R_goto 166 rfl rfl ?_
                                    exact RUN_weak (psub_cons rfl (psub_cons rfl (psub_cons rfl (psub_cons rfl (psub_nil _))))) (ih1320 h1317 x1342 hI fr fl1318 (by omega) (by omega))
                                  · refine R_aload_n (k := 0) rfl rfl rfl ?_
                                    refine R_aload_n (k := 0) rfl rfl rfl ?_
                                    refine R_getf_r (j := 17) rfl ft_9_40 sh_96 rfl ?_
                                    refine R_iload_n (k := 3) rfl rfl rfl ?_
                                    refine R_iald rfl sh_105 ⟨by omega, by omega⟩ ?_
                                    refine N_bd (lo := 0) (hi := 5) (hI.1 105 _) (fun x1344 q1345 => ?_)
                                    refine R_iload_n (k := 1) rfl rfl rfl ?_
                                    have b1346 := i_rng a0
                                    refine R_callV (v := .inr (.inr (.inl 96))) (As := [.inl x1344, .inl a0]) (rest := []) rfl mt_9_i271 pp_X9_doesRest (by decide) rfl rfl rfl (Nat.le_of_ble_eq_true rfl) (Nat.le_of_ble_eq_true rfl) ((k_X9_doesRest h1317 hI x1344 a0 (by omega) (by omega)).mono (fun r1347 h1348 p1349 => ?_))
                                    obtain ⟨rfl, x1350, rfl, q1351 | q1351 | q1351⟩ := p1349
                                    · show RUN d_X9_goSecond 200 [(3, .inl x1319), (0, .inr (.inr (.inl 96))), (1, .inl a0), (2, .inl a1)] [.inl x1350] h1317 _
                                      refine N_if_ne (a := x1350.toInt) 218 rfl rfl rfl (fun c1352 => ?_) (fun c1352 => ?_)
                                      · exfalso; omega
                                      · refine R_aload_n (k := 0) rfl rfl rfl ?_
                                        refine R_getf_r (j := 22) rfl ft_9_46 sh_96 rfl ?_
                                        refine R_aload_n (k := 0) rfl rfl rfl ?_
                                        refine R_getf_r (j := 17) rfl ft_9_40 sh_96 rfl ?_
                                        refine R_iload_n (k := 3) rfl rfl rfl ?_
                                        refine R_iald rfl sh_105 ⟨by omega, by omega⟩ ?_
                                        refine N_bd (lo := 0) (hi := 5) (hI.1 105 _) (fun x1353 q1354 => ?_)
                                        refine R_dup2 rfl ?_
                                        refine R_iald rfl sh_107 ⟨by omega, by omega⟩ ?_
                                        refine N_any (fun x1355 => ?_)
                                        refine R_iconst 1 rfl rfl ?_
                                        have b1356 := i_rng x1355
                                        refine R_iadd rfl ?_
                                        refine N_any (fun x1357 => ?_)
                                        refine K_iast (a := x1353.toInt) (lo := (-2147483648)) (hi' := 2147483647) rfl sh_107 rfl ⟨by omega, by omega⟩ hI (by decide) rfl (i_rng _) fr (by decide) (fun h1358 g1359 hI fr => ?_)
                                        have fl1318 : FR [107] h710 h1358 := by rw [g1359]; exact FR_wI _ _ fl1318 (by decide)
                                        have fl711 : FR [96, 107, 108, 109, 117, 118] h690 h1358 := by rw [g1359]; exact FR_wI _ _ fl711 (by decide)
                                        have fl669 : FR [96, 107, 108, 109, 117, 118] h649 h1358 := by rw [g1359]; exact FR_wI _ _ fl669 (by decide)
                                        have s1360 : (h1358.1 96 41).toInt = (h1317.1 96 41).toInt := by rw [g1359, wI_ne _ _ _ (by decide)]
                                        have s1361 : (h1358.1 96 42).toInt = (h1317.1 96 42).toInt := by rw [g1359, wI_ne _ _ _ (by decide)]
                                        have s1362 : (h1358.1 96 19).toInt = (h1317.1 96 19).toInt := by rw [g1359, wI_ne _ _ _ (by decide)]
                                        have s1363 : (h1358.1 96 18).toInt = (h1317.1 96 18).toInt := by rw [g1359, wI_ne _ _ _ (by decide)]
                                        have s1364 : (h1358.1 96 20).toInt = (h1317.1 96 20).toInt := by rw [g1359, wI_ne _ _ _ (by decide)]
                                        have s1365 : (h1358.1 96 46).toInt = (h1317.1 96 46).toInt := by rw [g1359, wI_ne _ _ _ (by decide)]
                                        have s1366 : (h1358.1 96 44).toInt = (h1317.1 96 44).toInt := by rw [g1359, wI_ne _ _ _ (by decide)]
                                        have s1367 : (h1358.1 96 47).toInt = (h1317.1 96 47).toInt := by rw [g1359, wI_ne _ _ _ (by decide)]
                                        have s1368 : (h1358.1 96 48).toInt = (h1317.1 96 48).toInt := by rw [g1359, wI_ne _ _ _ (by decide)]
                                        have s1369 : (h1358.1 96 51).toInt = (h1317.1 96 51).toInt := by rw [g1359, wI_ne _ _ _ (by decide)]
                                        have s1370 : (h1358.1 105 0).toInt = (h1317.1 105 0).toInt := by rw [g1359, wI_ne _ _ _ (by decide)]
                                        have s1371 : (h1358.1 109 0).toInt = (h1317.1 109 0).toInt := by rw [g1359, wI_ne _ _ _ (by decide)]
                                        refine N_iinc (a := x1319.toInt) (c := 1) (fun w => [(3, .inl w), (0, .inr (.inr (.inl 96))), (1, .inl a0), (2, .inl a1)]) rfl rfl (fun _ => rfl) (by decide) rfl (by decide) (by omega) (fun x1372 q1373 => ?_)
                                        refine R_goto 166 rfl rfl ?_
                                        exact RUN_weak (psub_cons rfl (psub_cons rfl (psub_cons rfl (psub_cons rfl (psub_nil _))))) (ih1320 h1358 x1372 hI fr fl1318 (by omega) (by omega))
                                    · exfalso; omega
                                    · exfalso; omega
                            exact lp1316 _ h710 (0 : Int32) hI fr (FR.rf _ _) (by decide) (Nat.lt_succ_self _)
                          · refine R_aload_n (k := 0) rfl rfl rfl ?_
                            refine R_getf_r (j := 24) rfl ft_9_52 sh_96 rfl ?_
                            refine R_iconst 0 rfl rfl ?_
                            refine R_dup2 rfl ?_
                            refine R_iald rfl sh_109 (by decide) ?_
                            show RUN d_X9_goSecond 134 [(3, .inl x712), (0, .inr (.inr (.inl 96))), (1, .inl a0), (2, .inl a1)] [.inl (h710.1 109 0), .inl 0, .inr (.inr (.inl 109))] h710 _
                            refine R_iconst 1 rfl rfl ?_
                            have b1374 := i_rng (h710.1 109 0)
                            refine N_isub (a := (h710.1 109 0).toInt) (b := 1) rfl rfl (by decide) (by omega) (fun x1375 q1376 => ?_)
                            refine K_iast (a := 0) (lo := (-2147483648)) (hi' := 2147483647) rfl sh_109 (by decide) (by decide) hI (by decide) rfl (i_rng _) fr (by decide) (fun h1377 g1378 hI fr => ?_)
                            have fl711 : FR [96, 107, 108, 109, 117, 118] h690 h1377 := by rw [g1378]; exact FR_wI _ _ fl711 (by decide)
                            have fl669 : FR [96, 107, 108, 109, 117, 118] h649 h1377 := by rw [g1378]; exact FR_wI _ _ fl669 (by decide)
                            have s1379 : (h1377.1 96 41).toInt = (h710.1 96 41).toInt := by rw [g1378, wI_ne _ _ _ (by decide)]
                            have s1380 : (h1377.1 96 42).toInt = (h710.1 96 42).toInt := by rw [g1378, wI_ne _ _ _ (by decide)]
                            have s1381 : (h1377.1 96 19).toInt = (h710.1 96 19).toInt := by rw [g1378, wI_ne _ _ _ (by decide)]
                            have s1382 : (h1377.1 96 18).toInt = (h710.1 96 18).toInt := by rw [g1378, wI_ne _ _ _ (by decide)]
                            have s1383 : (h1377.1 96 20).toInt = (h710.1 96 20).toInt := by rw [g1378, wI_ne _ _ _ (by decide)]
                            have s1384 : (h1377.1 96 46).toInt = (h710.1 96 46).toInt := by rw [g1378, wI_ne _ _ _ (by decide)]
                            have s1385 : (h1377.1 96 44).toInt = (h710.1 96 44).toInt := by rw [g1378, wI_ne _ _ _ (by decide)]
                            have s1386 : (h1377.1 96 47).toInt = (h710.1 96 47).toInt := by rw [g1378, wI_ne _ _ _ (by decide)]
                            have s1387 : (h1377.1 96 48).toInt = (h710.1 96 48).toInt := by rw [g1378, wI_ne _ _ _ (by decide)]
                            have s1388 : (h1377.1 96 51).toInt = (h710.1 96 51).toInt := by rw [g1378, wI_ne _ _ _ (by decide)]
                            have s1389 : (h1377.1 105 0).toInt = (h710.1 105 0).toInt := by rw [g1378, wI_ne _ _ _ (by decide)]
                            have s1390 : (h1377.1 109 0).toInt = x1375.toInt := by rw [g1378, show (0 : Int32).toNatClampNeg = 0 from rfl, wI_is]
                            refine R_aload_n (k := 0) rfl rfl rfl ?_
                            refine R_getf_r (j := 22) rfl ft_9_46 sh_96 rfl ?_
                            refine R_aload_n (k := 0) rfl rfl rfl ?_
                            refine R_getf_r (j := 17) rfl ft_9_40 sh_96 rfl ?_
                            refine R_iconst 0 rfl rfl ?_
                            refine R_iald rfl sh_105 (by decide) ?_
                            show RUN d_X9_goSecond 147 [(3, .inl x712), (0, .inr (.inr (.inl 96))), (1, .inl a0), (2, .inl a1)] [.inl (h1377.1 105 0), .inr (.inr (.inl 107))] h1377 _
                            refine R_iconst 0 rfl rfl ?_
                            refine K_iast (a := (h1377.1 105 0).toInt) (lo := (-2147483648)) (hi' := 2147483647) rfl sh_107 rfl ⟨by omega, by omega⟩ hI (by decide) rfl (by decide) fr (by decide) (fun h1391 g1392 hI fr => ?_)
                            have fl711 : FR [96, 107, 108, 109, 117, 118] h690 h1391 := by rw [g1392]; exact FR_wI _ _ fl711 (by decide)
                            have fl669 : FR [96, 107, 108, 109, 117, 118] h649 h1391 := by rw [g1392]; exact FR_wI _ _ fl669 (by decide)
                            have s1393 : (h1391.1 96 41).toInt = (h1377.1 96 41).toInt := by rw [g1392, wI_ne _ _ _ (by decide)]
                            have s1394 : (h1391.1 96 42).toInt = (h1377.1 96 42).toInt := by rw [g1392, wI_ne _ _ _ (by decide)]
                            have s1395 : (h1391.1 96 19).toInt = (h1377.1 96 19).toInt := by rw [g1392, wI_ne _ _ _ (by decide)]
                            have s1396 : (h1391.1 96 18).toInt = (h1377.1 96 18).toInt := by rw [g1392, wI_ne _ _ _ (by decide)]
                            have s1397 : (h1391.1 96 20).toInt = (h1377.1 96 20).toInt := by rw [g1392, wI_ne _ _ _ (by decide)]
                            have s1398 : (h1391.1 96 46).toInt = (h1377.1 96 46).toInt := by rw [g1392, wI_ne _ _ _ (by decide)]
                            have s1399 : (h1391.1 96 44).toInt = (h1377.1 96 44).toInt := by rw [g1392, wI_ne _ _ _ (by decide)]
                            have s1400 : (h1391.1 96 47).toInt = (h1377.1 96 47).toInt := by rw [g1392, wI_ne _ _ _ (by decide)]
                            have s1401 : (h1391.1 96 48).toInt = (h1377.1 96 48).toInt := by rw [g1392, wI_ne _ _ _ (by decide)]
                            have s1402 : (h1391.1 96 51).toInt = (h1377.1 96 51).toInt := by rw [g1392, wI_ne _ _ _ (by decide)]
                            have s1403 : (h1391.1 105 0).toInt = (h1377.1 105 0).toInt := by rw [g1392, wI_ne _ _ _ (by decide)]
                            have s1404 : (h1391.1 109 0).toInt = (h1377.1 109 0).toInt := by rw [g1392, wI_ne _ _ _ (by decide)]
                            refine R_aload_n (k := 0) rfl rfl rfl ?_
                            refine R_getf_r (j := 23) rfl ft_9_49 sh_96 rfl ?_
                            refine R_aload_n (k := 0) rfl rfl rfl ?_
                            refine R_getf_r (j := 17) rfl ft_9_40 sh_96 rfl ?_
                            refine R_iconst 0 rfl rfl ?_
                            refine R_iald rfl sh_105 (by decide) ?_
                            show RUN d_X9_goSecond 159 [(3, .inl x712), (0, .inr (.inr (.inl 96))), (1, .inl a0), (2, .inl a1)] [.inl (h1391.1 105 0), .inr (.inr (.inl 108))] h1391 _
                            refine R_aload_n (k := 0) rfl rfl rfl ?_
                            refine R_getf_i (j := 20) rfl ft_9_259 sh_96 rfl ?_
                            refine K_iast (a := (h1391.1 105 0).toInt) (lo := (-2147483648)) (hi' := 2147483647) rfl sh_108 rfl ⟨by omega, by omega⟩ hI (by decide) rfl (i_rng _) fr (by decide) (fun h1405 g1406 hI fr => ?_)
                            have fl711 : FR [96, 107, 108, 109, 117, 118] h690 h1405 := by rw [g1406]; exact FR_wI _ _ fl711 (by decide)
                            have fl669 : FR [96, 107, 108, 109, 117, 118] h649 h1405 := by rw [g1406]; exact FR_wI _ _ fl669 (by decide)
                            have s1407 : (h1405.1 96 41).toInt = (h1391.1 96 41).toInt := by rw [g1406, wI_ne _ _ _ (by decide)]
                            have s1408 : (h1405.1 96 42).toInt = (h1391.1 96 42).toInt := by rw [g1406, wI_ne _ _ _ (by decide)]
                            have s1409 : (h1405.1 96 19).toInt = (h1391.1 96 19).toInt := by rw [g1406, wI_ne _ _ _ (by decide)]
                            have s1410 : (h1405.1 96 18).toInt = (h1391.1 96 18).toInt := by rw [g1406, wI_ne _ _ _ (by decide)]
                            have s1411 : (h1405.1 96 20).toInt = (h1391.1 96 20).toInt := by rw [g1406, wI_ne _ _ _ (by decide)]
                            have s1412 : (h1405.1 96 46).toInt = (h1391.1 96 46).toInt := by rw [g1406, wI_ne _ _ _ (by decide)]
                            have s1413 : (h1405.1 96 44).toInt = (h1391.1 96 44).toInt := by rw [g1406, wI_ne _ _ _ (by decide)]
                            have s1414 : (h1405.1 96 47).toInt = (h1391.1 96 47).toInt := by rw [g1406, wI_ne _ _ _ (by decide)]
                            have s1415 : (h1405.1 96 48).toInt = (h1391.1 96 48).toInt := by rw [g1406, wI_ne _ _ _ (by decide)]
                            have s1416 : (h1405.1 96 51).toInt = (h1391.1 96 51).toInt := by rw [g1406, wI_ne _ _ _ (by decide)]
                            have s1417 : (h1405.1 105 0).toInt = (h1391.1 105 0).toInt := by rw [g1406, wI_ne _ _ _ (by decide)]
                            have s1418 : (h1405.1 109 0).toInt = (h1391.1 109 0).toInt := by rw [g1406, wI_ne _ _ _ (by decide)]
                            refine R_iconst 0 rfl rfl ?_
                            refine R_istore_n (k := 3) rfl [(3, .inl 0), (0, .inr (.inr (.inl 96))), (1, .inl a0), (2, .inl a1)] rfl rfl (by decide) ?_
                            have lp1420 : ∀ (n1419 : Nat) (h1421 : PH) (x1423 : Int32), INV h1421 → FR [96, 107, 108, 109, 117, 118] h h1421 → FR [107] h1405 h1421 → 0 ≤ x1423.toInt ∧ x1423.toInt ≤ 6 → (6 - x1423.toInt).toNat < n1419 → RUN d_X9_goSecond 166 [(3, .inl x1423), (0, .inr (.inr (.inl 96))), (1, .inl a0), (2, .inl a1)] [] h1421 (q_X9_goSecond h a0 a1) := by
                              intro n1419
                              induction n1419 with
                              | zero => intro h1421 x1423 m1425 m1426 m1427 m1428 hz; exact absurd hz (Nat.not_lt_zero _)
                              | succ n1419 ih1424 =>
                                intro h1421 x1423 hI fr fl1422 m1428 hz
                                have s1429 : (h1421.1 96 41).toInt = (h1405.1 96 41).toInt := by rw [(fl1422 96 (by decide)).1]
                                have s1430 : (h1421.1 96 42).toInt = (h1405.1 96 42).toInt := by rw [(fl1422 96 (by decide)).1]
                                have s1431 : (h1421.1 96 19).toInt = (h1405.1 96 19).toInt := by rw [(fl1422 96 (by decide)).1]
                                have s1432 : (h1421.1 96 18).toInt = (h1405.1 96 18).toInt := by rw [(fl1422 96 (by decide)).1]
                                have s1433 : (h1421.1 96 20).toInt = (h1405.1 96 20).toInt := by rw [(fl1422 96 (by decide)).1]
                                have s1434 : (h1421.1 96 46).toInt = (h1405.1 96 46).toInt := by rw [(fl1422 96 (by decide)).1]
                                have s1435 : (h1421.1 96 44).toInt = (h1405.1 96 44).toInt := by rw [(fl1422 96 (by decide)).1]
                                have s1436 : (h1421.1 96 47).toInt = (h1405.1 96 47).toInt := by rw [(fl1422 96 (by decide)).1]
                                have s1437 : (h1421.1 96 48).toInt = (h1405.1 96 48).toInt := by rw [(fl1422 96 (by decide)).1]
                                have s1438 : (h1421.1 96 51).toInt = (h1405.1 96 51).toInt := by rw [(fl1422 96 (by decide)).1]
                                have s1439 : (h1421.1 105 0).toInt = (h1405.1 105 0).toInt := by rw [(fl1422 105 (by decide)).1]
                                have s1440 : (h1421.1 109 0).toInt = (h1405.1 109 0).toInt := by rw [(fl1422 109 (by decide)).1]
                                have fl711 : FR [96, 107, 108, 109, 117, 118] h690 h1421 := fl711.trans fl1422 (by decide)
                                have fl669 : FR [96, 107, 108, 109, 117, 118] h649 h1421 := fl669.trans fl1422 (by decide)
                                refine R_iload_n (k := 3) rfl rfl rfl ?_
                                refine R_aload_n (k := 0) rfl rfl rfl ?_
                                refine R_getf_i (j := 18) rfl ft_9_253 sh_96 rfl ?_
                                refine N_icmp_ge (a := x1423.toInt) (b := (h1421.1 96 18).toInt) 224 rfl rfl rfl rfl (fun c1441 => ?_) (fun c1441 => ?_)
                                · exact R_vret rfl rfl ⟨hI, fr, ⟨by omega, by omega, by omega, by omega, by omega, by omega, by omega, by omega, by omega, by omega, trivial⟩, rfl⟩
                                · refine R_aload_n (k := 0) rfl rfl rfl ?_
                                  refine R_getf_r (j := 22) rfl ft_9_46 sh_96 rfl ?_
                                  refine R_aload_n (k := 0) rfl rfl rfl ?_
                                  refine R_getf_r (j := 17) rfl ft_9_40 sh_96 rfl ?_
                                  refine R_iload_n (k := 3) rfl rfl rfl ?_
                                  refine R_iald rfl sh_105 ⟨by omega, by omega⟩ ?_
                                  refine N_bd (lo := 0) (hi := 5) (hI.1 105 _) (fun x1442 q1443 => ?_)
                                  refine R_iald rfl sh_107 ⟨by omega, by omega⟩ ?_
                                  refine N_any (fun x1444 => ?_)
                                  refine R_iconst (-1) rfl rfl ?_
                                  refine N_icmp_eq (a := x1444.toInt) (b := (-1)) 218 rfl rfl rfl (by decide) (fun c1445 => ?_) (fun c1445 => ?_)
                                  · refine N_iinc (a := x1423.toInt) (c := 1) (fun w => [(3, .inl w), (0, .inr (.inr (.inl 96))), (1, .inl a0), (2, .inl a1)]) rfl rfl (fun _ => rfl) (by decide) rfl (by decide) (by omega) (fun x1446 q1447 => ?_)
                                    refine R_goto 166 rfl rfl ?_
                                    exact RUN_weak (psub_cons rfl (psub_cons rfl (psub_cons rfl (psub_cons rfl (psub_nil _))))) (ih1424 h1421 x1446 hI fr fl1422 (by omega) (by omega))
                                  · refine R_aload_n (k := 0) rfl rfl rfl ?_
                                    refine R_aload_n (k := 0) rfl rfl rfl ?_
                                    refine R_getf_r (j := 17) rfl ft_9_40 sh_96 rfl ?_
                                    refine R_iload_n (k := 3) rfl rfl rfl ?_
                                    refine R_iald rfl sh_105 ⟨by omega, by omega⟩ ?_
                                    refine N_bd (lo := 0) (hi := 5) (hI.1 105 _) (fun x1448 q1449 => ?_)
                                    refine R_iload_n (k := 1) rfl rfl rfl ?_
                                    have b1450 := i_rng a0
                                    refine R_callV (v := .inr (.inr (.inl 96))) (As := [.inl x1448, .inl a0]) (rest := []) rfl mt_9_i271 pp_X9_doesRest (by decide) rfl rfl rfl (Nat.le_of_ble_eq_true rfl) (Nat.le_of_ble_eq_true rfl) ((k_X9_doesRest h1421 hI x1448 a0 (by omega) (by omega)).mono (fun r1451 h1452 p1453 => ?_))
                                    obtain ⟨rfl, x1454, rfl, q1455 | q1455 | q1455⟩ := p1453
                                    · show RUN d_X9_goSecond 200 [(3, .inl x1423), (0, .inr (.inr (.inl 96))), (1, .inl a0), (2, .inl a1)] [.inl x1454] h1421 _
                                      refine N_if_ne (a := x1454.toInt) 218 rfl rfl rfl (fun c1456 => ?_) (fun c1456 => ?_)
                                      · exfalso; omega
                                      · refine R_aload_n (k := 0) rfl rfl rfl ?_
                                        refine R_getf_r (j := 22) rfl ft_9_46 sh_96 rfl ?_
                                        refine R_aload_n (k := 0) rfl rfl rfl ?_
                                        refine R_getf_r (j := 17) rfl ft_9_40 sh_96 rfl ?_
                                        refine R_iload_n (k := 3) rfl rfl rfl ?_
                                        refine R_iald rfl sh_105 ⟨by omega, by omega⟩ ?_
                                        refine N_bd (lo := 0) (hi := 5) (hI.1 105 _) (fun x1457 q1458 => ?_)
                                        refine R_dup2 rfl ?_
                                        refine R_iald rfl sh_107 ⟨by omega, by omega⟩ ?_
                                        refine N_any (fun x1459 => ?_)
                                        refine R_iconst 1 rfl rfl ?_
                                        have b1460 := i_rng x1459
                                        refine R_iadd rfl ?_
                                        refine N_any (fun x1461 => ?_)
                                        refine K_iast (a := x1457.toInt) (lo := (-2147483648)) (hi' := 2147483647) rfl sh_107 rfl ⟨by omega, by omega⟩ hI (by decide) rfl (i_rng _) fr (by decide) (fun h1462 g1463 hI fr => ?_)
                                        have fl1422 : FR [107] h1405 h1462 := by rw [g1463]; exact FR_wI _ _ fl1422 (by decide)
                                        have fl711 : FR [96, 107, 108, 109, 117, 118] h690 h1462 := by rw [g1463]; exact FR_wI _ _ fl711 (by decide)
                                        have fl669 : FR [96, 107, 108, 109, 117, 118] h649 h1462 := by rw [g1463]; exact FR_wI _ _ fl669 (by decide)
                                        have s1464 : (h1462.1 96 41).toInt = (h1421.1 96 41).toInt := by rw [g1463, wI_ne _ _ _ (by decide)]
                                        have s1465 : (h1462.1 96 42).toInt = (h1421.1 96 42).toInt := by rw [g1463, wI_ne _ _ _ (by decide)]
                                        have s1466 : (h1462.1 96 19).toInt = (h1421.1 96 19).toInt := by rw [g1463, wI_ne _ _ _ (by decide)]
                                        have s1467 : (h1462.1 96 18).toInt = (h1421.1 96 18).toInt := by rw [g1463, wI_ne _ _ _ (by decide)]
                                        have s1468 : (h1462.1 96 20).toInt = (h1421.1 96 20).toInt := by rw [g1463, wI_ne _ _ _ (by decide)]
                                        have s1469 : (h1462.1 96 46).toInt = (h1421.1 96 46).toInt := by rw [g1463, wI_ne _ _ _ (by decide)]
                                        have s1470 : (h1462.1 96 44).toInt = (h1421.1 96 44).toInt := by rw [g1463, wI_ne _ _ _ (by decide)]
                                        have s1471 : (h1462.1 96 47).toInt = (h1421.1 96 47).toInt := by rw [g1463, wI_ne _ _ _ (by decide)]
                                        have s1472 : (h1462.1 96 48).toInt = (h1421.1 96 48).toInt := by rw [g1463, wI_ne _ _ _ (by decide)]
                                        have s1473 : (h1462.1 96 51).toInt = (h1421.1 96 51).toInt := by rw [g1463, wI_ne _ _ _ (by decide)]
                                        have s1474 : (h1462.1 105 0).toInt = (h1421.1 105 0).toInt := by rw [g1463, wI_ne _ _ _ (by decide)]
                                        have s1475 : (h1462.1 109 0).toInt = (h1421.1 109 0).toInt := by rw [g1463, wI_ne _ _ _ (by decide)]
                                        refine N_iinc (a := x1423.toInt) (c := 1) (fun w => [(3, .inl w), (0, .inr (.inr (.inl 96))), (1, .inl a0), (2, .inl a1)]) rfl rfl (fun _ => rfl) (by decide) rfl (by decide) (by omega) (fun x1476 q1477 => ?_)
                                        refine R_goto 166 rfl rfl ?_
                                        exact RUN_weak (psub_cons rfl (psub_cons rfl (psub_cons rfl (psub_cons rfl (psub_nil _))))) (ih1424 h1462 x1476 hI fr fl1422 (by omega) (by omega))
                                    · exfalso; omega
                                    · exfalso; omega
                            exact lp1420 _ h1405 (0 : Int32) hI fr (FR.rf _ _) (by decide) (Nat.lt_succ_self _)
                      · show RUN d_X9_goSecond 115 [(3, .inl x712), (0, .inr (.inr (.inl 96))), (1, .inl a0), (2, .inl a1)] [.inl x1311] h710 _
                        refine N_if_ne (a := x1311.toInt) 164 rfl rfl rfl (fun c1478 => ?_) (fun c1478 => ?_)
                        · exfalso; omega
                        · refine R_aload_n (k := 0) rfl rfl rfl ?_
                          refine R_getf_r (j := 24) rfl ft_9_52 sh_96 rfl ?_
                          refine R_iconst 0 rfl rfl ?_
                          refine R_iald rfl sh_109 (by decide) ?_
                          show RUN d_X9_goSecond 124 [(3, .inl x712), (0, .inr (.inr (.inl 96))), (1, .inl a0), (2, .inl a1)] [.inl (h710.1 109 0)] h710 _
                          refine N_if_le (a := (h710.1 109 0).toInt) 164 rfl rfl rfl (fun c1479 => ?_) (fun c1479 => ?_)
                          · refine R_iconst 0 rfl rfl ?_
                            refine R_istore_n (k := 3) rfl [(3, .inl 0), (0, .inr (.inr (.inl 96))), (1, .inl a0), (2, .inl a1)] rfl rfl (by decide) ?_
                            have lp1481 : ∀ (n1480 : Nat) (h1482 : PH) (x1484 : Int32), INV h1482 → FR [96, 107, 108, 109, 117, 118] h h1482 → FR [107] h710 h1482 → 0 ≤ x1484.toInt ∧ x1484.toInt ≤ 6 → (6 - x1484.toInt).toNat < n1480 → RUN d_X9_goSecond 166 [(3, .inl x1484), (0, .inr (.inr (.inl 96))), (1, .inl a0), (2, .inl a1)] [] h1482 (q_X9_goSecond h a0 a1) := by
                              intro n1480
                              induction n1480 with
                              | zero => intro h1482 x1484 m1486 m1487 m1488 m1489 hz; exact absurd hz (Nat.not_lt_zero _)
                              | succ n1480 ih1485 =>
                                intro h1482 x1484 hI fr fl1483 m1489 hz
                                have s1490 : (h1482.1 96 41).toInt = (h710.1 96 41).toInt := by rw [(fl1483 96 (by decide)).1]
                                have s1491 : (h1482.1 96 42).toInt = (h710.1 96 42).toInt := by rw [(fl1483 96 (by decide)).1]
                                have s1492 : (h1482.1 96 19).toInt = (h710.1 96 19).toInt := by rw [(fl1483 96 (by decide)).1]
                                have s1493 : (h1482.1 96 18).toInt = (h710.1 96 18).toInt := by rw [(fl1483 96 (by decide)).1]
                                have s1494 : (h1482.1 96 20).toInt = (h710.1 96 20).toInt := by rw [(fl1483 96 (by decide)).1]
                                have s1495 : (h1482.1 96 46).toInt = (h710.1 96 46).toInt := by rw [(fl1483 96 (by decide)).1]
                                have s1496 : (h1482.1 96 44).toInt = (h710.1 96 44).toInt := by rw [(fl1483 96 (by decide)).1]
                                have s1497 : (h1482.1 96 47).toInt = (h710.1 96 47).toInt := by rw [(fl1483 96 (by decide)).1]
                                have s1498 : (h1482.1 96 48).toInt = (h710.1 96 48).toInt := by rw [(fl1483 96 (by decide)).1]
                                have s1499 : (h1482.1 96 51).toInt = (h710.1 96 51).toInt := by rw [(fl1483 96 (by decide)).1]
                                have s1500 : (h1482.1 105 0).toInt = (h710.1 105 0).toInt := by rw [(fl1483 105 (by decide)).1]
                                have s1501 : (h1482.1 109 0).toInt = (h710.1 109 0).toInt := by rw [(fl1483 109 (by decide)).1]
                                have fl711 : FR [96, 107, 108, 109, 117, 118] h690 h1482 := fl711.trans fl1483 (by decide)
                                have fl669 : FR [96, 107, 108, 109, 117, 118] h649 h1482 := fl669.trans fl1483 (by decide)
                                refine R_iload_n (k := 3) rfl rfl rfl ?_
                                refine R_aload_n (k := 0) rfl rfl rfl ?_
                                refine R_getf_i (j := 18) rfl ft_9_253 sh_96 rfl ?_
                                refine N_icmp_ge (a := x1484.toInt) (b := (h1482.1 96 18).toInt) 224 rfl rfl rfl rfl (fun c1502 => ?_) (fun c1502 => ?_)
                                · exact R_vret rfl rfl ⟨hI, fr, ⟨by omega, by omega, by omega, by omega, by omega, by omega, by omega, by omega, by omega, by omega, trivial⟩, rfl⟩
                                · refine R_aload_n (k := 0) rfl rfl rfl ?_
                                  refine R_getf_r (j := 22) rfl ft_9_46 sh_96 rfl ?_
                                  refine R_aload_n (k := 0) rfl rfl rfl ?_
                                  refine R_getf_r (j := 17) rfl ft_9_40 sh_96 rfl ?_
                                  refine R_iload_n (k := 3) rfl rfl rfl ?_
                                  refine R_iald rfl sh_105 ⟨by omega, by omega⟩ ?_
                                  refine N_bd (lo := 0) (hi := 5) (hI.1 105 _) (fun x1503 q1504 => ?_)
                                  refine R_iald rfl sh_107 ⟨by omega, by omega⟩ ?_
                                  refine N_any (fun x1505 => ?_)
                                  refine R_iconst (-1) rfl rfl ?_
                                  refine N_icmp_eq (a := x1505.toInt) (b := (-1)) 218 rfl rfl rfl (by decide) (fun c1506 => ?_) (fun c1506 => ?_)
                                  · refine N_iinc (a := x1484.toInt) (c := 1) (fun w => [(3, .inl w), (0, .inr (.inr (.inl 96))), (1, .inl a0), (2, .inl a1)]) rfl rfl (fun _ => rfl) (by decide) rfl (by decide) (by omega) (fun x1507 q1508 => ?_)
                                    refine R_goto 166 rfl rfl ?_
                                    exact RUN_weak (psub_cons rfl (psub_cons rfl (psub_cons rfl (psub_cons rfl (psub_nil _))))) (ih1485 h1482 x1507 hI fr fl1483 (by omega) (by omega))
                                  · refine R_aload_n (k := 0) rfl rfl rfl ?_
                                    refine R_aload_n (k := 0) rfl rfl rfl ?_
                                    refine R_getf_r (j := 17) rfl ft_9_40 sh_96 rfl ?_
                                    refine R_iload_n (k := 3) rfl rfl rfl ?_
                                    refine R_iald rfl sh_105 ⟨by omega, by omega⟩ ?_
                                    refine N_bd (lo := 0) (hi := 5) (hI.1 105 _) (fun x1509 q1510 => ?_)
                                    refine R_iload_n (k := 1) rfl rfl rfl ?_
                                    refine R_callV (v := .inr (.inr (.inl 96))) (As := [.inl x1509, .inl a0]) (rest := []) rfl mt_9_i271 pp_X9_doesRest (by decide) rfl rfl rfl (Nat.le_of_ble_eq_true rfl) (Nat.le_of_ble_eq_true rfl) ((k_X9_doesRest h1482 hI x1509 a0 (by omega) (by omega)).mono (fun r1511 h1512 p1513 => ?_))
                                    obtain ⟨rfl, x1514, rfl, q1515 | q1515 | q1515⟩ := p1513
                                    · exfalso; omega
                                    · show RUN d_X9_goSecond 200 [(3, .inl x1484), (0, .inr (.inr (.inl 96))), (1, .inl a0), (2, .inl a1)] [.inl x1514] h1482 _
                                      refine N_if_ne (a := x1514.toInt) 218 rfl rfl rfl (fun c1516 => ?_) (fun c1516 => ?_)
                                      · exfalso; omega
                                      · refine R_aload_n (k := 0) rfl rfl rfl ?_
                                        refine R_getf_r (j := 22) rfl ft_9_46 sh_96 rfl ?_
                                        refine R_aload_n (k := 0) rfl rfl rfl ?_
                                        refine R_getf_r (j := 17) rfl ft_9_40 sh_96 rfl ?_
                                        refine R_iload_n (k := 3) rfl rfl rfl ?_
                                        refine R_iald rfl sh_105 ⟨by omega, by omega⟩ ?_
                                        refine N_bd (lo := 0) (hi := 5) (hI.1 105 _) (fun x1517 q1518 => ?_)
                                        refine R_dup2 rfl ?_
                                        refine R_iald rfl sh_107 ⟨by omega, by omega⟩ ?_
                                        refine N_any (fun x1519 => ?_)
                                        refine R_iconst 1 rfl rfl ?_
                                        have b1520 := i_rng x1519
                                        refine R_iadd rfl ?_
                                        refine N_any (fun x1521 => ?_)
                                        refine K_iast (a := x1517.toInt) (lo := (-2147483648)) (hi' := 2147483647) rfl sh_107 rfl ⟨by omega, by omega⟩ hI (by decide) rfl (i_rng _) fr (by decide) (fun h1522 g1523 hI fr => ?_)
                                        have fl1483 : FR [107] h710 h1522 := by rw [g1523]; exact FR_wI _ _ fl1483 (by decide)
                                        have fl711 : FR [96, 107, 108, 109, 117, 118] h690 h1522 := by rw [g1523]; exact FR_wI _ _ fl711 (by decide)
                                        have fl669 : FR [96, 107, 108, 109, 117, 118] h649 h1522 := by rw [g1523]; exact FR_wI _ _ fl669 (by decide)
                                        have s1524 : (h1522.1 96 41).toInt = (h1482.1 96 41).toInt := by rw [g1523, wI_ne _ _ _ (by decide)]
                                        have s1525 : (h1522.1 96 42).toInt = (h1482.1 96 42).toInt := by rw [g1523, wI_ne _ _ _ (by decide)]
                                        have s1526 : (h1522.1 96 19).toInt = (h1482.1 96 19).toInt := by rw [g1523, wI_ne _ _ _ (by decide)]
                                        have s1527 : (h1522.1 96 18).toInt = (h1482.1 96 18).toInt := by rw [g1523, wI_ne _ _ _ (by decide)]
                                        have s1528 : (h1522.1 96 20).toInt = (h1482.1 96 20).toInt := by rw [g1523, wI_ne _ _ _ (by decide)]
                                        have s1529 : (h1522.1 96 46).toInt = (h1482.1 96 46).toInt := by rw [g1523, wI_ne _ _ _ (by decide)]
                                        have s1530 : (h1522.1 96 44).toInt = (h1482.1 96 44).toInt := by rw [g1523, wI_ne _ _ _ (by decide)]
                                        have s1531 : (h1522.1 96 47).toInt = (h1482.1 96 47).toInt := by rw [g1523, wI_ne _ _ _ (by decide)]
                                        have s1532 : (h1522.1 96 48).toInt = (h1482.1 96 48).toInt := by rw [g1523, wI_ne _ _ _ (by decide)]
                                        have s1533 : (h1522.1 96 51).toInt = (h1482.1 96 51).toInt := by rw [g1523, wI_ne _ _ _ (by decide)]
                                        have s1534 : (h1522.1 105 0).toInt = (h1482.1 105 0).toInt := by rw [g1523, wI_ne _ _ _ (by decide)]
                                        have s1535 : (h1522.1 109 0).toInt = (h1482.1 109 0).toInt := by rw [g1523, wI_ne _ _ _ (by decide)]
                                        refine N_iinc (a := x1484.toInt) (c := 1) (fun w => [(3, .inl w), (0, .inr (.inr (.inl 96))), (1, .inl a0), (2, .inl a1)]) rfl rfl (fun _ => rfl) (by decide) rfl (by decide) (by omega) (fun x1536 q1537 => ?_)
                                        refine R_goto 166 rfl rfl ?_
                                        exact RUN_weak (psub_cons rfl (psub_cons rfl (psub_cons rfl (psub_cons rfl (psub_nil _))))) (ih1485 h1522 x1536 hI fr fl1483 (by omega) (by omega))
                                    · show RUN d_X9_goSecond 200 [(3, .inl x1484), (0, .inr (.inr (.inl 96))), (1, .inl a0), (2, .inl a1)] [.inl x1514] h1482 _
                                      refine N_if_ne (a := x1514.toInt) 218 rfl rfl rfl (fun c1538 => ?_) (fun c1538 => ?_)
                                      · refine N_iinc (a := x1484.toInt) (c := 1) (fun w => [(3, .inl w), (0, .inr (.inr (.inl 96))), (1, .inl a0), (2, .inl a1)]) rfl rfl (fun _ => rfl) (by decide) rfl (by decide) (by omega) (fun x1539 q1540 => ?_)
                                        refine R_goto 166 rfl rfl ?_
                                        exact RUN_weak (psub_cons rfl (psub_cons rfl (psub_cons rfl (psub_cons rfl (psub_nil _))))) (ih1485 h1482 x1539 hI fr fl1483 (by omega) (by omega))
                                      · exfalso; omega
                            exact lp1481 _ h710 (0 : Int32) hI fr (FR.rf _ _) (by decide) (Nat.lt_succ_self _)
                          · refine R_aload_n (k := 0) rfl rfl rfl ?_
                            refine R_getf_r (j := 24) rfl ft_9_52 sh_96 rfl ?_
                            refine R_iconst 0 rfl rfl ?_
                            refine R_dup2 rfl ?_
                            refine R_iald rfl sh_109 (by decide) ?_
                            show RUN d_X9_goSecond 134 [(3, .inl x712), (0, .inr (.inr (.inl 96))), (1, .inl a0), (2, .inl a1)] [.inl (h710.1 109 0), .inl 0, .inr (.inr (.inl 109))] h710 _
                            refine R_iconst 1 rfl rfl ?_
                            have b1541 := i_rng (h710.1 109 0)
                            refine N_isub (a := (h710.1 109 0).toInt) (b := 1) rfl rfl (by decide) (by omega) (fun x1542 q1543 => ?_)
                            refine K_iast (a := 0) (lo := (-2147483648)) (hi' := 2147483647) rfl sh_109 (by decide) (by decide) hI (by decide) rfl (i_rng _) fr (by decide) (fun h1544 g1545 hI fr => ?_)
                            have fl711 : FR [96, 107, 108, 109, 117, 118] h690 h1544 := by rw [g1545]; exact FR_wI _ _ fl711 (by decide)
                            have fl669 : FR [96, 107, 108, 109, 117, 118] h649 h1544 := by rw [g1545]; exact FR_wI _ _ fl669 (by decide)
                            have s1546 : (h1544.1 96 41).toInt = (h710.1 96 41).toInt := by rw [g1545, wI_ne _ _ _ (by decide)]
                            have s1547 : (h1544.1 96 42).toInt = (h710.1 96 42).toInt := by rw [g1545, wI_ne _ _ _ (by decide)]
                            have s1548 : (h1544.1 96 19).toInt = (h710.1 96 19).toInt := by rw [g1545, wI_ne _ _ _ (by decide)]
                            have s1549 : (h1544.1 96 18).toInt = (h710.1 96 18).toInt := by rw [g1545, wI_ne _ _ _ (by decide)]
                            have s1550 : (h1544.1 96 20).toInt = (h710.1 96 20).toInt := by rw [g1545, wI_ne _ _ _ (by decide)]
                            have s1551 : (h1544.1 96 46).toInt = (h710.1 96 46).toInt := by rw [g1545, wI_ne _ _ _ (by decide)]
                            have s1552 : (h1544.1 96 44).toInt = (h710.1 96 44).toInt := by rw [g1545, wI_ne _ _ _ (by decide)]
                            have s1553 : (h1544.1 96 47).toInt = (h710.1 96 47).toInt := by rw [g1545, wI_ne _ _ _ (by decide)]
                            have s1554 : (h1544.1 96 48).toInt = (h710.1 96 48).toInt := by rw [g1545, wI_ne _ _ _ (by decide)]
                            have s1555 : (h1544.1 96 51).toInt = (h710.1 96 51).toInt := by rw [g1545, wI_ne _ _ _ (by decide)]
                            have s1556 : (h1544.1 105 0).toInt = (h710.1 105 0).toInt := by rw [g1545, wI_ne _ _ _ (by decide)]
                            have s1557 : (h1544.1 109 0).toInt = x1542.toInt := by rw [g1545, show (0 : Int32).toNatClampNeg = 0 from rfl, wI_is]
                            refine R_aload_n (k := 0) rfl rfl rfl ?_
                            refine R_getf_r (j := 22) rfl ft_9_46 sh_96 rfl ?_
                            refine R_aload_n (k := 0) rfl rfl rfl ?_
                            refine R_getf_r (j := 17) rfl ft_9_40 sh_96 rfl ?_
                            refine R_iconst 0 rfl rfl ?_
                            refine R_iald rfl sh_105 (by decide) ?_
                            show RUN d_X9_goSecond 147 [(3, .inl x712), (0, .inr (.inr (.inl 96))), (1, .inl a0), (2, .inl a1)] [.inl (h1544.1 105 0), .inr (.inr (.inl 107))] h1544 _
                            refine R_iconst 0 rfl rfl ?_
                            refine K_iast (a := (h1544.1 105 0).toInt) (lo := (-2147483648)) (hi' := 2147483647) rfl sh_107 rfl ⟨by omega, by omega⟩ hI (by decide) rfl (by decide) fr (by decide) (fun h1558 g1559 hI fr => ?_)
                            have fl711 : FR [96, 107, 108, 109, 117, 118] h690 h1558 := by rw [g1559]; exact FR_wI _ _ fl711 (by decide)
                            have fl669 : FR [96, 107, 108, 109, 117, 118] h649 h1558 := by rw [g1559]; exact FR_wI _ _ fl669 (by decide)
                            have s1560 : (h1558.1 96 41).toInt = (h1544.1 96 41).toInt := by rw [g1559, wI_ne _ _ _ (by decide)]
                            have s1561 : (h1558.1 96 42).toInt = (h1544.1 96 42).toInt := by rw [g1559, wI_ne _ _ _ (by decide)]
                            have s1562 : (h1558.1 96 19).toInt = (h1544.1 96 19).toInt := by rw [g1559, wI_ne _ _ _ (by decide)]
                            have s1563 : (h1558.1 96 18).toInt = (h1544.1 96 18).toInt := by rw [g1559, wI_ne _ _ _ (by decide)]
                            have s1564 : (h1558.1 96 20).toInt = (h1544.1 96 20).toInt := by rw [g1559, wI_ne _ _ _ (by decide)]
                            have s1565 : (h1558.1 96 46).toInt = (h1544.1 96 46).toInt := by rw [g1559, wI_ne _ _ _ (by decide)]
                            have s1566 : (h1558.1 96 44).toInt = (h1544.1 96 44).toInt := by rw [g1559, wI_ne _ _ _ (by decide)]
                            have s1567 : (h1558.1 96 47).toInt = (h1544.1 96 47).toInt := by rw [g1559, wI_ne _ _ _ (by decide)]
                            have s1568 : (h1558.1 96 48).toInt = (h1544.1 96 48).toInt := by rw [g1559, wI_ne _ _ _ (by decide)]
                            have s1569 : (h1558.1 96 51).toInt = (h1544.1 96 51).toInt := by rw [g1559, wI_ne _ _ _ (by decide)]
                            have s1570 : (h1558.1 105 0).toInt = (h1544.1 105 0).toInt := by rw [g1559, wI_ne _ _ _ (by decide)]
                            have s1571 : (h1558.1 109 0).toInt = (h1544.1 109 0).toInt := by rw [g1559, wI_ne _ _ _ (by decide)]
                            refine R_aload_n (k := 0) rfl rfl rfl ?_
                            refine R_getf_r (j := 23) rfl ft_9_49 sh_96 rfl ?_
                            refine R_aload_n (k := 0) rfl rfl rfl ?_
                            refine R_getf_r (j := 17) rfl ft_9_40 sh_96 rfl ?_
                            refine R_iconst 0 rfl rfl ?_
                            refine R_iald rfl sh_105 (by decide) ?_
                            show RUN d_X9_goSecond 159 [(3, .inl x712), (0, .inr (.inr (.inl 96))), (1, .inl a0), (2, .inl a1)] [.inl (h1558.1 105 0), .inr (.inr (.inl 108))] h1558 _
                            refine R_aload_n (k := 0) rfl rfl rfl ?_
                            refine R_getf_i (j := 20) rfl ft_9_259 sh_96 rfl ?_
                            refine K_iast (a := (h1558.1 105 0).toInt) (lo := (-2147483648)) (hi' := 2147483647) rfl sh_108 rfl ⟨by omega, by omega⟩ hI (by decide) rfl (i_rng _) fr (by decide) (fun h1572 g1573 hI fr => ?_)
                            have fl711 : FR [96, 107, 108, 109, 117, 118] h690 h1572 := by rw [g1573]; exact FR_wI _ _ fl711 (by decide)
                            have fl669 : FR [96, 107, 108, 109, 117, 118] h649 h1572 := by rw [g1573]; exact FR_wI _ _ fl669 (by decide)
                            have s1574 : (h1572.1 96 41).toInt = (h1558.1 96 41).toInt := by rw [g1573, wI_ne _ _ _ (by decide)]
                            have s1575 : (h1572.1 96 42).toInt = (h1558.1 96 42).toInt := by rw [g1573, wI_ne _ _ _ (by decide)]
                            have s1576 : (h1572.1 96 19).toInt = (h1558.1 96 19).toInt := by rw [g1573, wI_ne _ _ _ (by decide)]
                            have s1577 : (h1572.1 96 18).toInt = (h1558.1 96 18).toInt := by rw [g1573, wI_ne _ _ _ (by decide)]
                            have s1578 : (h1572.1 96 20).toInt = (h1558.1 96 20).toInt := by rw [g1573, wI_ne _ _ _ (by decide)]
                            have s1579 : (h1572.1 96 46).toInt = (h1558.1 96 46).toInt := by rw [g1573, wI_ne _ _ _ (by decide)]
                            have s1580 : (h1572.1 96 44).toInt = (h1558.1 96 44).toInt := by rw [g1573, wI_ne _ _ _ (by decide)]
                            have s1581 : (h1572.1 96 47).toInt = (h1558.1 96 47).toInt := by rw [g1573, wI_ne _ _ _ (by decide)]
                            have s1582 : (h1572.1 96 48).toInt = (h1558.1 96 48).toInt := by rw [g1573, wI_ne _ _ _ (by decide)]
                            have s1583 : (h1572.1 96 51).toInt = (h1558.1 96 51).toInt := by rw [g1573, wI_ne _ _ _ (by decide)]
                            have s1584 : (h1572.1 105 0).toInt = (h1558.1 105 0).toInt := by rw [g1573, wI_ne _ _ _ (by decide)]
                            have s1585 : (h1572.1 109 0).toInt = (h1558.1 109 0).toInt := by rw [g1573, wI_ne _ _ _ (by decide)]
                            refine R_iconst 0 rfl rfl ?_
                            refine R_istore_n (k := 3) rfl [(3, .inl 0), (0, .inr (.inr (.inl 96))), (1, .inl a0), (2, .inl a1)] rfl rfl (by decide) ?_
                            have lp1587 : ∀ (n1586 : Nat) (h1588 : PH) (x1590 : Int32), INV h1588 → FR [96, 107, 108, 109, 117, 118] h h1588 → FR [107] h1572 h1588 → 0 ≤ x1590.toInt ∧ x1590.toInt ≤ 6 → (6 - x1590.toInt).toNat < n1586 → RUN d_X9_goSecond 166 [(3, .inl x1590), (0, .inr (.inr (.inl 96))), (1, .inl a0), (2, .inl a1)] [] h1588 (q_X9_goSecond h a0 a1) := by
                              intro n1586
                              induction n1586 with
                              | zero => intro h1588 x1590 m1592 m1593 m1594 m1595 hz; exact absurd hz (Nat.not_lt_zero _)
                              | succ n1586 ih1591 =>
                                intro h1588 x1590 hI fr fl1589 m1595 hz
                                have s1596 : (h1588.1 96 41).toInt = (h1572.1 96 41).toInt := by rw [(fl1589 96 (by decide)).1]
                                have s1597 : (h1588.1 96 42).toInt = (h1572.1 96 42).toInt := by rw [(fl1589 96 (by decide)).1]
                                have s1598 : (h1588.1 96 19).toInt = (h1572.1 96 19).toInt := by rw [(fl1589 96 (by decide)).1]
                                have s1599 : (h1588.1 96 18).toInt = (h1572.1 96 18).toInt := by rw [(fl1589 96 (by decide)).1]
                                have s1600 : (h1588.1 96 20).toInt = (h1572.1 96 20).toInt := by rw [(fl1589 96 (by decide)).1]
                                have s1601 : (h1588.1 96 46).toInt = (h1572.1 96 46).toInt := by rw [(fl1589 96 (by decide)).1]
                                have s1602 : (h1588.1 96 44).toInt = (h1572.1 96 44).toInt := by rw [(fl1589 96 (by decide)).1]
                                have s1603 : (h1588.1 96 47).toInt = (h1572.1 96 47).toInt := by rw [(fl1589 96 (by decide)).1]
                                have s1604 : (h1588.1 96 48).toInt = (h1572.1 96 48).toInt := by rw [(fl1589 96 (by decide)).1]
                                have s1605 : (h1588.1 96 51).toInt = (h1572.1 96 51).toInt := by rw [(fl1589 96 (by decide)).1]
                                have s1606 : (h1588.1 105 0).toInt = (h1572.1 105 0).toInt := by rw [(fl1589 105 (by decide)).1]
                                have s1607 : (h1588.1 109 0).toInt = (h1572.1 109 0).toInt := by rw [(fl1589 109 (by decide)).1]
                                have fl711 : FR [96, 107, 108, 109, 117, 118] h690 h1588 := fl711.trans fl1589 (by decide)
                                have fl669 : FR [96, 107, 108, 109, 117, 118] h649 h1588 := fl669.trans fl1589 (by decide)
                                refine R_iload_n (k := 3) rfl rfl rfl ?_
                                refine R_aload_n (k := 0) rfl rfl rfl ?_
                                refine R_getf_i (j := 18) rfl ft_9_253 sh_96 rfl ?_
                                refine N_icmp_ge (a := x1590.toInt) (b := (h1588.1 96 18).toInt) 224 rfl rfl rfl rfl (fun c1608 => ?_) (fun c1608 => ?_)
                                · exact R_vret rfl rfl ⟨hI, fr, ⟨by omega, by omega, by omega, by omega, by omega, by omega, by omega, by omega, by omega, by omega, trivial⟩, rfl⟩
                                · refine R_aload_n (k := 0) rfl rfl rfl ?_
                                  refine R_getf_r (j := 22) rfl ft_9_46 sh_96 rfl ?_
                                  refine R_aload_n (k := 0) rfl rfl rfl ?_
                                  refine R_getf_r (j := 17) rfl ft_9_40 sh_96 rfl ?_
                                  refine R_iload_n (k := 3) rfl rfl rfl ?_
                                  refine R_iald rfl sh_105 ⟨by omega, by omega⟩ ?_
                                  refine N_bd (lo := 0) (hi := 5) (hI.1 105 _) (fun x1609 q1610 => ?_)
                                  refine R_iald rfl sh_107 ⟨by omega, by omega⟩ ?_
                                  refine N_any (fun x1611 => ?_)
                                  refine R_iconst (-1) rfl rfl ?_
                                  refine N_icmp_eq (a := x1611.toInt) (b := (-1)) 218 rfl rfl rfl (by decide) (fun c1612 => ?_) (fun c1612 => ?_)
                                  · refine N_iinc (a := x1590.toInt) (c := 1) (fun w => [(3, .inl w), (0, .inr (.inr (.inl 96))), (1, .inl a0), (2, .inl a1)]) rfl rfl (fun _ => rfl) (by decide) rfl (by decide) (by omega) (fun x1613 q1614 => ?_)
                                    refine R_goto 166 rfl rfl ?_
                                    exact RUN_weak (psub_cons rfl (psub_cons rfl (psub_cons rfl (psub_cons rfl (psub_nil _))))) (ih1591 h1588 x1613 hI fr fl1589 (by omega) (by omega))
                                  · refine R_aload_n (k := 0) rfl rfl rfl ?_
                                    refine R_aload_n (k := 0) rfl rfl rfl ?_
                                    refine R_getf_r (j := 17) rfl ft_9_40 sh_96 rfl ?_
                                    refine R_iload_n (k := 3) rfl rfl rfl ?_
                                    refine R_iald rfl sh_105 ⟨by omega, by omega⟩ ?_
                                    refine N_bd (lo := 0) (hi := 5) (hI.1 105 _) (fun x1615 q1616 => ?_)
                                    refine R_iload_n (k := 1) rfl rfl rfl ?_
                                    refine R_callV (v := .inr (.inr (.inl 96))) (As := [.inl x1615, .inl a0]) (rest := []) rfl mt_9_i271 pp_X9_doesRest (by decide) rfl rfl rfl (Nat.le_of_ble_eq_true rfl) (Nat.le_of_ble_eq_true rfl) ((k_X9_doesRest h1588 hI x1615 a0 (by omega) (by omega)).mono (fun r1617 h1618 p1619 => ?_))
                                    obtain ⟨rfl, x1620, rfl, q1621 | q1621 | q1621⟩ := p1619
                                    · exfalso; omega
                                    · show RUN d_X9_goSecond 200 [(3, .inl x1590), (0, .inr (.inr (.inl 96))), (1, .inl a0), (2, .inl a1)] [.inl x1620] h1588 _
                                      refine N_if_ne (a := x1620.toInt) 218 rfl rfl rfl (fun c1622 => ?_) (fun c1622 => ?_)
                                      · exfalso; omega
                                      · refine R_aload_n (k := 0) rfl rfl rfl ?_
                                        refine R_getf_r (j := 22) rfl ft_9_46 sh_96 rfl ?_
                                        refine R_aload_n (k := 0) rfl rfl rfl ?_
                                        refine R_getf_r (j := 17) rfl ft_9_40 sh_96 rfl ?_
                                        refine R_iload_n (k := 3) rfl rfl rfl ?_
                                        refine R_iald rfl sh_105 ⟨by omega, by omega⟩ ?_
                                        refine N_bd (lo := 0) (hi := 5) (hI.1 105 _) (fun x1623 q1624 => ?_)
                                        refine R_dup2 rfl ?_
                                        refine R_iald rfl sh_107 ⟨by omega, by omega⟩ ?_
                                        refine N_any (fun x1625 => ?_)
                                        refine R_iconst 1 rfl rfl ?_
                                        have b1626 := i_rng x1625
                                        refine R_iadd rfl ?_
                                        refine N_any (fun x1627 => ?_)
                                        refine K_iast (a := x1623.toInt) (lo := (-2147483648)) (hi' := 2147483647) rfl sh_107 rfl ⟨by omega, by omega⟩ hI (by decide) rfl (i_rng _) fr (by decide) (fun h1628 g1629 hI fr => ?_)
                                        have fl1589 : FR [107] h1572 h1628 := by rw [g1629]; exact FR_wI _ _ fl1589 (by decide)
                                        have fl711 : FR [96, 107, 108, 109, 117, 118] h690 h1628 := by rw [g1629]; exact FR_wI _ _ fl711 (by decide)
                                        have fl669 : FR [96, 107, 108, 109, 117, 118] h649 h1628 := by rw [g1629]; exact FR_wI _ _ fl669 (by decide)
                                        have s1630 : (h1628.1 96 41).toInt = (h1588.1 96 41).toInt := by rw [g1629, wI_ne _ _ _ (by decide)]
                                        have s1631 : (h1628.1 96 42).toInt = (h1588.1 96 42).toInt := by rw [g1629, wI_ne _ _ _ (by decide)]
                                        have s1632 : (h1628.1 96 19).toInt = (h1588.1 96 19).toInt := by rw [g1629, wI_ne _ _ _ (by decide)]
                                        have s1633 : (h1628.1 96 18).toInt = (h1588.1 96 18).toInt := by rw [g1629, wI_ne _ _ _ (by decide)]
                                        have s1634 : (h1628.1 96 20).toInt = (h1588.1 96 20).toInt := by rw [g1629, wI_ne _ _ _ (by decide)]
                                        have s1635 : (h1628.1 96 46).toInt = (h1588.1 96 46).toInt := by rw [g1629, wI_ne _ _ _ (by decide)]
                                        have s1636 : (h1628.1 96 44).toInt = (h1588.1 96 44).toInt := by rw [g1629, wI_ne _ _ _ (by decide)]
                                        have s1637 : (h1628.1 96 47).toInt = (h1588.1 96 47).toInt := by rw [g1629, wI_ne _ _ _ (by decide)]
                                        have s1638 : (h1628.1 96 48).toInt = (h1588.1 96 48).toInt := by rw [g1629, wI_ne _ _ _ (by decide)]
                                        have s1639 : (h1628.1 96 51).toInt = (h1588.1 96 51).toInt := by rw [g1629, wI_ne _ _ _ (by decide)]
                                        have s1640 : (h1628.1 105 0).toInt = (h1588.1 105 0).toInt := by rw [g1629, wI_ne _ _ _ (by decide)]
                                        have s1641 : (h1628.1 109 0).toInt = (h1588.1 109 0).toInt := by rw [g1629, wI_ne _ _ _ (by decide)]
                                        refine N_iinc (a := x1590.toInt) (c := 1) (fun w => [(3, .inl w), (0, .inr (.inr (.inl 96))), (1, .inl a0), (2, .inl a1)]) rfl rfl (fun _ => rfl) (by decide) rfl (by decide) (by omega) (fun x1642 q1643 => ?_)
                                        refine R_goto 166 rfl rfl ?_
                                        exact RUN_weak (psub_cons rfl (psub_cons rfl (psub_cons rfl (psub_cons rfl (psub_nil _))))) (ih1591 h1628 x1642 hI fr fl1589 (by omega) (by omega))
                                    · show RUN d_X9_goSecond 200 [(3, .inl x1590), (0, .inr (.inr (.inl 96))), (1, .inl a0), (2, .inl a1)] [.inl x1620] h1588 _
                                      refine N_if_ne (a := x1620.toInt) 218 rfl rfl rfl (fun c1644 => ?_) (fun c1644 => ?_)
                                      · refine N_iinc (a := x1590.toInt) (c := 1) (fun w => [(3, .inl w), (0, .inr (.inr (.inl 96))), (1, .inl a0), (2, .inl a1)]) rfl rfl (fun _ => rfl) (by decide) rfl (by decide) (by omega) (fun x1645 q1646 => ?_)
                                        refine R_goto 166 rfl rfl ?_
                                        exact RUN_weak (psub_cons rfl (psub_cons rfl (psub_cons rfl (psub_cons rfl (psub_nil _))))) (ih1591 h1588 x1645 hI fr fl1589 (by omega) (by omega))
                                      · exfalso; omega
                            exact lp1587 _ h1572 (0 : Int32) hI fr (FR.rf _ _) (by decide) (Nat.lt_succ_self _)
                      · show RUN d_X9_goSecond 115 [(3, .inl x712), (0, .inr (.inr (.inl 96))), (1, .inl a0), (2, .inl a1)] [.inl x1311] h710 _
                        refine N_if_ne (a := x1311.toInt) 164 rfl rfl rfl (fun c1647 => ?_) (fun c1647 => ?_)
                        · refine R_iconst 0 rfl rfl ?_
                          refine R_istore_n (k := 3) rfl [(3, .inl 0), (0, .inr (.inr (.inl 96))), (1, .inl a0), (2, .inl a1)] rfl rfl (by decide) ?_
                          have lp1649 : ∀ (n1648 : Nat) (h1650 : PH) (x1652 : Int32), INV h1650 → FR [96, 107, 108, 109, 117, 118] h h1650 → FR [107] h710 h1650 → 0 ≤ x1652.toInt ∧ x1652.toInt ≤ 6 → (6 - x1652.toInt).toNat < n1648 → RUN d_X9_goSecond 166 [(3, .inl x1652), (0, .inr (.inr (.inl 96))), (1, .inl a0), (2, .inl a1)] [] h1650 (q_X9_goSecond h a0 a1) := by
                            intro n1648
                            induction n1648 with
                            | zero => intro h1650 x1652 m1654 m1655 m1656 m1657 hz; exact absurd hz (Nat.not_lt_zero _)
                            | succ n1648 ih1653 =>
                              intro h1650 x1652 hI fr fl1651 m1657 hz
                              have s1658 : (h1650.1 96 41).toInt = (h710.1 96 41).toInt := by rw [(fl1651 96 (by decide)).1]
                              have s1659 : (h1650.1 96 42).toInt = (h710.1 96 42).toInt := by rw [(fl1651 96 (by decide)).1]
                              have s1660 : (h1650.1 96 19).toInt = (h710.1 96 19).toInt := by rw [(fl1651 96 (by decide)).1]
                              have s1661 : (h1650.1 96 18).toInt = (h710.1 96 18).toInt := by rw [(fl1651 96 (by decide)).1]
                              have s1662 : (h1650.1 96 20).toInt = (h710.1 96 20).toInt := by rw [(fl1651 96 (by decide)).1]
                              have s1663 : (h1650.1 96 46).toInt = (h710.1 96 46).toInt := by rw [(fl1651 96 (by decide)).1]
                              have s1664 : (h1650.1 96 44).toInt = (h710.1 96 44).toInt := by rw [(fl1651 96 (by decide)).1]
                              have s1665 : (h1650.1 96 47).toInt = (h710.1 96 47).toInt := by rw [(fl1651 96 (by decide)).1]
                              have s1666 : (h1650.1 96 48).toInt = (h710.1 96 48).toInt := by rw [(fl1651 96 (by decide)).1]
                              have s1667 : (h1650.1 96 51).toInt = (h710.1 96 51).toInt := by rw [(fl1651 96 (by decide)).1]
                              have s1668 : (h1650.1 105 0).toInt = (h710.1 105 0).toInt := by rw [(fl1651 105 (by decide)).1]
                              have fl711 : FR [96, 107, 108, 109, 117, 118] h690 h1650 := fl711.trans fl1651 (by decide)
                              have fl669 : FR [96, 107, 108, 109, 117, 118] h649 h1650 := fl669.trans fl1651 (by decide)
                              refine R_iload_n (k := 3) rfl rfl rfl ?_
                              refine R_aload_n (k := 0) rfl rfl rfl ?_
                              refine R_getf_i (j := 18) rfl ft_9_253 sh_96 rfl ?_
                              refine N_icmp_ge (a := x1652.toInt) (b := (h1650.1 96 18).toInt) 224 rfl rfl rfl rfl (fun c1669 => ?_) (fun c1669 => ?_)
                              · exact R_vret rfl rfl ⟨hI, fr, ⟨by omega, by omega, by omega, by omega, by omega, by omega, by omega, by omega, by omega, by omega, trivial⟩, rfl⟩
                              · refine R_aload_n (k := 0) rfl rfl rfl ?_
                                refine R_getf_r (j := 22) rfl ft_9_46 sh_96 rfl ?_
                                refine R_aload_n (k := 0) rfl rfl rfl ?_
                                refine R_getf_r (j := 17) rfl ft_9_40 sh_96 rfl ?_
                                refine R_iload_n (k := 3) rfl rfl rfl ?_
                                refine R_iald rfl sh_105 ⟨by omega, by omega⟩ ?_
                                refine N_bd (lo := 0) (hi := 5) (hI.1 105 _) (fun x1670 q1671 => ?_)
                                refine R_iald rfl sh_107 ⟨by omega, by omega⟩ ?_
                                refine N_any (fun x1672 => ?_)
                                refine R_iconst (-1) rfl rfl ?_
                                refine N_icmp_eq (a := x1672.toInt) (b := (-1)) 218 rfl rfl rfl (by decide) (fun c1673 => ?_) (fun c1673 => ?_)
                                · refine N_iinc (a := x1652.toInt) (c := 1) (fun w => [(3, .inl w), (0, .inr (.inr (.inl 96))), (1, .inl a0), (2, .inl a1)]) rfl rfl (fun _ => rfl) (by decide) rfl (by decide) (by omega) (fun x1674 q1675 => ?_)
                                  refine R_goto 166 rfl rfl ?_
                                  exact RUN_weak (psub_cons rfl (psub_cons rfl (psub_cons rfl (psub_cons rfl (psub_nil _))))) (ih1653 h1650 x1674 hI fr fl1651 (by omega) (by omega))
                                · refine R_aload_n (k := 0) rfl rfl rfl ?_
                                  refine R_aload_n (k := 0) rfl rfl rfl ?_
                                  refine R_getf_r (j := 17) rfl ft_9_40 sh_96 rfl ?_
                                  refine R_iload_n (k := 3) rfl rfl rfl ?_
                                  refine R_iald rfl sh_105 ⟨by omega, by omega⟩ ?_
                                  refine N_bd (lo := 0) (hi := 5) (hI.1 105 _) (fun x1676 q1677 => ?_)
                                  refine R_iload_n (k := 1) rfl rfl rfl ?_
                                  refine R_callV (v := .inr (.inr (.inl 96))) (As := [.inl x1676, .inl a0]) (rest := []) rfl mt_9_i271 pp_X9_doesRest (by decide) rfl rfl rfl (Nat.le_of_ble_eq_true rfl) (Nat.le_of_ble_eq_true rfl) ((k_X9_doesRest h1650 hI x1676 a0 (by omega) (by omega)).mono (fun r1678 h1679 p1680 => ?_))
                                  obtain ⟨rfl, x1681, rfl, q1682 | q1682 | q1682⟩ := p1680
                                  · exfalso; omega
                                  · show RUN d_X9_goSecond 200 [(3, .inl x1652), (0, .inr (.inr (.inl 96))), (1, .inl a0), (2, .inl a1)] [.inl x1681] h1650 _
                                    refine N_if_ne (a := x1681.toInt) 218 rfl rfl rfl (fun c1683 => ?_) (fun c1683 => ?_)
                                    · exfalso; omega
                                    · refine R_aload_n (k := 0) rfl rfl rfl ?_
                                      refine R_getf_r (j := 22) rfl ft_9_46 sh_96 rfl ?_
                                      refine R_aload_n (k := 0) rfl rfl rfl ?_
                                      refine R_getf_r (j := 17) rfl ft_9_40 sh_96 rfl ?_
                                      refine R_iload_n (k := 3) rfl rfl rfl ?_
                                      refine R_iald rfl sh_105 ⟨by omega, by omega⟩ ?_
                                      refine N_bd (lo := 0) (hi := 5) (hI.1 105 _) (fun x1684 q1685 => ?_)
                                      refine R_dup2 rfl ?_
                                      refine R_iald rfl sh_107 ⟨by omega, by omega⟩ ?_
                                      refine N_any (fun x1686 => ?_)
                                      refine R_iconst 1 rfl rfl ?_
                                      have b1687 := i_rng x1686
                                      refine R_iadd rfl ?_
                                      refine N_any (fun x1688 => ?_)
                                      refine K_iast (a := x1684.toInt) (lo := (-2147483648)) (hi' := 2147483647) rfl sh_107 rfl ⟨by omega, by omega⟩ hI (by decide) rfl (i_rng _) fr (by decide) (fun h1689 g1690 hI fr => ?_)
                                      have fl1651 : FR [107] h710 h1689 := by rw [g1690]; exact FR_wI _ _ fl1651 (by decide)
                                      have fl711 : FR [96, 107, 108, 109, 117, 118] h690 h1689 := by rw [g1690]; exact FR_wI _ _ fl711 (by decide)
                                      have fl669 : FR [96, 107, 108, 109, 117, 118] h649 h1689 := by rw [g1690]; exact FR_wI _ _ fl669 (by decide)
                                      have s1691 : (h1689.1 96 41).toInt = (h1650.1 96 41).toInt := by rw [g1690, wI_ne _ _ _ (by decide)]
                                      have s1692 : (h1689.1 96 42).toInt = (h1650.1 96 42).toInt := by rw [g1690, wI_ne _ _ _ (by decide)]
                                      have s1693 : (h1689.1 96 19).toInt = (h1650.1 96 19).toInt := by rw [g1690, wI_ne _ _ _ (by decide)]
                                      have s1694 : (h1689.1 96 18).toInt = (h1650.1 96 18).toInt := by rw [g1690, wI_ne _ _ _ (by decide)]
                                      have s1695 : (h1689.1 96 20).toInt = (h1650.1 96 20).toInt := by rw [g1690, wI_ne _ _ _ (by decide)]
                                      have s1696 : (h1689.1 96 46).toInt = (h1650.1 96 46).toInt := by rw [g1690, wI_ne _ _ _ (by decide)]
                                      have s1697 : (h1689.1 96 44).toInt = (h1650.1 96 44).toInt := by rw [g1690, wI_ne _ _ _ (by decide)]
                                      have s1698 : (h1689.1 96 47).toInt = (h1650.1 96 47).toInt := by rw [g1690, wI_ne _ _ _ (by decide)]
                                      have s1699 : (h1689.1 96 48).toInt = (h1650.1 96 48).toInt := by rw [g1690, wI_ne _ _ _ (by decide)]
                                      have s1700 : (h1689.1 96 51).toInt = (h1650.1 96 51).toInt := by rw [g1690, wI_ne _ _ _ (by decide)]
                                      have s1701 : (h1689.1 105 0).toInt = (h1650.1 105 0).toInt := by rw [g1690, wI_ne _ _ _ (by decide)]
                                      refine N_iinc (a := x1652.toInt) (c := 1) (fun w => [(3, .inl w), (0, .inr (.inr (.inl 96))), (1, .inl a0), (2, .inl a1)]) rfl rfl (fun _ => rfl) (by decide) rfl (by decide) (by omega) (fun x1702 q1703 => ?_)
                                      refine R_goto 166 rfl rfl ?_
                                      exact RUN_weak (psub_cons rfl (psub_cons rfl (psub_cons rfl (psub_cons rfl (psub_nil _))))) (ih1653 h1689 x1702 hI fr fl1651 (by omega) (by omega))
                                  · show RUN d_X9_goSecond 200 [(3, .inl x1652), (0, .inr (.inr (.inl 96))), (1, .inl a0), (2, .inl a1)] [.inl x1681] h1650 _
                                    refine N_if_ne (a := x1681.toInt) 218 rfl rfl rfl (fun c1704 => ?_) (fun c1704 => ?_)
                                    · refine N_iinc (a := x1652.toInt) (c := 1) (fun w => [(3, .inl w), (0, .inr (.inr (.inl 96))), (1, .inl a0), (2, .inl a1)]) rfl rfl (fun _ => rfl) (by decide) rfl (by decide) (by omega) (fun x1705 q1706 => ?_)
                                      refine R_goto 166 rfl rfl ?_
                                      exact RUN_weak (psub_cons rfl (psub_cons rfl (psub_cons rfl (psub_cons rfl (psub_nil _))))) (ih1653 h1650 x1705 hI fr fl1651 (by omega) (by omega))
                                    · exfalso; omega
                          exact lp1649 _ h710 (0 : Int32) hI fr (FR.rf _ _) (by decide) (Nat.lt_succ_self _)
                        · exfalso; omega
                · refine R_aload_n (k := 0) rfl rfl rfl ?_
                  refine R_iload_n (k := 3) rfl rfl rfl ?_
                  refine R_iload_n (k := 1) rfl rfl rfl ?_
                  have b1707 := i_rng a0
                  refine R_callV (v := .inr (.inr (.inl 96))) (As := [.inl x712, .inl a0]) (rest := []) rfl mt_9_i278 pp_X9_goPlace (by decide) rfl rfl rfl (Nat.le_of_ble_eq_true rfl) (Nat.le_of_ble_eq_true rfl) ((k_X9_goPlace h710 hI x712 a0 (by omega) (by omega) (by omega)).mono (fun r1708 h1709 p1710 => ?_))
                  obtain ⟨hJ, fj, ⟨kp1711, kp1712, kp1713, kp1714, kp1715, kp1716, kp1717, kp1718, kp1719, kp1720, -⟩, rfl⟩ := p1710
                  have f1721 := fj
                  have fr := fr.trans fj (by decide)
                  have hI := hJ
                  have fl711 : FR [96, 107, 108, 109, 117, 118] h690 h1709 := fl711.trans fj (by decide)
                  have fl669 : FR [96, 107, 108, 109, 117, 118] h649 h1709 := fl669.trans fj (by decide)
                  show RUN d_X9_goSecond 76 [(3, .inl x712), (0, .inr (.inr (.inl 96))), (1, .inl a0), (2, .inl a1)] [] h1709 _
                  refine N_iinc (a := x712.toInt) (c := (-1)) (fun w => [(3, .inl w), (0, .inr (.inr (.inl 96))), (1, .inl a0), (2, .inl a1)]) rfl rfl (fun _ => rfl) (by decide) rfl (by decide) (by omega) (fun x1722 q1723 => ?_)
                  refine R_goto 62 rfl rfl ?_
                  exact RUN_weak (psub_cons rfl (psub_cons rfl (psub_cons rfl (psub_cons rfl (psub_nil _))))) (ih713 h1709 x1722 hI fr fl711 (by omega) (by omega) (by omega) (by omega) (by omega) (by omega) (by omega) (by omega) (by omega) (by omega) (by omega) (by omega) (by omega))
          exact lp709 _ h690 x706 hI fr (FR.rf _ _) (by omega) rfl rfl rfl rfl rfl rfl rfl rfl rfl rfl (by omega) (Nat.lt_succ_self _)
        · refine R_aload_n (k := 0) rfl rfl rfl ?_
          refine R_getf_r (j := 24) rfl ft_9_52 sh_96 rfl ?_
          refine R_iload_n (k := 3) rfl rfl rfl ?_
          refine R_aload_n (k := 0) rfl rfl rfl ?_
          refine R_getf_r (j := 24) rfl ft_9_52 sh_96 rfl ?_
          refine R_iload_n (k := 3) rfl rfl rfl ?_
          refine R_iconst 1 rfl rfl ?_
          refine N_iadd (a := x670.toInt) (b := 1) rfl rfl (by decide) (by omega) (fun x1724 q1725 => ?_)
          refine R_iald rfl sh_109 ⟨by omega, by omega⟩ ?_
          refine N_any (fun x1726 => ?_)
          refine K_iast (a := x670.toInt) (lo := (-2147483648)) (hi' := 2147483647) rfl sh_109 rfl ⟨by omega, by omega⟩ hI (by decide) rfl (i_rng _) fr (by decide) (fun h1727 g1728 hI fr => ?_)
          have fl669 : FR [96, 107, 108, 109, 117, 118] h649 h1727 := by rw [g1728]; exact FR_wI _ _ fl669 (by decide)
          have s1729 : (h1727.1 96 34).toInt = (h668.1 96 34).toInt := by rw [g1728, wI_ne _ _ _ (by decide)]
          have s1730 : (h1727.1 96 35).toInt = (h668.1 96 35).toInt := by rw [g1728, wI_ne _ _ _ (by decide)]
          have s1731 : (h1727.1 96 36).toInt = (h668.1 96 36).toInt := by rw [g1728, wI_ne _ _ _ (by decide)]
          have s1732 : (h1727.1 96 41).toInt = (h668.1 96 41).toInt := by rw [g1728, wI_ne _ _ _ (by decide)]
          have s1733 : (h1727.1 96 42).toInt = (h668.1 96 42).toInt := by rw [g1728, wI_ne _ _ _ (by decide)]
          have s1734 : (h1727.1 96 19).toInt = (h668.1 96 19).toInt := by rw [g1728, wI_ne _ _ _ (by decide)]
          have s1735 : (h1727.1 96 18).toInt = (h668.1 96 18).toInt := by rw [g1728, wI_ne _ _ _ (by decide)]
          have s1736 : (h1727.1 96 20).toInt = (h668.1 96 20).toInt := by rw [g1728, wI_ne _ _ _ (by decide)]
          have s1737 : (h1727.1 96 46).toInt = (h668.1 96 46).toInt := by rw [g1728, wI_ne _ _ _ (by decide)]
          have s1738 : (h1727.1 96 44).toInt = (h668.1 96 44).toInt := by rw [g1728, wI_ne _ _ _ (by decide)]
          have s1739 : (h1727.1 96 47).toInt = (h668.1 96 47).toInt := by rw [g1728, wI_ne _ _ _ (by decide)]
          have s1740 : (h1727.1 96 48).toInt = (h668.1 96 48).toInt := by rw [g1728, wI_ne _ _ _ (by decide)]
          have s1741 : (h1727.1 96 51).toInt = (h668.1 96 51).toInt := by rw [g1728, wI_ne _ _ _ (by decide)]
          refine N_iinc (a := x670.toInt) (c := 1) (fun w => [(3, .inl w), (0, .inr (.inr (.inl 96))), (1, .inl a0), (2, .inl a1)]) rfl rfl (fun _ => rfl) (by decide) rfl (by decide) (by omega) (fun x1742 q1743 => ?_)
          refine R_goto 21 rfl rfl ?_
          exact RUN_weak (psub_cons rfl (psub_cons rfl (psub_cons rfl (psub_cons rfl (psub_nil _))))) (ih671 h1727 x1742 hI fr fl669 (by omega) (by omega) (by omega) (by omega) (by omega) (by omega) (by omega) (by omega) (by omega) (by omega) (by omega) trivial trivial trivial (by omega))
    exact lp667 _ h649 (1 : Int32) hI fr (FR.rf _ _) (by decide) rfl rfl rfl rfl rfl rfl rfl rfl rfl rfl trivial trivial trivial (Nat.lt_succ_self _)
