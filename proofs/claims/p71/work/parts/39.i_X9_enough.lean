abbrev qg_X9_enough (h : PH)  : Option PV → PH → Prop := fun r h' => INV h' ∧ FR [96, 103, 104, 105, 106, 107, 108, 109, 110, 111, 112, 113, 114, 115, 116, 117, 118, 119] h h' ∧ (True) ∧ ∃ z : Int32, r = some (.inl z) ∧ (((-2) ≤ z.toInt ∧ z.toInt ≤ 8))
set_option maxHeartbeats 4000000 in
set_option maxRecDepth 100000 in
theorem g_X9_enough (h : PH) (hI : INV h)  : CALL d_X9_enough [.inr (.inr (.inl 96))] h (qg_X9_enough h) := by
  show RUN d_X9_enough 0 [(0, .inr (.inr (.inl 96)))] [] h _
  have fr : FR [96, 103, 104, 105, 106, 107, 108, 109, 110, 111, 112, 113, 114, 115, 116, 117, 118, 119] h h := FR.rf _ _
  refine R_aload_n (k := 0) rfl rfl rfl ?_
  have b1 : (0 : Int) ≤ (h.1 97 0).toInt ∧ (h.1 97 0).toInt ≤ 60 := hI.1 97 0
  have e2 : 0 < (h.1 97 10).toInt → 1 ≤ (h.1 97 0).toInt := hI.2.2.2.2.2.1.2.1
  refine R_callV (v := .inr (.inr (.inl 96))) (As := []) (rest := []) rfl mt_9_i301 pp_X9_isBrigade (by decide) rfl rfl rfl (Nat.le_of_ble_eq_true rfl) (Nat.le_of_ble_eq_true rfl) ((k_X9_isBrigade h hI).mono (fun r3 h4 p5 => ?_))
  obtain ⟨rfl, x6, rfl, q7 | q7⟩ := p5
  · show RUN d_X9_enough 4 [(0, .inr (.inr (.inl 96)))] [.inl x6] h _
    refine N_if_ne (a := x6.toInt) 10 rfl rfl rfl (fun c8 => ?_) (fun c8 => ?_)
    · exfalso; omega
    · refine R_bipush (-2) rfl rfl ?_
      exact R_iret rfl rfl rfl ⟨hI, fr, trivial, _, rfl, by rw [show ((-2) : Int32).toInt = (-2) from rfl] <;> omega⟩
  · show RUN d_X9_enough 4 [(0, .inr (.inr (.inl 96)))] [.inl x6] h _
    refine N_if_ne (a := x6.toInt) 10 rfl rfl rfl (fun c9 => ?_) (fun c9 => ?_)
    · refine R_aload_n (k := 0) rfl rfl rfl ?_
      refine R_callV (v := .inr (.inr (.inl 96))) (As := []) (rest := []) rfl mt_9_i298 pp_X9_asItIs (by decide) rfl rfl rfl (Nat.le_of_ble_eq_true rfl) (Nat.le_of_ble_eq_true rfl) ((g_X9_asItIs h hI).mono (fun r10 h11 p12 => ?_))
      obtain ⟨hJ, fj, ⟨kp13, xq14, xq15, xq16, -⟩, rfl⟩ := p12
      have f17 := fj
      have fr := fr.trans fj (by decide)
      have hI := hJ
      have s18 : (h11.1 97 10).toInt = (h.1 97 10).toInt := by rw [(f17 97 (by decide)).1]
      have s19 : (h11.1 97 0).toInt = (h.1 97 0).toInt := by rw [(f17 97 (by decide)).1]
      have b20 : (0 : Int) ≤ (h11.1 97 5).toInt ∧ (h11.1 97 5).toInt ≤ 6 := hI.1 97 5
      have e21 : 0 < (h11.1 97 5).toInt → 1 ≤ (h11.1 97 0).toInt := hI.2.2.2.2.2.1.2.2
      have b22 : (0 : Int) ≤ (h11.1 97 1).toInt ∧ (h11.1 97 1).toInt ≤ 8 := hI.1 97 1
      have b23 : (0 : Int) ≤ (h11.1 96 18).toInt ∧ (h11.1 96 18).toInt ≤ 6 := hI.1 96 18
      show RUN d_X9_enough 14 [(0, .inr (.inr (.inl 96)))] [] h11 _
      obtain ⟨e0, he0⟩ : ∃ e0, evOf h11 = e0 := ⟨_, rfl⟩
      obtain ⟨S0, hS0⟩ : ∃ S0 : Nat, (h11.1 97 0).toInt.toNat = S0 := ⟨_, rfl⟩
      refine R_aload_n (k := 0) rfl rfl rfl ?_
      refine R_bipush 8 rfl rfl ?_
      refine K_putf (j := 19) (lo := (-2147483648)) (hi' := 2147483647) rfl ft_9_256 sh_96 rfl hI (by decide) rfl (by decide) fr (by decide) (fun h24 g25 hI fr => ?_)
      have s26 : (h24.1 97 10).toInt = (h11.1 97 10).toInt := by rw [g25, wI_ne _ _ _ (by decide)]
      have s27 : (h24.1 97 0).toInt = (h11.1 97 0).toInt := by rw [g25, wI_ne _ _ _ (by decide)]
      have s28 : (h24.1 97 5).toInt = (h11.1 97 5).toInt := by rw [g25, wI_ne _ _ _ (by decide)]
      have s29 : (h24.1 97 1).toInt = (h11.1 97 1).toInt := by rw [g25, wI_ne _ _ _ (by decide)]
      have s30 : (h24.1 96 18).toInt = (h11.1 96 18).toInt := by rw [g25, wI_at (by decide)]
      have s31 : (h24.1 96 19).toInt = 8 := by rw [g25, wI_is]; rfl
      have hE : evOf h24 = evB e0 8 := by rw [g25, ev_19, he0]
      refine R_aload_n (k := 0) rfl rfl rfl ?_
      refine R_callV (v := .inr (.inr (.inl 96))) (As := []) (rest := []) rfl mt_9_i389 pp_X9_waterNow (by decide) rfl rfl rfl (Nat.le_of_ble_eq_true rfl) (Nat.le_of_ble_eq_true rfl) ((g_X9_waterNow h24 hI (by omega)).mono (fun r32 h33 p34 => ?_))
      obtain ⟨hJ, fj, ⟨kp35, kp36, kp37, kp38, kp39, kp40, xq41, -⟩, x43, rfl, q44, zq42, -⟩ := p34
      have f45 := fj
      have fr := fr.trans fj (by decide)
      have hI := hJ
      have s46 : (h33.1 97 10).toInt = (h24.1 97 10).toInt := by rw [(f45 97 (by decide)).1]
      have s47 : (h33.1 97 0).toInt = (h24.1 97 0).toInt := by rw [(f45 97 (by decide)).1]
      have s48 : (h33.1 97 5).toInt = (h24.1 97 5).toInt := by rw [(f45 97 (by decide)).1]
      have s49 : (h33.1 97 1).toInt = (h24.1 97 1).toInt := by rw [(f45 97 (by decide)).1]
      show RUN d_X9_enough 24 [(0, .inr (.inr (.inl 96)))] [.inl x43] h33 _
      have hm8 : x43 = (zRun (evB e0 8) S0).2.2.2 := zq42.trans (by rw [hE, show (h24.1 97 0).toInt.toNat = S0 by omega])
      have hE : evOf h33 = evB e0 8 := xq41.trans hE
      refine R_istore_n (k := 1) rfl [(1, .inl x43), (0, .inr (.inr (.inl 96)))] rfl rfl (by decide) ?_
      refine R_aload_n (k := 0) rfl rfl rfl ?_
      refine R_iconst 1 rfl rfl ?_
      refine K_putf (j := 19) (lo := (-2147483648)) (hi' := 2147483647) rfl ft_9_256 sh_96 rfl hI (by decide) rfl (by decide) fr (by decide) (fun h50 g51 hI fr => ?_)
      have s52 : (h50.1 97 10).toInt = (h33.1 97 10).toInt := by rw [g51, wI_ne _ _ _ (by decide)]
      have s53 : (h50.1 97 0).toInt = (h33.1 97 0).toInt := by rw [g51, wI_ne _ _ _ (by decide)]
      have s54 : (h50.1 97 5).toInt = (h33.1 97 5).toInt := by rw [g51, wI_ne _ _ _ (by decide)]
      have s55 : (h50.1 97 1).toInt = (h33.1 97 1).toInt := by rw [g51, wI_ne _ _ _ (by decide)]
      have s56 : (h50.1 96 18).toInt = (h33.1 96 18).toInt := by rw [g51, wI_at (by decide)]
      have s57 : (h50.1 96 19).toInt = 1 := by rw [g51, wI_is]; rfl
      have lp59 : ∀ (n58 : Nat) (h60 : PH), INV h60 → FR [96, 103, 104, 105, 106, 107, 108, 109, 110, 111, 112, 113, 114, 115, 116, 117, 118, 119] h h60 → FR [96, 107, 108, 109, 110, 111, 112, 113, 114, 115, 116, 117, 118, 119] h50 h60 → (h60.1 96 18).toInt = (h50.1 96 18).toInt → 1 ≤ (h60.1 96 19).toInt ∧ (h60.1 96 19).toInt ≤ 8 → (evOf h60 = evB e0 (h60.1 96 19)) → (1 ≤ (h60.1 96 19).toInt ∧ (h60.1 96 19).toInt ≤ 8) → (8 - (h60.1 96 19).toInt).toNat < n58 → RUN d_X9_enough 30 [(1, .inl x43), (0, .inr (.inr (.inl 96)))] [] h60 (qg_X9_enough h) := by
        intro n58
        induction n58 with
        | zero => intro h60 m63 m64 m65 m66 m67 m68 m69 hz; exact absurd hz (Nat.not_lt_zero _)
        | succ n58 ih62 =>
          intro h60 hI fr fl61 m66 m67 m68 m69 hz
          have s70 : (h60.1 97 10).toInt = (h50.1 97 10).toInt := by rw [(fl61 97 (by decide)).1]
          have s71 : (h60.1 97 0).toInt = (h50.1 97 0).toInt := by rw [(fl61 97 (by decide)).1]
          have s72 : (h60.1 97 5).toInt = (h50.1 97 5).toInt := by rw [(fl61 97 (by decide)).1]
          have s73 : (h60.1 97 1).toInt = (h50.1 97 1).toInt := by rw [(fl61 97 (by decide)).1]
          refine R_aload_n (k := 0) rfl rfl rfl ?_
          refine R_callV (v := .inr (.inr (.inl 96))) (As := []) (rest := []) rfl mt_9_i389 pp_X9_waterNow (by decide) rfl rfl rfl (Nat.le_of_ble_eq_true rfl) (Nat.le_of_ble_eq_true rfl) ((g_X9_waterNow h60 hI (by omega)).mono (fun r74 h75 p76 => ?_))
          obtain ⟨hJ, fj, ⟨kp77, kp78, kp79, kp80, kp81, kp82, xq83, -⟩, x85, rfl, q86, zq84, -⟩ := p76
          have f87 := fj
          have fr := fr.trans fj (by decide)
          have hI := hJ
          have fl61 : FR [96, 107, 108, 109, 110, 111, 112, 113, 114, 115, 116, 117, 118, 119] h50 h75 := fl61.trans fj (by decide)
          have s88 : (h75.1 97 10).toInt = (h60.1 97 10).toInt := by rw [(f87 97 (by decide)).1]
          have s89 : (h75.1 97 0).toInt = (h60.1 97 0).toInt := by rw [(f87 97 (by decide)).1]
          have s90 : (h75.1 97 5).toInt = (h60.1 97 5).toInt := by rw [(f87 97 (by decide)).1]
          have s91 : (h75.1 97 1).toInt = (h60.1 97 1).toInt := by rw [(f87 97 (by decide)).1]
          show RUN d_X9_enough 34 [(1, .inl x43), (0, .inr (.inr (.inl 96)))] [.inl x85] h75 _
          refine R_iload_n (k := 1) rfl rfl rfl ?_
          refine N_icmp_ge (a := x85.toInt) (b := x43.toInt) 51 rfl rfl rfl rfl (fun c92 => ?_) (fun c92 => ?_)
          · refine R_aload_n (k := 0) rfl rfl rfl ?_
            refine R_getf_i (j := 19) rfl ft_9_256 sh_96 rfl ?_
            exact R_iret rfl rfl rfl ⟨hI, fr, trivial, _, rfl, by omega⟩
          · refine R_aload_n (k := 0) rfl rfl rfl ?_
            refine R_dup_r rfl ?_
            refine R_getf_i (j := 19) rfl ft_9_256 sh_96 rfl ?_
            refine R_iconst 1 rfl rfl ?_
            refine N_iadd (a := (h75.1 96 19).toInt) (b := 1) rfl rfl (by decide) (by omega) (fun x93 q94 => ?_)
            refine K_putf (j := 19) (lo := (-2147483648)) (hi' := 2147483647) rfl ft_9_256 sh_96 rfl hI (by decide) rfl (i_rng _) fr (by decide) (fun h95 g96 hI fr => ?_)
            have fl61 : FR [96, 107, 108, 109, 110, 111, 112, 113, 114, 115, 116, 117, 118, 119] h50 h95 := by rw [g96]; exact FR_wI _ _ fl61 (by decide)
            have s97 : (h95.1 97 10).toInt = (h75.1 97 10).toInt := by rw [g96, wI_ne _ _ _ (by decide)]
            have s98 : (h95.1 97 0).toInt = (h75.1 97 0).toInt := by rw [g96, wI_ne _ _ _ (by decide)]
            have s99 : (h95.1 97 5).toInt = (h75.1 97 5).toInt := by rw [g96, wI_ne _ _ _ (by decide)]
            have s100 : (h95.1 97 1).toInt = (h75.1 97 1).toInt := by rw [g96, wI_ne _ _ _ (by decide)]
            have s101 : (h95.1 96 18).toInt = (h75.1 96 18).toInt := by rw [g96, wI_at (by decide)]
            have s102 : (h95.1 96 19).toInt = x93.toInt := by rw [g96, wI_is]
            refine R_goto 30 rfl rfl ?_
            have hne : ¬ (h60.1 96 19).toInt = 8 := fun c8 => by
              have e8 : h60.1 96 19 = 8 := i_of 8 (c8.trans (by decide))
              have e9 : x85 = (zRun (evB e0 8) S0).2.2.2 := zq84.trans (by rw [m68, e8, show (h60.1 97 0).toInt.toNat = S0 by omega])
              rw [← hm8] at e9
              rw [e9] at c92
              omega
            exact RUN_weak (psub_cons rfl (psub_cons rfl (psub_nil _))) (ih62 h95 hI fr fl61 (by omega) (by omega) (by rw [g96, ev_19, xq83, m68, evB_evB, wI_is]) (by omega) (by omega))
      exact lp59 _ h50 hI fr (FR.rf _ _) rfl (by omega) (by rw [g51, ev_19, hE, evB_evB, wI_is]) (by omega) (Nat.lt_succ_self _)
    · exfalso; omega
