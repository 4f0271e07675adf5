abbrev q_X8_listed (h : PH)  : Option PV → PH → Prop := fun r h' => INV h' ∧ FR [0, 87, 88, 89, 90] h h' ∧ (True) ∧ r = some (.inr (.inr (.inl 87)))
set_option maxHeartbeats 4000000 in
set_option maxRecDepth 100000 in
theorem k_X8_listed (h : PH) (hI : INV h)  : CALL d_X8_listed [.inr (.inr (.inl 0))] h (q_X8_listed h) := by
  show RUN d_X8_listed 0 [(0, .inr (.inr (.inl 0)))] [] h _
  have fr : FR [0, 87, 88, 89, 90] h h := FR.rf _ _
  refine R_aload_n (k := 0) rfl rfl rfl ?_
  refine R_getf_i (j := 12) rfl ft_8_78 sh_0 rfl ?_
  refine N_if_ne (a := (h.1 0 12).toInt) 23 rfl rfl rfl (fun c1 => ?_) (fun c1 => ?_)
  · refine R_aload_n (k := 0) rfl rfl rfl ?_
    refine R_getf_r (j := 9) rfl ft_8_63 sh_0 rfl ?_
    exact R_aret rfl rfl ⟨hI, fr, trivial, rfl⟩
  · refine R_aload_n (k := 0) rfl rfl rfl ?_
    refine R_getf_r (j := 9) rfl ft_8_63 sh_0 rfl ?_
    refine R_aload_n (k := 0) rfl rfl rfl ?_
    refine R_getf_r (j := 3) rfl ft_8_28 sh_0 rfl ?_
    refine R_callV (v := .inr (.inr (.inl 87))) (As := [.inr (.inr (.inl 16))]) (rest := []) rfl mt_8_i416 pp_X3_list (by decide) rfl rfl rfl (Nat.le_of_ble_eq_true rfl) (Nat.le_of_ble_eq_true rfl) ((k_X3_list h hI).mono (fun r2 h3 p4 => ?_))
    obtain ⟨hJ, fj, -, rfl⟩ := p4
    have f5 := fj
    have fr := fr.trans fj (by decide)
    have hI := hJ
    have s6 : (h3.1 0 12).toInt = (h.1 0 12).toInt := by rw [(f5 0 (by decide)).1]
    show RUN d_X8_listed 18 [(0, .inr (.inr (.inl 0)))] [] h3 _
    refine R_aload_n (k := 0) rfl rfl rfl ?_
    refine R_iconst 1 rfl rfl ?_
    refine K_putz (j := 12) rfl ft_8_78 sh_0 rfl (by decide) hI (by decide) rfl fr (by decide) (fun h7 g8 hI fr => ?_)
    have s9 : (h7.1 0 12).toInt = 1 := by rw [g8, wI_is]; rfl
    refine R_aload_n (k := 0) rfl rfl rfl ?_
    refine R_getf_r (j := 9) rfl ft_8_63 sh_0 rfl ?_
    exact R_aret rfl rfl ⟨hI, fr, trivial, rfl⟩
abbrev q_X8_orders (h : PH)  : Option PV → PH → Prop := fun r h' => INV h' ∧ FR [0, 87, 88, 89, 90] h h' ∧ (True) ∧ ∃ z : Int32, r = some (.inl z) ∧ (((-2) ≤ z.toInt ∧ z.toInt ≤ 720))
set_option maxHeartbeats 4000000 in
set_option maxRecDepth 100000 in
theorem k_X8_orders (h : PH) (hI : INV h)  : CALL d_X8_orders [.inr (.inr (.inl 0))] h (q_X8_orders h) := by
  show RUN d_X8_orders 0 [(0, .inr (.inr (.inl 0)))] [] h _
  have fr : FR [0, 87, 88, 89, 90] h h := FR.rf _ _
  refine R_aload_n (k := 0) rfl rfl rfl ?_
  refine R_getf_r (j := 3) rfl ft_8_28 sh_0 rfl ?_
  have b1 : (0 : Int) ≤ (h.1 17 0).toInt ∧ (h.1 17 0).toInt ≤ 60 := hI.1 17 0
  have e2 : 0 < (h.1 17 10).toInt → 1 ≤ (h.1 17 0).toInt := hI.2.1
  refine R_callV (v := .inr (.inr (.inl 16))) (As := []) (rest := []) rfl mt_8_i146 pp_X1_stands (by decide) rfl rfl rfl (Nat.le_of_ble_eq_true rfl) (Nat.le_of_ble_eq_true rfl) ((k_X1_stands h hI).mono (fun r3 h4 p5 => ?_))
  obtain ⟨rfl, x6, rfl, q7 | q7⟩ := p5
  · show RUN d_X8_orders 7 [(0, .inr (.inr (.inl 0)))] [.inl x6] h _
    refine N_if_eq (a := x6.toInt) 20 rfl rfl rfl (fun c8 => ?_) (fun c8 => ?_)
    · refine R_bipush (-2) rfl rfl ?_
      exact R_iret rfl rfl rfl ⟨hI, fr, trivial, _, rfl, by rw [show ((-2) : Int32).toInt = (-2) from rfl] <;> omega⟩
    · exfalso; omega
  · show RUN d_X8_orders 7 [(0, .inr (.inr (.inl 0)))] [.inl x6] h _
    refine N_if_eq (a := x6.toInt) 20 rfl rfl rfl (fun c9 => ?_) (fun c9 => ?_)
    · exfalso; omega
    · refine R_aload_n (k := 0) rfl rfl rfl ?_
      refine R_callV (v := .inr (.inr (.inl 0))) (As := []) (rest := []) rfl mt_8_i286 pp_X8_listed (by decide) rfl rfl rfl (Nat.le_of_ble_eq_true rfl) (Nat.le_of_ble_eq_true rfl) ((k_X8_listed h hI).mono (fun r10 h11 p12 => ?_))
      obtain ⟨hJ, fj, -, rfl⟩ := p12
      have f13 := fj
      have fr := fr.trans fj (by decide)
      have hI := hJ
      have s14 : (h11.1 17 10).toInt = (h.1 17 10).toInt := by rw [(f13 17 (by decide)).1]
      have s15 : (h11.1 17 0).toInt = (h.1 17 0).toInt := by rw [(f13 17 (by decide)).1]
      show RUN d_X8_orders 14 [(0, .inr (.inr (.inl 0)))] [.inr (.inr (.inl 87))] h11 _
      refine R_getf_i (j := 6) rfl ft_8_290 sh_87 rfl ?_
      have b16 : (0 : Int) ≤ (h11.1 87 6).toInt ∧ (h11.1 87 6).toInt ≤ 720 := hI.1 87 6
      refine R_goto 22 rfl rfl ?_
      exact R_iret rfl rfl rfl ⟨hI, fr, trivial, _, rfl, by omega⟩
abbrev q_X9_keepsAll (h : PH)  : Option PV → PH → Prop := fun r h' => h = h' ∧ ∃ z : Int32, r = some (.inl z) ∧ ((z.toInt = 1) ∨ (z.toInt = 0 ∧ 1 ≤ (h.1 97 6).toInt ∧ (h.1 97 6).toInt ≤ 5))
set_option maxHeartbeats 4000000 in
set_option maxRecDepth 100000 in
theorem k_X9_keepsAll (h : PH) (hI : INV h)  : CALL d_X9_keepsAll [.inr (.inr (.inl 96))] h (q_X9_keepsAll h) := by
  show RUN d_X9_keepsAll 0 [(0, .inr (.inr (.inl 96)))] [] h _
  refine R_iconst 0 rfl rfl ?_
  refine R_istore_n (k := 1) rfl [(1, .inl 0), (0, .inr (.inr (.inl 96)))] rfl rfl (by decide) ?_
  have lp2 : ∀ (n1 : Nat) (x3 : Int32), 0 ≤ x3.toInt ∧ x3.toInt ≤ 5 → (5 - x3.toInt).toNat < n1 → RUN d_X9_keepsAll 2 [(1, .inl x3), (0, .inr (.inr (.inl 96)))] [] h (q_X9_keepsAll h) := by
    intro n1
    induction n1 with
    | zero => intro x3 m5 hz; exact absurd hz (Nat.not_lt_zero _)
    | succ n1 ih4 =>
      intro x3 m5 hz
      refine R_iload_n (k := 1) rfl rfl rfl ?_
      refine R_aload_n (k := 0) rfl rfl rfl ?_
      refine R_getf_r (j := 1) rfl ft_9_9 sh_96 rfl ?_
      refine R_bipush 6 rfl rfl ?_
      refine R_iald rfl sh_97 (by decide) ?_
      have b6 : (0 : Int) ≤ (h.1 97 6).toInt ∧ (h.1 97 6).toInt ≤ 5 := hI.1 97 6
      show RUN d_X9_keepsAll 10 [(1, .inl x3), (0, .inr (.inr (.inl 96)))] [.inl (h.1 97 6), .inl x3] h _
      refine N_icmp_ge (a := x3.toInt) (b := (h.1 97 6).toInt) 40 rfl rfl rfl rfl (fun c7 => ?_) (fun c7 => ?_)
      · refine R_iconst 1 rfl rfl ?_
        exact R_iret rfl rfl rfl ⟨rfl, _, rfl, by rw [show (1 : Int32).toInt = 1 from rfl] <;> omega⟩
      · refine R_aload_n (k := 0) rfl rfl rfl ?_
        refine R_getf_i (j := 44) rfl ft_9_399 sh_96 rfl ?_
        refine R_iload_n (k := 1) rfl rfl rfl ?_
        refine R_callS (As := [.inl (h.1 96 44), .inl x3]) (rest := []) rfl mt_9_i292 (by decide) pp_X9_bit (by decide) rfl rfl (Nat.le_of_ble_eq_true rfl) (Nat.le_of_ble_eq_true rfl) ((k_X9_bit h hI (h.1 96 44) x3 (by omega)).mono (fun r8 h9 p10 => ?_))
        obtain ⟨rfl, x11, rfl, q12⟩ := p10
        show RUN d_X9_keepsAll 21 [(1, .inl x3), (0, .inr (.inr (.inl 96)))] [.inl x11] h _
        refine N_if_ne (a := x11.toInt) 34 rfl rfl rfl (fun c13 => ?_) (fun c13 => ?_)
        · refine N_iinc (a := x3.toInt) (c := 1) (fun w => [(1, .inl w), (0, .inr (.inr (.inl 96)))]) rfl rfl (fun _ => rfl) (by decide) rfl (by decide) (by omega) (fun x14 q15 => ?_)
          refine R_goto 2 rfl rfl ?_
          exact RUN_weak (psub_cons rfl (psub_cons rfl (psub_nil _))) (ih4 x14 (by omega) (by omega))
        · refine R_aload_n (k := 0) rfl rfl rfl ?_
          refine R_iload_n (k := 1) rfl rfl rfl ?_
          refine R_callV (v := .inr (.inr (.inl 96))) (As := [.inl x3]) (rest := []) rfl mt_9_i402 pp_X9_keepsPair (by decide) rfl rfl rfl (Nat.le_of_ble_eq_true rfl) (Nat.le_of_ble_eq_true rfl) ((k_X9_keepsPair h hI x3 (by omega)).mono (fun r16 h17 p18 => ?_))
          obtain ⟨rfl, x19, rfl, q20 | q20⟩ := p18
          · show RUN d_X9_keepsAll 29 [(1, .inl x3), (0, .inr (.inr (.inl 96)))] [.inl x19] h _
            refine N_if_ne (a := x19.toInt) 34 rfl rfl rfl (fun c21 => ?_) (fun c21 => ?_)
            · refine N_iinc (a := x3.toInt) (c := 1) (fun w => [(1, .inl w), (0, .inr (.inr (.inl 96)))]) rfl rfl (fun _ => rfl) (by decide) rfl (by decide) (by omega) (fun x22 q23 => ?_)
              refine R_goto 2 rfl rfl ?_
              exact RUN_weak (psub_cons rfl (psub_cons rfl (psub_nil _))) (ih4 x22 (by omega) (by omega))
            · exfalso; omega
          · show RUN d_X9_keepsAll 29 [(1, .inl x3), (0, .inr (.inr (.inl 96)))] [.inl x19] h _
            refine N_if_ne (a := x19.toInt) 34 rfl rfl rfl (fun c24 => ?_) (fun c24 => ?_)
            · exfalso; omega
            · refine R_iconst 0 rfl rfl ?_
              exact R_iret rfl rfl rfl ⟨rfl, _, rfl, by rw [show (0 : Int32).toInt = 0 from rfl] <;> omega⟩
  exact lp2 _ (0 : Int32) (by decide) (Nat.lt_succ_self _)
abbrev q_X9_keepOrder (h : PH)  : Option PV → PH → Prop := fun r h' => INV h' ∧ FR [96, 107, 108, 109, 110, 111, 112, 113, 114, 115, 116, 117, 118, 119, 120, 123] h h' ∧ ((h'.1 96 44).toInt = (h.1 96 44).toInt ∧ True) ∧ r = none
set_option maxHeartbeats 4000000 in
set_option maxRecDepth 100000 in
theorem k_X9_keepOrder (h : PH) (hI : INV h) (p97_0 : 1 ≤ (h.1 97 0).toInt ∧ (h.1 97 0).toInt ≤ 60) : CALL d_X9_keepOrder [.inr (.inr (.inl 96))] h (q_X9_keepOrder h) := by
  show RUN d_X9_keepOrder 0 [(0, .inr (.inr (.inl 96)))] [] h _
  have fr : FR [96, 107, 108, 109, 110, 111, 112, 113, 114, 115, 116, 117, 118, 119, 120, 123] h h := FR.rf _ _
  have b1 : (0 : Int) ≤ (h.1 97 0).toInt ∧ (h.1 97 0).toInt ≤ 60 := hI.1 97 0
  refine R_aload_n (k := 0) rfl rfl rfl ?_
  refine R_dup_r rfl ?_
  refine R_getf_i (j := 46) rfl ft_9_408 sh_96 rfl ?_
  refine R_iconst 1 rfl rfl ?_
  have b2 := i_rng (h.1 96 46)
  refine R_iadd rfl ?_
  refine N_any (fun x3 => ?_)
  refine K_putf (j := 46) (lo := (-2147483648)) (hi' := 2147483647) rfl ft_9_408 sh_96 rfl hI (by decide) rfl (i_rng _) fr (by decide) (fun h4 g5 hI fr => ?_)
  have s6 : (h4.1 97 0).toInt = (h.1 97 0).toInt := by rw [g5, wI_ne _ _ _ (by decide)]
  have s7 : (h4.1 96 44).toInt = (h.1 96 44).toInt := by rw [g5, wI_at (by decide)]
  have s8 : (h4.1 96 47).toInt = (h.1 96 47).toInt := by rw [g5, wI_at (by decide)]
  have s9 : (h4.1 96 48).toInt = (h.1 96 48).toInt := by rw [g5, wI_at (by decide)]
  have s10 : (h4.1 96 46).toInt = x3.toInt := by rw [g5, wI_is]
  refine R_aload_n (k := 0) rfl rfl rfl ?_
  refine R_callV (v := .inr (.inr (.inl 96))) (As := []) (rest := []) rfl mt_9_i389 pp_X9_waterNow (by decide) rfl rfl rfl (Nat.le_of_ble_eq_true rfl) (Nat.le_of_ble_eq_true rfl) ((k_X9_waterNow h4 hI (by omega)).mono (fun r11 h12 p13 => ?_))
  obtain ⟨hJ, fj, ⟨kp14, kp15, kp16, kp17, kp18, kp19, -⟩, x20, rfl, q21⟩ := p13
  have f22 := fj
  have fr := fr.trans fj (by decide)
  have hI := hJ
  have s23 : (h12.1 97 0).toInt = (h4.1 97 0).toInt := by rw [(f22 97 (by decide)).1]
  show RUN d_X9_keepOrder 14 [(0, .inr (.inr (.inl 96)))] [.inl x20] h12 _
  refine R_istore_n (k := 1) rfl [(1, .inl x20), (0, .inr (.inr (.inl 96)))] rfl rfl (by decide) ?_
  refine R_aload_n (k := 0) rfl rfl rfl ?_
  refine R_aload_n (k := 0) rfl rfl rfl ?_
  refine R_getf_r (j := 1) rfl ft_9_9 sh_96 rfl ?_
  refine R_bipush 7 rfl rfl ?_
  refine R_iald rfl sh_97 (by decide) ?_
  show RUN d_X9_keepOrder 23 [(1, .inl x20), (0, .inr (.inr (.inl 96)))] [.inl (h12.1 97 7), .inr (.inr (.inl 96))] h12 _
  refine R_callV (v := .inr (.inr (.inl 96))) (As := [.inl (h12.1 97 7)]) (rest := []) rfl mt_9_i345 pp_X9_goFire (by decide) rfl rfl rfl (Nat.le_of_ble_eq_true rfl) (Nat.le_of_ble_eq_true rfl) ((k_X9_goFire h12 hI (h12.1 97 7)).mono (fun r24 h25 p26 => ?_))
  obtain ⟨hJ, fj, -, x27, rfl, q28⟩ := p26
  have f29 := fj
  have fr := fr.trans fj (by decide)
  have hI := hJ
  have s30 : (h25.1 97 0).toInt = (h12.1 97 0).toInt := by rw [(f29 97 (by decide)).1]
  have s31 : (h25.1 96 44).toInt = (h12.1 96 44).toInt := by rw [(f29 96 (by decide)).1]
  have s32 : (h25.1 96 47).toInt = (h12.1 96 47).toInt := by rw [(f29 96 (by decide)).1]
  have s33 : (h25.1 96 48).toInt = (h12.1 96 48).toInt := by rw [(f29 96 (by decide)).1]
  have s34 : (h25.1 96 46).toInt = (h12.1 96 46).toInt := by rw [(f29 96 (by decide)).1]
  have s35 : (h25.1 97 7).toInt = (h12.1 97 7).toInt := by rw [(f29 97 (by decide)).1]
  show RUN d_X9_keepOrder 26 [(1, .inl x20), (0, .inr (.inr (.inl 96)))] [.inl x27] h25 _
  refine R_istore_n (k := 2) rfl [(2, .inl x27), (1, .inl x20), (0, .inr (.inr (.inl 96)))] rfl rfl (by decide) ?_
  refine R_iload_n (k := 2) rfl rfl rfl ?_
  refine R_iconst (-1) rfl rfl ?_
  refine N_icmp_eq (a := x27.toInt) (b := (-1)) 44 rfl rfl rfl (by decide) (fun c36 => ?_) (fun c36 => ?_)
  · refine R_iload_n (k := 1) rfl rfl rfl ?_
    refine R_aload_n (k := 0) rfl rfl rfl ?_
    refine R_getf_i (j := 47) rfl ft_9_414 sh_96 rfl ?_
    refine N_icmp_gt (a := x20.toInt) (b := (h25.1 96 47).toInt) 53 rfl rfl rfl rfl (fun c37 => ?_) (fun c37 => ?_)
    · refine R_aload_n (k := 0) rfl rfl rfl ?_
      refine R_iload_n (k := 1) rfl rfl rfl ?_
      refine K_putf (j := 47) (lo := (-2147483648)) (hi' := 2147483647) rfl ft_9_414 sh_96 rfl hI (by decide) rfl (i_rng _) fr (by decide) (fun h38 g39 hI fr => ?_)
      have s40 : (h38.1 97 0).toInt = (h25.1 97 0).toInt := by rw [g39, wI_ne _ _ _ (by decide)]
      have s41 : (h38.1 96 44).toInt = (h25.1 96 44).toInt := by rw [g39, wI_at (by decide)]
      have s42 : (h38.1 96 48).toInt = (h25.1 96 48).toInt := by rw [g39, wI_at (by decide)]
      have s43 : (h38.1 96 46).toInt = (h25.1 96 46).toInt := by rw [g39, wI_at (by decide)]
      have s44 : (h38.1 97 7).toInt = (h25.1 97 7).toInt := by rw [g39, wI_ne _ _ _ (by decide)]
      have s45 : (h38.1 96 47).toInt = x20.toInt := by rw [g39, wI_is]
      refine R_iconst 0 rfl rfl ?_
      refine R_istore_n (k := 3) rfl [(3, .inl 0), (2, .inl x27), (1, .inl x20), (0, .inr (.inr (.inl 96)))] rfl rfl (by decide) ?_
      have lp47 : ∀ (n46 : Nat) (h48 : PH) (x50 : Int32), INV h48 → FR [96, 107, 108, 109, 110, 111, 112, 113, 114, 115, 116, 117, 118, 119, 120, 123] h h48 → FR [123] h38 h48 → 0 ≤ x50.toInt ∧ x50.toInt ≤ 6 → (6 - x50.toInt).toNat < n46 → RUN d_X9_keepOrder 60 [(3, .inl x50), (2, .inl x27), (1, .inl x20), (0, .inr (.inr (.inl 96)))] [] h48 (q_X9_keepOrder h) := by
        intro n46
        induction n46 with
        | zero => intro h48 x50 m52 m53 m54 m55 hz; exact absurd hz (Nat.not_lt_zero _)
        | succ n46 ih51 =>
          intro h48 x50 hI fr fl49 m55 hz
          have s56 : (h48.1 97 0).toInt = (h38.1 97 0).toInt := by rw [(fl49 97 (by decide)).1]
          have s57 : (h48.1 96 44).toInt = (h38.1 96 44).toInt := by rw [(fl49 96 (by decide)).1]
          have s58 : (h48.1 96 48).toInt = (h38.1 96 48).toInt := by rw [(fl49 96 (by decide)).1]
          have s59 : (h48.1 96 46).toInt = (h38.1 96 46).toInt := by rw [(fl49 96 (by decide)).1]
          have s60 : (h48.1 97 7).toInt = (h38.1 97 7).toInt := by rw [(fl49 97 (by decide)).1]
          have s61 : (h48.1 96 47).toInt = (h38.1 96 47).toInt := by rw [(fl49 96 (by decide)).1]
          refine R_iload_n (k := 3) rfl rfl rfl ?_
          refine R_bipush 6 rfl rfl ?_
          refine N_icmp_ge (a := x50.toInt) (b := 6) 84 rfl rfl rfl (by decide) (fun c62 => ?_) (fun c62 => ?_)
          · exact R_vret rfl rfl ⟨hI, fr, ⟨by omega, trivial⟩, rfl⟩
          · refine R_aload_n (k := 0) rfl rfl rfl ?_
            refine R_getf_r (j := 45) rfl ft_9_94 sh_96 rfl ?_
            refine R_iload_n (k := 3) rfl rfl rfl ?_
            refine R_aload_n (k := 0) rfl rfl rfl ?_
            refine R_getf_r (j := 17) rfl ft_9_40 sh_96 rfl ?_
            refine R_iload_n (k := 3) rfl rfl rfl ?_
            refine R_iald rfl sh_105 ⟨by omega, by omega⟩ ?_
            refine N_bd (lo := 0) (hi := 5) (hI.1 105 _) (fun x63 q64 => ?_)
            refine K_iast (a := x50.toInt) (lo := (-2147483648)) (hi' := 2147483647) rfl sh_123 rfl ⟨by omega, by omega⟩ hI (by decide) rfl (i_rng _) fr (by decide) (fun h65 g66 hI fr => ?_)
            have fl49 : FR [123] h38 h65 := by rw [g66]; exact FR_wI _ _ fl49 (by decide)
            have s67 : (h65.1 97 0).toInt = (h48.1 97 0).toInt := by rw [g66, wI_ne _ _ _ (by decide)]
            have s68 : (h65.1 96 44).toInt = (h48.1 96 44).toInt := by rw [g66, wI_ne _ _ _ (by decide)]
            have s69 : (h65.1 96 48).toInt = (h48.1 96 48).toInt := by rw [g66, wI_ne _ _ _ (by decide)]
            have s70 : (h65.1 96 46).toInt = (h48.1 96 46).toInt := by rw [g66, wI_ne _ _ _ (by decide)]
            have s71 : (h65.1 97 7).toInt = (h48.1 97 7).toInt := by rw [g66, wI_ne _ _ _ (by decide)]
            have s72 : (h65.1 96 47).toInt = (h48.1 96 47).toInt := by rw [g66, wI_ne _ _ _ (by decide)]
            refine N_iinc (a := x50.toInt) (c := 1) (fun w => [(3, .inl w), (2, .inl x27), (1, .inl x20), (0, .inr (.inr (.inl 96)))]) rfl rfl (fun _ => rfl) (by decide) rfl (by decide) (by omega) (fun x73 q74 => ?_)
            refine R_goto 60 rfl rfl ?_
            exact RUN_weak (psub_cons rfl (psub_cons rfl (psub_cons rfl (psub_cons rfl (psub_nil _))))) (ih51 h65 x73 hI fr fl49 (by omega) (by omega))
      exact lp47 _ h38 (0 : Int32) hI fr (FR.rf _ _) (by decide) (Nat.lt_succ_self _)
    · exact R_vret rfl rfl ⟨hI, fr, ⟨by omega, trivial⟩, rfl⟩
  · refine R_aload_n (k := 0) rfl rfl rfl ?_
    refine R_aload_n (k := 0) rfl rfl rfl ?_
    refine R_getf_i (j := 48) rfl ft_9_411 sh_96 rfl ?_
    refine R_iload_n (k := 2) rfl rfl rfl ?_
    refine N_min (a := (h25.1 96 48).toInt) (b := x27.toInt) rfl mt_9_i167 rfl rfl ⟨by decide, by decide, Nat.le_of_ble_eq_true rfl⟩ (fun x75 q76 => ?_)
    refine K_putf (j := 48) (lo := (-2147483648)) (hi' := 2147483647) rfl ft_9_411 sh_96 rfl hI (by decide) rfl (i_rng _) fr (by decide) (fun h77 g78 hI fr => ?_)
    have s79 : (h77.1 97 0).toInt = (h25.1 97 0).toInt := by rw [g78, wI_ne _ _ _ (by decide)]
    have s80 : (h77.1 96 44).toInt = (h25.1 96 44).toInt := by rw [g78, wI_at (by decide)]
    have s81 : (h77.1 96 47).toInt = (h25.1 96 47).toInt := by rw [g78, wI_at (by decide)]
    have s82 : (h77.1 96 46).toInt = (h25.1 96 46).toInt := by rw [g78, wI_at (by decide)]
    have s83 : (h77.1 97 7).toInt = (h25.1 97 7).toInt := by rw [g78, wI_ne _ _ _ (by decide)]
    have s84 : (h77.1 96 48).toInt = x75.toInt := by rw [g78, wI_is]
    refine R_iload_n (k := 1) rfl rfl rfl ?_
    refine R_aload_n (k := 0) rfl rfl rfl ?_
    refine R_getf_i (j := 47) rfl ft_9_414 sh_96 rfl ?_
    refine N_icmp_gt (a := x20.toInt) (b := (h77.1 96 47).toInt) 53 rfl rfl rfl rfl (fun c85 => ?_) (fun c85 => ?_)
    · refine R_aload_n (k := 0) rfl rfl rfl ?_
      refine R_iload_n (k := 1) rfl rfl rfl ?_
      refine K_putf (j := 47) (lo := (-2147483648)) (hi' := 2147483647) rfl ft_9_414 sh_96 rfl hI (by decide) rfl (i_rng _) fr (by decide) (fun h86 g87 hI fr => ?_)
      have s88 : (h86.1 97 0).toInt = (h77.1 97 0).toInt := by rw [g87, wI_ne _ _ _ (by decide)]
      have s89 : (h86.1 96 44).toInt = (h77.1 96 44).toInt := by rw [g87, wI_at (by decide)]
      have s90 : (h86.1 96 46).toInt = (h77.1 96 46).toInt := by rw [g87, wI_at (by decide)]
      have s91 : (h86.1 97 7).toInt = (h77.1 97 7).toInt := by rw [g87, wI_ne _ _ _ (by decide)]
      have s92 : (h86.1 96 48).toInt = (h77.1 96 48).toInt := by rw [g87, wI_at (by decide)]
      have s93 : (h86.1 96 47).toInt = x20.toInt := by rw [g87, wI_is]
      refine R_iconst 0 rfl rfl ?_
      refine R_istore_n (k := 3) rfl [(3, .inl 0), (2, .inl x27), (1, .inl x20), (0, .inr (.inr (.inl 96)))] rfl rfl (by decide) ?_
      have lp95 : ∀ (n94 : Nat) (h96 : PH) (x98 : Int32), INV h96 → FR [96, 107, 108, 109, 110, 111, 112, 113, 114, 115, 116, 117, 118, 119, 120, 123] h h96 → FR [123] h86 h96 → 0 ≤ x98.toInt ∧ x98.toInt ≤ 6 → (6 - x98.toInt).toNat < n94 → RUN d_X9_keepOrder 60 [(3, .inl x98), (2, .inl x27), (1, .inl x20), (0, .inr (.inr (.inl 96)))] [] h96 (q_X9_keepOrder h) := by
        intro n94
        induction n94 with
        | zero => intro h96 x98 m100 m101 m102 m103 hz; exact absurd hz (Nat.not_lt_zero _)
        | succ n94 ih99 =>
          intro h96 x98 hI fr fl97 m103 hz
          have s104 : (h96.1 97 0).toInt = (h86.1 97 0).toInt := by rw [(fl97 97 (by decide)).1]
          have s105 : (h96.1 96 44).toInt = (h86.1 96 44).toInt := by rw [(fl97 96 (by decide)).1]
          have s106 : (h96.1 96 46).toInt = (h86.1 96 46).toInt := by rw [(fl97 96 (by decide)).1]
          have s107 : (h96.1 97 7).toInt = (h86.1 97 7).toInt := by rw [(fl97 97 (by decide)).1]
          have s108 : (h96.1 96 48).toInt = (h86.1 96 48).toInt := by rw [(fl97 96 (by decide)).1]
          have s109 : (h96.1 96 47).toInt = (h86.1 96 47).toInt := by rw [(fl97 96 (by decide)).1]
          refine R_iload_n (k := 3) rfl rfl rfl ?_
          refine R_bipush 6 rfl rfl ?_
          refine N_icmp_ge (a := x98.toInt) (b := 6) 84 rfl rfl rfl (by decide) (fun c110 => ?_) (fun c110 => ?_)
          · exact R_vret rfl rfl ⟨hI, fr, ⟨by omega, trivial⟩, rfl⟩
          · refine R_aload_n (k := 0) rfl rfl rfl ?_
            refine R_getf_r (j := 45) rfl ft_9_94 sh_96 rfl ?_
            refine R_iload_n (k := 3) rfl rfl rfl ?_
            refine R_aload_n (k := 0) rfl rfl rfl ?_
            refine R_getf_r (j := 17) rfl ft_9_40 sh_96 rfl ?_
            refine R_iload_n (k := 3) rfl rfl rfl ?_
            refine R_iald rfl sh_105 ⟨by omega, by omega⟩ ?_
            refine N_bd (lo := 0) (hi := 5) (hI.1 105 _) (fun x111 q112 => ?_)
            refine K_iast (a := x98.toInt) (lo := (-2147483648)) (hi' := 2147483647) rfl sh_123 rfl ⟨by omega, by omega⟩ hI (by decide) rfl (i_rng _) fr (by decide) (fun h113 g114 hI fr => ?_)
            have fl97 : FR [123] h86 h113 := by rw [g114]; exact FR_wI _ _ fl97 (by decide)
            have s115 : (h113.1 97 0).toInt = (h96.1 97 0).toInt := by rw [g114, wI_ne _ _ _ (by decide)]
            have s116 : (h113.1 96 44).toInt = (h96.1 96 44).toInt := by rw [g114, wI_ne _ _ _ (by decide)]
            have s117 : (h113.1 96 46).toInt = (h96.1 96 46).toInt := by rw [g114, wI_ne _ _ _ (by decide)]
            have s118 : (h113.1 97 7).toInt = (h96.1 97 7).toInt := by rw [g114, wI_ne _ _ _ (by decide)]
            have s119 : (h113.1 96 48).toInt = (h96.1 96 48).toInt := by rw [g114, wI_ne _ _ _ (by decide)]
            have s120 : (h113.1 96 47).toInt = (h96.1 96 47).toInt := by rw [g114, wI_ne _ _ _ (by decide)]
            refine N_iinc (a := x98.toInt) (c := 1) (fun w => [(3, .inl w), (2, .inl x27), (1, .inl x20), (0, .inr (.inr (.inl 96)))]) rfl rfl (fun _ => rfl) (by decide) rfl (by decide) (by omega) (fun x121 q122 => ?_)
            refine R_goto 60 rfl rfl ?_
            exact RUN_weak (psub_cons rfl (psub_cons rfl (psub_cons rfl (psub_cons rfl (psub_nil _))))) (ih99 h113 x121 hI fr fl97 (by omega) (by omega))
      exact lp95 _ h86 (0 : Int32) hI fr (FR.rf _ _) (by decide) (Nat.lt_succ_self _)
    · exact R_vret rfl rfl ⟨hI, fr, ⟨by omega, trivial⟩, rfl⟩
abbrev q_X9_change (h : PH) (a0 : Int32) (a1 : Int32) : Option PV → PH → Prop := fun r h' => INV h' ∧ FR [105] h h' ∧ (True) ∧ r = none
set_option maxHeartbeats 4000000 in
set_option maxRecDepth 100000 in
theorem k_X9_change (h : PH) (hI : INV h) (a0 : Int32) (a1 : Int32) (h0a : 0 ≤ a0.toInt ∧ a0.toInt ≤ 4) (h1a : 1 ≤ a1.toInt ∧ a1.toInt ≤ 5) : CALL d_X9_change [.inr (.inr (.inl 96)), .inl a0, .inl a1] h (q_X9_change h a0 a1) := by
  show RUN d_X9_change 0 [(0, .inr (.inr (.inl 96))), (1, .inl a0), (2, .inl a1)] [] h _
  have fr : FR [105] h h := FR.rf _ _
  refine R_aload_n (k := 0) rfl rfl rfl ?_
  refine R_getf_r (j := 17) rfl ft_9_40 sh_96 rfl ?_
  refine R_iload_n (k := 1) rfl rfl rfl ?_
  refine R_iald rfl sh_105 ⟨by omega, by omega⟩ ?_
  refine N_bd (lo := 0) (hi := 5) (hI.1 105 _) (fun x1 q2 => ?_)
  refine R_istore_n (k := 3) rfl [(3, .inl x1), (0, .inr (.inr (.inl 96))), (1, .inl a0), (2, .inl a1)] rfl rfl (by decide) ?_
  refine R_aload_n (k := 0) rfl rfl rfl ?_
  refine R_getf_r (j := 17) rfl ft_9_40 sh_96 rfl ?_
  refine R_iload_n (k := 1) rfl rfl rfl ?_
  refine R_aload_n (k := 0) rfl rfl rfl ?_
  refine R_getf_r (j := 17) rfl ft_9_40 sh_96 rfl ?_
  refine R_iload_n (k := 2) rfl rfl rfl ?_
  refine R_iald rfl sh_105 ⟨by omega, by omega⟩ ?_
  refine N_bd (lo := 0) (hi := 5) (hI.1 105 _) (fun x3 q4 => ?_)
  refine K_iast (a := a0.toInt) (lo := 0) (hi' := 5) rfl sh_105 rfl ⟨by omega, by omega⟩ hI (by decide) rfl (by omega) fr (by decide) (fun h5 g6 hI fr => ?_)
  refine R_aload_n (k := 0) rfl rfl rfl ?_
  refine R_getf_r (j := 17) rfl ft_9_40 sh_96 rfl ?_
  refine R_iload_n (k := 2) rfl rfl rfl ?_
  refine R_iload_n (k := 3) rfl rfl rfl ?_
  refine K_iast (a := a1.toInt) (lo := 0) (hi' := 5) rfl sh_105 rfl ⟨by omega, by omega⟩ hI (by decide) rfl (by omega) fr (by decide) (fun h7 g8 hI fr => ?_)
  exact R_vret rfl rfl ⟨hI, fr, trivial, rfl⟩
abbrev q_X3_handAt (h : PH) (a0 : Int32) (a1 : Int32) : Option PV → PH → Prop := fun r h' => h = h' ∧ ∃ z : Int32, r = some (.inl z) ∧ ((0 ≤ z.toInt ∧ z.toInt ≤ 7))
set_option maxHeartbeats 4000000 in
set_option maxRecDepth 100000 in
theorem k_X3_handAt (h : PH) (hI : INV h) (a0 : Int32) (a1 : Int32) (h0a : 0 ≤ a0.toInt ∧ a0.toInt ≤ 719) (h1a : 0 ≤ a1.toInt ∧ a1.toInt ≤ 5) : CALL d_X3_handAt [.inr (.inr (.inl 87)), .inl a0, .inl a1] h (q_X3_handAt h a0 a1) := by
  show RUN d_X3_handAt 0 [(0, .inr (.inr (.inl 87))), (1, .inl a0), (2, .inl a1)] [] h _
  refine R_aload_n (k := 0) rfl rfl rfl ?_
  refine R_getf_r (j := 2) rfl ft_3_18 sh_87 rfl ?_
  refine R_iload_n (k := 1) rfl rfl rfl ?_
  refine R_iald rfl sh_90 ⟨by omega, by omega⟩ ?_
  refine N_any (fun x1 => ?_)
  refine R_iconst 3 rfl rfl ?_
  refine R_iload_n (k := 2) rfl rfl rfl ?_
  refine N_imul (a := 3) (b := a1.toInt) rfl (by decide) rfl (by omega) (fun x2 q3 => ?_)
  refine R_ishr rfl ?_
  refine N_any (fun x4 => ?_)
  refine R_bipush 7 rfl rfl ?_
  refine N_iand (b := 7) rfl (by decide) (by omega) (fun x5 q6 => ?_)
  exact R_iret rfl rfl rfl ⟨rfl, _, rfl, by omega⟩
abbrev q_X3_playAll (h : PH)  : Option PV → PH → Prop := fun r h' => INV h' ∧ FR [70, 71, 72, 73, 74, 91] h h' ∧ (True) ∧ r = none
set_option maxHeartbeats 4000000 in
set_option maxRecDepth 100000 in
theorem k_X3_playAll (h : PH) (hI : INV h)  : CALL d_X3_playAll [.inr (.inr (.inl 87)), .inr (.inr (.inl 16)), .inr (.inr (.inl 70))] h (q_X3_playAll h) := by
  show RUN d_X3_playAll 0 [(0, .inr (.inr (.inl 87))), (1, .inr (.inr (.inl 16))), (2, .inr (.inr (.inl 70)))] [] h _
  have fr : FR [70, 71, 72, 73, 74, 91] h h := FR.rf _ _
  refine R_iconst 0 rfl rfl ?_
  refine R_istore_n (k := 3) rfl [(3, .inl 0), (0, .inr (.inr (.inl 87))), (1, .inr (.inr (.inl 16))), (2, .inr (.inr (.inl 70)))] rfl rfl (by decide) ?_
  have lp2 : ∀ (n1 : Nat) (h3 : PH) (x5 : Int32), INV h3 → FR [70, 71, 72, 73, 74, 91] h h3 → FR [70, 71, 72, 73, 74, 91] h h3 → 0 ≤ x5.toInt ∧ x5.toInt ≤ 720 → (720 - x5.toInt).toNat < n1 → RUN d_X3_playAll 2 [(3, .inl x5), (0, .inr (.inr (.inl 87))), (1, .inr (.inr (.inl 16))), (2, .inr (.inr (.inl 70)))] [] h3 (q_X3_playAll h) := by
    intro n1
    induction n1 with
    | zero => intro h3 x5 m7 m8 m9 m10 hz; exact absurd hz (Nat.not_lt_zero _)
    | succ n1 ih6 =>
      intro h3 x5 hI fr fl4 m10 hz
      refine R_iload_n (k := 3) rfl rfl rfl ?_
      refine R_aload_n (k := 0) rfl rfl rfl ?_
      refine R_getf_i (j := 6) rfl ft_3_31 sh_87 rfl ?_
      have b11 : (0 : Int) ≤ (h3.1 87 6).toInt ∧ (h3.1 87 6).toInt ≤ 720 := hI.1 87 6
      refine N_icmp_ge (a := x5.toInt) (b := (h3.1 87 6).toInt) 70 rfl rfl rfl rfl (fun c12 => ?_) (fun c12 => ?_)
      · exact R_vret rfl rfl ⟨hI, fr, trivial, rfl⟩
      · refine R_aload_n (k := 2) rfl rfl rfl ?_
        refine R_aload_n (k := 1) rfl rfl rfl ?_
        refine R_callV (v := .inr (.inr (.inl 70))) (As := [.inr (.inr (.inl 16))]) (rest := []) rfl mt_3_i61 pp_X2_clearFor (by decide) rfl rfl rfl (Nat.le_of_ble_eq_true rfl) (Nat.le_of_ble_eq_true rfl) ((k_X2_clearFor h3 hI).mono (fun r13 h14 p15 => ?_))
        obtain ⟨hJ, fj, -, rfl⟩ := p15
        have f16 := fj
        have fr := fr.trans fj (by decide)
        have hI := hJ
        have fl4 : FR [70, 71, 72, 73, 74, 91] h h14 := fl4.trans fj (by decide)
        have s17 : (h14.1 87 6).toInt = (h3.1 87 6).toInt := by rw [(f16 87 (by decide)).1]
        show RUN d_X3_playAll 15 [(3, .inl x5), (0, .inr (.inr (.inl 87))), (1, .inr (.inr (.inl 16))), (2, .inr (.inr (.inl 70)))] [] h14 _
        refine R_iconst 0 rfl rfl ?_
        refine R_istore (k := 4) [(4, .inl 0), (3, .inl x5), (0, .inr (.inr (.inl 87))), (1, .inr (.inr (.inl 16))), (2, .inr (.inr (.inl 70)))] rfl rfl (by decide) ?_
        have lp19 : ∀ (n18 : Nat) (h20 : PH) (x22 : Int32), INV h20 → FR [70, 71, 72, 73, 74, 91] h h20 → FR [70, 71, 72, 73, 74, 91] h14 h20 → 0 ≤ x22.toInt ∧ x22.toInt ≤ 6 → (6 - x22.toInt).toNat < n18 → RUN d_X3_playAll 18 [(4, .inl x22), (3, .inl x5), (0, .inr (.inr (.inl 87))), (1, .inr (.inr (.inl 16))), (2, .inr (.inr (.inl 70)))] [] h20 (q_X3_playAll h) := by
          intro n18
          induction n18 with
          | zero => intro h20 x22 m24 m25 m26 m27 hz; exact absurd hz (Nat.not_lt_zero _)
          | succ n18 ih23 =>
            intro h20 x22 hI fr fl21 m27 hz
            have s28 : (h20.1 87 6).toInt = (h14.1 87 6).toInt := by rw [(fl21 87 (by decide)).1]
            have fl4 : FR [70, 71, 72, 73, 74, 91] h h20 := fl4.trans fl21 (by decide)
            refine R_iload (k := 4) rfl rfl ?_
            refine R_aload_n (k := 1) rfl rfl rfl ?_
            refine R_getf_r (j := 0) rfl ft_3_41 sh_16 rfl ?_
            refine R_iconst 5 rfl rfl ?_
            refine R_iald rfl sh_17 (by decide) ?_
            have b29 : (0 : Int) ≤ (h20.1 17 5).toInt ∧ (h20.1 17 5).toInt ≤ 6 := hI.1 17 5
            show RUN d_X3_playAll 26 [(4, .inl x22), (3, .inl x5), (0, .inr (.inr (.inl 87))), (1, .inr (.inr (.inl 16))), (2, .inr (.inr (.inl 70)))] [.inl (h20.1 17 5), .inl x22] h20 _
            refine N_icmp_ge (a := x22.toInt) (b := (h20.1 17 5).toInt) 47 rfl rfl rfl rfl (fun c30 => ?_) (fun c30 => ?_)
            · refine R_aload_n (k := 0) rfl rfl rfl ?_
              refine R_getf_r (j := 3) rfl ft_3_21 sh_87 rfl ?_
              refine R_iload_n (k := 3) rfl rfl rfl ?_
              refine R_aload_n (k := 2) rfl rfl rfl ?_
              refine R_aload_n (k := 1) rfl rfl rfl ?_
              refine R_getf_r (j := 0) rfl ft_3_41 sh_16 rfl ?_
              refine R_iconst 0 rfl rfl ?_
              refine R_iald rfl sh_17 (by decide) ?_
              have b31 : (0 : Int) ≤ (h20.1 17 0).toInt ∧ (h20.1 17 0).toInt ≤ 60 := hI.1 17 0
              show RUN d_X3_playAll 59 [(4, .inl x22), (3, .inl x5), (0, .inr (.inr (.inl 87))), (1, .inr (.inr (.inl 16))), (2, .inr (.inr (.inl 70)))] [.inl (h20.1 17 0), .inr (.inr (.inl 70)), .inl x5, .inr (.inr (.inl 91))] h20 _
              refine R_lconst 0 rfl rfl ?_
              have k32 : (0 : Int64).toInt = 0 := by decide
              refine R_callV (v := .inr (.inr (.inl 70))) (As := [.inl (h20.1 17 0), .inr (.inl 0)]) (rest := [.inl x5, .inr (.inr (.inl 91))]) rfl mt_3_i74 pp_X2_play (by decide) rfl rfl rfl (Nat.le_of_ble_eq_true rfl) (Nat.le_of_ble_eq_true rfl) ((k_X2_play h20 hI (h20.1 17 0) (0 : Int64) (by omega)).mono (fun r33 h34 p35 => ?_))
              obtain ⟨hJ, fj, ⟨kp36, -⟩, w37, rfl⟩ := p35
              have f38 := fj
              have fr := fr.trans fj (by decide)
              have hI := hJ
              have fl21 : FR [70, 71, 72, 73, 74, 91] h14 h34 := fl21.trans fj (by decide)
              have fl4 : FR [70, 71, 72, 73, 74, 91] h h34 := fl4.trans fj (by decide)
              have s39 : (h34.1 87 6).toInt = (h20.1 87 6).toInt := by rw [(f38 87 (by decide)).1]
              have s40 : (h34.1 17 5).toInt = (h20.1 17 5).toInt := by rw [(f38 17 (by decide)).1]
              have s41 : (h34.1 17 0).toInt = (h20.1 17 0).toInt := by rw [(f38 17 (by decide)).1]
              show RUN d_X3_playAll 63 [(4, .inl x22), (3, .inl x5), (0, .inr (.inr (.inl 87))), (1, .inr (.inr (.inl 16))), (2, .inr (.inr (.inl 70)))] [.inr (.inl w37), .inl x5, .inr (.inr (.inl 91))] h34 _
              refine K_last (a := x5.toInt) rfl sh_91 rfl ⟨by omega, by omega⟩ hI fr (by decide) (fun h42 g43 hI fr => ?_)
              have fl21 : FR [70, 71, 72, 73, 74, 91] h14 h42 := by rw [g43]; exact FR_wL _ _ fl21 (by decide)
              have fl4 : FR [70, 71, 72, 73, 74, 91] h h42 := by rw [g43]; exact FR_wL _ _ fl4 (by decide)
              have s44 : (h42.1 87 6).toInt = (h34.1 87 6).toInt := by rw [g43, wL_fst]
              have s45 : (h42.1 17 5).toInt = (h34.1 17 5).toInt := by rw [g43, wL_fst]
              have s46 : (h42.1 17 0).toInt = (h34.1 17 0).toInt := by rw [g43, wL_fst]
              refine N_iinc (a := x5.toInt) (c := 1) (fun w => [(3, .inl w), (4, .inl x22), (0, .inr (.inr (.inl 87))), (1, .inr (.inr (.inl 16))), (2, .inr (.inr (.inl 70)))]) rfl rfl (fun _ => rfl) (by decide) rfl (by decide) (by omega) (fun x47 q48 => ?_)
              refine R_goto 2 rfl rfl ?_
              exact RUN_weak (psub_cons rfl (psub_cons rfl (psub_cons rfl (psub_cons rfl (psub_nil _))))) (ih6 h42 x47 hI fr fl4 (by omega) (by omega))
            · refine R_aload_n (k := 2) rfl rfl rfl ?_
              refine R_aload_n (k := 1) rfl rfl rfl ?_
              refine R_aload_n (k := 0) rfl rfl rfl ?_
              refine R_iload_n (k := 3) rfl rfl rfl ?_
              refine R_iload (k := 4) rfl rfl ?_
              refine R_callV (v := .inr (.inr (.inl 87))) (As := [.inl x5, .inl x22]) (rest := [.inr (.inr (.inl 16)), .inr (.inr (.inl 70))]) rfl mt_3_i67 pp_X3_handAt (by decide) rfl rfl rfl (Nat.le_of_ble_eq_true rfl) (Nat.le_of_ble_eq_true rfl) ((k_X3_handAt h20 hI x5 x22 (by omega) (by omega)).mono (fun r49 h50 p51 => ?_))
              obtain ⟨rfl, x52, rfl, q53⟩ := p51
              show RUN d_X3_playAll 38 [(4, .inl x22), (3, .inl x5), (0, .inr (.inr (.inl 87))), (1, .inr (.inr (.inl 16))), (2, .inr (.inr (.inl 70)))] [.inl x52, .inr (.inr (.inl 16)), .inr (.inr (.inl 70))] h20 _
              refine R_callV (v := .inr (.inr (.inl 70))) (As := [.inr (.inr (.inl 16)), .inl x52]) (rest := []) rfl mt_3_i70 pp_X2_join (by decide) rfl rfl rfl (Nat.le_of_ble_eq_true rfl) (Nat.le_of_ble_eq_true rfl) ((k_X2_join h20 hI x52 (by omega)).mono (fun r54 h55 p56 => ?_))
              obtain ⟨hJ, fj, -, rfl⟩ := p56
              have f57 := fj
              have fr := fr.trans fj (by decide)
              have hI := hJ
              have fl21 : FR [70, 71, 72, 73, 74, 91] h14 h55 := fl21.trans fj (by decide)
              have fl4 : FR [70, 71, 72, 73, 74, 91] h h55 := fl4.trans fj (by decide)
              have s58 : (h55.1 87 6).toInt = (h20.1 87 6).toInt := by rw [(f57 87 (by decide)).1]
              have s59 : (h55.1 17 5).toInt = (h20.1 17 5).toInt := by rw [(f57 17 (by decide)).1]
              show RUN d_X3_playAll 41 [(4, .inl x22), (3, .inl x5), (0, .inr (.inr (.inl 87))), (1, .inr (.inr (.inl 16))), (2, .inr (.inr (.inl 70)))] [] h55 _
              refine N_iinc (a := x22.toInt) (c := 1) (fun w => [(4, .inl w), (3, .inl x5), (0, .inr (.inr (.inl 87))), (1, .inr (.inr (.inl 16))), (2, .inr (.inr (.inl 70)))]) rfl rfl (fun _ => rfl) (by decide) rfl (by decide) (by omega) (fun x60 q61 => ?_)
              refine R_goto 18 rfl rfl ?_
              exact RUN_weak (psub_cons rfl (psub_cons rfl (psub_cons rfl (psub_cons rfl (psub_cons rfl (psub_nil _)))))) (ih23 h55 x60 hI fr fl21 (by omega) (by omega))
        exact lp19 _ h14 (0 : Int32) hI fr (FR.rf _ _) (by decide) (Nat.lt_succ_self _)
  exact lp2 _ h (0 : Int32) hI fr (FR.rf _ _) (by decide) (Nat.lt_succ_self _)
abbrev q_X8_played (h : PH)  : Option PV → PH → Prop := fun r h' => INV h' ∧ FR [0, 70, 71, 72, 73, 74, 75, 76, 77, 78, 79, 80, 81, 82, 83, 84, 85, 86, 87, 88, 89, 90, 91] h h' ∧ (True) ∧ r = some (.inr (.inr (.inl 87)))
set_option maxHeartbeats 4000000 in
set_option maxRecDepth 100000 in
theorem k_X8_played (h : PH) (hI : INV h)  : CALL d_X8_played [.inr (.inr (.inl 0))] h (q_X8_played h) := by
  show RUN d_X8_played 0 [(0, .inr (.inr (.inl 0)))] [] h _
  have fr : FR [0, 70, 71, 72, 73, 74, 75, 76, 77, 78, 79, 80, 81, 82, 83, 84, 85, 86, 87, 88, 89, 90, 91] h h := FR.rf _ _
  refine R_aload_n (k := 0) rfl rfl rfl ?_
  refine R_callV (v := .inr (.inr (.inl 0))) (As := []) (rest := []) rfl mt_8_i286 pp_X8_listed (by decide) rfl rfl rfl (Nat.le_of_ble_eq_true rfl) (Nat.le_of_ble_eq_true rfl) ((k_X8_listed h hI).mono (fun r1 h2 p3 => ?_))
  obtain ⟨hJ, fj, -, rfl⟩ := p3
  have f4 := fj
  have fr := fr.trans fj (by decide)
  have hI := hJ
  show RUN d_X8_played 4 [(0, .inr (.inr (.inl 0)))] [.inr (.inr (.inl 87))] h2 _
  refine R_pop_r rfl ?_
  refine R_aload_n (k := 0) rfl rfl rfl ?_
  refine R_callV (v := .inr (.inr (.inl 0))) (As := []) (rest := []) rfl mt_8_i153 pp_X8_told (by decide) rfl rfl rfl (Nat.le_of_ble_eq_true rfl) (Nat.le_of_ble_eq_true rfl) ((k_X8_told h2 hI).mono (fun r5 h6 p7 => ?_))
  obtain ⟨hJ, fj, -, rfl⟩ := p7
  have f8 := fj
  have fr := fr.trans fj (by decide)
  have hI := hJ
  show RUN d_X8_played 9 [(0, .inr (.inr (.inl 0)))] [.inr (.inr (.inl 75))] h6 _
  refine R_pop_r rfl ?_
  refine R_aload_n (k := 0) rfl rfl rfl ?_
  refine R_getf_i (j := 13) rfl ft_8_81 sh_0 rfl ?_
  refine N_if_ne (a := (h6.1 0 13).toInt) 37 rfl rfl rfl (fun c9 => ?_) (fun c9 => ?_)
  · refine R_aload_n (k := 0) rfl rfl rfl ?_
    refine R_getf_r (j := 9) rfl ft_8_63 sh_0 rfl ?_
    exact R_aret rfl rfl ⟨hI, fr, trivial, rfl⟩
  · refine R_aload_n (k := 0) rfl rfl rfl ?_
    refine R_getf_r (j := 9) rfl ft_8_63 sh_0 rfl ?_
    refine R_aload_n (k := 0) rfl rfl rfl ?_
    refine R_getf_r (j := 3) rfl ft_8_28 sh_0 rfl ?_
    refine R_aload_n (k := 0) rfl rfl rfl ?_
    refine R_getf_r (j := 7) rfl ft_8_49 sh_0 rfl ?_
    refine R_callV (v := .inr (.inr (.inl 87))) (As := [.inr (.inr (.inl 16)), .inr (.inr (.inl 70))]) (rest := []) rfl mt_8_i419 pp_X3_playAll (by decide) rfl rfl rfl (Nat.le_of_ble_eq_true rfl) (Nat.le_of_ble_eq_true rfl) ((k_X3_playAll h6 hI).mono (fun r10 h11 p12 => ?_))
    obtain ⟨hJ, fj, -, rfl⟩ := p12
    have f13 := fj
    have fr := fr.trans fj (by decide)
    have hI := hJ
    have s14 : (h11.1 0 13).toInt = (h6.1 0 13).toInt := by rw [(f13 0 (by decide)).1]
    show RUN d_X8_played 32 [(0, .inr (.inr (.inl 0)))] [] h11 _
    refine R_aload_n (k := 0) rfl rfl rfl ?_
    refine R_iconst 1 rfl rfl ?_
    refine K_putz (j := 13) rfl ft_8_81 sh_0 rfl (by decide) hI (by decide) rfl fr (by decide) (fun h15 g16 hI fr => ?_)
    have s17 : (h15.1 0 13).toInt = 1 := by rw [g16, wI_is]; rfl
    refine R_aload_n (k := 0) rfl rfl rfl ?_
    refine R_getf_r (j := 9) rfl ft_8_63 sh_0 rfl ?_
    exact R_aret rfl rfl ⟨hI, fr, trivial, rfl⟩
abbrev q_X3_throwsOf (h : PH) (a0 : Int32) : Option PV → PH → Prop := fun r h' => h = h' ∧ ∃ z : Int32, r = some (.inl z) ∧ ((0 ≤ z.toInt ∧ z.toInt ≤ 127))
set_option maxHeartbeats 4000000 in
set_option maxRecDepth 100000 in
theorem k_X3_throwsOf (h : PH) (hI : INV h) (a0 : Int32) (h0a : 0 ≤ a0.toInt ∧ a0.toInt ≤ 719) : CALL d_X3_throwsOf [.inr (.inr (.inl 87)), .inl a0] h (q_X3_throwsOf h a0) := by
  show RUN d_X3_throwsOf 0 [(0, .inr (.inr (.inl 87))), (1, .inl a0)] [] h _
  refine R_aload_n (k := 0) rfl rfl rfl ?_
  refine R_getf_r (j := 3) rfl ft_3_21 sh_87 rfl ?_
  refine R_iload_n (k := 1) rfl rfl rfl ?_
  refine R_lald rfl sh_91 ⟨by omega, by omega⟩ ?_
  refine N_anyL (fun w1 => ?_)
  refine R_callS (As := [.inr (.inl w1)]) (rest := []) rfl mt_3_i78 (by decide) pp_J13_bitCount_95d88 (by decide) rfl rfl (Nat.le_of_ble_eq_true rfl) (Nat.le_of_ble_eq_true rfl) ((k_J13_bitCount_95d88 h hI w1).mono (fun r2 h3 p4 => ?_))
  obtain ⟨rfl, x5, rfl, q6⟩ := p4
  show RUN d_X3_throwsOf 9 [(0, .inr (.inr (.inl 87))), (1, .inl a0)] [.inl x5] h _
  exact R_iret rfl rfl rfl ⟨rfl, _, rfl, by omega⟩
abbrev q_X3_bestOrder (h : PH) (a0 : Int32) : Option PV → PH → Prop := fun r h' => h = h' ∧ ∃ z : Int32, r = some (.inl z) ∧ (((-1) ≤ z.toInt ∧ z.toInt ≤ 719))
set_option maxHeartbeats 4000000 in
set_option maxRecDepth 100000 in
theorem k_X3_bestOrder (h : PH) (hI : INV h) (a0 : Int32) : CALL d_X3_bestOrder [.inr (.inr (.inl 87)), .inl a0] h (q_X3_bestOrder h a0) := by
  show RUN d_X3_bestOrder 0 [(0, .inr (.inr (.inl 87))), (1, .inl a0)] [] h _
  have b1 := i_rng a0
  refine R_iconst (-1) rfl rfl ?_
  refine R_istore_n (k := 2) rfl [(2, .inl (-1)), (0, .inr (.inr (.inl 87))), (1, .inl a0)] rfl rfl (by decide) ?_
  refine R_iconst (-1) rfl rfl ?_
  refine R_istore_n (k := 3) rfl [(3, .inl (-1)), (2, .inl (-1)), (0, .inr (.inr (.inl 87))), (1, .inl a0)] rfl rfl (by decide) ?_
  refine R_iconst 0 rfl rfl ?_
  refine R_istore (k := 4) [(4, .inl 0), (3, .inl (-1)), (2, .inl (-1)), (0, .inr (.inr (.inl 87))), (1, .inl a0)] rfl rfl (by decide) ?_
  have lp3 : ∀ (n2 : Nat) (x4 : Int32) (x5 : Int32) (x6 : Int32), (-1) ≤ x4.toInt → (-1) ≤ x5.toInt ∧ x5.toInt ≤ 719 → 0 ≤ x6.toInt ∧ x6.toInt ≤ 720 → x5.toInt ≤ x6.toInt + (-1) → (720 - x6.toInt).toNat < n2 → RUN d_X3_bestOrder 7 [(4, .inl x6), (3, .inl x4), (2, .inl x5), (0, .inr (.inr (.inl 87))), (1, .inl a0)] [] h (q_X3_bestOrder h a0) := by
    intro n2
    induction n2 with
    | zero => intro x4 x5 x6 m8 m9 m10 m11 hz; exact absurd hz (Nat.not_lt_zero _)
    | succ n2 ih7 =>
      intro x4 x5 x6 m8 m9 m10 m11 hz
      refine R_iload (k := 4) rfl rfl ?_
      refine R_aload_n (k := 0) rfl rfl rfl ?_
      refine R_getf_i (j := 6) rfl ft_3_31 sh_87 rfl ?_
      have b12 : (0 : Int) ≤ (h.1 87 6).toInt ∧ (h.1 87 6).toInt ≤ 720 := hI.1 87 6
      refine N_icmp_ge (a := x6.toInt) (b := (h.1 87 6).toInt) 44 rfl rfl rfl rfl (fun c13 => ?_) (fun c13 => ?_)
      · refine R_iload_n (k := 2) rfl rfl rfl ?_
        exact R_iret rfl rfl rfl ⟨rfl, _, rfl, by omega⟩
      · refine R_aload_n (k := 0) rfl rfl rfl ?_
        refine R_iload (k := 4) rfl rfl ?_
        refine R_callV (v := .inr (.inr (.inl 87))) (As := [.inl x6]) (rest := []) rfl mt_3_i84 pp_X3_throwsOf (by decide) rfl rfl rfl (Nat.le_of_ble_eq_true rfl) (Nat.le_of_ble_eq_true rfl) ((k_X3_throwsOf h hI x6 (by omega)).mono (fun r14 h15 p16 => ?_))
        obtain ⟨rfl, x17, rfl, q18⟩ := p16
        show RUN d_X3_bestOrder 22 [(4, .inl x6), (3, .inl x4), (2, .inl x5), (0, .inr (.inr (.inl 87))), (1, .inl a0)] [.inl x17] h _
        refine R_iload_n (k := 1) rfl rfl rfl ?_
        have b19 := i_rng a0
        refine R_imul rfl ?_
        refine N_any (fun x20 => ?_)
        refine R_istore (k := 5) [(5, .inl x20), (4, .inl x6), (3, .inl x4), (2, .inl x5), (0, .inr (.inr (.inl 87))), (1, .inl a0)] rfl rfl (by decide) ?_
        refine R_iload (k := 5) rfl rfl ?_
        refine R_iload_n (k := 3) rfl rfl rfl ?_
        refine N_icmp_le (a := x20.toInt) (b := x4.toInt) 38 rfl rfl rfl rfl (fun c21 => ?_) (fun c21 => ?_)
        · refine N_iinc (a := x6.toInt) (c := 1) (fun w => [(4, .inl w), (5, .inl x20), (3, .inl x4), (2, .inl x5), (0, .inr (.inr (.inl 87))), (1, .inl a0)]) rfl rfl (fun _ => rfl) (by decide) rfl (by decide) (by omega) (fun x22 q23 => ?_)
          refine R_goto 7 rfl rfl ?_
          have b24 := i_rng x4
          exact RUN_weak (psub_cons rfl (psub_cons rfl (psub_cons rfl (psub_cons rfl (psub_cons rfl (psub_nil _)))))) (ih7 x4 x5 x22 (by omega) (by omega) (by omega) (by omega) (by omega))
        · refine R_iload (k := 5) rfl rfl ?_
          refine R_istore_n (k := 3) rfl [(3, .inl x20), (5, .inl x20), (4, .inl x6), (2, .inl x5), (0, .inr (.inr (.inl 87))), (1, .inl a0)] rfl rfl (by decide) ?_
          refine R_iload (k := 4) rfl rfl ?_
          refine R_istore_n (k := 2) rfl [(2, .inl x6), (3, .inl x20), (5, .inl x20), (4, .inl x6), (0, .inr (.inr (.inl 87))), (1, .inl a0)] rfl rfl (by decide) ?_
          refine N_iinc (a := x6.toInt) (c := 1) (fun w => [(4, .inl w), (2, .inl x6), (3, .inl x20), (5, .inl x20), (0, .inr (.inr (.inl 87))), (1, .inl a0)]) rfl rfl (fun _ => rfl) (by decide) rfl (by decide) (by omega) (fun x25 q26 => ?_)
          refine R_goto 7 rfl rfl ?_
          have b27 := i_rng x20
          exact RUN_weak (psub_cons rfl (psub_cons rfl (psub_cons rfl (psub_cons rfl (psub_cons rfl (psub_nil _)))))) (ih7 x20 x6 x25 (by omega) (by omega) (by omega) (by omega) (by omega))
  have k28 : ((-1) : Int32).toInt = (-1) := by decide
  have k29 : ((-1) : Int32).toInt = (-1) := by decide
  have k30 : (0 : Int32).toInt = 0 := by decide
  exact lp3 _ ((-1) : Int32) ((-1) : Int32) (0 : Int32) (by decide) (by decide) (by decide) (by omega) (Nat.lt_succ_self _)
abbrev q_X8_best (h : PH)  : Option PV → PH → Prop := fun r h' => INV h' ∧ FR [0, 70, 71, 72, 73, 74, 75, 76, 77, 78, 79, 80, 81, 82, 83, 84, 85, 86, 87, 88, 89, 90, 91] h h' ∧ (True) ∧ ∃ z : Int32, r = some (.inl z) ∧ ((True))
set_option maxHeartbeats 4000000 in
set_option maxRecDepth 100000 in
theorem k_X8_best (h : PH) (hI : INV h)  : CALL d_X8_best [.inr (.inr (.inl 0))] h (q_X8_best h) := by
  show RUN d_X8_best 0 [(0, .inr (.inr (.inl 0)))] [] h _
  have fr : FR [0, 70, 71, 72, 73, 74, 75, 76, 77, 78, 79, 80, 81, 82, 83, 84, 85, 86, 87, 88, 89, 90, 91] h h := FR.rf _ _
  refine R_aload_n (k := 0) rfl rfl rfl ?_
  refine R_getf_r (j := 3) rfl ft_8_28 sh_0 rfl ?_
  have b1 : (0 : Int) ≤ (h.1 17 0).toInt ∧ (h.1 17 0).toInt ≤ 60 := hI.1 17 0
  have e2 : 0 < (h.1 17 10).toInt → 1 ≤ (h.1 17 0).toInt := hI.2.1
  refine R_callV (v := .inr (.inr (.inl 16))) (As := []) (rest := []) rfl mt_8_i146 pp_X1_stands (by decide) rfl rfl rfl (Nat.le_of_ble_eq_true rfl) (Nat.le_of_ble_eq_true rfl) ((k_X1_stands h hI).mono (fun r3 h4 p5 => ?_))
  obtain ⟨rfl, x6, rfl, q7 | q7⟩ := p5
  · show RUN d_X8_best 7 [(0, .inr (.inr (.inl 0)))] [.inl x6] h _
    refine N_if_ne (a := x6.toInt) 13 rfl rfl rfl (fun c8 => ?_) (fun c8 => ?_)
    · exfalso; omega
    · refine R_bipush (-2) rfl rfl ?_
      exact R_iret rfl rfl rfl ⟨hI, fr, trivial, _, rfl, trivial⟩
  · show RUN d_X8_best 7 [(0, .inr (.inr (.inl 0)))] [.inl x6] h _
    refine N_if_ne (a := x6.toInt) 13 rfl rfl rfl (fun c9 => ?_) (fun c9 => ?_)
    · refine R_aload_n (k := 0) rfl rfl rfl ?_
      refine R_callV (v := .inr (.inr (.inl 0))) (As := []) (rest := []) rfl mt_8_i292 pp_X8_played (by decide) rfl rfl rfl (Nat.le_of_ble_eq_true rfl) (Nat.le_of_ble_eq_true rfl) ((k_X8_played h hI).mono (fun r10 h11 p12 => ?_))
      obtain ⟨hJ, fj, -, rfl⟩ := p12
      have f13 := fj
      have fr := fr.trans fj (by decide)
      have hI := hJ
      have s14 : (h11.1 17 10).toInt = (h.1 17 10).toInt := by rw [(f13 17 (by decide)).1]
      have s15 : (h11.1 17 0).toInt = (h.1 17 0).toInt := by rw [(f13 17 (by decide)).1]
      show RUN d_X8_best 17 [(0, .inr (.inr (.inl 0)))] [.inr (.inr (.inl 87))] h11 _
      refine R_aload_n (k := 0) rfl rfl rfl ?_
      refine R_getf_r (j := 8) rfl ft_8_56 sh_0 rfl ?_
      refine R_getf_i (j := 12) rfl ft_8_216 sh_75 rfl ?_
      refine R_callV (v := .inr (.inr (.inl 87))) (As := [.inl (h11.1 75 12)]) (rest := []) rfl mt_8_i295 pp_X3_bestOrder (by decide) rfl rfl rfl (Nat.le_of_ble_eq_true rfl) (Nat.le_of_ble_eq_true rfl) ((k_X3_bestOrder h11 hI (h11.1 75 12)).mono (fun r16 h17 p18 => ?_))
      obtain ⟨rfl, x19, rfl, q20⟩ := p18
      show RUN d_X8_best 27 [(0, .inr (.inr (.inl 0)))] [.inl x19] h11 _
      refine R_istore_n (k := 1) rfl [(1, .inl x19), (0, .inr (.inr (.inl 0)))] rfl rfl (by decide) ?_
      refine R_iload_n (k := 1) rfl rfl rfl ?_
      refine R_iconst (-1) rfl rfl ?_
      refine N_icmp_ne (a := x19.toInt) (b := (-1)) 37 rfl rfl rfl (by decide) (fun c21 => ?_) (fun c21 => ?_)
      · refine R_aload_n (k := 0) rfl rfl rfl ?_
        refine R_getf_r (j := 9) rfl ft_8_63 sh_0 rfl ?_
        refine R_iload_n (k := 1) rfl rfl rfl ?_
        refine R_callV (v := .inr (.inr (.inl 87))) (As := [.inl x19]) (rest := []) rfl mt_8_i298 pp_X3_throwsOf (by decide) rfl rfl rfl (Nat.le_of_ble_eq_true rfl) (Nat.le_of_ble_eq_true rfl) ((k_X3_throwsOf h11 hI x19 (by omega)).mono (fun r22 h23 p24 => ?_))
        obtain ⟨rfl, x25, rfl, q26⟩ := p24
        show RUN d_X8_best 45 [(1, .inl x19), (0, .inr (.inr (.inl 0)))] [.inl x25] h11 _
        refine R_aload_n (k := 0) rfl rfl rfl ?_
        refine R_getf_r (j := 8) rfl ft_8_56 sh_0 rfl ?_
        refine R_getf_i (j := 12) rfl ft_8_216 sh_75 rfl ?_
        have b27 := i_rng (h11.1 75 12)
        refine R_imul rfl ?_
        refine N_any (fun x28 => ?_)
        exact R_iret rfl rfl rfl ⟨hI, fr, trivial, _, rfl, trivial⟩
      · refine R_iconst (-1) rfl rfl ?_
        refine R_goto 53 rfl rfl ?_
        exact R_iret rfl rfl rfl ⟨hI, fr, trivial, _, rfl, trivial⟩
    · exfalso; omega
abbrev q_X8_place (h : PH) (a0 : Int32) : Option PV → PH → Prop := fun r h' => INV h' ∧ FR [0, 70, 71, 72, 73, 74, 75, 76, 77, 78, 79, 80, 81, 82, 83, 84, 85, 86, 87, 88, 89, 90, 91] h h' ∧ (True) ∧ ∃ z : Int32, r = some (.inl z) ∧ (((-2) ≤ z.toInt ∧ z.toInt ≤ 7))
set_option maxHeartbeats 4000000 in
set_option maxRecDepth 100000 in
theorem k_X8_place (h : PH) (hI : INV h) (a0 : Int32) : CALL d_X8_place [.inr (.inr (.inl 0)), .inl a0] h (q_X8_place h a0) := by
  show RUN d_X8_place 0 [(0, .inr (.inr (.inl 0))), (1, .inl a0)] [] h _
  have b1 := i_rng a0
  have fr : FR [0, 70, 71, 72, 73, 74, 75, 76, 77, 78, 79, 80, 81, 82, 83, 84, 85, 86, 87, 88, 89, 90, 91] h h := FR.rf _ _
  refine R_aload_n (k := 0) rfl rfl rfl ?_
  refine R_getf_r (j := 3) rfl ft_8_28 sh_0 rfl ?_
  refine R_iload_n (k := 1) rfl rfl rfl ?_
  have b2 : (0 : Int) ≤ (h.1 17 5).toInt ∧ (h.1 17 5).toInt ≤ 6 := hI.1 17 5
  refine R_callV (v := .inr (.inr (.inl 16))) (As := [.inl a0]) (rest := []) rfl mt_8_i119 pp_X1_hasHand (by decide) rfl rfl rfl (Nat.le_of_ble_eq_true rfl) (Nat.le_of_ble_eq_true rfl) ((k_X1_hasHand h hI a0).mono (fun r3 h4 p5 => ?_))
  obtain ⟨rfl, x6, rfl, q7 | q7 | q7⟩ := p5
  · show RUN d_X8_place 8 [(0, .inr (.inr (.inl 0))), (1, .inl a0)] [.inl x6] h _
    refine N_if_ne (a := x6.toInt) 14 rfl rfl rfl (fun c8 => ?_) (fun c8 => ?_)
    · exfalso; omega
    · refine R_bipush (-2) rfl rfl ?_
      exact R_iret rfl rfl rfl ⟨hI, fr, trivial, _, rfl, by rw [show ((-2) : Int32).toInt = (-2) from rfl] <;> omega⟩
  · show RUN d_X8_place 8 [(0, .inr (.inr (.inl 0))), (1, .inl a0)] [.inl x6] h _
    refine N_if_ne (a := x6.toInt) 14 rfl rfl rfl (fun c9 => ?_) (fun c9 => ?_)
    · exfalso; omega
    · refine R_bipush (-2) rfl rfl ?_
      exact R_iret rfl rfl rfl ⟨hI, fr, trivial, _, rfl, by rw [show ((-2) : Int32).toInt = (-2) from rfl] <;> omega⟩
  · show RUN d_X8_place 8 [(0, .inr (.inr (.inl 0))), (1, .inl a0)] [.inl x6] h _
    refine N_if_ne (a := x6.toInt) 14 rfl rfl rfl (fun c10 => ?_) (fun c10 => ?_)
    · refine R_aload_n (k := 0) rfl rfl rfl ?_
      refine R_callV (v := .inr (.inr (.inl 0))) (As := []) (rest := []) rfl mt_8_i292 pp_X8_played (by decide) rfl rfl rfl (Nat.le_of_ble_eq_true rfl) (Nat.le_of_ble_eq_true rfl) ((k_X8_played h hI).mono (fun r11 h12 p13 => ?_))
      obtain ⟨hJ, fj, -, rfl⟩ := p13
      have f14 := fj
      have fr := fr.trans fj (by decide)
      have hI := hJ
      have s15 : (h12.1 17 5).toInt = (h.1 17 5).toInt := by rw [(f14 17 (by decide)).1]
      show RUN d_X8_place 18 [(0, .inr (.inr (.inl 0))), (1, .inl a0)] [.inr (.inr (.inl 87))] h12 _
      refine R_aload_n (k := 0) rfl rfl rfl ?_
      refine R_getf_r (j := 8) rfl ft_8_56 sh_0 rfl ?_
      refine R_getf_i (j := 12) rfl ft_8_216 sh_75 rfl ?_
      refine R_callV (v := .inr (.inr (.inl 87))) (As := [.inl (h12.1 75 12)]) (rest := []) rfl mt_8_i295 pp_X3_bestOrder (by decide) rfl rfl rfl (Nat.le_of_ble_eq_true rfl) (Nat.le_of_ble_eq_true rfl) ((k_X3_bestOrder h12 hI (h12.1 75 12)).mono (fun r16 h17 p18 => ?_))
      obtain ⟨rfl, x19, rfl, q20⟩ := p18
      show RUN d_X8_place 28 [(0, .inr (.inr (.inl 0))), (1, .inl a0)] [.inl x19] h12 _
      refine R_istore_n (k := 2) rfl [(2, .inl x19), (0, .inr (.inr (.inl 0))), (1, .inl a0)] rfl rfl (by decide) ?_
      refine R_iload_n (k := 2) rfl rfl rfl ?_
      refine R_iconst (-1) rfl rfl ?_
      refine N_icmp_ne (a := x19.toInt) (b := (-1)) 38 rfl rfl rfl (by decide) (fun c21 => ?_) (fun c21 => ?_)
      · refine R_aload_n (k := 0) rfl rfl rfl ?_
        refine R_getf_r (j := 9) rfl ft_8_63 sh_0 rfl ?_
        refine R_iload_n (k := 2) rfl rfl rfl ?_
        refine R_iload_n (k := 1) rfl rfl rfl ?_
        refine R_callV (v := .inr (.inr (.inl 87))) (As := [.inl x19, .inl a0]) (rest := []) rfl mt_8_i301 pp_X3_handAt (by decide) rfl rfl rfl (Nat.le_of_ble_eq_true rfl) (Nat.le_of_ble_eq_true rfl) ((k_X3_handAt h12 hI x19 a0 (by omega) (by omega)).mono (fun r22 h23 p24 => ?_))
        obtain ⟨rfl, x25, rfl, q26⟩ := p24
        show RUN d_X8_place 47 [(2, .inl x19), (0, .inr (.inr (.inl 0))), (1, .inl a0)] [.inl x25] h12 _
        exact R_iret rfl rfl rfl ⟨hI, fr, trivial, _, rfl, by omega⟩
      · refine R_iconst (-1) rfl rfl ?_
        refine R_goto 47 rfl rfl ?_
        exact R_iret rfl rfl rfl ⟨hI, fr, trivial, _, rfl, by rw [show ((-1) : Int32).toInt = (-1) from rfl] <;> omega⟩
    · exfalso; omega
abbrev q_X8_soonest (h : PH)  : Option PV → PH → Prop := fun r h' => INV h' ∧ FR [0, 70, 71, 72, 73, 74, 75, 76, 77, 78, 79, 80, 81, 82, 83, 84, 85, 86, 87, 88, 89, 90, 91] h h' ∧ (True) ∧ ∃ z : Int32, r = some (.inl z) ∧ (((-2) ≤ z.toInt ∧ z.toInt ≤ 59))
set_option maxHeartbeats 4000000 in
set_option maxRecDepth 100000 in
theorem k_X8_soonest (h : PH) (hI : INV h)  : CALL d_X8_soonest [.inr (.inr (.inl 0))] h (q_X8_soonest h) := by
  show RUN d_X8_soonest 0 [(0, .inr (.inr (.inl 0)))] [] h _
  have fr : FR [0, 70, 71, 72, 73, 74, 75, 76, 77, 78, 79, 80, 81, 82, 83, 84, 85, 86, 87, 88, 89, 90, 91] h h := FR.rf _ _
  refine R_aload_n (k := 0) rfl rfl rfl ?_
  refine R_getf_r (j := 3) rfl ft_8_28 sh_0 rfl ?_
  have b1 : (0 : Int) ≤ (h.1 17 0).toInt ∧ (h.1 17 0).toInt ≤ 60 := hI.1 17 0
  have e2 : 0 < (h.1 17 10).toInt → 1 ≤ (h.1 17 0).toInt := hI.2.1
  refine R_callV (v := .inr (.inr (.inl 16))) (As := []) (rest := []) rfl mt_8_i146 pp_X1_stands (by decide) rfl rfl rfl (Nat.le_of_ble_eq_true rfl) (Nat.le_of_ble_eq_true rfl) ((k_X1_stands h hI).mono (fun r3 h4 p5 => ?_))
  obtain ⟨rfl, x6, rfl, q7 | q7⟩ := p5
  · show RUN d_X8_soonest 7 [(0, .inr (.inr (.inl 0)))] [.inl x6] h _
    refine N_if_ne (a := x6.toInt) 13 rfl rfl rfl (fun c8 => ?_) (fun c8 => ?_)
    · exfalso; omega
    · refine R_bipush (-2) rfl rfl ?_
      exact R_iret rfl rfl rfl ⟨hI, fr, trivial, _, rfl, by rw [show ((-2) : Int32).toInt = (-2) from rfl] <;> omega⟩
  · show RUN d_X8_soonest 7 [(0, .inr (.inr (.inl 0)))] [.inl x6] h _
    refine N_if_ne (a := x6.toInt) 13 rfl rfl rfl (fun c9 => ?_) (fun c9 => ?_)
    · refine R_aload_n (k := 0) rfl rfl rfl ?_
      refine R_callV (v := .inr (.inr (.inl 0))) (As := []) (rest := []) rfl mt_8_i292 pp_X8_played (by decide) rfl rfl rfl (Nat.le_of_ble_eq_true rfl) (Nat.le_of_ble_eq_true rfl) ((k_X8_played h hI).mono (fun r10 h11 p12 => ?_))
      obtain ⟨hJ, fj, -, rfl⟩ := p12
      have f13 := fj
      have fr := fr.trans fj (by decide)
      have hI := hJ
      have s14 : (h11.1 17 10).toInt = (h.1 17 10).toInt := by rw [(f13 17 (by decide)).1]
      have s15 : (h11.1 17 0).toInt = (h.1 17 0).toInt := by rw [(f13 17 (by decide)).1]
      show RUN d_X8_soonest 17 [(0, .inr (.inr (.inl 0)))] [.inr (.inr (.inl 87))] h11 _
      refine R_getf_i (j := 6) rfl ft_8_290 sh_87 rfl ?_
      have b16 : (0 : Int) ≤ (h11.1 87 6).toInt ∧ (h11.1 87 6).toInt ≤ 720 := hI.1 87 6
      refine R_istore_n (k := 1) rfl [(1, .inl (h11.1 87 6)), (0, .inr (.inr (.inl 0)))] rfl rfl (by decide) ?_
      refine R_iconst (-1) rfl rfl ?_
      refine R_istore_n (k := 2) rfl [(2, .inl (-1)), (1, .inl (h11.1 87 6)), (0, .inr (.inr (.inl 0)))] rfl rfl (by decide) ?_
      refine R_iconst 0 rfl rfl ?_
      refine R_istore_n (k := 3) rfl [(3, .inl 0), (2, .inl (-1)), (1, .inl (h11.1 87 6)), (0, .inr (.inr (.inl 0)))] rfl rfl (by decide) ?_
      have lp18 : ∀ (n17 : Nat) (x19 : Int32) (x20 : Int32), (-1) ≤ x19.toInt ∧ x19.toInt ≤ 59 → 0 ≤ x20.toInt ∧ x20.toInt ≤ 720 → x20.toInt ≤ (h11.1 87 6).toInt + 0 → (720 - x20.toInt).toNat < n17 → RUN d_X8_soonest 25 [(3, .inl x20), (2, .inl x19), (1, .inl (h11.1 87 6)), (0, .inr (.inr (.inl 0)))] [] h11 (q_X8_soonest h) := by
        intro n17
        induction n17 with
        | zero => intro x19 x20 m22 m23 m24 hz; exact absurd hz (Nat.not_lt_zero _)
        | succ n17 ih21 =>
          intro x19 x20 m22 m23 m24 hz
          refine R_iload_n (k := 3) rfl rfl rfl ?_
          refine R_iload_n (k := 1) rfl rfl rfl ?_
          refine N_icmp_ge (a := x20.toInt) (b := (h11.1 87 6).toInt) 78 rfl rfl rfl rfl (fun c25 => ?_) (fun c25 => ?_)
          · refine R_iload_n (k := 2) rfl rfl rfl ?_
            exact R_iret rfl rfl rfl ⟨hI, fr, trivial, _, rfl, by omega⟩
          · refine R_aload_n (k := 0) rfl rfl rfl ?_
            refine R_aload_n (k := 0) rfl rfl rfl ?_
            refine R_getf_r (j := 9) rfl ft_8_63 sh_0 rfl ?_
            refine R_getf_r (j := 3) rfl ft_8_304 sh_87 rfl ?_
            refine R_iload_n (k := 3) rfl rfl rfl ?_
            refine R_lald rfl sh_91 ⟨by omega, by omega⟩ ?_
            refine N_anyL (fun w26 => ?_)
            refine R_aload_n (k := 0) rfl rfl rfl ?_
            refine R_getf_r (j := 8) rfl ft_8_56 sh_0 rfl ?_
            refine R_getf_i (j := 12) rfl ft_8_216 sh_75 rfl ?_
            refine R_callV (v := .inr (.inr (.inl 0))) (As := [.inr (.inl w26), .inl (h11.1 75 12)]) (rest := []) rfl mt_8_i219 pp_X8_outBy (by decide) rfl rfl rfl (Nat.le_of_ble_eq_true rfl) (Nat.le_of_ble_eq_true rfl) ((k_X8_outBy h11 hI w26 (h11.1 75 12)).mono (fun r27 h28 p29 => ?_))
            obtain ⟨rfl, x30, rfl, q31⟩ := p29
            show RUN d_X8_soonest 50 [(3, .inl x20), (2, .inl x19), (1, .inl (h11.1 87 6)), (0, .inr (.inr (.inl 0)))] [.inl x30] h11 _
            refine R_istore (k := 4) [(4, .inl x30), (3, .inl x20), (2, .inl x19), (1, .inl (h11.1 87 6)), (0, .inr (.inr (.inl 0)))] rfl rfl (by decide) ?_
            refine R_iload (k := 4) rfl rfl ?_
            refine R_iconst (-1) rfl rfl ?_
            refine N_icmp_eq (a := x30.toInt) (b := (-1)) 72 rfl rfl rfl (by decide) (fun c32 => ?_) (fun c32 => ?_)
            · refine N_iinc (a := x20.toInt) (c := 1) (fun w => [(3, .inl w), (4, .inl x30), (2, .inl x19), (1, .inl (h11.1 87 6)), (0, .inr (.inr (.inl 0)))]) rfl rfl (fun _ => rfl) (by decide) rfl (by decide) (by omega) (fun x33 q34 => ?_)
              refine R_goto 25 rfl rfl ?_
              exact RUN_weak (psub_cons rfl (psub_cons rfl (psub_cons rfl (psub_cons rfl (psub_nil _))))) (ih21 x19 x33 (by omega) (by omega) (by omega) (by omega))
            · refine R_iload_n (k := 2) rfl rfl rfl ?_
              refine R_iconst (-1) rfl rfl ?_
              refine N_icmp_eq (a := x19.toInt) (b := (-1)) 69 rfl rfl rfl (by decide) (fun c35 => ?_) (fun c35 => ?_)
              · refine R_iload (k := 4) rfl rfl ?_
                refine R_istore_n (k := 2) rfl [(2, .inl x30), (4, .inl x30), (3, .inl x20), (1, .inl (h11.1 87 6)), (0, .inr (.inr (.inl 0)))] rfl rfl (by decide) ?_
                refine N_iinc (a := x20.toInt) (c := 1) (fun w => [(3, .inl w), (2, .inl x30), (4, .inl x30), (1, .inl (h11.1 87 6)), (0, .inr (.inr (.inl 0)))]) rfl rfl (fun _ => rfl) (by decide) rfl (by decide) (by omega) (fun x36 q37 => ?_)
                refine R_goto 25 rfl rfl ?_
                exact RUN_weak (psub_cons rfl (psub_cons rfl (psub_cons rfl (psub_cons rfl (psub_nil _))))) (ih21 x30 x36 (by omega) (by omega) (by omega) (by omega))
              · refine R_iload (k := 4) rfl rfl ?_
                refine R_iload_n (k := 2) rfl rfl rfl ?_
                refine N_icmp_ge (a := x30.toInt) (b := x19.toInt) 72 rfl rfl rfl rfl (fun c38 => ?_) (fun c38 => ?_)
                · refine N_iinc (a := x20.toInt) (c := 1) (fun w => [(3, .inl w), (4, .inl x30), (2, .inl x19), (1, .inl (h11.1 87 6)), (0, .inr (.inr (.inl 0)))]) rfl rfl (fun _ => rfl) (by decide) rfl (by decide) (by omega) (fun x39 q40 => ?_)
                  refine R_goto 25 rfl rfl ?_
                  exact RUN_weak (psub_cons rfl (psub_cons rfl (psub_cons rfl (psub_cons rfl (psub_nil _))))) (ih21 x19 x39 (by omega) (by omega) (by omega) (by omega))
                · refine R_iload (k := 4) rfl rfl ?_
                  refine R_istore_n (k := 2) rfl [(2, .inl x30), (4, .inl x30), (3, .inl x20), (1, .inl (h11.1 87 6)), (0, .inr (.inr (.inl 0)))] rfl rfl (by decide) ?_
                  refine N_iinc (a := x20.toInt) (c := 1) (fun w => [(3, .inl w), (2, .inl x30), (4, .inl x30), (1, .inl (h11.1 87 6)), (0, .inr (.inr (.inl 0)))]) rfl rfl (fun _ => rfl) (by decide) rfl (by decide) (by omega) (fun x41 q42 => ?_)
                  refine R_goto 25 rfl rfl ?_
                  exact RUN_weak (psub_cons rfl (psub_cons rfl (psub_cons rfl (psub_cons rfl (psub_nil _))))) (ih21 x30 x41 (by omega) (by omega) (by omega) (by omega))
      have k43 : ((-1) : Int32).toInt = (-1) := by decide
      have k44 : (0 : Int32).toInt = 0 := by decide
      exact lp18 _ ((-1) : Int32) (0 : Int32) (by decide) (by decide) (by omega) (Nat.lt_succ_self _)
    · exfalso; omega
abbrev q_X2_swap (h : PH) (a0 : Int32) (a1 : Int32) : Option PV → PH → Prop := fun r h' => INV h' ∧ FR [71, 72, 73] h h' ∧ (True) ∧ r = none
set_option maxHeartbeats 4000000 in
set_option maxRecDepth 100000 in
theorem k_X2_swap (h : PH) (hI : INV h) (a0 : Int32) (a1 : Int32) (h0a : 0 ≤ a0.toInt ∧ a0.toInt ≤ 4) (h1a : 1 ≤ a1.toInt ∧ a1.toInt ≤ 5) : CALL d_X2_swap [.inr (.inr (.inl 70)), .inl a0, .inl a1] h (q_X2_swap h a0 a1) := by
  show RUN d_X2_swap 0 [(0, .inr (.inr (.inl 70))), (1, .inl a0), (2, .inl a1)] [] h _
  have fr : FR [71, 72, 73] h h := FR.rf _ _
  refine R_iload_n (k := 1) rfl rfl rfl ?_
  refine N_if_lt (a := a0.toInt) 24 rfl rfl rfl (fun c1 => ?_) (fun c1 => ?_)
  · exfalso; omega
  · refine R_iload_n (k := 1) rfl rfl rfl ?_
    refine R_aload_n (k := 0) rfl rfl rfl ?_
    refine R_getf_i (j := 4) rfl ft_2_25 sh_70 rfl ?_
    have b2 : (0 : Int) ≤ (h.1 70 4).toInt ∧ (h.1 70 4).toInt ≤ 6 := hI.1 70 4
    refine N_icmp_ge (a := a0.toInt) (b := (h.1 70 4).toInt) 24 rfl rfl rfl rfl (fun c3 => ?_) (fun c3 => ?_)
    · exact R_vret rfl rfl ⟨hI, fr, trivial, rfl⟩
    · refine R_iload_n (k := 2) rfl rfl rfl ?_
      refine N_if_lt (a := a1.toInt) 24 rfl rfl rfl (fun c4 => ?_) (fun c4 => ?_)
      · exfalso; omega
      · refine R_iload_n (k := 2) rfl rfl rfl ?_
        refine R_aload_n (k := 0) rfl rfl rfl ?_
        refine R_getf_i (j := 4) rfl ft_2_25 sh_70 rfl ?_
        refine N_icmp_lt (a := a1.toInt) (b := (h.1 70 4).toInt) 25 rfl rfl rfl rfl (fun c5 => ?_) (fun c5 => ?_)
        · refine R_aload_n (k := 0) rfl rfl rfl ?_
          refine R_getf_r (j := 0) rfl ft_2_9 sh_70 rfl ?_
          refine R_iload_n (k := 1) rfl rfl rfl ?_
          refine R_iald rfl sh_71 ⟨by omega, by omega⟩ ?_
          refine N_any (fun x6 => ?_)
          refine R_istore_n (k := 3) rfl [(3, .inl x6), (0, .inr (.inr (.inl 70))), (1, .inl a0), (2, .inl a1)] rfl rfl (by decide) ?_
          refine R_aload_n (k := 0) rfl rfl rfl ?_
          refine R_getf_r (j := 1) rfl ft_2_15 sh_70 rfl ?_
          refine R_iload_n (k := 1) rfl rfl rfl ?_
          refine R_iald rfl sh_72 ⟨by omega, by omega⟩ ?_
          refine N_any (fun x7 => ?_)
          refine R_istore (k := 4) [(4, .inl x7), (3, .inl x6), (0, .inr (.inr (.inl 70))), (1, .inl a0), (2, .inl a1)] rfl rfl (by decide) ?_
          refine R_aload_n (k := 0) rfl rfl rfl ?_
          refine R_getf_r (j := 2) rfl ft_2_18 sh_70 rfl ?_
          refine R_iload_n (k := 1) rfl rfl rfl ?_
          refine R_lald rfl sh_73 ⟨by omega, by omega⟩ ?_
          refine N_anyL (fun w8 => ?_)
          refine R_lstore (k := 5) [(5, .inr (.inl w8)), (4, .inl x7), (3, .inl x6), (0, .inr (.inr (.inl 70))), (1, .inl a0), (2, .inl a1)] rfl rfl (by decide) ?_
          refine R_aload_n (k := 0) rfl rfl rfl ?_
          refine R_getf_r (j := 0) rfl ft_2_9 sh_70 rfl ?_
          refine R_iload_n (k := 1) rfl rfl rfl ?_
          refine R_aload_n (k := 0) rfl rfl rfl ?_
          refine R_getf_r (j := 0) rfl ft_2_9 sh_70 rfl ?_
          refine R_iload_n (k := 2) rfl rfl rfl ?_
          refine R_iald rfl sh_71 ⟨by omega, by omega⟩ ?_
          refine N_any (fun x9 => ?_)
          refine K_iast (a := a0.toInt) (lo := (-2147483648)) (hi' := 2147483647) rfl sh_71 rfl ⟨by omega, by omega⟩ hI (by decide) rfl (i_rng _) fr (by decide) (fun h10 g11 hI fr => ?_)
          have s12 : (h10.1 70 4).toInt = (h.1 70 4).toInt := by rw [g11, wI_ne _ _ _ (by decide)]
          refine R_aload_n (k := 0) rfl rfl rfl ?_
          refine R_getf_r (j := 1) rfl ft_2_15 sh_70 rfl ?_
          refine R_iload_n (k := 1) rfl rfl rfl ?_
          refine R_aload_n (k := 0) rfl rfl rfl ?_
          refine R_getf_r (j := 1) rfl ft_2_15 sh_70 rfl ?_
          refine R_iload_n (k := 2) rfl rfl rfl ?_
          refine R_iald rfl sh_72 ⟨by omega, by omega⟩ ?_
          refine N_any (fun x13 => ?_)
          refine K_iast (a := a0.toInt) (lo := (-2147483648)) (hi' := 2147483647) rfl sh_72 rfl ⟨by omega, by omega⟩ hI (by decide) rfl (i_rng _) fr (by decide) (fun h14 g15 hI fr => ?_)
          have s16 : (h14.1 70 4).toInt = (h10.1 70 4).toInt := by rw [g15, wI_ne _ _ _ (by decide)]
          refine R_aload_n (k := 0) rfl rfl rfl ?_
          refine R_getf_r (j := 2) rfl ft_2_18 sh_70 rfl ?_
          refine R_iload_n (k := 1) rfl rfl rfl ?_
          refine R_aload_n (k := 0) rfl rfl rfl ?_
          refine R_getf_r (j := 2) rfl ft_2_18 sh_70 rfl ?_
          refine R_iload_n (k := 2) rfl rfl rfl ?_
          refine R_lald rfl sh_73 ⟨by omega, by omega⟩ ?_
          refine N_anyL (fun w17 => ?_)
          refine K_last (a := a0.toInt) rfl sh_73 rfl ⟨by omega, by omega⟩ hI fr (by decide) (fun h18 g19 hI fr => ?_)
          have s20 : (h18.1 70 4).toInt = (h14.1 70 4).toInt := by rw [g19, wL_fst]
          refine R_aload_n (k := 0) rfl rfl rfl ?_
          refine R_getf_r (j := 0) rfl ft_2_9 sh_70 rfl ?_
          refine R_iload_n (k := 2) rfl rfl rfl ?_
          refine R_iload_n (k := 3) rfl rfl rfl ?_
          refine K_iast (a := a1.toInt) (lo := (-2147483648)) (hi' := 2147483647) rfl sh_71 rfl ⟨by omega, by omega⟩ hI (by decide) rfl (i_rng _) fr (by decide) (fun h21 g22 hI fr => ?_)
          have s23 : (h21.1 70 4).toInt = (h18.1 70 4).toInt := by rw [g22, wI_ne _ _ _ (by decide)]
          refine R_aload_n (k := 0) rfl rfl rfl ?_
          refine R_getf_r (j := 1) rfl ft_2_15 sh_70 rfl ?_
          refine R_iload_n (k := 2) rfl rfl rfl ?_
          refine R_iload (k := 4) rfl rfl ?_
          refine K_iast (a := a1.toInt) (lo := (-2147483648)) (hi' := 2147483647) rfl sh_72 rfl ⟨by omega, by omega⟩ hI (by decide) rfl (i_rng _) fr (by decide) (fun h24 g25 hI fr => ?_)
          have s26 : (h24.1 70 4).toInt = (h21.1 70 4).toInt := by rw [g25, wI_ne _ _ _ (by decide)]
          refine R_aload_n (k := 0) rfl rfl rfl ?_
          refine R_getf_r (j := 2) rfl ft_2_18 sh_70 rfl ?_
          refine R_iload_n (k := 2) rfl rfl rfl ?_
          refine R_lload (k := 5) rfl rfl ?_
          refine K_last (a := a1.toInt) rfl sh_73 rfl ⟨by omega, by omega⟩ hI fr (by decide) (fun h27 g28 hI fr => ?_)
          have s29 : (h27.1 70 4).toInt = (h24.1 70 4).toInt := by rw [g28, wL_fst]
          exact R_vret rfl rfl ⟨hI, fr, trivial, rfl⟩
        · exact R_vret rfl rfl ⟨hI, fr, trivial, rfl⟩
abbrev q_X8_change (h : PH)  : Option PV → PH → Prop := fun r h' => INV h' ∧ FR [0, 70, 71, 72, 73, 74, 75, 76, 77, 78, 79, 80, 81, 82, 83, 84, 85, 86] h h' ∧ (True) ∧ ∃ z : Int32, r = some (.inl z) ∧ (((-2) ≤ z.toInt ∧ z.toInt ≤ 1000000))
set_option maxHeartbeats 4000000 in
set_option maxRecDepth 100000 in
theorem k_X8_change (h : PH) (hI : INV h)  : CALL d_X8_change [.inr (.inr (.inl 0))] h (q_X8_change h) := by
  show RUN d_X8_change 0 [(0, .inr (.inr (.inl 0)))] [] h _
  have fr : FR [0, 70, 71, 72, 73, 74, 75, 76, 77, 78, 79, 80, 81, 82, 83, 84, 85, 86] h h := FR.rf _ _
  refine R_aload_n (k := 0) rfl rfl rfl ?_
  refine R_getf_r (j := 3) rfl ft_8_28 sh_0 rfl ?_
  have b1 : (0 : Int) ≤ (h.1 17 0).toInt ∧ (h.1 17 0).toInt ≤ 60 := hI.1 17 0
  have e2 : 0 < (h.1 17 10).toInt → 1 ≤ (h.1 17 0).toInt := hI.2.1
  refine R_callV (v := .inr (.inr (.inl 16))) (As := []) (rest := []) rfl mt_8_i146 pp_X1_stands (by decide) rfl rfl rfl (Nat.le_of_ble_eq_true rfl) (Nat.le_of_ble_eq_true rfl) ((k_X1_stands h hI).mono (fun r3 h4 p5 => ?_))
  obtain ⟨rfl, x6, rfl, q7 | q7⟩ := p5
  · show RUN d_X8_change 7 [(0, .inr (.inr (.inl 0)))] [.inl x6] h _
    refine N_if_ne (a := x6.toInt) 13 rfl rfl rfl (fun c8 => ?_) (fun c8 => ?_)
    · exfalso; omega
    · refine R_bipush (-2) rfl rfl ?_
      exact R_iret rfl rfl rfl ⟨hI, fr, trivial, _, rfl, by rw [show ((-2) : Int32).toInt = (-2) from rfl] <;> omega⟩
  · show RUN d_X8_change 7 [(0, .inr (.inr (.inl 0)))] [.inl x6] h _
    refine N_if_ne (a := x6.toInt) 13 rfl rfl rfl (fun c9 => ?_) (fun c9 => ?_)
    · refine R_aload_n (k := 0) rfl rfl rfl ?_
      refine R_callV (v := .inr (.inr (.inl 0))) (As := []) (rest := []) rfl mt_8_i249 pp_X8_waterNow (by decide) rfl rfl rfl (Nat.le_of_ble_eq_true rfl) (Nat.le_of_ble_eq_true rfl) ((k_X8_waterNow h hI).mono (fun r10 h11 p12 => ?_))
      obtain ⟨hJ, fj, -, x13, rfl, q14⟩ := p12
      have f15 := fj
      have fr := fr.trans fj (by decide)
      have hI := hJ
      have s16 : (h11.1 17 10).toInt = (h.1 17 10).toInt := by rw [(f15 17 (by decide)).1]
      have s17 : (h11.1 17 0).toInt = (h.1 17 0).toInt := by rw [(f15 17 (by decide)).1]
      show RUN d_X8_change 17 [(0, .inr (.inr (.inl 0)))] [.inl x13] h11 _
      refine R_istore_n (k := 1) rfl [(1, .inl x13), (0, .inr (.inr (.inl 0)))] rfl rfl (by decide) ?_
      refine R_iconst (-1) rfl rfl ?_
      refine R_istore_n (k := 2) rfl [(2, .inl (-1)), (1, .inl x13), (0, .inr (.inr (.inl 0)))] rfl rfl (by decide) ?_
      refine R_iconst 0 rfl rfl ?_
      refine R_istore_n (k := 3) rfl [(3, .inl 0), (2, .inl (-1)), (1, .inl x13), (0, .inr (.inr (.inl 0)))] rfl rfl (by decide) ?_
      have lp19 : ∀ (n18 : Nat) (h20 : PH) (x22 : Int32) (x23 : Int32) (x24 : Int32), INV h20 → FR [0, 70, 71, 72, 73, 74, 75, 76, 77, 78, 79, 80, 81, 82, 83, 84, 85, 86] h h20 → FR [70, 71, 72, 73, 74] h11 h20 → (-1) ≤ x23.toInt ∧ x23.toInt ≤ 1000000 → 0 ≤ x24.toInt ∧ x24.toInt ≤ 6 → (6 - x24.toInt).toNat < n18 → RUN d_X8_change 22 [(3, .inl x24), (2, .inl x23), (1, .inl x22), (0, .inr (.inr (.inl 0)))] [] h20 (q_X8_change h) := by
        intro n18
        induction n18 with
        | zero => intro h20 x22 x23 x24 m26 m27 m28 m29 m30 hz; exact absurd hz (Nat.not_lt_zero _)
        | succ n18 ih25 =>
          intro h20 x22 x23 x24 hI fr fl21 m29 m30 hz
          have s31 : (h20.1 17 10).toInt = (h11.1 17 10).toInt := by rw [(fl21 17 (by decide)).1]
          have s32 : (h20.1 17 0).toInt = (h11.1 17 0).toInt := by rw [(fl21 17 (by decide)).1]
          refine R_iload_n (k := 3) rfl rfl rfl ?_
          refine R_aload_n (k := 0) rfl rfl rfl ?_
          refine R_getf_r (j := 3) rfl ft_8_28 sh_0 rfl ?_
          refine R_getf_r (j := 0) rfl ft_8_109 sh_16 rfl ?_
          refine R_iconst 5 rfl rfl ?_
          refine R_iald rfl sh_17 (by decide) ?_
          have b33 : (0 : Int) ≤ (h20.1 17 5).toInt ∧ (h20.1 17 5).toInt ≤ 6 := hI.1 17 5
          show RUN d_X8_change 32 [(3, .inl x24), (2, .inl x23), (1, .inl x22), (0, .inr (.inr (.inl 0)))] [.inl (h20.1 17 5), .inl x24] h20 _
          refine N_icmp_ge (a := x24.toInt) (b := (h20.1 17 5).toInt) 103 rfl rfl rfl rfl (fun c34 => ?_) (fun c34 => ?_)
          · refine R_iload_n (k := 2) rfl rfl rfl ?_
            exact R_iret rfl rfl rfl ⟨hI, fr, trivial, _, rfl, by omega⟩
          · refine R_iload_n (k := 3) rfl rfl rfl ?_
            refine R_iconst 1 rfl rfl ?_
            refine N_iadd (a := x24.toInt) (b := 1) rfl rfl (by decide) (by omega) (fun x35 q36 => ?_)
            refine R_istore (k := 4) [(4, .inl x35), (3, .inl x24), (2, .inl x23), (1, .inl x22), (0, .inr (.inr (.inl 0)))] rfl rfl (by decide) ?_
            have lp38 : ∀ (n37 : Nat) (h39 : PH) (x41 : Int32) (x42 : Int32) (x43 : Int32), INV h39 → FR [0, 70, 71, 72, 73, 74, 75, 76, 77, 78, 79, 80, 81, 82, 83, 84, 85, 86] h h39 → FR [70, 71, 72, 73, 74] h20 h39 → (-1) ≤ x42.toInt ∧ x42.toInt ≤ 1000000 → 1 ≤ x43.toInt ∧ x43.toInt ≤ 6 → x24.toInt ≤ x43.toInt + (-1) → x43.toInt ≤ (h20.1 17 5).toInt + 0 → (6 - x43.toInt).toNat < n37 → RUN d_X8_change 40 [(4, .inl x43), (3, .inl x24), (2, .inl x42), (1, .inl x41), (0, .inr (.inr (.inl 0)))] [] h39 (q_X8_change h) := by
              intro n37
              induction n37 with
              | zero => intro h39 x41 x42 x43 m45 m46 m47 m48 m49 m50 m51 hz; exact absurd hz (Nat.not_lt_zero _)
              | succ n37 ih44 =>
                intro h39 x41 x42 x43 hI fr fl40 m48 m49 m50 m51 hz
                have s52 : (h39.1 17 10).toInt = (h20.1 17 10).toInt := by rw [(fl40 17 (by decide)).1]
                have s53 : (h39.1 17 0).toInt = (h20.1 17 0).toInt := by rw [(fl40 17 (by decide)).1]
                have s54 : (h39.1 17 5).toInt = (h20.1 17 5).toInt := by rw [(fl40 17 (by decide)).1]
                have fl21 : FR [70, 71, 72, 73, 74] h11 h39 := fl21.trans fl40 (by decide)
                refine R_iload (k := 4) rfl rfl ?_
                refine R_aload_n (k := 0) rfl rfl rfl ?_
                refine R_getf_r (j := 3) rfl ft_8_28 sh_0 rfl ?_
                refine R_getf_r (j := 0) rfl ft_8_109 sh_16 rfl ?_
                refine R_iconst 5 rfl rfl ?_
                refine R_iald rfl sh_17 (by decide) ?_
                show RUN d_X8_change 51 [(4, .inl x43), (3, .inl x24), (2, .inl x42), (1, .inl x41), (0, .inr (.inr (.inl 0)))] [.inl (h39.1 17 5), .inl x43] h39 _
                refine N_icmp_ge (a := x43.toInt) (b := (h39.1 17 5).toInt) 97 rfl rfl rfl rfl (fun c55 => ?_) (fun c55 => ?_)
                · refine N_iinc (a := x24.toInt) (c := 1) (fun w => [(3, .inl w), (4, .inl x43), (2, .inl x42), (1, .inl x41), (0, .inr (.inr (.inl 0)))]) rfl rfl (fun _ => rfl) (by decide) rfl (by decide) (by omega) (fun x56 q57 => ?_)
                  refine R_goto 22 rfl rfl ?_
                  exact RUN_weak (psub_cons rfl (psub_cons rfl (psub_cons rfl (psub_cons rfl (psub_nil _))))) (ih25 h39 x41 x42 x56 hI fr fl21 (by omega) (by omega) (by omega))
                · refine R_aload_n (k := 0) rfl rfl rfl ?_
                  refine R_callV (v := .inr (.inr (.inl 0))) (As := []) (rest := []) rfl mt_8_i237 pp_X8_lineAsNow (by decide) rfl rfl rfl (Nat.le_of_ble_eq_true rfl) (Nat.le_of_ble_eq_true rfl) ((k_X8_lineAsNow h39 hI).mono (fun r58 h59 p60 => ?_))
                  obtain ⟨hJ, fj, -, rfl⟩ := p60
                  have f61 := fj
                  have fr := fr.trans fj (by decide)
                  have hI := hJ
                  have fl40 : FR [70, 71, 72, 73, 74] h20 h59 := fl40.trans fj (by decide)
                  have fl21 : FR [70, 71, 72, 73, 74] h11 h59 := fl21.trans fj (by decide)
                  have s62 : (h59.1 17 10).toInt = (h39.1 17 10).toInt := by rw [(f61 17 (by decide)).1]
                  have s63 : (h59.1 17 0).toInt = (h39.1 17 0).toInt := by rw [(f61 17 (by decide)).1]
                  have s64 : (h59.1 17 5).toInt = (h39.1 17 5).toInt := by rw [(f61 17 (by decide)).1]
                  show RUN d_X8_change 58 [(4, .inl x43), (3, .inl x24), (2, .inl x42), (1, .inl x41), (0, .inr (.inr (.inl 0)))] [] h59 _
                  refine R_aload_n (k := 0) rfl rfl rfl ?_
                  refine R_getf_r (j := 7) rfl ft_8_49 sh_0 rfl ?_
                  refine R_iload_n (k := 3) rfl rfl rfl ?_
                  refine R_iload (k := 4) rfl rfl ?_
                  refine R_callV (v := .inr (.inr (.inl 70))) (As := [.inl x24, .inl x43]) (rest := []) rfl mt_8_i264 pp_X2_swap (by decide) rfl rfl rfl (Nat.le_of_ble_eq_true rfl) (Nat.le_of_ble_eq_true rfl) ((k_X2_swap h59 hI x24 x43 (by omega) (by omega)).mono (fun r65 h66 p67 => ?_))
                  obtain ⟨hJ, fj, -, rfl⟩ := p67
                  have f68 := fj
                  have fr := fr.trans fj (by decide)
                  have hI := hJ
                  have fl40 : FR [70, 71, 72, 73, 74] h20 h66 := fl40.trans fj (by decide)
                  have fl21 : FR [70, 71, 72, 73, 74] h11 h66 := fl21.trans fj (by decide)
                  have s69 : (h66.1 17 10).toInt = (h59.1 17 10).toInt := by rw [(f68 17 (by decide)).1]
                  have s70 : (h66.1 17 0).toInt = (h59.1 17 0).toInt := by rw [(f68 17 (by decide)).1]
                  have s71 : (h66.1 17 5).toInt = (h59.1 17 5).toInt := by rw [(f68 17 (by decide)).1]
                  show RUN d_X8_change 68 [(4, .inl x43), (3, .inl x24), (2, .inl x42), (1, .inl x41), (0, .inr (.inr (.inl 0)))] [] h66 _
                  refine R_aload_n (k := 0) rfl rfl rfl ?_
                  refine R_callV (v := .inr (.inr (.inl 0))) (As := []) (rest := []) rfl mt_8_i268 pp_X8_waterOfLine (by decide) rfl rfl rfl (Nat.le_of_ble_eq_true rfl) (Nat.le_of_ble_eq_true rfl) ((k_X8_waterOfLine h66 hI).mono (fun r72 h73 p74 => ?_))
                  obtain ⟨hJ, fj, ⟨kp75, -⟩, x76, rfl, q77⟩ := p74
                  have f78 := fj
                  have fr := fr.trans fj (by decide)
                  have hI := hJ
                  have fl40 : FR [70, 71, 72, 73, 74] h20 h73 := fl40.trans fj (by decide)
                  have fl21 : FR [70, 71, 72, 73, 74] h11 h73 := fl21.trans fj (by decide)
                  have s79 : (h73.1 17 10).toInt = (h66.1 17 10).toInt := by rw [(f78 17 (by decide)).1]
                  have s80 : (h73.1 17 0).toInt = (h66.1 17 0).toInt := by rw [(f78 17 (by decide)).1]
                  have s81 : (h73.1 17 5).toInt = (h66.1 17 5).toInt := by rw [(f78 17 (by decide)).1]
                  show RUN d_X8_change 72 [(4, .inl x43), (3, .inl x24), (2, .inl x42), (1, .inl x41), (0, .inr (.inr (.inl 0)))] [.inl x76] h73 _
                  refine R_istore (k := 5) [(5, .inl x76), (4, .inl x43), (3, .inl x24), (2, .inl x42), (1, .inl x41), (0, .inr (.inr (.inl 0)))] rfl rfl (by decide) ?_
                  refine R_iload (k := 5) rfl rfl ?_
                  refine R_iload_n (k := 1) rfl rfl rfl ?_
                  refine N_icmp_le (a := x76.toInt) (b := x41.toInt) 91 rfl rfl rfl rfl (fun c82 => ?_) (fun c82 => ?_)
                  · refine N_iinc (a := x43.toInt) (c := 1) (fun w => [(4, .inl w), (5, .inl x76), (3, .inl x24), (2, .inl x42), (1, .inl x41), (0, .inr (.inr (.inl 0)))]) rfl rfl (fun _ => rfl) (by decide) rfl (by decide) (by omega) (fun x83 q84 => ?_)
                    refine R_goto 40 rfl rfl ?_
                    exact RUN_weak (psub_cons rfl (psub_cons rfl (psub_cons rfl (psub_cons rfl (psub_cons rfl (psub_nil _)))))) (ih44 h73 x41 x42 x83 hI fr fl40 (by omega) (by omega) (by omega) (by omega) (by omega))
                  · refine R_iload (k := 5) rfl rfl ?_
                    refine R_istore_n (k := 1) rfl [(1, .inl x76), (5, .inl x76), (4, .inl x43), (3, .inl x24), (2, .inl x42), (0, .inr (.inr (.inl 0)))] rfl rfl (by decide) ?_
                    refine R_bipush 10 rfl rfl ?_
                    refine R_iload_n (k := 3) rfl rfl rfl ?_
                    refine N_imul (a := 10) (b := x24.toInt) rfl (by decide) rfl (by omega) (fun x85 q86 => ?_)
                    refine R_iload (k := 4) rfl rfl ?_
                    refine N_iadd (a := x85.toInt) (b := x43.toInt) rfl rfl rfl (by omega) (fun x87 q88 => ?_)
                    refine R_istore_n (k := 2) rfl [(2, .inl x87), (1, .inl x76), (5, .inl x76), (4, .inl x43), (3, .inl x24), (0, .inr (.inr (.inl 0)))] rfl rfl (by decide) ?_
                    refine N_iinc (a := x43.toInt) (c := 1) (fun w => [(4, .inl w), (2, .inl x87), (1, .inl x76), (5, .inl x76), (3, .inl x24), (0, .inr (.inr (.inl 0)))]) rfl rfl (fun _ => rfl) (by decide) rfl (by decide) (by omega) (fun x89 q90 => ?_)
                    refine R_goto 40 rfl rfl ?_
                    exact RUN_weak (psub_cons rfl (psub_cons rfl (psub_cons rfl (psub_cons rfl (psub_cons rfl (psub_nil _)))))) (ih44 h73 x76 x87 x89 hI fr fl40 (by omega) (by omega) (by omega) (by omega) (by omega))
            exact lp38 _ h20 x22 x23 x35 hI fr (FR.rf _ _) (by omega) (by omega) (by omega) (by omega) (Nat.lt_succ_self _)
      exact lp19 _ h11 x13 ((-1) : Int32) (0 : Int32) hI fr (FR.rf _ _) (by decide) (by decide) (Nat.lt_succ_self _)
    · exfalso; omega
abbrev q_X9_change_ (h : PH)  : Option PV → PH → Prop := fun r h' => INV h' ∧ FR [96, 103, 104, 105, 106, 107, 108, 109, 110, 111, 112, 113, 114, 115, 116, 117, 118, 119] h h' ∧ (True) ∧ ∃ z : Int32, r = some (.inl z) ∧ (((-2) ≤ z.toInt ∧ z.toInt ≤ 1000000))
set_option maxHeartbeats 4000000 in
set_option maxRecDepth 100000 in
theorem k_X9_change_ (h : PH) (hI : INV h)  : CALL d_X9_change_ [.inr (.inr (.inl 96))] h (q_X9_change_ h) := by
  show RUN d_X9_change_ 0 [(0, .inr (.inr (.inl 96)))] [] h _
  have fr : FR [96, 103, 104, 105, 106, 107, 108, 109, 110, 111, 112, 113, 114, 115, 116, 117, 118, 119] h h := FR.rf _ _
  refine R_aload_n (k := 0) rfl rfl rfl ?_
  have b1 : (0 : Int) ≤ (h.1 97 0).toInt ∧ (h.1 97 0).toInt ≤ 60 := hI.1 97 0
  have e2 : 0 < (h.1 97 10).toInt → 1 ≤ (h.1 97 0).toInt := hI.2.2.2.2.2.1.2.1
  refine R_callV (v := .inr (.inr (.inl 96))) (As := []) (rest := []) rfl mt_9_i307 pp_X9_asksBrigade (by decide) rfl rfl rfl (Nat.le_of_ble_eq_true rfl) (Nat.le_of_ble_eq_true rfl) ((k_X9_asksBrigade h hI).mono (fun r3 h4 p5 => ?_))
  obtain ⟨hJ, fj, -, x6, rfl, q7 | q7⟩ := p5
  · have f8 := fj
    have fr := fr.trans fj (by decide)
    have hI := hJ
    have s9 : (h4.1 97 10).toInt = (h.1 97 10).toInt := by rw [(f8 97 (by decide)).1]
    have s10 : (h4.1 97 0).toInt = (h.1 97 0).toInt := by rw [(f8 97 (by decide)).1]
    show RUN d_X9_change_ 4 [(0, .inr (.inr (.inl 96)))] [.inl x6] h4 _
    refine N_if_ne (a := x6.toInt) 10 rfl rfl rfl (fun c11 => ?_) (fun c11 => ?_)
    · exfalso; omega
    · refine R_bipush (-2) rfl rfl ?_
      exact R_iret rfl rfl rfl ⟨hI, fr, trivial, _, rfl, by rw [show ((-2) : Int32).toInt = (-2) from rfl] <;> omega⟩
  · have f12 := fj
    have fr := fr.trans fj (by decide)
    have hI := hJ
    have s13 : (h4.1 97 10).toInt = (h.1 97 10).toInt := by rw [(f12 97 (by decide)).1]
    have s14 : (h4.1 97 0).toInt = (h.1 97 0).toInt := by rw [(f12 97 (by decide)).1]
    show RUN d_X9_change_ 4 [(0, .inr (.inr (.inl 96)))] [.inl x6] h4 _
    refine N_if_ne (a := x6.toInt) 10 rfl rfl rfl (fun c15 => ?_) (fun c15 => ?_)
    · refine R_aload_n (k := 0) rfl rfl rfl ?_
      refine R_getf_r (j := 29) rfl ft_9_67 sh_96 rfl ?_
      refine R_aload_n (k := 0) rfl rfl rfl ?_
      refine R_callV (v := .inr (.inr (.inl 96))) (As := []) (rest := [.inr (.inr (.inl 114))]) rfl mt_9_i129 pp_X9_last (by decide) rfl rfl rfl (Nat.le_of_ble_eq_true rfl) (Nat.le_of_ble_eq_true rfl) ((k_X9_last h4 hI).mono (fun r16 h17 p18 => ?_))
      obtain ⟨rfl, x19, rfl, q20⟩ := p18
      show RUN d_X9_change_ 18 [(0, .inr (.inr (.inl 96)))] [.inl x19, .inr (.inr (.inl 114))] h4 _
      refine R_iald rfl sh_114 ⟨by omega, by omega⟩ ?_
      refine N_any (fun x21 => ?_)
      refine R_istore_n (k := 1) rfl [(1, .inl x21), (0, .inr (.inr (.inl 96)))] rfl rfl (by decide) ?_
      refine R_iconst (-1) rfl rfl ?_
      refine R_istore_n (k := 2) rfl [(2, .inl (-1)), (1, .inl x21), (0, .inr (.inr (.inl 96)))] rfl rfl (by decide) ?_
      refine R_iconst 0 rfl rfl ?_
      refine R_istore_n (k := 3) rfl [(3, .inl 0), (2, .inl (-1)), (1, .inl x21), (0, .inr (.inr (.inl 96)))] rfl rfl (by decide) ?_
      have lp23 : ∀ (n22 : Nat) (h24 : PH) (x26 : Int32) (x27 : Int32) (x28 : Int32), INV h24 → FR [96, 103, 104, 105, 106, 107, 108, 109, 110, 111, 112, 113, 114, 115, 116, 117, 118, 119] h h24 → FR [96, 105, 107, 108, 109, 110, 111, 112, 113, 114, 115, 116, 117, 118, 119] h4 h24 → (-1) ≤ x27.toInt ∧ x27.toInt ≤ 1000000 → 0 ≤ x28.toInt ∧ x28.toInt ≤ 6 → (6 - x28.toInt).toNat < n22 → RUN d_X9_change_ 24 [(3, .inl x28), (2, .inl x27), (1, .inl x26), (0, .inr (.inr (.inl 96)))] [] h24 (q_X9_change_ h) := by
        intro n22
        induction n22 with
        | zero => intro h24 x26 x27 x28 m30 m31 m32 m33 m34 hz; exact absurd hz (Nat.not_lt_zero _)
        | succ n22 ih29 =>
          intro h24 x26 x27 x28 hI fr fl25 m33 m34 hz
          have s35 : (h24.1 97 10).toInt = (h4.1 97 10).toInt := by rw [(fl25 97 (by decide)).1]
          have s36 : (h24.1 97 0).toInt = (h4.1 97 0).toInt := by rw [(fl25 97 (by decide)).1]
          refine R_iload_n (k := 3) rfl rfl rfl ?_
          refine R_aload_n (k := 0) rfl rfl rfl ?_
          have b37 : (0 : Int) ≤ (h24.1 97 5).toInt ∧ (h24.1 97 5).toInt ≤ 6 := hI.1 97 5
          have e38 : 0 < (h24.1 97 5).toInt → 1 ≤ (h24.1 97 0).toInt := hI.2.2.2.2.2.1.2.2
          refine R_callV (v := .inr (.inr (.inl 96))) (As := []) (rest := [.inl x28]) rfl mt_9_i133 pp_X9_hands (by decide) rfl rfl rfl (Nat.le_of_ble_eq_true rfl) (Nat.le_of_ble_eq_true rfl) ((k_X9_hands h24 hI).mono (fun r39 h40 p41 => ?_))
          obtain ⟨rfl, x42, rfl, q43⟩ := p41
          show RUN d_X9_change_ 29 [(3, .inl x28), (2, .inl x27), (1, .inl x26), (0, .inr (.inr (.inl 96)))] [.inl x42, .inl x28] h24 _
          refine N_icmp_ge (a := x28.toInt) (b := x42.toInt) 98 rfl rfl rfl rfl (fun c44 => ?_) (fun c44 => ?_)
          · refine R_iload_n (k := 2) rfl rfl rfl ?_
            exact R_iret rfl rfl rfl ⟨hI, fr, trivial, _, rfl, by omega⟩
          · refine R_iload_n (k := 3) rfl rfl rfl ?_
            refine R_iconst 1 rfl rfl ?_
            refine N_iadd (a := x28.toInt) (b := 1) rfl rfl (by decide) (by omega) (fun x45 q46 => ?_)
            refine R_istore (k := 4) [(4, .inl x45), (3, .inl x28), (2, .inl x27), (1, .inl x26), (0, .inr (.inr (.inl 96)))] rfl rfl (by decide) ?_
            have lp48 : ∀ (n47 : Nat) (h49 : PH) (x51 : Int32) (x52 : Int32) (x53 : Int32), INV h49 → FR [96, 103, 104, 105, 106, 107, 108, 109, 110, 111, 112, 113, 114, 115, 116, 117, 118, 119] h h49 → FR [96, 105, 107, 108, 109, 110, 111, 112, 113, 114, 115, 116, 117, 118, 119] h24 h49 → (-1) ≤ x52.toInt ∧ x52.toInt ≤ 1000000 → 1 ≤ x53.toInt ∧ x53.toInt ≤ 6 → x28.toInt ≤ x53.toInt + (-1) → x53.toInt ≤ (h24.1 97 5).toInt + 0 → (6 - x53.toInt).toNat < n47 → RUN d_X9_change_ 37 [(4, .inl x53), (3, .inl x28), (2, .inl x52), (1, .inl x51), (0, .inr (.inr (.inl 96)))] [] h49 (q_X9_change_ h) := by
              intro n47
              induction n47 with
              | zero => intro h49 x51 x52 x53 m55 m56 m57 m58 m59 m60 m61 hz; exact absurd hz (Nat.not_lt_zero _)
              | succ n47 ih54 =>
                intro h49 x51 x52 x53 hI fr fl50 m58 m59 m60 m61 hz
                have s62 : (h49.1 97 10).toInt = (h24.1 97 10).toInt := by rw [(fl50 97 (by decide)).1]
                have s63 : (h49.1 97 0).toInt = (h24.1 97 0).toInt := by rw [(fl50 97 (by decide)).1]
                have s64 : (h49.1 97 5).toInt = (h24.1 97 5).toInt := by rw [(fl50 97 (by decide)).1]
                have fl25 : FR [96, 105, 107, 108, 109, 110, 111, 112, 113, 114, 115, 116, 117, 118, 119] h4 h49 := fl25.trans fl50 (by decide)
                refine R_iload (k := 4) rfl rfl ?_
                refine R_aload_n (k := 0) rfl rfl rfl ?_
                refine R_callV (v := .inr (.inr (.inl 96))) (As := []) (rest := [.inl x53]) rfl mt_9_i133 pp_X9_hands (by decide) rfl rfl rfl (Nat.le_of_ble_eq_true rfl) (Nat.le_of_ble_eq_true rfl) ((k_X9_hands h49 hI).mono (fun r65 h66 p67 => ?_))
                obtain ⟨rfl, x68, rfl, q69⟩ := p67
                show RUN d_X9_change_ 43 [(4, .inl x53), (3, .inl x28), (2, .inl x52), (1, .inl x51), (0, .inr (.inr (.inl 96)))] [.inl x68, .inl x53] h49 _
                refine N_icmp_ge (a := x53.toInt) (b := x68.toInt) 92 rfl rfl rfl rfl (fun c70 => ?_) (fun c70 => ?_)
                · refine N_iinc (a := x28.toInt) (c := 1) (fun w => [(3, .inl w), (4, .inl x53), (2, .inl x52), (1, .inl x51), (0, .inr (.inr (.inl 96)))]) rfl rfl (fun _ => rfl) (by decide) rfl (by decide) (by omega) (fun x71 q72 => ?_)
                  refine R_goto 24 rfl rfl ?_
                  exact RUN_weak (psub_cons rfl (psub_cons rfl (psub_cons rfl (psub_cons rfl (psub_nil _))))) (ih29 h49 x51 x52 x71 hI fr fl25 (by omega) (by omega) (by omega))
                · refine R_aload_n (k := 0) rfl rfl rfl ?_
                  refine R_iload_n (k := 3) rfl rfl rfl ?_
                  refine R_iload (k := 4) rfl rfl ?_
                  refine R_callV (v := .inr (.inr (.inl 96))) (As := [.inl x28, .inl x53]) (rest := []) rfl mt_9_i405 pp_X9_change (by decide) rfl rfl rfl (Nat.le_of_ble_eq_true rfl) (Nat.le_of_ble_eq_true rfl) ((k_X9_change h49 hI x28 x53 (by omega) (by omega)).mono (fun r73 h74 p75 => ?_))
                  obtain ⟨hJ, fj, -, rfl⟩ := p75
                  have f76 := fj
                  have fr := fr.trans fj (by decide)
                  have hI := hJ
                  have fl50 : FR [96, 105, 107, 108, 109, 110, 111, 112, 113, 114, 115, 116, 117, 118, 119] h24 h74 := fl50.trans fj (by decide)
                  have fl25 : FR [96, 105, 107, 108, 109, 110, 111, 112, 113, 114, 115, 116, 117, 118, 119] h4 h74 := fl25.trans fj (by decide)
                  have s77 : (h74.1 97 10).toInt = (h49.1 97 10).toInt := by rw [(f76 97 (by decide)).1]
                  have s78 : (h74.1 97 0).toInt = (h49.1 97 0).toInt := by rw [(f76 97 (by decide)).1]
                  have s79 : (h74.1 97 5).toInt = (h49.1 97 5).toInt := by rw [(f76 97 (by decide)).1]
                  show RUN d_X9_change_ 53 [(4, .inl x53), (3, .inl x28), (2, .inl x52), (1, .inl x51), (0, .inr (.inr (.inl 96)))] [] h74 _
                  refine R_aload_n (k := 0) rfl rfl rfl ?_
                  refine R_callV (v := .inr (.inr (.inl 96))) (As := []) (rest := []) rfl mt_9_i389 pp_X9_waterNow (by decide) rfl rfl rfl (Nat.le_of_ble_eq_true rfl) (Nat.le_of_ble_eq_true rfl) ((k_X9_waterNow h74 hI (by omega)).mono (fun r80 h81 p82 => ?_))
                  obtain ⟨hJ, fj, ⟨kp83, kp84, kp85, kp86, kp87, kp88, -⟩, x89, rfl, q90⟩ := p82
                  have f91 := fj
                  have fr := fr.trans fj (by decide)
                  have hI := hJ
                  have fl50 : FR [96, 105, 107, 108, 109, 110, 111, 112, 113, 114, 115, 116, 117, 118, 119] h24 h81 := fl50.trans fj (by decide)
                  have fl25 : FR [96, 105, 107, 108, 109, 110, 111, 112, 113, 114, 115, 116, 117, 118, 119] h4 h81 := fl25.trans fj (by decide)
                  have s92 : (h81.1 97 10).toInt = (h74.1 97 10).toInt := by rw [(f91 97 (by decide)).1]
                  have s93 : (h81.1 97 0).toInt = (h74.1 97 0).toInt := by rw [(f91 97 (by decide)).1]
                  have s94 : (h81.1 97 5).toInt = (h74.1 97 5).toInt := by rw [(f91 97 (by decide)).1]
                  show RUN d_X9_change_ 57 [(4, .inl x53), (3, .inl x28), (2, .inl x52), (1, .inl x51), (0, .inr (.inr (.inl 96)))] [.inl x89] h81 _
                  refine R_istore (k := 5) [(5, .inl x89), (4, .inl x53), (3, .inl x28), (2, .inl x52), (1, .inl x51), (0, .inr (.inr (.inl 96)))] rfl rfl (by decide) ?_
                  refine R_aload_n (k := 0) rfl rfl rfl ?_
                  refine R_iload_n (k := 3) rfl rfl rfl ?_
                  refine R_iload (k := 4) rfl rfl ?_
                  refine R_callV (v := .inr (.inr (.inl 96))) (As := [.inl x28, .inl x53]) (rest := []) rfl mt_9_i405 pp_X9_change (by decide) rfl rfl rfl (Nat.le_of_ble_eq_true rfl) (Nat.le_of_ble_eq_true rfl) ((k_X9_change h81 hI x28 x53 (by omega) (by omega)).mono (fun r95 h96 p97 => ?_))
                  obtain ⟨hJ, fj, -, rfl⟩ := p97
                  have f98 := fj
                  have fr := fr.trans fj (by decide)
                  have hI := hJ
                  have fl50 : FR [96, 105, 107, 108, 109, 110, 111, 112, 113, 114, 115, 116, 117, 118, 119] h24 h96 := fl50.trans fj (by decide)
                  have fl25 : FR [96, 105, 107, 108, 109, 110, 111, 112, 113, 114, 115, 116, 117, 118, 119] h4 h96 := fl25.trans fj (by decide)
                  have s99 : (h96.1 97 10).toInt = (h81.1 97 10).toInt := by rw [(f98 97 (by decide)).1]
                  have s100 : (h96.1 97 0).toInt = (h81.1 97 0).toInt := by rw [(f98 97 (by decide)).1]
                  have s101 : (h96.1 97 5).toInt = (h81.1 97 5).toInt := by rw [(f98 97 (by decide)).1]
                  show RUN d_X9_change_ 66 [(5, .inl x89), (4, .inl x53), (3, .inl x28), (2, .inl x52), (1, .inl x51), (0, .inr (.inr (.inl 96)))] [] h96 _
                  refine R_iload (k := 5) rfl rfl ?_
                  refine R_iload_n (k := 1) rfl rfl rfl ?_
                  refine N_icmp_gt (a := x89.toInt) (b := x51.toInt) 75 rfl rfl rfl rfl (fun c102 => ?_) (fun c102 => ?_)
                  · refine R_iload (k := 5) rfl rfl ?_
                    refine R_istore_n (k := 1) rfl [(1, .inl x89), (5, .inl x89), (4, .inl x53), (3, .inl x28), (2, .inl x52), (0, .inr (.inr (.inl 96)))] rfl rfl (by decide) ?_
                    refine R_bipush 10 rfl rfl ?_
                    refine R_iload_n (k := 3) rfl rfl rfl ?_
                    refine N_imul (a := 10) (b := x28.toInt) rfl (by decide) rfl (by omega) (fun x103 q104 => ?_)
                    refine R_iload (k := 4) rfl rfl ?_
                    refine N_iadd (a := x103.toInt) (b := x53.toInt) rfl rfl rfl (by omega) (fun x105 q106 => ?_)
                    refine R_istore_n (k := 2) rfl [(2, .inl x105), (1, .inl x89), (5, .inl x89), (4, .inl x53), (3, .inl x28), (0, .inr (.inr (.inl 96)))] rfl rfl (by decide) ?_
                    refine N_iinc (a := x53.toInt) (c := 1) (fun w => [(4, .inl w), (2, .inl x105), (1, .inl x89), (5, .inl x89), (3, .inl x28), (0, .inr (.inr (.inl 96)))]) rfl rfl (fun _ => rfl) (by decide) rfl (by decide) (by omega) (fun x107 q108 => ?_)
                    refine R_goto 37 rfl rfl ?_
                    exact RUN_weak (psub_cons rfl (psub_cons rfl (psub_cons rfl (psub_cons rfl (psub_cons rfl (psub_nil _)))))) (ih54 h96 x89 x105 x107 hI fr fl50 (by omega) (by omega) (by omega) (by omega) (by omega))
                  · refine R_goto 86 rfl rfl ?_
                    refine N_iinc (a := x53.toInt) (c := 1) (fun w => [(4, .inl w), (5, .inl x89), (3, .inl x28), (2, .inl x52), (1, .inl x51), (0, .inr (.inr (.inl 96)))]) rfl rfl (fun _ => rfl) (by decide) rfl (by decide) (by omega) (fun x109 q110 => ?_)
                    refine R_goto 37 rfl rfl ?_
                    exact RUN_weak (psub_cons rfl (psub_cons rfl (psub_cons rfl (psub_cons rfl (psub_cons rfl (psub_nil _)))))) (ih54 h96 x51 x52 x109 hI fr fl50 (by omega) (by omega) (by omega) (by omega) (by omega))
            exact lp48 _ h24 x26 x27 x45 hI fr (FR.rf _ _) (by omega) (by omega) (by omega) (by omega) (Nat.lt_succ_self _)
      exact lp23 _ h4 x21 ((-1) : Int32) (0 : Int32) hI fr (FR.rf _ _) (by decide) (by decide) (Nat.lt_succ_self _)
    · exfalso; omega
abbrev q_X8_lets (h : PH)  : Option PV → PH → Prop := fun r h' => INV h' ∧ FR [0, 87, 88, 89, 90] h h' ∧ (True) ∧ ∃ z : Int32, r = some (.inl z) ∧ (((-2) ≤ z.toInt ∧ z.toInt ≤ 63))
set_option maxHeartbeats 4000000 in
set_option maxRecDepth 100000 in
theorem k_X8_lets (h : PH) (hI : INV h)  : CALL d_X8_lets [.inr (.inr (.inl 0))] h (q_X8_lets h) := by
  show RUN d_X8_lets 0 [(0, .inr (.inr (.inl 0)))] [] h _
  have fr : FR [0, 87, 88, 89, 90] h h := FR.rf _ _
  refine R_aload_n (k := 0) rfl rfl rfl ?_
  refine R_getf_r (j := 3) rfl ft_8_28 sh_0 rfl ?_
  have b1 : (0 : Int) ≤ (h.1 17 0).toInt ∧ (h.1 17 0).toInt ≤ 60 := hI.1 17 0
  have e2 : 0 < (h.1 17 10).toInt → 1 ≤ (h.1 17 0).toInt := hI.2.1
  refine R_callV (v := .inr (.inr (.inl 16))) (As := []) (rest := []) rfl mt_8_i146 pp_X1_stands (by decide) rfl rfl rfl (Nat.le_of_ble_eq_true rfl) (Nat.le_of_ble_eq_true rfl) ((k_X1_stands h hI).mono (fun r3 h4 p5 => ?_))
  obtain ⟨rfl, x6, rfl, q7 | q7⟩ := p5
  · show RUN d_X8_lets 7 [(0, .inr (.inr (.inl 0)))] [.inl x6] h _
    refine N_if_eq (a := x6.toInt) 23 rfl rfl rfl (fun c8 => ?_) (fun c8 => ?_)
    · refine R_bipush (-2) rfl rfl ?_
      exact R_iret rfl rfl rfl ⟨hI, fr, trivial, _, rfl, by rw [show ((-2) : Int32).toInt = (-2) from rfl] <;> omega⟩
    · exfalso; omega
  · show RUN d_X8_lets 7 [(0, .inr (.inr (.inl 0)))] [.inl x6] h _
    refine N_if_eq (a := x6.toInt) 23 rfl rfl rfl (fun c9 => ?_) (fun c9 => ?_)
    · exfalso; omega
    · refine R_aload_n (k := 0) rfl rfl rfl ?_
      refine R_callV (v := .inr (.inr (.inl 0))) (As := []) (rest := []) rfl mt_8_i286 pp_X8_listed (by decide) rfl rfl rfl (Nat.le_of_ble_eq_true rfl) (Nat.le_of_ble_eq_true rfl) ((k_X8_listed h hI).mono (fun r10 h11 p12 => ?_))
      obtain ⟨hJ, fj, -, rfl⟩ := p12
      have f13 := fj
      have fr := fr.trans fj (by decide)
      have hI := hJ
      have s14 : (h11.1 17 10).toInt = (h.1 17 10).toInt := by rw [(f13 17 (by decide)).1]
      have s15 : (h11.1 17 0).toInt = (h.1 17 0).toInt := by rw [(f13 17 (by decide)).1]
      show RUN d_X8_lets 14 [(0, .inr (.inr (.inl 0)))] [.inr (.inr (.inl 87))] h11 _
      refine R_getf_i (j := 7) rfl ft_8_307 sh_87 rfl ?_
      refine R_callS (As := [.inl (h11.1 87 7)]) (rest := []) rfl mt_8_i232 (by decide) pp_J6_bitCount_0f7a4 (by decide) rfl rfl (Nat.le_of_ble_eq_true rfl) (Nat.le_of_ble_eq_true rfl) ((k_J6_bitCount_0f7a4 h11 hI (h11.1 87 7)).mono (fun r16 h17 p18 => ?_))
      obtain ⟨rfl, x19, rfl, q20⟩ := p18
      show RUN d_X8_lets 20 [(0, .inr (.inr (.inl 0)))] [.inl x19] h11 _
      refine R_goto 25 rfl rfl ?_
      exact R_iret rfl rfl rfl ⟨hI, fr, trivial, _, rfl, by omega⟩
abbrev q_X8_let (h : PH)  : Option PV → PH → Prop := fun r h' => INV h' ∧ FR [0, 87, 88, 89, 90] h h' ∧ (True) ∧ ∃ z : Int32, r = some (.inl z) ∧ ((True))
set_option maxHeartbeats 4000000 in
set_option maxRecDepth 100000 in
theorem k_X8_let (h : PH) (hI : INV h)  : CALL d_X8_let [.inr (.inr (.inl 0))] h (q_X8_let h) := by
  show RUN d_X8_let 0 [(0, .inr (.inr (.inl 0)))] [] h _
  have fr : FR [0, 87, 88, 89, 90] h h := FR.rf _ _
  refine R_aload_n (k := 0) rfl rfl rfl ?_
  refine R_getf_r (j := 3) rfl ft_8_28 sh_0 rfl ?_
  have b1 : (0 : Int) ≤ (h.1 17 0).toInt ∧ (h.1 17 0).toInt ≤ 60 := hI.1 17 0
  have e2 : 0 < (h.1 17 10).toInt → 1 ≤ (h.1 17 0).toInt := hI.2.1
  refine R_callV (v := .inr (.inr (.inl 16))) (As := []) (rest := []) rfl mt_8_i146 pp_X1_stands (by decide) rfl rfl rfl (Nat.le_of_ble_eq_true rfl) (Nat.le_of_ble_eq_true rfl) ((k_X1_stands h hI).mono (fun r3 h4 p5 => ?_))
  obtain ⟨rfl, x6, rfl, q7 | q7⟩ := p5
  · show RUN d_X8_let 7 [(0, .inr (.inr (.inl 0)))] [.inl x6] h _
    refine N_if_eq (a := x6.toInt) 20 rfl rfl rfl (fun c8 => ?_) (fun c8 => ?_)
    · refine R_bipush (-2) rfl rfl ?_
      exact R_iret rfl rfl rfl ⟨hI, fr, trivial, _, rfl, trivial⟩
    · exfalso; omega
  · show RUN d_X8_let 7 [(0, .inr (.inr (.inl 0)))] [.inl x6] h _
    refine N_if_eq (a := x6.toInt) 20 rfl rfl rfl (fun c9 => ?_) (fun c9 => ?_)
    · exfalso; omega
    · refine R_aload_n (k := 0) rfl rfl rfl ?_
      refine R_callV (v := .inr (.inr (.inl 0))) (As := []) (rest := []) rfl mt_8_i286 pp_X8_listed (by decide) rfl rfl rfl (Nat.le_of_ble_eq_true rfl) (Nat.le_of_ble_eq_true rfl) ((k_X8_listed h hI).mono (fun r10 h11 p12 => ?_))
      obtain ⟨hJ, fj, -, rfl⟩ := p12
      have f13 := fj
      have fr := fr.trans fj (by decide)
      have hI := hJ
      have s14 : (h11.1 17 10).toInt = (h.1 17 10).toInt := by rw [(f13 17 (by decide)).1]
      have s15 : (h11.1 17 0).toInt = (h.1 17 0).toInt := by rw [(f13 17 (by decide)).1]
      show RUN d_X8_let 14 [(0, .inr (.inr (.inl 0)))] [.inr (.inr (.inl 87))] h11 _
      refine R_getf_i (j := 7) rfl ft_8_307 sh_87 rfl ?_
      refine R_goto 22 rfl rfl ?_
      exact R_iret rfl rfl rfl ⟨hI, fr, trivial, _, rfl, trivial⟩
abbrev q_X5_isSlot (h : PH) (a0 : Int32) : Option PV → PH → Prop := fun r h' => h = h' ∧ ∃ z : Int32, r = some (.inl z) ∧ ((z.toInt = 0 ∧ a0.toInt ≤ (-1)) ∨ (z.toInt = 0 ∧ 4 ≤ a0.toInt) ∨ (z.toInt = 1 ∧ 0 ≤ a0.toInt ∧ a0.toInt ≤ 3))
set_option maxHeartbeats 4000000 in
set_option maxRecDepth 100000 in
theorem k_X5_isSlot (h : PH) (hI : INV h) (a0 : Int32) : CALL d_X5_isSlot [.inr (.inr (.inl 66)), .inl a0] h (q_X5_isSlot h a0) := by
  show RUN d_X5_isSlot 0 [(0, .inr (.inr (.inl 66))), (1, .inl a0)] [] h _
  have b1 := i_rng a0
  refine R_iload_n (k := 1) rfl rfl rfl ?_
  refine N_if_lt (a := a0.toInt) 13 rfl rfl rfl (fun c2 => ?_) (fun c2 => ?_)
  · refine R_iconst 0 rfl rfl ?_
    exact R_iret rfl rfl rfl ⟨rfl, _, rfl, by rw [show (0 : Int32).toInt = 0 from rfl] <;> omega⟩
  · refine R_iload_n (k := 1) rfl rfl rfl ?_
    refine R_iconst 4 rfl rfl ?_
    refine N_icmp_ge (a := a0.toInt) (b := 4) 13 rfl rfl rfl (by decide) (fun c3 => ?_) (fun c3 => ?_)
    · refine R_iconst 0 rfl rfl ?_
      exact R_iret rfl rfl rfl ⟨rfl, _, rfl, by rw [show (0 : Int32).toInt = 0 from rfl] <;> omega⟩
    · refine R_iconst 1 rfl rfl ?_
      refine R_goto 14 rfl rfl ?_
      exact R_iret rfl rfl rfl ⟨rfl, _, rfl, by rw [show (1 : Int32).toInt = 1 from rfl] <;> omega⟩
abbrev q_X5_hasRow (h : PH) (a0 : Int32) : Option PV → PH → Prop := fun r h' => h = h' ∧ ∃ z : Int32, r = some (.inl z) ∧ ((z.toInt = 0) ∨ (z.toInt = 1))
set_option maxHeartbeats 4000000 in
set_option maxRecDepth 100000 in
theorem k_X5_hasRow (h : PH) (hI : INV h) (a0 : Int32) (h0a : 0 ≤ a0.toInt ∧ a0.toInt ≤ 3) : CALL d_X5_hasRow [.inr (.inr (.inl 66)), .inl a0] h (q_X5_hasRow h a0) := by
  show RUN d_X5_hasRow 0 [(0, .inr (.inr (.inl 66))), (1, .inl a0)] [] h _
  refine R_aload_n (k := 0) rfl rfl rfl ?_
  refine R_getf_r (j := 1) rfl ft_5_15 sh_66 rfl ?_
  refine R_iload_n (k := 1) rfl rfl rfl ?_
  refine R_iald rfl sh_68 ⟨by omega, by omega⟩ ?_
  refine N_bd (lo := (-1)) (hi := 60) (hI.1 68 _) (fun x1 q2 => ?_)
  refine R_iconst (-1) rfl rfl ?_
  refine N_icmp_eq (a := x1.toInt) (b := (-1)) 14 rfl rfl rfl (by decide) (fun c3 => ?_) (fun c3 => ?_)
  · refine R_iconst 0 rfl rfl ?_
    exact R_iret rfl rfl rfl ⟨rfl, _, rfl, by rw [show (0 : Int32).toInt = 0 from rfl] <;> omega⟩
  · refine R_iconst 1 rfl rfl ?_
    refine R_goto 15 rfl rfl ?_
    exact R_iret rfl rfl rfl ⟨rfl, _, rfl, by rw [show (1 : Int32).toInt = 1 from rfl] <;> omega⟩
abbrev q_X5_cellOf (h : PH) (a0 : Int32) (a1 : Int32) : Option PV → PH → Prop := fun r h' => h = h' ∧ ∃ z : Int64, r = some (.inr (.inl z))
set_option maxHeartbeats 4000000 in
set_option maxRecDepth 100000 in
theorem k_X5_cellOf (h : PH) (hI : INV h) (a0 : Int32) (a1 : Int32) (h0a : 0 ≤ a0.toInt ∧ a0.toInt ≤ 3) (h1a : 0 ≤ a1.toInt ∧ a1.toInt ≤ 59) : CALL d_X5_cellOf [.inr (.inr (.inl 66)), .inl a0, .inl a1] h (q_X5_cellOf h a0 a1) := by
  show RUN d_X5_cellOf 0 [(0, .inr (.inr (.inl 66))), (1, .inl a0), (2, .inl a1)] [] h _
  refine R_aload_n (k := 0) rfl rfl rfl ?_
  refine R_getf_r (j := 0) rfl ft_5_11 sh_66 rfl ?_
  refine R_iload_n (k := 1) rfl rfl rfl ?_
  refine R_bipush 60 rfl rfl ?_
  refine N_imul (a := a0.toInt) (b := 60) rfl rfl (by decide) (by omega) (fun x1 q2 => ?_)
  refine R_iload_n (k := 2) rfl rfl rfl ?_
  refine N_iadd (a := x1.toInt) (b := a1.toInt) rfl rfl rfl (by omega) (fun x3 q4 => ?_)
  refine R_lald rfl sh_67 ⟨by omega, by omega⟩ ?_
  refine N_anyL (fun w5 => ?_)
  exact R_lret rfl rfl ⟨rfl, _, rfl⟩
abbrev q_X8_seenRefusal (h : PH) (a0 : Int32) : Option PV → PH → Prop := fun r h' => h = h' ∧ ∃ z : Int32, r = some (.inl z) ∧ ((z.toInt = (-2) ∧ a0.toInt ≤ (-1)) ∨ (z.toInt = (-2) ∧ 4 ≤ a0.toInt) ∨ (z.toInt = (-2) ∧ 0 ≤ a0.toInt ∧ a0.toInt ≤ 3 ∧ (h.1 17 10).toInt ≤ 0) ∨ (z.toInt = (-6) ∧ 0 ≤ a0.toInt ∧ a0.toInt ≤ 3 ∧ 1 ≤ (h.1 17 0).toInt ∧ (h.1 17 0).toInt ≤ 60 ∧ 1 ≤ (h.1 17 10).toInt) ∨ (z.toInt = 0 ∧ 0 ≤ a0.toInt ∧ a0.toInt ≤ 3 ∧ 1 ≤ (h.1 17 0).toInt ∧ (h.1 17 0).toInt ≤ 60 ∧ 1 ≤ (h.1 17 10).toInt) ∨ (z.toInt = (-2) ∧ 0 ≤ a0.toInt ∧ a0.toInt ≤ 3 ∧ 1 ≤ (h.1 17 0).toInt ∧ (h.1 17 0).toInt ≤ 60 ∧ 1 ≤ (h.1 17 10).toInt))
set_option maxHeartbeats 4000000 in
set_option maxRecDepth 100000 in
theorem k_X8_seenRefusal (h : PH) (hI : INV h) (a0 : Int32) : CALL d_X8_seenRefusal [.inr (.inr (.inl 0)), .inl a0] h (q_X8_seenRefusal h a0) := by
  show RUN d_X8_seenRefusal 0 [(0, .inr (.inr (.inl 0))), (1, .inl a0)] [] h _
  have b1 := i_rng a0
  refine R_aload_n (k := 0) rfl rfl rfl ?_
  refine R_getf_r (j := 6) rfl ft_8_42 sh_0 rfl ?_
  refine R_iload_n (k := 1) rfl rfl rfl ?_
  refine R_callV (v := .inr (.inr (.inl 66))) (As := [.inl a0]) (rest := []) rfl mt_8_i386 pp_X5_isSlot (by decide) rfl rfl rfl (Nat.le_of_ble_eq_true rfl) (Nat.le_of_ble_eq_true rfl) ((k_X5_isSlot h hI a0).mono (fun r2 h3 p4 => ?_))
  obtain ⟨rfl, x5, rfl, q6 | q6 | q6⟩ := p4
  · show RUN d_X8_seenRefusal 8 [(0, .inr (.inr (.inl 0))), (1, .inl a0)] [.inl x5] h _
    refine N_if_eq (a := x5.toInt) 21 rfl rfl rfl (fun c7 => ?_) (fun c7 => ?_)
    · refine R_bipush (-2) rfl rfl ?_
      exact R_iret rfl rfl rfl ⟨rfl, _, rfl, by rw [show ((-2) : Int32).toInt = (-2) from rfl] <;> omega⟩
    · exfalso; omega
  · show RUN d_X8_seenRefusal 8 [(0, .inr (.inr (.inl 0))), (1, .inl a0)] [.inl x5] h _
    refine N_if_eq (a := x5.toInt) 21 rfl rfl rfl (fun c8 => ?_) (fun c8 => ?_)
    · refine R_bipush (-2) rfl rfl ?_
      exact R_iret rfl rfl rfl ⟨rfl, _, rfl, by rw [show ((-2) : Int32).toInt = (-2) from rfl] <;> omega⟩
    · exfalso; omega
  · show RUN d_X8_seenRefusal 8 [(0, .inr (.inr (.inl 0))), (1, .inl a0)] [.inl x5] h _
    refine N_if_eq (a := x5.toInt) 21 rfl rfl rfl (fun c9 => ?_) (fun c9 => ?_)
    · exfalso; omega
    · refine R_aload_n (k := 0) rfl rfl rfl ?_
      refine R_getf_r (j := 3) rfl ft_8_28 sh_0 rfl ?_
      have b10 : (0 : Int) ≤ (h.1 17 0).toInt ∧ (h.1 17 0).toInt ≤ 60 := hI.1 17 0
      have e11 : 0 < (h.1 17 10).toInt → 1 ≤ (h.1 17 0).toInt := hI.2.1
      refine R_callV (v := .inr (.inr (.inl 16))) (As := []) (rest := []) rfl mt_8_i146 pp_X1_stands (by decide) rfl rfl rfl (Nat.le_of_ble_eq_true rfl) (Nat.le_of_ble_eq_true rfl) ((k_X1_stands h hI).mono (fun r12 h13 p14 => ?_))
      obtain ⟨rfl, x15, rfl, q16 | q16⟩ := p14
      · show RUN d_X8_seenRefusal 18 [(0, .inr (.inr (.inl 0))), (1, .inl a0)] [.inl x15] h _
        refine N_if_ne (a := x15.toInt) 24 rfl rfl rfl (fun c17 => ?_) (fun c17 => ?_)
        · exfalso; omega
        · refine R_bipush (-2) rfl rfl ?_
          exact R_iret rfl rfl rfl ⟨rfl, _, rfl, by rw [show ((-2) : Int32).toInt = (-2) from rfl] <;> omega⟩
      · show RUN d_X8_seenRefusal 18 [(0, .inr (.inr (.inl 0))), (1, .inl a0)] [.inl x15] h _
        refine N_if_ne (a := x15.toInt) 24 rfl rfl rfl (fun c18 => ?_) (fun c18 => ?_)
        · refine R_aload_n (k := 0) rfl rfl rfl ?_
          refine R_getf_r (j := 6) rfl ft_8_42 sh_0 rfl ?_
          refine R_iload_n (k := 1) rfl rfl rfl ?_
          refine R_callV (v := .inr (.inr (.inl 66))) (As := [.inl a0]) (rest := []) rfl mt_8_i392 pp_X5_hasRow (by decide) rfl rfl rfl (Nat.le_of_ble_eq_true rfl) (Nat.le_of_ble_eq_true rfl) ((k_X5_hasRow h hI a0 (by omega)).mono (fun r19 h20 p21 => ?_))
          obtain ⟨rfl, x22, rfl, q23 | q23⟩ := p21
          · show RUN d_X8_seenRefusal 32 [(0, .inr (.inr (.inl 0))), (1, .inl a0)] [.inl x22] h _
            refine N_if_ne (a := x22.toInt) 38 rfl rfl rfl (fun c24 => ?_) (fun c24 => ?_)
            · exfalso; omega
            · refine R_bipush (-6) rfl rfl ?_
              exact R_iret rfl rfl rfl ⟨rfl, _, rfl, by rw [show ((-6) : Int32).toInt = (-6) from rfl] <;> omega⟩
          · show RUN d_X8_seenRefusal 32 [(0, .inr (.inr (.inl 0))), (1, .inl a0)] [.inl x22] h _
            refine N_if_ne (a := x22.toInt) 38 rfl rfl rfl (fun c25 => ?_) (fun c25 => ?_)
            · refine R_aload_n (k := 0) rfl rfl rfl ?_
              refine R_getf_r (j := 6) rfl ft_8_42 sh_0 rfl ?_
              refine R_getf_r (j := 1) rfl ft_8_395 sh_66 rfl ?_
              refine R_iload_n (k := 1) rfl rfl rfl ?_
              refine R_iald rfl sh_68 ⟨by omega, by omega⟩ ?_
              refine N_bd (lo := (-1)) (hi := 60) (hI.1 68 _) (fun x26 q27 => ?_)
              refine R_istore_n (k := 2) rfl [(2, .inl x26), (0, .inr (.inr (.inl 0))), (1, .inl a0)] rfl rfl (by decide) ?_
              refine R_iload_n (k := 2) rfl rfl rfl ?_
              refine R_iconst 2 rfl rfl ?_
              refine R_irem rfl (by decide) ?_
              refine N_any (fun x28 => ?_)
              refine N_if_eq (a := x28.toInt) 57 rfl rfl rfl (fun c29 => ?_) (fun c29 => ?_)
              · refine R_iconst 0 rfl rfl ?_
                refine R_istore_n (k := 3) rfl [(3, .inl 0), (2, .inl x26), (0, .inr (.inr (.inl 0))), (1, .inl a0)] rfl rfl (by decide) ?_
                have lp31 : ∀ (n30 : Nat) (x32 : Int32), 0 ≤ x32.toInt ∧ x32.toInt ≤ 60 → x32.toInt ≤ x26.toInt + 1 → (60 - x32.toInt).toNat < n30 → RUN d_X8_seenRefusal 59 [(3, .inl x32), (2, .inl x26), (0, .inr (.inr (.inl 0))), (1, .inl a0)] [] h (q_X8_seenRefusal h a0) := by
                  intro n30
                  induction n30 with
                  | zero => intro x32 m34 m35 hz; exact absurd hz (Nat.not_lt_zero _)
                  | succ n30 ih33 =>
                    intro x32 m34 m35 hz
                    refine R_iload_n (k := 3) rfl rfl rfl ?_
                    refine R_iconst 1 rfl rfl ?_
                    refine N_iadd (a := x32.toInt) (b := 1) rfl rfl (by decide) (by omega) (fun x36 q37 => ?_)
                    refine R_iload_n (k := 2) rfl rfl rfl ?_
                    refine N_icmp_ge (a := x36.toInt) (b := x26.toInt) 138 rfl rfl rfl rfl (fun c38 => ?_) (fun c38 => ?_)
                    · refine R_iconst 0 rfl rfl ?_
                      exact R_iret rfl rfl rfl ⟨rfl, _, rfl, by rw [show (0 : Int32).toInt = 0 from rfl] <;> omega⟩
                    · refine R_aload_n (k := 0) rfl rfl rfl ?_
                      refine R_getf_r (j := 6) rfl ft_8_42 sh_0 rfl ?_
                      refine R_iload_n (k := 1) rfl rfl rfl ?_
                      refine R_iload_n (k := 3) rfl rfl rfl ?_
                      refine R_callV (v := .inr (.inr (.inl 66))) (As := [.inl a0, .inl x32]) (rest := []) rfl mt_8_i438 pp_X5_cellOf (by decide) rfl rfl rfl (Nat.le_of_ble_eq_true rfl) (Nat.le_of_ble_eq_true rfl) ((k_X5_cellOf h hI a0 x32 (by omega) (by omega)).mono (fun r39 h40 p41 => ?_))
                      obtain ⟨rfl, w42, rfl⟩ := p41
                      show RUN d_X8_seenRefusal 75 [(3, .inl x32), (2, .inl x26), (0, .inr (.inr (.inl 0))), (1, .inl a0)] [.inr (.inl w42)] h _
                      refine R_lstore (k := 4) [(4, .inr (.inl w42)), (3, .inl x32), (2, .inl x26), (0, .inr (.inr (.inl 0))), (1, .inl a0)] rfl rfl (by decide) ?_
                      refine R_aload_n (k := 0) rfl rfl rfl ?_
                      refine R_getf_r (j := 6) rfl ft_8_42 sh_0 rfl ?_
                      refine R_iload_n (k := 1) rfl rfl rfl ?_
                      refine R_iload_n (k := 3) rfl rfl rfl ?_
                      refine R_iconst 1 rfl rfl ?_
                      refine N_iadd (a := x32.toInt) (b := 1) rfl rfl (by decide) (by omega) (fun x43 q44 => ?_)
                      refine R_callV (v := .inr (.inr (.inl 66))) (As := [.inl a0, .inl x43]) (rest := []) rfl mt_8_i438 pp_X5_cellOf (by decide) rfl rfl rfl (Nat.le_of_ble_eq_true rfl) (Nat.le_of_ble_eq_true rfl) ((k_X5_cellOf h hI a0 x43 (by omega) (by omega)).mono (fun r45 h46 p47 => ?_))
                      obtain ⟨rfl, w48, rfl⟩ := p47
                      show RUN d_X8_seenRefusal 88 [(4, .inr (.inl w42)), (3, .inl x32), (2, .inl x26), (0, .inr (.inr (.inl 0))), (1, .inl a0)] [.inr (.inl w48)] h _
                      refine R_lstore (k := 6) [(6, .inr (.inl w48)), (4, .inr (.inl w42)), (3, .inl x32), (2, .inl x26), (0, .inr (.inr (.inl 0))), (1, .inl a0)] rfl rfl (by decide) ?_
                      refine R_lload (k := 4) rfl rfl ?_
                      refine R_lconst 0 rfl rfl ?_
                      refine N_lcmp (a := w42.toInt) (b := 0) rfl rfl (by decide) (fun x49 q50 => ?_)
                      refine N_if_lt (a := x49.toInt) 129 rfl rfl rfl (fun c51 => ?_) (fun c51 => ?_)
                      · refine R_bipush (-2) rfl rfl ?_
                        exact R_iret rfl rfl rfl ⟨rfl, _, rfl, by rw [show ((-2) : Int32).toInt = (-2) from rfl] <;> omega⟩
                      · refine R_lload (k := 4) rfl rfl ?_
                        refine R_aload_n (k := 0) rfl rfl rfl ?_
                        refine R_getf_r (j := 3) rfl ft_8_28 sh_0 rfl ?_
                        refine R_getf_r (j := 0) rfl ft_8_109 sh_16 rfl ?_
                        refine R_iconst 0 rfl rfl ?_
                        refine R_iald rfl sh_17 (by decide) ?_
                        show RUN d_X8_seenRefusal 108 [(6, .inr (.inl w48)), (4, .inr (.inl w42)), (3, .inl x32), (2, .inl x26), (0, .inr (.inr (.inl 0))), (1, .inl a0)] [.inl (h.1 17 0), .inr (.inl w42)] h _
                        refine N_i2l rfl (fun w52 q53 => ?_)
                        refine N_lcmp (a := w42.toInt) (b := w52.toInt) rfl rfl rfl (fun x54 q55 => ?_)
                        refine N_if_ge (a := x54.toInt) 129 rfl rfl rfl (fun c56 => ?_) (fun c56 => ?_)
                        · refine R_bipush (-2) rfl rfl ?_
                          exact R_iret rfl rfl rfl ⟨rfl, _, rfl, by rw [show ((-2) : Int32).toInt = (-2) from rfl] <;> omega⟩
                        · refine R_lload (k := 6) rfl rfl ?_
                          refine R_lconst 0 rfl rfl ?_
                          refine N_lcmp (a := w48.toInt) (b := 0) rfl rfl (by decide) (fun x57 q58 => ?_)
                          refine N_if_lt (a := x57.toInt) 129 rfl rfl rfl (fun c59 => ?_) (fun c59 => ?_)
                          · refine R_bipush (-2) rfl rfl ?_
                            exact R_iret rfl rfl rfl ⟨rfl, _, rfl, by rw [show ((-2) : Int32).toInt = (-2) from rfl] <;> omega⟩
                          · refine R_lload (k := 6) rfl rfl ?_
                            refine R_ldc2 (x := 99) rfl kt_8_441 ?_
                            refine N_lcmp (a := w48.toInt) (b := 99) rfl rfl (by decide) (fun x60 q61 => ?_)
                            refine N_if_le (a := x60.toInt) 132 rfl rfl rfl (fun c62 => ?_) (fun c62 => ?_)
                            · refine N_iinc (a := x32.toInt) (c := 2) (fun w => [(3, .inl w), (6, .inr (.inl w48)), (4, .inr (.inl w42)), (2, .inl x26), (0, .inr (.inr (.inl 0))), (1, .inl a0)]) rfl rfl (fun _ => rfl) (by decide) rfl (by decide) (by omega) (fun x63 q64 => ?_)
                              refine R_goto 59 rfl rfl ?_
                              exact RUN_weak (psub_cons rfl (psub_cons rfl (psub_cons rfl (psub_cons rfl (psub_nil _))))) (ih33 x63 (by omega) (by omega) (by omega))
                            · refine R_bipush (-2) rfl rfl ?_
                              exact R_iret rfl rfl rfl ⟨rfl, _, rfl, by rw [show ((-2) : Int32).toInt = (-2) from rfl] <;> omega⟩
                have k65 : (0 : Int32).toInt = 0 := by decide
                exact lp31 _ (0 : Int32) (by decide) (by omega) (Nat.lt_succ_self _)
              · refine R_bipush (-2) rfl rfl ?_
                exact R_iret rfl rfl rfl ⟨rfl, _, rfl, by rw [show ((-2) : Int32).toInt = (-2) from rfl] <;> omega⟩
            · exfalso; omega
        · exfalso; omega
abbrev q_X9_isSlot (h : PH) (a0 : Int32) : Option PV → PH → Prop := fun r h' => h = h' ∧ ∃ z : Int32, r = some (.inl z) ∧ ((z.toInt = 0 ∧ a0.toInt ≤ (-1)) ∨ (z.toInt = 0 ∧ 4 ≤ a0.toInt) ∨ (z.toInt = 1 ∧ 0 ≤ a0.toInt ∧ a0.toInt ≤ 3))
set_option maxHeartbeats 4000000 in
set_option maxRecDepth 100000 in
theorem k_X9_isSlot (h : PH) (hI : INV h) (a0 : Int32) : CALL d_X9_isSlot [.inl a0] h (q_X9_isSlot h a0) := by
  show RUN d_X9_isSlot 0 [(0, .inl a0)] [] h _
  have b1 := i_rng a0
  refine R_iload_n (k := 0) rfl rfl rfl ?_
  refine N_i2l rfl (fun w2 q3 => ?_)
  refine R_lconst 0 rfl rfl ?_
  refine R_ldc2 (x := 3) rfl kt_9_529 ?_
  have k4 : (0 : Int64).toInt = 0 := by decide
  have k5 : (3 : Int64).toInt = 3 := by decide
  refine R_callS (As := [.inr (.inl w2), .inr (.inl 0), .inr (.inl 3)]) (rest := []) rfl mt_9_i125 (by decide) pp_X9_in (by decide) rfl rfl (Nat.le_of_ble_eq_true rfl) (Nat.le_of_ble_eq_true rfl) ((k_X9_in h hI w2 (0 : Int64) (3 : Int64)).mono (fun r6 h7 p8 => ?_))
  obtain ⟨rfl, x9, rfl, q10 | q10 | q10⟩ := p8
  · show RUN d_X9_isSlot 9 [(0, .inl a0)] [.inl x9] h _
    exact R_iret rfl rfl (nar_z (by omega)) ⟨rfl, _, rfl, by omega⟩
  · show RUN d_X9_isSlot 9 [(0, .inl a0)] [.inl x9] h _
    exact R_iret rfl rfl (nar_z (by omega)) ⟨rfl, _, rfl, by omega⟩
  · show RUN d_X9_isSlot 9 [(0, .inl a0)] [.inl x9] h _
    exact R_iret rfl rfl (nar_z (by omega)) ⟨rfl, _, rfl, by omega⟩
abbrev q_X9_numberAt (h : PH) (a0 : Int32) (a1 : Int32) : Option PV → PH → Prop := fun r h' => h = h' ∧ ∃ z : Int64, r = some (.inr (.inl z))
set_option maxHeartbeats 4000000 in
set_option maxRecDepth 100000 in
theorem k_X9_numberAt (h : PH) (hI : INV h) (a0 : Int32) (a1 : Int32) (h0a : 0 ≤ a0.toInt ∧ a0.toInt ≤ 3) (h1a : 0 ≤ a1.toInt ∧ a1.toInt ≤ 59) : CALL d_X9_numberAt [.inr (.inr (.inl 96)), .inl a0, .inl a1] h (q_X9_numberAt h a0 a1) := by
  show RUN d_X9_numberAt 0 [(0, .inr (.inr (.inl 96))), (1, .inl a0), (2, .inl a1)] [] h _
  refine R_aload_n (k := 0) rfl rfl rfl ?_
  refine R_getf_r (j := 59) rfl ft_9_113 sh_96 rfl ?_
  refine R_bipush 60 rfl rfl ?_
  refine R_iload_n (k := 1) rfl rfl rfl ?_
  refine N_imul (a := 60) (b := a0.toInt) rfl (by decide) rfl (by omega) (fun x1 q2 => ?_)
  refine R_iload_n (k := 2) rfl rfl rfl ?_
  refine N_iadd (a := x1.toInt) (b := a1.toInt) rfl rfl rfl (by omega) (fun x3 q4 => ?_)
  refine R_lald rfl sh_129 ⟨by omega, by omega⟩ ?_
  refine N_anyL (fun w5 => ?_)
  exact R_lret rfl rfl ⟨rfl, _, rfl⟩
abbrev q_X3_placesOf (h : PH) (a0 : Int32) (a1 : Int32) : Option PV → PH → Prop := fun r h' => h = h' ∧ ∃ z : Int32, r = some (.inl z) ∧ ((True))
set_option maxHeartbeats 4000000 in
set_option maxRecDepth 100000 in
theorem k_X3_placesOf (h : PH) (hI : INV h) (a0 : Int32) (a1 : Int32) (h0a : 0 ≤ a0.toInt ∧ a0.toInt ≤ 5) (h1a : 1 ≤ a1.toInt ∧ a1.toInt ≤ 6) : CALL d_X3_placesOf [.inr (.inr (.inl 87)), .inl a0, .inl a1] h (q_X3_placesOf h a0 a1) := by
  show RUN d_X3_placesOf 0 [(0, .inr (.inr (.inl 87))), (1, .inl a0), (2, .inl a1)] [] h _
  refine R_iconst 0 rfl rfl ?_
  refine R_istore_n (k := 3) rfl [(3, .inl 0), (0, .inr (.inr (.inl 87))), (1, .inl a0), (2, .inl a1)] rfl rfl (by decide) ?_
  refine R_iconst 0 rfl rfl ?_
  refine R_istore (k := 4) [(4, .inl 0), (3, .inl 0), (0, .inr (.inr (.inl 87))), (1, .inl a0), (2, .inl a1)] rfl rfl (by decide) ?_
  have lp2 : ∀ (n1 : Nat) (x3 : Int32) (x4 : Int32), 0 ≤ x4.toInt ∧ x4.toInt ≤ 720 → (720 - x4.toInt).toNat < n1 → RUN d_X3_placesOf 5 [(4, .inl x4), (3, .inl x3), (0, .inr (.inr (.inl 87))), (1, .inl a0), (2, .inl a1)] [] h (q_X3_placesOf h a0 a1) := by
    intro n1
    induction n1 with
    | zero => intro x3 x4 m6 hz; exact absurd hz (Nat.not_lt_zero _)
    | succ n1 ih5 =>
      intro x3 x4 m6 hz
      refine R_iload (k := 4) rfl rfl ?_
      refine R_aload_n (k := 0) rfl rfl rfl ?_
      refine R_getf_i (j := 8) rfl ft_3_38 sh_87 rfl ?_
      have b7 : (0 : Int) ≤ (h.1 87 8).toInt ∧ (h.1 87 8).toInt ≤ 720 := hI.1 87 8
      refine N_icmp_ge (a := x4.toInt) (b := (h.1 87 8).toInt) 59 rfl rfl rfl rfl (fun c8 => ?_) (fun c8 => ?_)
      · refine R_iload_n (k := 3) rfl rfl rfl ?_
        exact R_iret rfl rfl rfl ⟨rfl, _, rfl, trivial⟩
      · refine R_iconst 0 rfl rfl ?_
        refine R_istore (k := 5) [(5, .inl 0), (4, .inl x4), (3, .inl x3), (0, .inr (.inr (.inl 87))), (1, .inl a0), (2, .inl a1)] rfl rfl (by decide) ?_
        have lp10 : ∀ (n9 : Nat) (x11 : Int32) (x12 : Int32), 0 ≤ x12.toInt ∧ x12.toInt ≤ 6 → (6 - x12.toInt).toNat < n9 → RUN d_X3_placesOf 17 [(5, .inl x12), (4, .inl x4), (3, .inl x11), (0, .inr (.inr (.inl 87))), (1, .inl a0), (2, .inl a1)] [] h (q_X3_placesOf h a0 a1) := by
          intro n9
          induction n9 with
          | zero => intro x11 x12 m14 hz; exact absurd hz (Nat.not_lt_zero _)
          | succ n9 ih13 =>
            intro x11 x12 m14 hz
            refine R_iload (k := 5) rfl rfl ?_
            refine R_iload_n (k := 2) rfl rfl rfl ?_
            refine N_icmp_ge (a := x12.toInt) (b := a1.toInt) 53 rfl rfl rfl rfl (fun c15 => ?_) (fun c15 => ?_)
            · refine N_iinc (a := x4.toInt) (c := 1) (fun w => [(4, .inl w), (5, .inl x12), (3, .inl x11), (0, .inr (.inr (.inl 87))), (1, .inl a0), (2, .inl a1)]) rfl rfl (fun _ => rfl) (by decide) rfl (by decide) (by omega) (fun x16 q17 => ?_)
              refine R_goto 5 rfl rfl ?_
              exact RUN_weak (psub_cons rfl (psub_cons rfl (psub_cons rfl (psub_cons rfl (psub_cons rfl (psub_nil _)))))) (ih5 x11 x16 (by omega) (by omega))
            · refine R_aload_n (k := 0) rfl rfl rfl ?_
              refine R_aload_n (k := 0) rfl rfl rfl ?_
              refine R_getf_r (j := 4) rfl ft_3_25 sh_87 rfl ?_
              refine R_iload (k := 4) rfl rfl ?_
              refine R_iald rfl sh_92 ⟨by omega, by omega⟩ ?_
              refine N_bd (lo := 0) (hi := 719) (hI.1 92 _) (fun x18 q19 => ?_)
              refine R_iload (k := 5) rfl rfl ?_
              refine R_callV (v := .inr (.inr (.inl 87))) (As := [.inl x18, .inl x12]) (rest := []) rfl mt_3_i67 pp_X3_handAt (by decide) rfl rfl rfl (Nat.le_of_ble_eq_true rfl) (Nat.le_of_ble_eq_true rfl) ((k_X3_handAt h hI x18 x12 (by omega) (by omega)).mono (fun r20 h21 p22 => ?_))
              obtain ⟨rfl, x23, rfl, q24⟩ := p22
              show RUN d_X3_placesOf 36 [(5, .inl x12), (4, .inl x4), (3, .inl x11), (0, .inr (.inr (.inl 87))), (1, .inl a0), (2, .inl a1)] [.inl x23] h _
              refine R_iload_n (k := 1) rfl rfl rfl ?_
              refine N_icmp_ne (a := x23.toInt) (b := a0.toInt) 47 rfl rfl rfl rfl (fun c25 => ?_) (fun c25 => ?_)
              · refine N_iinc (a := x12.toInt) (c := 1) (fun w => [(5, .inl w), (4, .inl x4), (3, .inl x11), (0, .inr (.inr (.inl 87))), (1, .inl a0), (2, .inl a1)]) rfl rfl (fun _ => rfl) (by decide) rfl (by decide) (by omega) (fun x26 q27 => ?_)
                refine R_goto 17 rfl rfl ?_
                exact RUN_weak (psub_cons rfl (psub_cons rfl (psub_cons rfl (psub_cons rfl (psub_cons rfl (psub_cons rfl (psub_nil _))))))) (ih13 x11 x26 (by omega) (by omega))
              · refine R_iload_n (k := 3) rfl rfl rfl ?_
                refine R_iconst 1 rfl rfl ?_
                refine R_iload (k := 5) rfl rfl ?_
                refine N_ishl1 (b := x12.toInt) rfl rfl (by omega) (fun x28 q29 => ?_)
                refine R_ior rfl ?_
                refine N_any (fun x30 => ?_)
                refine R_istore_n (k := 3) rfl [(3, .inl x30), (5, .inl x12), (4, .inl x4), (0, .inr (.inr (.inl 87))), (1, .inl a0), (2, .inl a1)] rfl rfl (by decide) ?_
                refine N_iinc (a := x12.toInt) (c := 1) (fun w => [(5, .inl w), (3, .inl x30), (4, .inl x4), (0, .inr (.inr (.inl 87))), (1, .inl a0), (2, .inl a1)]) rfl rfl (fun _ => rfl) (by decide) rfl (by decide) (by omega) (fun x31 q32 => ?_)
                refine R_goto 17 rfl rfl ?_
                exact RUN_weak (psub_cons rfl (psub_cons rfl (psub_cons rfl (psub_cons rfl (psub_cons rfl (psub_cons rfl (psub_nil _))))))) (ih13 x30 x31 (by omega) (by omega))
        exact lp10 _ x3 (0 : Int32) (by decide) (Nat.lt_succ_self _)
  exact lp2 _ (0 : Int32) (0 : Int32) (by decide) (Nat.lt_succ_self _)
abbrev q_X9_askOf (h : PH)  : Option PV → PH → Prop := fun r h' => INV h' ∧ FR [96] h h' ∧ (True) ∧ ∃ z : Int32, r = some (.inl z) ∧ (((-1) ≤ z.toInt ∧ z.toInt ≤ 59))
set_option maxHeartbeats 4000000 in
set_option maxRecDepth 100000 in
theorem k_X9_askOf (h : PH) (hI : INV h)  : CALL d_X9_askOf [.inr (.inr (.inl 96))] h (q_X9_askOf h) := by
  show RUN d_X9_askOf 0 [(0, .inr (.inr (.inl 96)))] [] h _
  have fr : FR [96] h h := FR.rf _ _
  refine R_aload_n (k := 0) rfl rfl rfl ?_
  refine R_aload_n (k := 0) rfl rfl rfl ?_
  refine R_getf_i (j := 51) rfl ft_9_445 sh_96 rfl ?_
  have b1 : (0 : Int) ≤ (h.1 96 51).toInt ∧ (h.1 96 51).toInt ≤ 720 := hI.1 96 51
  refine K_putf (j := 52) (lo := (-2147483648)) (hi' := 2147483647) rfl ft_9_454 sh_96 rfl hI (by decide) rfl (i_rng _) fr (by decide) (fun h2 g3 hI fr => ?_)
  have s4 : (h2.1 96 51).toInt = (h.1 96 51).toInt := by rw [g3, wI_at (by decide)]
  have s5 : (h2.1 96 52).toInt = (h.1 96 51).toInt := by rw [g3, wI_is]
  refine R_iconst (-1) rfl rfl ?_
  refine R_istore_n (k := 1) rfl [(1, .inl (-1)), (0, .inr (.inr (.inl 96)))] rfl rfl (by decide) ?_
  refine R_iconst 0 rfl rfl ?_
  refine R_istore_n (k := 2) rfl [(2, .inl 0), (1, .inl (-1)), (0, .inr (.inr (.inl 96)))] rfl rfl (by decide) ?_
  have lp7 : ∀ (n6 : Nat) (h8 : PH) (x10 : Int32) (x11 : Int32), INV h8 → FR [96] h h8 → FR [96] h2 h8 → (-1) ≤ x10.toInt ∧ x10.toInt ≤ 59 → 0 ≤ x11.toInt ∧ x11.toInt ≤ 60 → (h8.1 96 51).toInt = (h2.1 96 51).toInt → 0 ≤ (h8.1 96 52).toInt ∧ (h8.1 96 52).toInt ≤ 720 → x10.toInt ≤ x11.toInt + (-1) → (h8.1 96 52).toInt ≤ (h2.1 96 51).toInt + 0 → (60 - x11.toInt).toNat < n6 → RUN d_X9_askOf 12 [(2, .inl x11), (1, .inl x10), (0, .inr (.inr (.inl 96)))] [] h8 (q_X9_askOf h) := by
    intro n6
    induction n6 with
    | zero => intro h8 x10 x11 m13 m14 m15 m16 m17 m18 m19 m20 m21 hz; exact absurd hz (Nat.not_lt_zero _)
    | succ n6 ih12 =>
      intro h8 x10 x11 hI fr fl9 m16 m17 m18 m19 m20 m21 hz
      refine R_iload_n (k := 2) rfl rfl rfl ?_
      refine R_aload_n (k := 0) rfl rfl rfl ?_
      have b22 : (0 : Int) ≤ (h8.1 97 0).toInt ∧ (h8.1 97 0).toInt ≤ 60 := hI.1 97 0
      refine R_callV (v := .inr (.inr (.inl 96))) (As := []) (rest := [.inl x11]) rfl mt_9_i129 pp_X9_last (by decide) rfl rfl rfl (Nat.le_of_ble_eq_true rfl) (Nat.le_of_ble_eq_true rfl) ((k_X9_last h8 hI).mono (fun r23 h24 p25 => ?_))
      obtain ⟨rfl, x26, rfl, q27⟩ := p25
      show RUN d_X9_askOf 17 [(2, .inl x11), (1, .inl x10), (0, .inr (.inr (.inl 96)))] [.inl x26, .inl x11] h8 _
      refine N_icmp_gt (a := x11.toInt) (b := x26.toInt) 117 rfl rfl rfl rfl (fun c28 => ?_) (fun c28 => ?_)
      · refine R_iload_n (k := 1) rfl rfl rfl ?_
        exact R_iret rfl rfl rfl ⟨hI, fr, trivial, _, rfl, by omega⟩
      · refine R_iconst 0 rfl rfl ?_
        refine R_istore_n (k := 3) rfl [(3, .inl 0), (2, .inl x11), (1, .inl x10), (0, .inr (.inr (.inl 96)))] rfl rfl (by decide) ?_
        refine R_iconst 0 rfl rfl ?_
        refine R_istore (k := 4) [(4, .inl 0), (3, .inl 0), (2, .inl x11), (1, .inl x10), (0, .inr (.inr (.inl 96)))] rfl rfl (by decide) ?_
        have lp30 : ∀ (n29 : Nat) (h31 : PH) (x33 : Int32) (x34 : Int32), INV h31 → FR [96] h h31 → FR [96] h8 h31 → 0 ≤ x33.toInt ∧ x33.toInt ≤ 720 → 0 ≤ x34.toInt ∧ x34.toInt ≤ 61 → (h31.1 96 51).toInt = (h8.1 96 51).toInt → 0 ≤ (h31.1 96 52).toInt ∧ (h31.1 96 52).toInt ≤ 720 → (h31.1 96 52).toInt ≤ (h8.1 96 51).toInt + 0 → (61 - x34.toInt).toNat < n29 → RUN d_X9_askOf 25 [(4, .inl x34), (3, .inl x33), (2, .inl x11), (1, .inl x10), (0, .inr (.inr (.inl 96)))] [] h31 (q_X9_askOf h) := by
          intro n29
          induction n29 with
          | zero => intro h31 x33 x34 m36 m37 m38 m39 m40 m41 m42 m43 hz; exact absurd hz (Nat.not_lt_zero _)
          | succ n29 ih35 =>
            intro h31 x33 x34 hI fr fl32 m39 m40 m41 m42 m43 hz
            have s44 : (h31.1 97 0).toInt = (h8.1 97 0).toInt := by rw [(fl32 97 (by decide)).1]
            have fl9 : FR [96] h2 h31 := fl9.trans fl32 (by decide)
            refine R_iload (k := 4) rfl rfl ?_
            refine R_bipush 60 rfl rfl ?_
            refine N_icmp_gt (a := x34.toInt) (b := 60) 93 rfl rfl rfl (by decide) (fun c45 => ?_) (fun c45 => ?_)
            · refine R_iload_n (k := 3) rfl rfl rfl ?_
              refine R_aload_n (k := 0) rfl rfl rfl ?_
              refine R_getf_i (j := 52) rfl ft_9_454 sh_96 rfl ?_
              refine N_icmp_lt (a := x33.toInt) (b := (h31.1 96 52).toInt) 104 rfl rfl rfl rfl (fun c46 => ?_) (fun c46 => ?_)
              · refine R_aload_n (k := 0) rfl rfl rfl ?_
                refine R_iload_n (k := 3) rfl rfl rfl ?_
                refine K_putf (j := 52) (lo := (-2147483648)) (hi' := 2147483647) rfl ft_9_454 sh_96 rfl hI (by decide) rfl (i_rng _) fr (by decide) (fun h47 g48 hI fr => ?_)
                have fl32 : FR [96] h8 h47 := by rw [g48]; exact FR_wI _ _ fl32 (by decide)
                have fl9 : FR [96] h2 h47 := by rw [g48]; exact FR_wI _ _ fl9 (by decide)
                have s49 : (h47.1 96 51).toInt = (h31.1 96 51).toInt := by rw [g48, wI_at (by decide)]
                have s50 : (h47.1 97 0).toInt = (h31.1 97 0).toInt := by rw [g48, wI_ne _ _ _ (by decide)]
                have s51 : (h47.1 96 52).toInt = x33.toInt := by rw [g48, wI_is]
                refine R_iload_n (k := 2) rfl rfl rfl ?_
                refine R_istore_n (k := 1) rfl [(1, .inl x11), (4, .inl x34), (3, .inl x33), (2, .inl x11), (0, .inr (.inr (.inl 96)))] rfl rfl (by decide) ?_
                refine N_iinc (a := x11.toInt) (c := 1) (fun w => [(2, .inl w), (1, .inl x11), (4, .inl x34), (3, .inl x33), (0, .inr (.inr (.inl 96)))]) rfl rfl (fun _ => rfl) (by decide) rfl (by decide) (by omega) (fun x52 q53 => ?_)
                refine R_goto 12 rfl rfl ?_
                exact RUN_weak (psub_cons rfl (psub_cons rfl (psub_cons rfl (psub_nil _)))) (ih12 h47 x11 x52 hI fr fl9 (by omega) (by omega) (by omega) (by omega) (by omega) (by omega) (by omega))
              · refine R_goto 111 rfl rfl ?_
                refine N_iinc (a := x11.toInt) (c := 1) (fun w => [(2, .inl w), (4, .inl x34), (3, .inl x33), (1, .inl x10), (0, .inr (.inr (.inl 96)))]) rfl rfl (fun _ => rfl) (by decide) rfl (by decide) (by omega) (fun x54 q55 => ?_)
                refine R_goto 12 rfl rfl ?_
                exact RUN_weak (psub_cons rfl (psub_cons rfl (psub_cons rfl (psub_nil _)))) (ih12 h31 x10 x54 hI fr fl9 (by omega) (by omega) (by omega) (by omega) (by omega) (by omega) (by omega))
            · refine R_iconst 0 rfl rfl ?_
              refine R_istore (k := 5) [(5, .inl 0), (4, .inl x34), (3, .inl x33), (2, .inl x11), (1, .inl x10), (0, .inr (.inr (.inl 96)))] rfl rfl (by decide) ?_
              refine R_iconst 0 rfl rfl ?_
              refine R_istore (k := 6) [(6, .inl 0), (5, .inl 0), (4, .inl x34), (3, .inl x33), (2, .inl x11), (1, .inl x10), (0, .inr (.inr (.inl 96)))] rfl rfl (by decide) ?_
              have lp57 : ∀ (n56 : Nat) (x58 : Int32) (x59 : Int32), (-59) ≤ x58.toInt ∧ x58.toInt ≤ 720 → 0 ≤ x59.toInt ∧ x59.toInt ≤ 720 → x58.toInt ≤ x59.toInt + 0 → x34.toInt ≤ x58.toInt + 60 → x33.toInt ≤ x58.toInt + 720 → x11.toInt ≤ x58.toInt + 59 → x10.toInt ≤ x58.toInt + 58 → x58.toInt ≤ (h31.1 96 51).toInt + 0 → (h31.1 96 51).toInt ≤ x58.toInt + 720 → (h31.1 96 52).toInt ≤ x58.toInt + 720 → (h31.1 97 0).toInt ≤ x58.toInt + 60 → x59.toInt ≤ (h31.1 96 51).toInt + 0 → (720 - x59.toInt).toNat < n56 → RUN d_X9_askOf 38 [(6, .inl x59), (5, .inl x58), (4, .inl x34), (3, .inl x33), (2, .inl x11), (1, .inl x10), (0, .inr (.inr (.inl 96)))] [] h31 (q_X9_askOf h) := by
                intro n56
                induction n56 with
                | zero => intro x58 x59 m61 m62 m63 m64 m65 m66 m67 m68 m69 m70 m71 m72 hz; exact absurd hz (Nat.not_lt_zero _)
                | succ n56 ih60 =>
                  intro x58 x59 m61 m62 m63 m64 m65 m66 m67 m68 m69 m70 m71 m72 hz
                  refine R_iload (k := 6) rfl rfl ?_
                  refine R_aload_n (k := 0) rfl rfl rfl ?_
                  refine R_getf_i (j := 51) rfl ft_9_445 sh_96 rfl ?_
                  refine N_icmp_ge (a := x59.toInt) (b := (h31.1 96 51).toInt) 80 rfl rfl rfl rfl (fun c73 => ?_) (fun c73 => ?_)
                  · refine R_iload_n (k := 3) rfl rfl rfl ?_
                    refine R_iload (k := 5) rfl rfl ?_
                    refine N_max (a := x33.toInt) (b := x58.toInt) rfl mt_9_i339 rfl rfl ⟨by decide, by decide, Nat.le_of_ble_eq_true rfl⟩ (fun x74 q75 => ?_)
                    refine R_istore_n (k := 3) rfl [(3, .inl x74), (6, .inl x59), (5, .inl x58), (4, .inl x34), (2, .inl x11), (1, .inl x10), (0, .inr (.inr (.inl 96)))] rfl rfl (by decide) ?_
                    refine N_iinc (a := x34.toInt) (c := 1) (fun w => [(4, .inl w), (3, .inl x74), (6, .inl x59), (5, .inl x58), (2, .inl x11), (1, .inl x10), (0, .inr (.inr (.inl 96)))]) rfl rfl (fun _ => rfl) (by decide) rfl (by decide) (by omega) (fun x76 q77 => ?_)
                    refine R_goto 25 rfl rfl ?_
                    exact RUN_weak (psub_cons rfl (psub_cons rfl (psub_cons rfl (psub_cons rfl (psub_cons rfl (psub_nil _)))))) (ih35 h31 x74 x76 hI fr fl32 (by omega) (by omega) (by omega) (by omega) (by omega) (by omega))
                  · refine R_iload (k := 5) rfl rfl ?_
                    refine R_aload_n (k := 0) rfl rfl rfl ?_
                    refine R_getf_r (j := 50) rfl ft_9_101 sh_96 rfl ?_
                    refine R_bipush 60 rfl rfl ?_
                    refine R_iload (k := 6) rfl rfl ?_
                    refine N_imul (a := 60) (b := x59.toInt) rfl (by decide) rfl (by omega) (fun x78 q79 => ?_)
                    refine R_iload_n (k := 2) rfl rfl rfl ?_
                    refine N_iadd (a := x78.toInt) (b := x11.toInt) rfl rfl rfl (by omega) (fun x80 q81 => ?_)
                    refine R_bald rfl sh_125 ⟨by omega, by omega⟩ ?_
                    refine N_any (fun x82 => ?_)
                    refine R_iload (k := 4) rfl rfl ?_
                    refine N_icmp_ne (a := x82.toInt) (b := x34.toInt) 70 rfl rfl rfl rfl (fun c83 => ?_) (fun c83 => ?_)
                    · refine R_iconst 0 rfl rfl ?_
                      refine N_iadd (a := x58.toInt) (b := 0) rfl rfl (by decide) (by omega) (fun x84 q85 => ?_)
                      refine R_istore (k := 5) [(5, .inl x84), (6, .inl x59), (4, .inl x34), (3, .inl x33), (2, .inl x11), (1, .inl x10), (0, .inr (.inr (.inl 96)))] rfl rfl (by decide) ?_
                      refine N_iinc (a := x59.toInt) (c := 1) (fun w => [(6, .inl w), (5, .inl x84), (4, .inl x34), (3, .inl x33), (2, .inl x11), (1, .inl x10), (0, .inr (.inr (.inl 96)))]) rfl rfl (fun _ => rfl) (by decide) rfl (by decide) (by omega) (fun x86 q87 => ?_)
                      refine R_goto 38 rfl rfl ?_
                      exact RUN_weak (psub_cons rfl (psub_cons rfl (psub_cons rfl (psub_cons rfl (psub_cons rfl (psub_cons rfl (psub_cons rfl (psub_nil _)))))))) (ih60 x84 x86 (by omega) (by omega) (by omega) (by omega) (by omega) (by omega) (by omega) (by omega) (by omega) (by omega) (by omega) (by omega) (by omega))
                    · refine R_iconst 1 rfl rfl ?_
                      refine R_goto 71 rfl rfl ?_
                      refine N_iadd (a := x58.toInt) (b := 1) rfl rfl (by decide) (by omega) (fun x88 q89 => ?_)
                      refine R_istore (k := 5) [(5, .inl x88), (6, .inl x59), (4, .inl x34), (3, .inl x33), (2, .inl x11), (1, .inl x10), (0, .inr (.inr (.inl 96)))] rfl rfl (by decide) ?_
                      refine N_iinc (a := x59.toInt) (c := 1) (fun w => [(6, .inl w), (5, .inl x88), (4, .inl x34), (3, .inl x33), (2, .inl x11), (1, .inl x10), (0, .inr (.inr (.inl 96)))]) rfl rfl (fun _ => rfl) (by decide) rfl (by decide) (by omega) (fun x90 q91 => ?_)
                      refine R_goto 38 rfl rfl ?_
                      exact RUN_weak (psub_cons rfl (psub_cons rfl (psub_cons rfl (psub_cons rfl (psub_cons rfl (psub_cons rfl (psub_cons rfl (psub_nil _)))))))) (ih60 x88 x90 (by omega) (by omega) (by omega) (by omega) (by omega) (by omega) (by omega) (by omega) (by omega) (by omega) (by omega) (by omega) (by omega))
              have k92 : (0 : Int32).toInt = 0 := by decide
              have k93 : (0 : Int32).toInt = 0 := by decide
              exact lp57 _ (0 : Int32) (0 : Int32) (by decide) (by decide) (by omega) (by omega) (by omega) (by omega) (by omega) (by omega) (by omega) (by omega) (by omega) (by omega) (Nat.lt_succ_self _)
        have k94 : (0 : Int32).toInt = 0 := by decide
        have k95 : (0 : Int32).toInt = 0 := by decide
        exact lp30 _ h8 (0 : Int32) (0 : Int32) hI fr (FR.rf _ _) (by decide) (by decide) rfl (by omega) (by omega) (Nat.lt_succ_self _)
  have k96 : ((-1) : Int32).toInt = (-1) := by decide
  have k97 : (0 : Int32).toInt = 0 := by decide
  exact lp7 _ h2 ((-1) : Int32) (0 : Int32) hI fr (FR.rf _ _) (by decide) (by decide) rfl (by omega) (by omega) (by omega) (Nat.lt_succ_self _)
