abbrev q_X9_goPlace (h : PH) (a0 : Int32) (a1 : Int32) : Option PV → PH → Prop := fun r h' => INV h' ∧ FR [96, 107, 108, 109, 117, 118] h h' ∧ ((h'.1 96 18).toInt = (h.1 96 18).toInt ∧ (h'.1 96 41).toInt = (h.1 96 41).toInt ∧ (h'.1 96 42).toInt = (h.1 96 42).toInt ∧ (h'.1 96 19).toInt = (h.1 96 19).toInt ∧ (h'.1 96 20).toInt = (h.1 96 20).toInt ∧ (h'.1 96 46).toInt = (h.1 96 46).toInt ∧ (h'.1 96 44).toInt = (h.1 96 44).toInt ∧ (h'.1 96 47).toInt = (h.1 96 47).toInt ∧ (h'.1 96 48).toInt = (h.1 96 48).toInt ∧ True) ∧ r = none
set_option maxHeartbeats 4000000 in
set_option maxRecDepth 100000 in
theorem k_X9_goPlace (h : PH) (hI : INV h) (a0 : Int32) (a1 : Int32) (h0a : 0 ≤ a0.toInt ∧ a0.toInt ≤ 5) (h1a : 0 ≤ a1.toInt ∧ a1.toInt ≤ 2147483647) (pr0 : a0.toInt ≤ (h.1 96 18).toInt + (-1)) : CALL d_X9_goPlace [.inr (.inr (.inl 96)), .inl a0, .inl a1] h (q_X9_goPlace h a0 a1) := by
  show RUN d_X9_goPlace 0 [(0, .inr (.inr (.inl 96))), (1, .inl a0), (2, .inl a1)] [] h _
  have fr : FR [96, 107, 108, 109, 117, 118] h h := FR.rf _ _
  have b1 : (0 : Int) ≤ (h.1 96 18).toInt ∧ (h.1 96 18).toInt ≤ 6 := hI.1 96 18
  have b2 : (0 : Int) ≤ (h.1 96 51).toInt ∧ (h.1 96 51).toInt ≤ 720 := hI.1 96 51
  refine R_aload_n (k := 0) rfl rfl rfl ?_
  refine R_getf_r (j := 17) rfl ft_9_40 sh_96 rfl ?_
  refine R_iload_n (k := 1) rfl rfl rfl ?_
  refine R_iald rfl sh_105 ⟨by omega, by omega⟩ ?_
  refine N_bd (lo := 0) (hi := 5) (hI.1 105 _) (fun x3 q4 => ?_)
  refine R_istore_n (k := 3) rfl [(3, .inl x3), (0, .inr (.inr (.inl 96))), (1, .inl a0), (2, .inl a1)] rfl rfl (by decide) ?_
  refine R_aload_n (k := 0) rfl rfl rfl ?_
  refine R_getf_r (j := 22) rfl ft_9_46 sh_96 rfl ?_
  refine R_iload_n (k := 3) rfl rfl rfl ?_
  refine R_iald rfl sh_107 ⟨by omega, by omega⟩ ?_
  refine N_any (fun x5 => ?_)
  refine R_aload_n (k := 0) rfl rfl rfl ?_
  refine R_getf_r (j := 15) rfl ft_9_34 sh_96 rfl ?_
  refine R_iload_n (k := 3) rfl rfl rfl ?_
  refine R_iald rfl sh_103 ⟨by omega, by omega⟩ ?_
  refine N_any (fun x6 => ?_)
  refine N_icmp_lt (a := x5.toInt) (b := x6.toInt) 31 rfl rfl rfl rfl (fun c7 => ?_) (fun c7 => ?_)
  · exact R_vret rfl rfl ⟨hI, fr, ⟨by omega, by omega, by omega, by omega, by omega, by omega, by omega, by omega, by omega, trivial⟩, rfl⟩
  · refine R_aload_n (k := 0) rfl rfl rfl ?_
    refine R_iload_n (k := 3) rfl rfl rfl ?_
    refine R_iload_n (k := 2) rfl rfl rfl ?_
    have b8 := i_rng a1
    refine R_callV (v := .inr (.inr (.inl 96))) (As := [.inl x3, .inl a1]) (rest := []) rfl mt_9_i271 pp_X9_doesRest (by decide) rfl rfl rfl (Nat.le_of_ble_eq_true rfl) (Nat.le_of_ble_eq_true rfl) ((k_X9_doesRest h hI x3 a1 (by omega) (by omega)).mono (fun r9 h10 p11 => ?_))
    obtain ⟨rfl, x12, rfl, q13 | q13 | q13⟩ := p11
    · show RUN d_X9_goPlace 28 [(3, .inl x3), (0, .inr (.inr (.inl 96))), (1, .inl a0), (2, .inl a1)] [.inl x12] h _
      refine N_if_eq (a := x12.toInt) 32 rfl rfl rfl (fun c14 => ?_) (fun c14 => ?_)
      · refine R_iload_n (k := 1) rfl rfl rfl ?_
        refine R_aload_n (k := 0) rfl rfl rfl ?_
        refine R_getf_i (j := 18) rfl ft_9_253 sh_96 rfl ?_
        refine R_iconst 1 rfl rfl ?_
        refine N_isub (a := (h.1 96 18).toInt) (b := 1) rfl rfl (by decide) (by omega) (fun x15 q16 => ?_)
        refine N_icmp_ne (a := a0.toInt) (b := x15.toInt) 104 rfl rfl rfl rfl (fun c17 => ?_) (fun c17 => ?_)
        · refine R_aload_n (k := 0) rfl rfl rfl ?_
          refine R_getf_r (j := 17) rfl ft_9_40 sh_96 rfl ?_
          refine R_iload_n (k := 1) rfl rfl rfl ?_
          refine R_iconst 1 rfl rfl ?_
          refine N_iadd (a := a0.toInt) (b := 1) rfl rfl (by decide) (by omega) (fun x18 q19 => ?_)
          refine R_iald rfl sh_105 ⟨by omega, by omega⟩ ?_
          refine N_bd (lo := 0) (hi := 5) (hI.1 105 _) (fun x20 q21 => ?_)
          refine R_istore (k := 4) [(4, .inl x20), (3, .inl x3), (0, .inr (.inr (.inl 96))), (1, .inl a0), (2, .inl a1)] rfl rfl (by decide) ?_
          refine R_aload_n (k := 0) rfl rfl rfl ?_
          refine R_getf_r (j := 22) rfl ft_9_46 sh_96 rfl ?_
          refine R_iload (k := 4) rfl rfl ?_
          refine R_iald rfl sh_107 ⟨by omega, by omega⟩ ?_
          refine N_any (fun x22 => ?_)
          refine R_iconst (-1) rfl rfl ?_
          refine N_icmp_ne (a := x22.toInt) (b := (-1)) 135 rfl rfl rfl (by decide) (fun c23 => ?_) (fun c23 => ?_)
          · exact R_vret rfl rfl ⟨hI, fr, ⟨by omega, by omega, by omega, by omega, by omega, by omega, by omega, by omega, by omega, trivial⟩, rfl⟩
          · refine R_aload_n (k := 0) rfl rfl rfl ?_
            refine R_iload (k := 4) rfl rfl ?_
            refine R_iload_n (k := 2) rfl rfl rfl ?_
            have b24 := i_rng a1
            refine R_callV (v := .inr (.inr (.inl 96))) (As := [.inl x20, .inl a1]) (rest := []) rfl mt_9_i271 pp_X9_doesRest (by decide) rfl rfl rfl (Nat.le_of_ble_eq_true rfl) (Nat.le_of_ble_eq_true rfl) ((k_X9_doesRest h hI x20 a1 (by omega) (by omega)).mono (fun r25 h26 p27 => ?_))
            obtain ⟨rfl, x28, rfl, q29 | q29 | q29⟩ := p27
            · show RUN d_X9_goPlace 132 [(4, .inl x20), (3, .inl x3), (0, .inr (.inr (.inl 96))), (1, .inl a0), (2, .inl a1)] [.inl x28] h _
              refine N_if_eq (a := x28.toInt) 136 rfl rfl rfl (fun c30 => ?_) (fun c30 => ?_)
              · refine R_aload_n (k := 0) rfl rfl rfl ?_
                refine R_iload_n (k := 3) rfl rfl rfl ?_
                refine R_callV (v := .inr (.inr (.inl 96))) (As := [.inl x3]) (rest := []) rfl mt_9_i275 pp_X9_spill (by decide) rfl rfl rfl (Nat.le_of_ble_eq_true rfl) (Nat.le_of_ble_eq_true rfl) ((k_X9_spill h hI x3 (by omega)).mono (fun r31 h32 p33 => ?_))
                obtain ⟨hJ, fj, ⟨kp34, kp35, kp36, kp37, kp38, kp39, kp40, kp41, kp42, kp43, kp44, kp45, -⟩, rfl⟩ := p33
                have f46 := fj
                have fr := fr.trans fj (by decide)
                have hI := hJ
                have s47 : (h32.1 109 22).toInt = (h.1 109 22).toInt := by rw [(f46 109 (by decide)).1]
                show RUN d_X9_goPlace 141 [(4, .inl x20), (3, .inl x3), (0, .inr (.inr (.inl 96))), (1, .inl a0), (2, .inl a1)] [] h32 _
                refine R_aload_n (k := 0) rfl rfl rfl ?_
                refine R_getf_r (j := 22) rfl ft_9_46 sh_96 rfl ?_
                refine R_iload (k := 4) rfl rfl ?_
                refine R_iconst 0 rfl rfl ?_
                refine K_iast (a := x20.toInt) (lo := (-2147483648)) (hi' := 2147483647) rfl sh_107 rfl ⟨by omega, by omega⟩ hI (by decide) rfl (by decide) fr (by decide) (fun h48 g49 hI fr => ?_)
                have s50 : (h48.1 96 18).toInt = (h32.1 96 18).toInt := by rw [g49, wI_ne _ _ _ (by decide)]
                have s51 : (h48.1 109 22).toInt = (h32.1 109 22).toInt := by rw [g49, wI_ne _ _ _ (by decide)]
                have s52 : (h48.1 96 34).toInt = (h32.1 96 34).toInt := by rw [g49, wI_ne _ _ _ (by decide)]
                have s53 : (h48.1 96 35).toInt = (h32.1 96 35).toInt := by rw [g49, wI_ne _ _ _ (by decide)]
                have s54 : (h48.1 96 41).toInt = (h32.1 96 41).toInt := by rw [g49, wI_ne _ _ _ (by decide)]
                have s55 : (h48.1 96 42).toInt = (h32.1 96 42).toInt := by rw [g49, wI_ne _ _ _ (by decide)]
                have s56 : (h48.1 96 19).toInt = (h32.1 96 19).toInt := by rw [g49, wI_ne _ _ _ (by decide)]
                have s57 : (h48.1 96 20).toInt = (h32.1 96 20).toInt := by rw [g49, wI_ne _ _ _ (by decide)]
                have s58 : (h48.1 96 46).toInt = (h32.1 96 46).toInt := by rw [g49, wI_ne _ _ _ (by decide)]
                have s59 : (h48.1 96 44).toInt = (h32.1 96 44).toInt := by rw [g49, wI_ne _ _ _ (by decide)]
                have s60 : (h48.1 96 47).toInt = (h32.1 96 47).toInt := by rw [g49, wI_ne _ _ _ (by decide)]
                have s61 : (h48.1 96 48).toInt = (h32.1 96 48).toInt := by rw [g49, wI_ne _ _ _ (by decide)]
                have s62 : (h48.1 96 51).toInt = (h32.1 96 51).toInt := by rw [g49, wI_ne _ _ _ (by decide)]
                refine R_aload_n (k := 0) rfl rfl rfl ?_
                refine R_getf_r (j := 23) rfl ft_9_49 sh_96 rfl ?_
                refine R_iload (k := 4) rfl rfl ?_
                refine R_aload_n (k := 0) rfl rfl rfl ?_
                refine R_getf_r (j := 23) rfl ft_9_49 sh_96 rfl ?_
                refine R_iload_n (k := 3) rfl rfl rfl ?_
                refine R_iald rfl sh_108 ⟨by omega, by omega⟩ ?_
                refine N_any (fun x63 => ?_)
                refine K_iast (a := x20.toInt) (lo := (-2147483648)) (hi' := 2147483647) rfl sh_108 rfl ⟨by omega, by omega⟩ hI (by decide) rfl (i_rng _) fr (by decide) (fun h64 g65 hI fr => ?_)
                have s66 : (h64.1 96 18).toInt = (h48.1 96 18).toInt := by rw [g65, wI_ne _ _ _ (by decide)]
                have s67 : (h64.1 109 22).toInt = (h48.1 109 22).toInt := by rw [g65, wI_ne _ _ _ (by decide)]
                have s68 : (h64.1 96 34).toInt = (h48.1 96 34).toInt := by rw [g65, wI_ne _ _ _ (by decide)]
                have s69 : (h64.1 96 35).toInt = (h48.1 96 35).toInt := by rw [g65, wI_ne _ _ _ (by decide)]
                have s70 : (h64.1 96 41).toInt = (h48.1 96 41).toInt := by rw [g65, wI_ne _ _ _ (by decide)]
                have s71 : (h64.1 96 42).toInt = (h48.1 96 42).toInt := by rw [g65, wI_ne _ _ _ (by decide)]
                have s72 : (h64.1 96 19).toInt = (h48.1 96 19).toInt := by rw [g65, wI_ne _ _ _ (by decide)]
                have s73 : (h64.1 96 20).toInt = (h48.1 96 20).toInt := by rw [g65, wI_ne _ _ _ (by decide)]
                have s74 : (h64.1 96 46).toInt = (h48.1 96 46).toInt := by rw [g65, wI_ne _ _ _ (by decide)]
                have s75 : (h64.1 96 44).toInt = (h48.1 96 44).toInt := by rw [g65, wI_ne _ _ _ (by decide)]
                have s76 : (h64.1 96 47).toInt = (h48.1 96 47).toInt := by rw [g65, wI_ne _ _ _ (by decide)]
                have s77 : (h64.1 96 48).toInt = (h48.1 96 48).toInt := by rw [g65, wI_ne _ _ _ (by decide)]
                have s78 : (h64.1 96 51).toInt = (h48.1 96 51).toInt := by rw [g65, wI_ne _ _ _ (by decide)]
                refine R_aload_n (k := 0) rfl rfl rfl ?_
                refine R_getf_r (j := 22) rfl ft_9_46 sh_96 rfl ?_
                refine R_iload_n (k := 3) rfl rfl rfl ?_
                refine R_iconst (-1) rfl rfl ?_
                refine K_iast (a := x3.toInt) (lo := (-2147483648)) (hi' := 2147483647) rfl sh_107 rfl ⟨by omega, by omega⟩ hI (by decide) rfl (by decide) fr (by decide) (fun h79 g80 hI fr => ?_)
                have s81 : (h79.1 96 18).toInt = (h64.1 96 18).toInt := by rw [g80, wI_ne _ _ _ (by decide)]
                have s82 : (h79.1 109 22).toInt = (h64.1 109 22).toInt := by rw [g80, wI_ne _ _ _ (by decide)]
                have s83 : (h79.1 96 34).toInt = (h64.1 96 34).toInt := by rw [g80, wI_ne _ _ _ (by decide)]
                have s84 : (h79.1 96 35).toInt = (h64.1 96 35).toInt := by rw [g80, wI_ne _ _ _ (by decide)]
                have s85 : (h79.1 96 41).toInt = (h64.1 96 41).toInt := by rw [g80, wI_ne _ _ _ (by decide)]
                have s86 : (h79.1 96 42).toInt = (h64.1 96 42).toInt := by rw [g80, wI_ne _ _ _ (by decide)]
                have s87 : (h79.1 96 19).toInt = (h64.1 96 19).toInt := by rw [g80, wI_ne _ _ _ (by decide)]
                have s88 : (h79.1 96 20).toInt = (h64.1 96 20).toInt := by rw [g80, wI_ne _ _ _ (by decide)]
                have s89 : (h79.1 96 46).toInt = (h64.1 96 46).toInt := by rw [g80, wI_ne _ _ _ (by decide)]
                have s90 : (h79.1 96 44).toInt = (h64.1 96 44).toInt := by rw [g80, wI_ne _ _ _ (by decide)]
                have s91 : (h79.1 96 47).toInt = (h64.1 96 47).toInt := by rw [g80, wI_ne _ _ _ (by decide)]
                have s92 : (h79.1 96 48).toInt = (h64.1 96 48).toInt := by rw [g80, wI_ne _ _ _ (by decide)]
                have s93 : (h79.1 96 51).toInt = (h64.1 96 51).toInt := by rw [g80, wI_ne _ _ _ (by decide)]
                refine R_aload_n (k := 0) rfl rfl rfl ?_
                refine R_getf_r (j := 23) rfl ft_9_49 sh_96 rfl ?_
                refine R_iload_n (k := 3) rfl rfl rfl ?_
                refine R_iconst 0 rfl rfl ?_
                refine K_iast (a := x3.toInt) (lo := (-2147483648)) (hi' := 2147483647) rfl sh_108 rfl ⟨by omega, by omega⟩ hI (by decide) rfl (by decide) fr (by decide) (fun h94 g95 hI fr => ?_)
                have s96 : (h94.1 96 18).toInt = (h79.1 96 18).toInt := by rw [g95, wI_ne _ _ _ (by decide)]
                have s97 : (h94.1 109 22).toInt = (h79.1 109 22).toInt := by rw [g95, wI_ne _ _ _ (by decide)]
                have s98 : (h94.1 96 34).toInt = (h79.1 96 34).toInt := by rw [g95, wI_ne _ _ _ (by decide)]
                have s99 : (h94.1 96 35).toInt = (h79.1 96 35).toInt := by rw [g95, wI_ne _ _ _ (by decide)]
                have s100 : (h94.1 96 41).toInt = (h79.1 96 41).toInt := by rw [g95, wI_ne _ _ _ (by decide)]
                have s101 : (h94.1 96 42).toInt = (h79.1 96 42).toInt := by rw [g95, wI_ne _ _ _ (by decide)]
                have s102 : (h94.1 96 19).toInt = (h79.1 96 19).toInt := by rw [g95, wI_ne _ _ _ (by decide)]
                have s103 : (h94.1 96 20).toInt = (h79.1 96 20).toInt := by rw [g95, wI_ne _ _ _ (by decide)]
                have s104 : (h94.1 96 46).toInt = (h79.1 96 46).toInt := by rw [g95, wI_ne _ _ _ (by decide)]
                have s105 : (h94.1 96 44).toInt = (h79.1 96 44).toInt := by rw [g95, wI_ne _ _ _ (by decide)]
                have s106 : (h94.1 96 47).toInt = (h79.1 96 47).toInt := by rw [g95, wI_ne _ _ _ (by decide)]
                have s107 : (h94.1 96 48).toInt = (h79.1 96 48).toInt := by rw [g95, wI_ne _ _ _ (by decide)]
                have s108 : (h94.1 96 51).toInt = (h79.1 96 51).toInt := by rw [g95, wI_ne _ _ _ (by decide)]
                exact R_vret rfl rfl ⟨hI, fr, ⟨by omega, by omega, by omega, by omega, by omega, by omega, by omega, by omega, by omega, trivial⟩, rfl⟩
              · exfalso; omega
            · exfalso; omega
            · exfalso; omega
        · refine R_aload_n (k := 0) rfl rfl rfl ?_
          refine R_iload_n (k := 3) rfl rfl rfl ?_
          refine R_callV (v := .inr (.inr (.inl 96))) (As := [.inl x3]) (rest := []) rfl mt_9_i275 pp_X9_spill (by decide) rfl rfl rfl (Nat.le_of_ble_eq_true rfl) (Nat.le_of_ble_eq_true rfl) ((k_X9_spill h hI x3 (by omega)).mono (fun r109 h110 p111 => ?_))
          obtain ⟨hJ, fj, ⟨kp112, kp113, kp114, kp115, kp116, kp117, kp118, kp119, kp120, kp121, kp122, kp123, -⟩, rfl⟩ := p111
          have f124 := fj
          have fr := fr.trans fj (by decide)
          have hI := hJ
          have s125 : (h110.1 109 22).toInt = (h.1 109 22).toInt := by rw [(f124 109 (by decide)).1]
          show RUN d_X9_goPlace 47 [(3, .inl x3), (0, .inr (.inr (.inl 96))), (1, .inl a0), (2, .inl a1)] [] h110 _
          refine R_aload_n (k := 0) rfl rfl rfl ?_
          refine R_dup_r rfl ?_
          refine R_getf_i (j := 35) rfl ft_9_265 sh_96 rfl ?_
          refine R_aload_n (k := 0) rfl rfl rfl ?_
          refine R_getf_r (j := 23) rfl ft_9_49 sh_96 rfl ?_
          refine R_iload_n (k := 3) rfl rfl rfl ?_
          refine R_iald rfl sh_108 ⟨by omega, by omega⟩ ?_
          refine N_any (fun x126 => ?_)
          have b127 := i_rng (h110.1 96 35)
          have b128 := i_rng x126
          refine R_iadd rfl ?_
          refine N_any (fun x129 => ?_)
          refine K_putf (j := 35) (lo := (-2147483648)) (hi' := 2147483647) rfl ft_9_265 sh_96 rfl hI (by decide) rfl (i_rng _) fr (by decide) (fun h130 g131 hI fr => ?_)
          have s132 : (h130.1 96 18).toInt = (h110.1 96 18).toInt := by rw [g131, wI_at (by decide)]
          have s133 : (h130.1 109 22).toInt = (h110.1 109 22).toInt := by rw [g131, wI_ne _ _ _ (by decide)]
          have s134 : (h130.1 96 34).toInt = (h110.1 96 34).toInt := by rw [g131, wI_at (by decide)]
          have s135 : (h130.1 96 41).toInt = (h110.1 96 41).toInt := by rw [g131, wI_at (by decide)]
          have s136 : (h130.1 96 42).toInt = (h110.1 96 42).toInt := by rw [g131, wI_at (by decide)]
          have s137 : (h130.1 96 19).toInt = (h110.1 96 19).toInt := by rw [g131, wI_at (by decide)]
          have s138 : (h130.1 96 20).toInt = (h110.1 96 20).toInt := by rw [g131, wI_at (by decide)]
          have s139 : (h130.1 96 46).toInt = (h110.1 96 46).toInt := by rw [g131, wI_at (by decide)]
          have s140 : (h130.1 96 44).toInt = (h110.1 96 44).toInt := by rw [g131, wI_at (by decide)]
          have s141 : (h130.1 96 47).toInt = (h110.1 96 47).toInt := by rw [g131, wI_at (by decide)]
          have s142 : (h130.1 96 48).toInt = (h110.1 96 48).toInt := by rw [g131, wI_at (by decide)]
          have s143 : (h130.1 96 51).toInt = (h110.1 96 51).toInt := by rw [g131, wI_at (by decide)]
          have s144 : (h130.1 96 35).toInt = x129.toInt := by rw [g131, wI_is]
          refine R_aload_n (k := 0) rfl rfl rfl ?_
          refine R_dup_r rfl ?_
          refine R_getf_i (j := 34) rfl ft_9_262 sh_96 rfl ?_
          refine R_iconst 1 rfl rfl ?_
          have b145 := i_rng (h130.1 96 34)
          refine R_iadd rfl ?_
          refine N_any (fun x146 => ?_)
          refine K_putf (j := 34) (lo := (-2147483648)) (hi' := 2147483647) rfl ft_9_262 sh_96 rfl hI (by decide) rfl (i_rng _) fr (by decide) (fun h147 g148 hI fr => ?_)
          have s149 : (h147.1 96 18).toInt = (h130.1 96 18).toInt := by rw [g148, wI_at (by decide)]
          have s150 : (h147.1 109 22).toInt = (h130.1 109 22).toInt := by rw [g148, wI_ne _ _ _ (by decide)]
          have s151 : (h147.1 96 41).toInt = (h130.1 96 41).toInt := by rw [g148, wI_at (by decide)]
          have s152 : (h147.1 96 42).toInt = (h130.1 96 42).toInt := by rw [g148, wI_at (by decide)]
          have s153 : (h147.1 96 19).toInt = (h130.1 96 19).toInt := by rw [g148, wI_at (by decide)]
          have s154 : (h147.1 96 20).toInt = (h130.1 96 20).toInt := by rw [g148, wI_at (by decide)]
          have s155 : (h147.1 96 46).toInt = (h130.1 96 46).toInt := by rw [g148, wI_at (by decide)]
          have s156 : (h147.1 96 44).toInt = (h130.1 96 44).toInt := by rw [g148, wI_at (by decide)]
          have s157 : (h147.1 96 47).toInt = (h130.1 96 47).toInt := by rw [g148, wI_at (by decide)]
          have s158 : (h147.1 96 48).toInt = (h130.1 96 48).toInt := by rw [g148, wI_at (by decide)]
          have s159 : (h147.1 96 51).toInt = (h130.1 96 51).toInt := by rw [g148, wI_at (by decide)]
          have s160 : (h147.1 96 35).toInt = (h130.1 96 35).toInt := by rw [g148, wI_at (by decide)]
          have s161 : (h147.1 96 34).toInt = x146.toInt := by rw [g148, wI_is]
          refine R_aload_n (k := 0) rfl rfl rfl ?_
          refine R_getf_r (j := 24) rfl ft_9_52 sh_96 rfl ?_
          refine R_aload_n (k := 0) rfl rfl rfl ?_
          refine R_getf_r (j := 1) rfl ft_9_9 sh_96 rfl ?_
          refine R_iconst 3 rfl rfl ?_
          refine R_iald rfl sh_97 (by decide) ?_
          have b162 : (0 : Int) ≤ (h147.1 97 3).toInt ∧ (h147.1 97 3).toInt ≤ 20 := hI.1 97 3
          show RUN d_X9_goPlace 82 [(3, .inl x3), (0, .inr (.inr (.inl 96))), (1, .inl a0), (2, .inl a1)] [.inl (h147.1 97 3), .inr (.inr (.inl 109))] h147 _
          refine R_iconst 1 rfl rfl ?_
          refine N_iadd (a := (h147.1 97 3).toInt) (b := 1) rfl rfl (by decide) (by omega) (fun x163 q164 => ?_)
          refine R_dup2 rfl ?_
          refine R_iald rfl sh_109 ⟨by omega, by omega⟩ ?_
          refine N_any (fun x165 => ?_)
          refine R_iconst 1 rfl rfl ?_
          have b166 := i_rng x165
          refine R_iadd rfl ?_
          refine N_any (fun x167 => ?_)
          refine K_iast (a := x163.toInt) (lo := (-2147483648)) (hi' := 2147483647) rfl sh_109 rfl ⟨by omega, by omega⟩ hI (by decide) rfl (i_rng _) fr (by decide) (fun h168 g169 hI fr => ?_)
          have s170 : (h168.1 96 18).toInt = (h147.1 96 18).toInt := by rw [g169, wI_ne _ _ _ (by decide)]
          have s171 : (h168.1 96 41).toInt = (h147.1 96 41).toInt := by rw [g169, wI_ne _ _ _ (by decide)]
          have s172 : (h168.1 96 42).toInt = (h147.1 96 42).toInt := by rw [g169, wI_ne _ _ _ (by decide)]
          have s173 : (h168.1 96 19).toInt = (h147.1 96 19).toInt := by rw [g169, wI_ne _ _ _ (by decide)]
          have s174 : (h168.1 96 20).toInt = (h147.1 96 20).toInt := by rw [g169, wI_ne _ _ _ (by decide)]
          have s175 : (h168.1 96 46).toInt = (h147.1 96 46).toInt := by rw [g169, wI_ne _ _ _ (by decide)]
          have s176 : (h168.1 96 44).toInt = (h147.1 96 44).toInt := by rw [g169, wI_ne _ _ _ (by decide)]
          have s177 : (h168.1 96 47).toInt = (h147.1 96 47).toInt := by rw [g169, wI_ne _ _ _ (by decide)]
          have s178 : (h168.1 96 48).toInt = (h147.1 96 48).toInt := by rw [g169, wI_ne _ _ _ (by decide)]
          have s179 : (h168.1 96 51).toInt = (h147.1 96 51).toInt := by rw [g169, wI_ne _ _ _ (by decide)]
          have s180 : (h168.1 96 35).toInt = (h147.1 96 35).toInt := by rw [g169, wI_ne _ _ _ (by decide)]
          have s181 : (h168.1 96 34).toInt = (h147.1 96 34).toInt := by rw [g169, wI_ne _ _ _ (by decide)]
          have s182 : (h168.1 97 3).toInt = (h147.1 97 3).toInt := by rw [g169, wI_ne _ _ _ (by decide)]
          refine R_aload_n (k := 0) rfl rfl rfl ?_
          refine R_getf_r (j := 22) rfl ft_9_46 sh_96 rfl ?_
          refine R_iload_n (k := 3) rfl rfl rfl ?_
          refine R_iconst (-1) rfl rfl ?_
          refine K_iast (a := x3.toInt) (lo := (-2147483648)) (hi' := 2147483647) rfl sh_107 rfl ⟨by omega, by omega⟩ hI (by decide) rfl (by decide) fr (by decide) (fun h183 g184 hI fr => ?_)
          have s185 : (h183.1 96 18).toInt = (h168.1 96 18).toInt := by rw [g184, wI_ne _ _ _ (by decide)]
          have s186 : (h183.1 96 41).toInt = (h168.1 96 41).toInt := by rw [g184, wI_ne _ _ _ (by decide)]
          have s187 : (h183.1 96 42).toInt = (h168.1 96 42).toInt := by rw [g184, wI_ne _ _ _ (by decide)]
          have s188 : (h183.1 96 19).toInt = (h168.1 96 19).toInt := by rw [g184, wI_ne _ _ _ (by decide)]
          have s189 : (h183.1 96 20).toInt = (h168.1 96 20).toInt := by rw [g184, wI_ne _ _ _ (by decide)]
          have s190 : (h183.1 96 46).toInt = (h168.1 96 46).toInt := by rw [g184, wI_ne _ _ _ (by decide)]
          have s191 : (h183.1 96 44).toInt = (h168.1 96 44).toInt := by rw [g184, wI_ne _ _ _ (by decide)]
          have s192 : (h183.1 96 47).toInt = (h168.1 96 47).toInt := by rw [g184, wI_ne _ _ _ (by decide)]
          have s193 : (h183.1 96 48).toInt = (h168.1 96 48).toInt := by rw [g184, wI_ne _ _ _ (by decide)]
          have s194 : (h183.1 96 51).toInt = (h168.1 96 51).toInt := by rw [g184, wI_ne _ _ _ (by decide)]
          have s195 : (h183.1 96 35).toInt = (h168.1 96 35).toInt := by rw [g184, wI_ne _ _ _ (by decide)]
          have s196 : (h183.1 96 34).toInt = (h168.1 96 34).toInt := by rw [g184, wI_ne _ _ _ (by decide)]
          have s197 : (h183.1 97 3).toInt = (h168.1 97 3).toInt := by rw [g184, wI_ne _ _ _ (by decide)]
          refine R_aload_n (k := 0) rfl rfl rfl ?_
          refine R_getf_r (j := 23) rfl ft_9_49 sh_96 rfl ?_
          refine R_iload_n (k := 3) rfl rfl rfl ?_
          refine R_iconst 0 rfl rfl ?_
          refine K_iast (a := x3.toInt) (lo := (-2147483648)) (hi' := 2147483647) rfl sh_108 rfl ⟨by omega, by omega⟩ hI (by decide) rfl (by decide) fr (by decide) (fun h198 g199 hI fr => ?_)
          have s200 : (h198.1 96 18).toInt = (h183.1 96 18).toInt := by rw [g199, wI_ne _ _ _ (by decide)]
          have s201 : (h198.1 96 41).toInt = (h183.1 96 41).toInt := by rw [g199, wI_ne _ _ _ (by decide)]
          have s202 : (h198.1 96 42).toInt = (h183.1 96 42).toInt := by rw [g199, wI_ne _ _ _ (by decide)]
          have s203 : (h198.1 96 19).toInt = (h183.1 96 19).toInt := by rw [g199, wI_ne _ _ _ (by decide)]
          have s204 : (h198.1 96 20).toInt = (h183.1 96 20).toInt := by rw [g199, wI_ne _ _ _ (by decide)]
          have s205 : (h198.1 96 46).toInt = (h183.1 96 46).toInt := by rw [g199, wI_ne _ _ _ (by decide)]
          have s206 : (h198.1 96 44).toInt = (h183.1 96 44).toInt := by rw [g199, wI_ne _ _ _ (by decide)]
          have s207 : (h198.1 96 47).toInt = (h183.1 96 47).toInt := by rw [g199, wI_ne _ _ _ (by decide)]
          have s208 : (h198.1 96 48).toInt = (h183.1 96 48).toInt := by rw [g199, wI_ne _ _ _ (by decide)]
          have s209 : (h198.1 96 51).toInt = (h183.1 96 51).toInt := by rw [g199, wI_ne _ _ _ (by decide)]
          have s210 : (h198.1 96 35).toInt = (h183.1 96 35).toInt := by rw [g199, wI_ne _ _ _ (by decide)]
          have s211 : (h198.1 96 34).toInt = (h183.1 96 34).toInt := by rw [g199, wI_ne _ _ _ (by decide)]
          have s212 : (h198.1 97 3).toInt = (h183.1 97 3).toInt := by rw [g199, wI_ne _ _ _ (by decide)]
          exact R_vret rfl rfl ⟨hI, fr, ⟨by omega, by omega, by omega, by omega, by omega, by omega, by omega, by omega, by omega, trivial⟩, rfl⟩
      · exfalso; omega
    · show RUN d_X9_goPlace 28 [(3, .inl x3), (0, .inr (.inr (.inl 96))), (1, .inl a0), (2, .inl a1)] [.inl x12] h _
      refine N_if_eq (a := x12.toInt) 32 rfl rfl rfl (fun c213 => ?_) (fun c213 => ?_)
      · refine R_iload_n (k := 1) rfl rfl rfl ?_
        refine R_aload_n (k := 0) rfl rfl rfl ?_
        refine R_getf_i (j := 18) rfl ft_9_253 sh_96 rfl ?_
        refine R_iconst 1 rfl rfl ?_
        refine N_isub (a := (h.1 96 18).toInt) (b := 1) rfl rfl (by decide) (by omega) (fun x214 q215 => ?_)
        refine N_icmp_ne (a := a0.toInt) (b := x214.toInt) 104 rfl rfl rfl rfl (fun c216 => ?_) (fun c216 => ?_)
        · refine R_aload_n (k := 0) rfl rfl rfl ?_
          refine R_getf_r (j := 17) rfl ft_9_40 sh_96 rfl ?_
          refine R_iload_n (k := 1) rfl rfl rfl ?_
          refine R_iconst 1 rfl rfl ?_
          refine N_iadd (a := a0.toInt) (b := 1) rfl rfl (by decide) (by omega) (fun x217 q218 => ?_)
          refine R_iald rfl sh_105 ⟨by omega, by omega⟩ ?_
          refine N_bd (lo := 0) (hi := 5) (hI.1 105 _) (fun x219 q220 => ?_)
          refine R_istore (k := 4) [(4, .inl x219), (3, .inl x3), (0, .inr (.inr (.inl 96))), (1, .inl a0), (2, .inl a1)] rfl rfl (by decide) ?_
          refine R_aload_n (k := 0) rfl rfl rfl ?_
          refine R_getf_r (j := 22) rfl ft_9_46 sh_96 rfl ?_
          refine R_iload (k := 4) rfl rfl ?_
          refine R_iald rfl sh_107 ⟨by omega, by omega⟩ ?_
          refine N_any (fun x221 => ?_)
          refine R_iconst (-1) rfl rfl ?_
          refine N_icmp_ne (a := x221.toInt) (b := (-1)) 135 rfl rfl rfl (by decide) (fun c222 => ?_) (fun c222 => ?_)
          · exact R_vret rfl rfl ⟨hI, fr, ⟨by omega, by omega, by omega, by omega, by omega, by omega, by omega, by omega, by omega, trivial⟩, rfl⟩
          · refine R_aload_n (k := 0) rfl rfl rfl ?_
            refine R_iload (k := 4) rfl rfl ?_
            refine R_iload_n (k := 2) rfl rfl rfl ?_
            refine R_callV (v := .inr (.inr (.inl 96))) (As := [.inl x219, .inl a1]) (rest := []) rfl mt_9_i271 pp_X9_doesRest (by decide) rfl rfl rfl (Nat.le_of_ble_eq_true rfl) (Nat.le_of_ble_eq_true rfl) ((k_X9_doesRest h hI x219 a1 (by omega) (by omega)).mono (fun r223 h224 p225 => ?_))
            obtain ⟨rfl, x226, rfl, q227 | q227 | q227⟩ := p225
            · exfalso; omega
            · show RUN d_X9_goPlace 132 [(4, .inl x219), (3, .inl x3), (0, .inr (.inr (.inl 96))), (1, .inl a0), (2, .inl a1)] [.inl x226] h _
              refine N_if_eq (a := x226.toInt) 136 rfl rfl rfl (fun c228 => ?_) (fun c228 => ?_)
              · refine R_aload_n (k := 0) rfl rfl rfl ?_
                refine R_iload_n (k := 3) rfl rfl rfl ?_
                refine R_callV (v := .inr (.inr (.inl 96))) (As := [.inl x3]) (rest := []) rfl mt_9_i275 pp_X9_spill (by decide) rfl rfl rfl (Nat.le_of_ble_eq_true rfl) (Nat.le_of_ble_eq_true rfl) ((k_X9_spill h hI x3 (by omega)).mono (fun r229 h230 p231 => ?_))
                obtain ⟨hJ, fj, ⟨kp232, kp233, kp234, kp235, kp236, kp237, kp238, kp239, kp240, kp241, kp242, kp243, -⟩, rfl⟩ := p231
                have f244 := fj
                have fr := fr.trans fj (by decide)
                have hI := hJ
                have s245 : (h230.1 109 22).toInt = (h.1 109 22).toInt := by rw [(f244 109 (by decide)).1]
                show RUN d_X9_goPlace 141 [(4, .inl x219), (3, .inl x3), (0, .inr (.inr (.inl 96))), (1, .inl a0), (2, .inl a1)] [] h230 _
                refine R_aload_n (k := 0) rfl rfl rfl ?_
                refine R_getf_r (j := 22) rfl ft_9_46 sh_96 rfl ?_
                refine R_iload (k := 4) rfl rfl ?_
                refine R_iconst 0 rfl rfl ?_
                refine K_iast (a := x219.toInt) (lo := (-2147483648)) (hi' := 2147483647) rfl sh_107 rfl ⟨by omega, by omega⟩ hI (by decide) rfl (by decide) fr (by decide) (fun h246 g247 hI fr => ?_)
                have s248 : (h246.1 96 18).toInt = (h230.1 96 18).toInt := by rw [g247, wI_ne _ _ _ (by decide)]
                have s249 : (h246.1 109 22).toInt = (h230.1 109 22).toInt := by rw [g247, wI_ne _ _ _ (by decide)]
                have s250 : (h246.1 96 34).toInt = (h230.1 96 34).toInt := by rw [g247, wI_ne _ _ _ (by decide)]
                have s251 : (h246.1 96 35).toInt = (h230.1 96 35).toInt := by rw [g247, wI_ne _ _ _ (by decide)]
                have s252 : (h246.1 96 41).toInt = (h230.1 96 41).toInt := by rw [g247, wI_ne _ _ _ (by decide)]
                have s253 : (h246.1 96 42).toInt = (h230.1 96 42).toInt := by rw [g247, wI_ne _ _ _ (by decide)]
                have s254 : (h246.1 96 19).toInt = (h230.1 96 19).toInt := by rw [g247, wI_ne _ _ _ (by decide)]
                have s255 : (h246.1 96 20).toInt = (h230.1 96 20).toInt := by rw [g247, wI_ne _ _ _ (by decide)]
                have s256 : (h246.1 96 46).toInt = (h230.1 96 46).toInt := by rw [g247, wI_ne _ _ _ (by decide)]
                have s257 : (h246.1 96 44).toInt = (h230.1 96 44).toInt := by rw [g247, wI_ne _ _ _ (by decide)]
                have s258 : (h246.1 96 47).toInt = (h230.1 96 47).toInt := by rw [g247, wI_ne _ _ _ (by decide)]
                have s259 : (h246.1 96 48).toInt = (h230.1 96 48).toInt := by rw [g247, wI_ne _ _ _ (by decide)]
                have s260 : (h246.1 96 51).toInt = (h230.1 96 51).toInt := by rw [g247, wI_ne _ _ _ (by decide)]
                refine R_aload_n (k := 0) rfl rfl rfl ?_
                refine R_getf_r (j := 23) rfl ft_9_49 sh_96 rfl ?_
                refine R_iload (k := 4) rfl rfl ?_
                refine R_aload_n (k := 0) rfl rfl rfl ?_
                refine R_getf_r (j := 23) rfl ft_9_49 sh_96 rfl ?_
                refine R_iload_n (k := 3) rfl rfl rfl ?_
                refine R_iald rfl sh_108 ⟨by omega, by omega⟩ ?_
                refine N_any (fun x261 => ?_)
                refine K_iast (a := x219.toInt) (lo := (-2147483648)) (hi' := 2147483647) rfl sh_108 rfl ⟨by omega, by omega⟩ hI (by decide) rfl (i_rng _) fr (by decide) (fun h262 g263 hI fr => ?_)
                have s264 : (h262.1 96 18).toInt = (h246.1 96 18).toInt := by rw [g263, wI_ne _ _ _ (by decide)]
                have s265 : (h262.1 109 22).toInt = (h246.1 109 22).toInt := by rw [g263, wI_ne _ _ _ (by decide)]
                have s266 : (h262.1 96 34).toInt = (h246.1 96 34).toInt := by rw [g263, wI_ne _ _ _ (by decide)]
                have s267 : (h262.1 96 35).toInt = (h246.1 96 35).toInt := by rw [g263, wI_ne _ _ _ (by decide)]
                have s268 : (h262.1 96 41).toInt = (h246.1 96 41).toInt := by rw [g263, wI_ne _ _ _ (by decide)]
                have s269 : (h262.1 96 42).toInt = (h246.1 96 42).toInt := by rw [g263, wI_ne _ _ _ (by decide)]
                have s270 : (h262.1 96 19).toInt = (h246.1 96 19).toInt := by rw [g263, wI_ne _ _ _ (by decide)]
                have s271 : (h262.1 96 20).toInt = (h246.1 96 20).toInt := by rw [g263, wI_ne _ _ _ (by decide)]
                have s272 : (h262.1 96 46).toInt = (h246.1 96 46).toInt := by rw [g263, wI_ne _ _ _ (by decide)]
                have s273 : (h262.1 96 44).toInt = (h246.1 96 44).toInt := by rw [g263, wI_ne _ _ _ (by decide)]
                have s274 : (h262.1 96 47).toInt = (h246.1 96 47).toInt := by rw [g263, wI_ne _ _ _ (by decide)]
                have s275 : (h262.1 96 48).toInt = (h246.1 96 48).toInt := by rw [g263, wI_ne _ _ _ (by decide)]
                have s276 : (h262.1 96 51).toInt = (h246.1 96 51).toInt := by rw [g263, wI_ne _ _ _ (by decide)]
                refine R_aload_n (k := 0) rfl rfl rfl ?_
                refine R_getf_r (j := 22) rfl ft_9_46 sh_96 rfl ?_
                refine R_iload_n (k := 3) rfl rfl rfl ?_
                refine R_iconst (-1) rfl rfl ?_
                refine K_iast (a := x3.toInt) (lo := (-2147483648)) (hi' := 2147483647) rfl sh_107 rfl ⟨by omega, by omega⟩ hI (by decide) rfl (by decide) fr (by decide) (fun h277 g278 hI fr => ?_)
                have s279 : (h277.1 96 18).toInt = (h262.1 96 18).toInt := by rw [g278, wI_ne _ _ _ (by decide)]
                have s280 : (h277.1 109 22).toInt = (h262.1 109 22).toInt := by rw [g278, wI_ne _ _ _ (by decide)]
                have s281 : (h277.1 96 34).toInt = (h262.1 96 34).toInt := by rw [g278, wI_ne _ _ _ (by decide)]
                have s282 : (h277.1 96 35).toInt = (h262.1 96 35).toInt := by rw [g278, wI_ne _ _ _ (by decide)]
                have s283 : (h277.1 96 41).toInt = (h262.1 96 41).toInt := by rw [g278, wI_ne _ _ _ (by decide)]
                have s284 : (h277.1 96 42).toInt = (h262.1 96 42).toInt := by rw [g278, wI_ne _ _ _ (by decide)]
                have s285 : (h277.1 96 19).toInt = (h262.1 96 19).toInt := by rw [g278, wI_ne _ _ _ (by decide)]
                have s286 : (h277.1 96 20).toInt = (h262.1 96 20).toInt := by rw [g278, wI_ne _ _ _ (by decide)]
                have s287 : (h277.1 96 46).toInt = (h262.1 96 46).toInt := by rw [g278, wI_ne _ _ _ (by decide)]
                have s288 : (h277.1 96 44).toInt = (h262.1 96 44).toInt := by rw [g278, wI_ne _ _ _ (by decide)]
                have s289 : (h277.1 96 47).toInt = (h262.1 96 47).toInt := by rw [g278, wI_ne _ _ _ (by decide)]
                have s290 : (h277.1 96 48).toInt = (h262.1 96 48).toInt := by rw [g278, wI_ne _ _ _ (by decide)]
                have s291 : (h277.1 96 51).toInt = (h262.1 96 51).toInt := by rw [g278, wI_ne _ _ _ (by decide)]
                refine R_aload_n (k := 0) rfl rfl rfl ?_
                refine R_getf_r (j := 23) rfl ft_9_49 sh_96 rfl ?_
                refine R_iload_n (k := 3) rfl rfl rfl ?_
                refine R_iconst 0 rfl rfl ?_
                refine K_iast (a := x3.toInt) (lo := (-2147483648)) (hi' := 2147483647) rfl sh_108 rfl ⟨by omega, by omega⟩ hI (by decide) rfl (by decide) fr (by decide) (fun h292 g293 hI fr => ?_)
                have s294 : (h292.1 96 18).toInt = (h277.1 96 18).toInt := by rw [g293, wI_ne _ _ _ (by decide)]
                have s295 : (h292.1 109 22).toInt = (h277.1 109 22).toInt := by rw [g293, wI_ne _ _ _ (by decide)]
                have s296 : (h292.1 96 34).toInt = (h277.1 96 34).toInt := by rw [g293, wI_ne _ _ _ (by decide)]
                have s297 : (h292.1 96 35).toInt = (h277.1 96 35).toInt := by rw [g293, wI_ne _ _ _ (by decide)]
                have s298 : (h292.1 96 41).toInt = (h277.1 96 41).toInt := by rw [g293, wI_ne _ _ _ (by decide)]
                have s299 : (h292.1 96 42).toInt = (h277.1 96 42).toInt := by rw [g293, wI_ne _ _ _ (by decide)]
                have s300 : (h292.1 96 19).toInt = (h277.1 96 19).toInt := by rw [g293, wI_ne _ _ _ (by decide)]
                have s301 : (h292.1 96 20).toInt = (h277.1 96 20).toInt := by rw [g293, wI_ne _ _ _ (by decide)]
                have s302 : (h292.1 96 46).toInt = (h277.1 96 46).toInt := by rw [g293, wI_ne _ _ _ (by decide)]
                have s303 : (h292.1 96 44).toInt = (h277.1 96 44).toInt := by rw [g293, wI_ne _ _ _ (by decide)]
                have s304 : (h292.1 96 47).toInt = (h277.1 96 47).toInt := by rw [g293, wI_ne _ _ _ (by decide)]
                have s305 : (h292.1 96 48).toInt = (h277.1 96 48).toInt := by rw [g293, wI_ne _ _ _ (by decide)]
                have s306 : (h292.1 96 51).toInt = (h277.1 96 51).toInt := by rw [g293, wI_ne _ _ _ (by decide)]
                exact R_vret rfl rfl ⟨hI, fr, ⟨by omega, by omega, by omega, by omega, by omega, by omega, by omega, by omega, by omega, trivial⟩, rfl⟩
              · exfalso; omega
            · show RUN d_X9_goPlace 132 [(4, .inl x219), (3, .inl x3), (0, .inr (.inr (.inl 96))), (1, .inl a0), (2, .inl a1)] [.inl x226] h _
              refine N_if_eq (a := x226.toInt) 136 rfl rfl rfl (fun c307 => ?_) (fun c307 => ?_)
              · exfalso; omega
              · exact R_vret rfl rfl ⟨hI, fr, ⟨by omega, by omega, by omega, by omega, by omega, by omega, by omega, by omega, by omega, trivial⟩, rfl⟩
        · refine R_aload_n (k := 0) rfl rfl rfl ?_
          refine R_iload_n (k := 3) rfl rfl rfl ?_
          refine R_callV (v := .inr (.inr (.inl 96))) (As := [.inl x3]) (rest := []) rfl mt_9_i275 pp_X9_spill (by decide) rfl rfl rfl (Nat.le_of_ble_eq_true rfl) (Nat.le_of_ble_eq_true rfl) ((k_X9_spill h hI x3 (by omega)).mono (fun r308 h309 p310 => ?_))
          obtain ⟨hJ, fj, ⟨kp311, kp312, kp313, kp314, kp315, kp316, kp317, kp318, kp319, kp320, kp321, kp322, -⟩, rfl⟩ := p310
          have f323 := fj
          have fr := fr.trans fj (by decide)
          have hI := hJ
          have s324 : (h309.1 109 22).toInt = (h.1 109 22).toInt := by rw [(f323 109 (by decide)).1]
          show RUN d_X9_goPlace 47 [(3, .inl x3), (0, .inr (.inr (.inl 96))), (1, .inl a0), (2, .inl a1)] [] h309 _
          refine R_aload_n (k := 0) rfl rfl rfl ?_
          refine R_dup_r rfl ?_
          refine R_getf_i (j := 35) rfl ft_9_265 sh_96 rfl ?_
          refine R_aload_n (k := 0) rfl rfl rfl ?_
          refine R_getf_r (j := 23) rfl ft_9_49 sh_96 rfl ?_
          refine R_iload_n (k := 3) rfl rfl rfl ?_
          refine R_iald rfl sh_108 ⟨by omega, by omega⟩ ?_
          refine N_any (fun x325 => ?_)
          have b326 := i_rng (h309.1 96 35)
          have b327 := i_rng x325
          refine R_iadd rfl ?_
          refine N_any (fun x328 => ?_)
          refine K_putf (j := 35) (lo := (-2147483648)) (hi' := 2147483647) rfl ft_9_265 sh_96 rfl hI (by decide) rfl (i_rng _) fr (by decide) (fun h329 g330 hI fr => ?_)
          have s331 : (h329.1 96 18).toInt = (h309.1 96 18).toInt := by rw [g330, wI_at (by decide)]
          have s332 : (h329.1 109 22).toInt = (h309.1 109 22).toInt := by rw [g330, wI_ne _ _ _ (by decide)]
          have s333 : (h329.1 96 34).toInt = (h309.1 96 34).toInt := by rw [g330, wI_at (by decide)]
          have s334 : (h329.1 96 41).toInt = (h309.1 96 41).toInt := by rw [g330, wI_at (by decide)]
          have s335 : (h329.1 96 42).toInt = (h309.1 96 42).toInt := by rw [g330, wI_at (by decide)]
          have s336 : (h329.1 96 19).toInt = (h309.1 96 19).toInt := by rw [g330, wI_at (by decide)]
          have s337 : (h329.1 96 20).toInt = (h309.1 96 20).toInt := by rw [g330, wI_at (by decide)]
          have s338 : (h329.1 96 46).toInt = (h309.1 96 46).toInt := by rw [g330, wI_at (by decide)]
          have s339 : (h329.1 96 44).toInt = (h309.1 96 44).toInt := by rw [g330, wI_at (by decide)]
          have s340 : (h329.1 96 47).toInt = (h309.1 96 47).toInt := by rw [g330, wI_at (by decide)]
          have s341 : (h329.1 96 48).toInt = (h309.1 96 48).toInt := by rw [g330, wI_at (by decide)]
          have s342 : (h329.1 96 51).toInt = (h309.1 96 51).toInt := by rw [g330, wI_at (by decide)]
          have s343 : (h329.1 96 35).toInt = x328.toInt := by rw [g330, wI_is]
          refine R_aload_n (k := 0) rfl rfl rfl ?_
          refine R_dup_r rfl ?_
          refine R_getf_i (j := 34) rfl ft_9_262 sh_96 rfl ?_
          refine R_iconst 1 rfl rfl ?_
          have b344 := i_rng (h329.1 96 34)
          refine R_iadd rfl ?_
          refine N_any (fun x345 => ?_)
          refine K_putf (j := 34) (lo := (-2147483648)) (hi' := 2147483647) rfl ft_9_262 sh_96 rfl hI (by decide) rfl (i_rng _) fr (by decide) (fun h346 g347 hI fr => ?_)
          have s348 : (h346.1 96 18).toInt = (h329.1 96 18).toInt := by rw [g347, wI_at (by decide)]
          have s349 : (h346.1 109 22).toInt = (h329.1 109 22).toInt := by rw [g347, wI_ne _ _ _ (by decide)]
          have s350 : (h346.1 96 41).toInt = (h329.1 96 41).toInt := by rw [g347, wI_at (by decide)]
          have s351 : (h346.1 96 42).toInt = (h329.1 96 42).toInt := by rw [g347, wI_at (by decide)]
          have s352 : (h346.1 96 19).toInt = (h329.1 96 19).toInt := by rw [g347, wI_at (by decide)]
          have s353 : (h346.1 96 20).toInt = (h329.1 96 20).toInt := by rw [g347, wI_at (by decide)]
          have s354 : (h346.1 96 46).toInt = (h329.1 96 46).toInt := by rw [g347, wI_at (by decide)]
          have s355 : (h346.1 96 44).toInt = (h329.1 96 44).toInt := by rw [g347, wI_at (by decide)]
          have s356 : (h346.1 96 47).toInt = (h329.1 96 47).toInt := by rw [g347, wI_at (by decide)]
          have s357 : (h346.1 96 48).toInt = (h329.1 96 48).toInt := by rw [g347, wI_at (by decide)]
          have s358 : (h346.1 96 51).toInt = (h329.1 96 51).toInt := by rw [g347, wI_at (by decide)]
          have s359 : (h346.1 96 35).toInt = (h329.1 96 35).toInt := by rw [g347, wI_at (by decide)]
          have s360 : (h346.1 96 34).toInt = x345.toInt := by rw [g347, wI_is]
          refine R_aload_n (k := 0) rfl rfl rfl ?_
          refine R_getf_r (j := 24) rfl ft_9_52 sh_96 rfl ?_
          refine R_aload_n (k := 0) rfl rfl rfl ?_
          refine R_getf_r (j := 1) rfl ft_9_9 sh_96 rfl ?_
          refine R_iconst 3 rfl rfl ?_
          refine R_iald rfl sh_97 (by decide) ?_
          have b361 : (0 : Int) ≤ (h346.1 97 3).toInt ∧ (h346.1 97 3).toInt ≤ 20 := hI.1 97 3
          show RUN d_X9_goPlace 82 [(3, .inl x3), (0, .inr (.inr (.inl 96))), (1, .inl a0), (2, .inl a1)] [.inl (h346.1 97 3), .inr (.inr (.inl 109))] h346 _
          refine R_iconst 1 rfl rfl ?_
          refine N_iadd (a := (h346.1 97 3).toInt) (b := 1) rfl rfl (by decide) (by omega) (fun x362 q363 => ?_)
          refine R_dup2 rfl ?_
          refine R_iald rfl sh_109 ⟨by omega, by omega⟩ ?_
          refine N_any (fun x364 => ?_)
          refine R_iconst 1 rfl rfl ?_
          have b365 := i_rng x364
          refine R_iadd rfl ?_
          refine N_any (fun x366 => ?_)
          refine K_iast (a := x362.toInt) (lo := (-2147483648)) (hi' := 2147483647) rfl sh_109 rfl ⟨by omega, by omega⟩ hI (by decide) rfl (i_rng _) fr (by decide) (fun h367 g368 hI fr => ?_)
          have s369 : (h367.1 96 18).toInt = (h346.1 96 18).toInt := by rw [g368, wI_ne _ _ _ (by decide)]
          have s370 : (h367.1 96 41).toInt = (h346.1 96 41).toInt := by rw [g368, wI_ne _ _ _ (by decide)]
          have s371 : (h367.1 96 42).toInt = (h346.1 96 42).toInt := by rw [g368, wI_ne _ _ _ (by decide)]
          have s372 : (h367.1 96 19).toInt = (h346.1 96 19).toInt := by rw [g368, wI_ne _ _ _ (by decide)]
          have s373 : (h367.1 96 20).toInt = (h346.1 96 20).toInt := by rw [g368, wI_ne _ _ _ (by decide)]
          have s374 : (h367.1 96 46).toInt = (h346.1 96 46).toInt := by rw [g368, wI_ne _ _ _ (by decide)]
          have s375 : (h367.1 96 44).toInt = (h346.1 96 44).toInt := by rw [g368, wI_ne _ _ _ (by decide)]
          have s376 : (h367.1 96 47).toInt = (h346.1 96 47).toInt := by rw [g368, wI_ne _ _ _ (by decide)]
          have s377 : (h367.1 96 48).toInt = (h346.1 96 48).toInt := by rw [g368, wI_ne _ _ _ (by decide)]
          have s378 : (h367.1 96 51).toInt = (h346.1 96 51).toInt := by rw [g368, wI_ne _ _ _ (by decide)]
          have s379 : (h367.1 96 35).toInt = (h346.1 96 35).toInt := by rw [g368, wI_ne _ _ _ (by decide)]
          have s380 : (h367.1 96 34).toInt = (h346.1 96 34).toInt := by rw [g368, wI_ne _ _ _ (by decide)]
          have s381 : (h367.1 97 3).toInt = (h346.1 97 3).toInt := by rw [g368, wI_ne _ _ _ (by decide)]
          refine R_aload_n (k := 0) rfl rfl rfl ?_
          refine R_getf_r (j := 22) rfl ft_9_46 sh_96 rfl ?_
          refine R_iload_n (k := 3) rfl rfl rfl ?_
          refine R_iconst (-1) rfl rfl ?_
          refine K_iast (a := x3.toInt) (lo := (-2147483648)) (hi' := 2147483647) rfl sh_107 rfl ⟨by omega, by omega⟩ hI (by decide) rfl (by decide) fr (by decide) (fun h382 g383 hI fr => ?_)
          have s384 : (h382.1 96 18).toInt = (h367.1 96 18).toInt := by rw [g383, wI_ne _ _ _ (by decide)]
          have s385 : (h382.1 96 41).toInt = (h367.1 96 41).toInt := by rw [g383, wI_ne _ _ _ (by decide)]
          have s386 : (h382.1 96 42).toInt = (h367.1 96 42).toInt := by rw [g383, wI_ne _ _ _ (by decide)]
          have s387 : (h382.1 96 19).toInt = (h367.1 96 19).toInt := by rw [g383, wI_ne _ _ _ (by decide)]
          have s388 : (h382.1 96 20).toInt = (h367.1 96 20).toInt := by rw [g383, wI_ne _ _ _ (by decide)]
          have s389 : (h382.1 96 46).toInt = (h367.1 96 46).toInt := by rw [g383, wI_ne _ _ _ (by decide)]
          have s390 : (h382.1 96 44).toInt = (h367.1 96 44).toInt := by rw [g383, wI_ne _ _ _ (by decide)]
          have s391 : (h382.1 96 47).toInt = (h367.1 96 47).toInt := by rw [g383, wI_ne _ _ _ (by decide)]
          have s392 : (h382.1 96 48).toInt = (h367.1 96 48).toInt := by rw [g383, wI_ne _ _ _ (by decide)]
          have s393 : (h382.1 96 51).toInt = (h367.1 96 51).toInt := by rw [g383, wI_ne _ _ _ (by decide)]
          have s394 : (h382.1 96 35).toInt = (h367.1 96 35).toInt := by rw [g383, wI_ne _ _ _ (by decide)]
          have s395 : (h382.1 96 34).toInt = (h367.1 96 34).toInt := by rw [g383, wI_ne _ _ _ (by decide)]
          have s396 : (h382.1 97 3).toInt = (h367.1 97 3).toInt := by rw [g383, wI_ne _ _ _ (by decide)]
          refine R_aload_n (k := 0) rfl rfl rfl ?_
          refine R_getf_r (j := 23) rfl ft_9_49 sh_96 rfl ?_
          refine R_iload_n (k := 3) rfl rfl rfl ?_
          refine R_iconst 0 rfl rfl ?_
          refine K_iast (a := x3.toInt) (lo := (-2147483648)) (hi' := 2147483647) rfl sh_108 rfl ⟨by omega, by omega⟩ hI (by decide) rfl (by decide) fr (by decide) (fun h397 g398 hI fr => ?_)
          have s399 : (h397.1 96 18).toInt = (h382.1 96 18).toInt := by rw [g398, wI_ne _ _ _ (by decide)]
          have s400 : (h397.1 96 41).toInt = (h382.1 96 41).toInt := by rw [g398, wI_ne _ _ _ (by decide)]
          have s401 : (h397.1 96 42).toInt = (h382.1 96 42).toInt := by rw [g398, wI_ne _ _ _ (by decide)]
          have s402 : (h397.1 96 19).toInt = (h382.1 96 19).toInt := by rw [g398, wI_ne _ _ _ (by decide)]
          have s403 : (h397.1 96 20).toInt = (h382.1 96 20).toInt := by rw [g398, wI_ne _ _ _ (by decide)]
          have s404 : (h397.1 96 46).toInt = (h382.1 96 46).toInt := by rw [g398, wI_ne _ _ _ (by decide)]
          have s405 : (h397.1 96 44).toInt = (h382.1 96 44).toInt := by rw [g398, wI_ne _ _ _ (by decide)]
          have s406 : (h397.1 96 47).toInt = (h382.1 96 47).toInt := by rw [g398, wI_ne _ _ _ (by decide)]
          have s407 : (h397.1 96 48).toInt = (h382.1 96 48).toInt := by rw [g398, wI_ne _ _ _ (by decide)]
          have s408 : (h397.1 96 51).toInt = (h382.1 96 51).toInt := by rw [g398, wI_ne _ _ _ (by decide)]
          have s409 : (h397.1 96 35).toInt = (h382.1 96 35).toInt := by rw [g398, wI_ne _ _ _ (by decide)]
          have s410 : (h397.1 96 34).toInt = (h382.1 96 34).toInt := by rw [g398, wI_ne _ _ _ (by decide)]
          have s411 : (h397.1 97 3).toInt = (h382.1 97 3).toInt := by rw [g398, wI_ne _ _ _ (by decide)]
          exact R_vret rfl rfl ⟨hI, fr, ⟨by omega, by omega, by omega, by omega, by omega, by omega, by omega, by omega, by omega, trivial⟩, rfl⟩
      · exfalso; omega
    · show RUN d_X9_goPlace 28 [(3, .inl x3), (0, .inr (.inr (.inl 96))), (1, .inl a0), (2, .inl a1)] [.inl x12] h _
      refine N_if_eq (a := x12.toInt) 32 rfl rfl rfl (fun c412 => ?_) (fun c412 => ?_)
      · exfalso; omega
      · exact R_vret rfl rfl ⟨hI, fr, ⟨by omega, by omega, by omega, by omega, by omega, by omega, by omega, by omega, by omega, trivial⟩, rfl⟩
abbrev q_X9_goSecond (h : PH) (a0 : Int32) (a1 : Int32) : Option PV → PH → Prop := fun r h' => INV h' ∧ FR [96, 107, 108, 109, 117, 118] h h' ∧ ((h'.1 96 41).toInt = (h.1 96 41).toInt ∧ (h'.1 96 42).toInt = (h.1 96 42).toInt ∧ (h'.1 96 19).toInt = (h.1 96 19).toInt ∧ (h'.1 96 18).toInt = (h.1 96 18).toInt ∧ (h'.1 96 20).toInt = (h.1 96 20).toInt ∧ (h'.1 96 46).toInt = (h.1 96 46).toInt ∧ (h'.1 96 44).toInt = (h.1 96 44).toInt ∧ (h'.1 96 47).toInt = (h.1 96 47).toInt ∧ (h'.1 96 48).toInt = (h.1 96 48).toInt ∧ True) ∧ r = none
set_option maxHeartbeats 4000000 in
set_option maxRecDepth 100000 in
theorem k_X9_goSecond (h : PH) (hI : INV h) (a0 : Int32) (a1 : Int32) (h0a : 0 ≤ a0.toInt ∧ a0.toInt ≤ 2147483647) : CALL d_X9_goSecond [.inr (.inr (.inl 96)), .inl a0, .inl a1] h (q_X9_goSecond h a0 a1) := by
  show RUN d_X9_goSecond 0 [(0, .inr (.inr (.inl 96))), (1, .inl a0), (2, .inl a1)] [] h _
  have b1 := i_rng a1
  have fr : FR [96, 107, 108, 109, 117, 118] h h := FR.rf _ _
  have b2 : (0 : Int) ≤ (h.1 96 18).toInt ∧ (h.1 96 18).toInt ≤ 6 := hI.1 96 18
  have b3 : (0 : Int) ≤ (h.1 96 51).toInt ∧ (h.1 96 51).toInt ≤ 720 := hI.1 96 51
  refine R_iload_n (k := 1) rfl rfl rfl ?_
  refine N_if_le (a := a0.toInt) 55 rfl rfl rfl (fun c4 => ?_) (fun c4 => ?_)
  · refine R_aload_n (k := 0) rfl rfl rfl ?_
    refine R_getf_i (j := 18) rfl ft_9_253 sh_96 rfl ?_
    refine R_iconst 1 rfl rfl ?_
    refine N_isub (a := (h.1 96 18).toInt) (b := 1) rfl rfl (by decide) (by omega) (fun x5 q6 => ?_)
    refine R_istore_n (k := 3) rfl [(3, .inl x5), (0, .inr (.inr (.inl 96))), (1, .inl a0), (2, .inl a1)] rfl rfl (by decide) ?_
    have lp8 : ∀ (n7 : Nat) (h9 : PH) (x11 : Int32), INV h9 → FR [96, 107, 108, 109, 117, 118] h h9 → FR [96, 107, 108, 109, 117, 118] h h9 → (-1) ≤ x11.toInt ∧ x11.toInt ≤ 5 → (h9.1 96 41).toInt = (h.1 96 41).toInt → (h9.1 96 42).toInt = (h.1 96 42).toInt → (h9.1 96 19).toInt = (h.1 96 19).toInt → (h9.1 96 18).toInt = (h.1 96 18).toInt → (h9.1 96 20).toInt = (h.1 96 20).toInt → (h9.1 96 46).toInt = (h.1 96 46).toInt → (h9.1 96 44).toInt = (h.1 96 44).toInt → (h9.1 96 47).toInt = (h.1 96 47).toInt → (h9.1 96 48).toInt = (h.1 96 48).toInt → x11.toInt ≤ (h.1 96 18).toInt + (-1) → (x11.toInt - (-1)).toNat < n7 → RUN d_X9_goSecond 62 [(3, .inl x11), (0, .inr (.inr (.inl 96))), (1, .inl a0), (2, .inl a1)] [] h9 (q_X9_goSecond h a0 a1) := by
      intro n7
      induction n7 with
      | zero => intro h9 x11 m13 m14 m15 m16 m17 m18 m19 m20 m21 m22 m23 m24 m25 m26 hz; exact absurd hz (Nat.not_lt_zero _)
      | succ n7 ih12 =>
        intro h9 x11 hI fr fl10 m16 m17 m18 m19 m20 m21 m22 m23 m24 m25 m26 hz
        refine R_iload_n (k := 3) rfl rfl rfl ?_
        refine N_if_lt (a := x11.toInt) 82 rfl rfl rfl (fun c27 => ?_) (fun c27 => ?_)
        · refine R_aload_n (k := 0) rfl rfl rfl ?_
          refine R_getf_i (j := 18) rfl ft_9_253 sh_96 rfl ?_
          refine N_if_le (a := (h9.1 96 18).toInt) 164 rfl rfl rfl (fun c28 => ?_) (fun c28 => ?_)
          · refine R_iconst 0 rfl rfl ?_
            refine R_istore_n (k := 3) rfl [(3, .inl 0), (0, .inr (.inr (.inl 96))), (1, .inl a0), (2, .inl a1)] rfl rfl (by decide) ?_
            have lp30 : ∀ (n29 : Nat) (x31 : Int32), 0 ≤ x31.toInt ∧ x31.toInt ≤ 0 → 0 < n29 → RUN d_X9_goSecond 166 [(3, .inl x31), (0, .inr (.inr (.inl 96))), (1, .inl a0), (2, .inl a1)] [] h9 (q_X9_goSecond h a0 a1) := by
              intro n29
              induction n29 with
              | zero => intro x31 m33 hz; exact absurd hz (Nat.not_lt_zero _)
              | succ n29 ih32 =>
                intro x31 m33 hz
                refine R_iload_n (k := 3) rfl rfl rfl ?_
                refine R_aload_n (k := 0) rfl rfl rfl ?_
                refine R_getf_i (j := 18) rfl ft_9_253 sh_96 rfl ?_
                refine N_icmp_ge (a := x31.toInt) (b := (h9.1 96 18).toInt) 224 rfl rfl rfl rfl (fun c34 => ?_) (fun c34 => ?_)
                · exact R_vret rfl rfl ⟨hI, fr, ⟨by omega, by omega, by omega, by omega, by omega, by omega, by omega, by omega, by omega, trivial⟩, rfl⟩
                · exfalso; omega
            exact lp30 _ (0 : Int32) (by decide) (Nat.lt_succ_self _)
          · refine R_aload_n (k := 0) rfl rfl rfl ?_
            refine R_getf_r (j := 22) rfl ft_9_46 sh_96 rfl ?_
            refine R_aload_n (k := 0) rfl rfl rfl ?_
            refine R_getf_r (j := 17) rfl ft_9_40 sh_96 rfl ?_
            refine R_iconst 0 rfl rfl ?_
            refine R_iald rfl sh_105 (by decide) ?_
            have b35 : (0 : Int) ≤ (h9.1 105 0).toInt ∧ (h9.1 105 0).toInt ≤ 5 := hI.1 105 0
            show RUN d_X9_goSecond 99 [(3, .inl x11), (0, .inr (.inr (.inl 96))), (1, .inl a0), (2, .inl a1)] [.inl (h9.1 105 0), .inr (.inr (.inl 107))] h9 _
            refine R_iald rfl sh_107 ⟨by omega, by omega⟩ ?_
            refine N_any (fun x36 => ?_)
            refine R_iconst (-1) rfl rfl ?_
            refine N_icmp_ne (a := x36.toInt) (b := (-1)) 164 rfl rfl rfl (by decide) (fun c37 => ?_) (fun c37 => ?_)
            · refine R_iconst 0 rfl rfl ?_
              refine R_istore_n (k := 3) rfl [(3, .inl 0), (0, .inr (.inr (.inl 96))), (1, .inl a0), (2, .inl a1)] rfl rfl (by decide) ?_
              have lp39 : ∀ (n38 : Nat) (h40 : PH) (x42 : Int32), INV h40 → FR [96, 107, 108, 109, 117, 118] h h40 → FR [107] h9 h40 → 0 ≤ x42.toInt ∧ x42.toInt ≤ 6 → (6 - x42.toInt).toNat < n38 → RUN d_X9_goSecond 166 [(3, .inl x42), (0, .inr (.inr (.inl 96))), (1, .inl a0), (2, .inl a1)] [] h40 (q_X9_goSecond h a0 a1) := by
                intro n38
                induction n38 with
                | zero => intro h40 x42 m44 m45 m46 m47 hz; exact absurd hz (Nat.not_lt_zero _)
                | succ n38 ih43 =>
                  intro h40 x42 hI fr fl41 m47 hz
                  have s48 : (h40.1 96 41).toInt = (h9.1 96 41).toInt := by rw [(fl41 96 (by decide)).1]
                  have s49 : (h40.1 96 42).toInt = (h9.1 96 42).toInt := by rw [(fl41 96 (by decide)).1]
                  have s50 : (h40.1 96 19).toInt = (h9.1 96 19).toInt := by rw [(fl41 96 (by decide)).1]
                  have s51 : (h40.1 96 18).toInt = (h9.1 96 18).toInt := by rw [(fl41 96 (by decide)).1]
                  have s52 : (h40.1 96 20).toInt = (h9.1 96 20).toInt := by rw [(fl41 96 (by decide)).1]
                  have s53 : (h40.1 96 46).toInt = (h9.1 96 46).toInt := by rw [(fl41 96 (by decide)).1]
                  have s54 : (h40.1 96 44).toInt = (h9.1 96 44).toInt := by rw [(fl41 96 (by decide)).1]
                  have s55 : (h40.1 96 47).toInt = (h9.1 96 47).toInt := by rw [(fl41 96 (by decide)).1]
                  have s56 : (h40.1 96 48).toInt = (h9.1 96 48).toInt := by rw [(fl41 96 (by decide)).1]
                  have s57 : (h40.1 105 0).toInt = (h9.1 105 0).toInt := by rw [(fl41 105 (by decide)).1]
                  have fl10 : FR [96, 107, 108, 109, 117, 118] h h40 := fl10.trans fl41 (by decide)
                  refine R_iload_n (k := 3) rfl rfl rfl ?_
                  refine R_aload_n (k := 0) rfl rfl rfl ?_
                  refine R_getf_i (j := 18) rfl ft_9_253 sh_96 rfl ?_
                  refine N_icmp_ge (a := x42.toInt) (b := (h40.1 96 18).toInt) 224 rfl rfl rfl rfl (fun c58 => ?_) (fun c58 => ?_)
                  · exact R_vret rfl rfl ⟨hI, fr, ⟨by omega, by omega, by omega, by omega, by omega, by omega, by omega, by omega, by omega, trivial⟩, rfl⟩
                  · refine R_aload_n (k := 0) rfl rfl rfl ?_
                    refine R_getf_r (j := 22) rfl ft_9_46 sh_96 rfl ?_
                    refine R_aload_n (k := 0) rfl rfl rfl ?_
                    refine R_getf_r (j := 17) rfl ft_9_40 sh_96 rfl ?_
                    refine R_iload_n (k := 3) rfl rfl rfl ?_
                    refine R_iald rfl sh_105 ⟨by omega, by omega⟩ ?_
                    refine N_bd (lo := 0) (hi := 5) (hI.1 105 _) (fun x59 q60 => ?_)
                    refine R_iald rfl sh_107 ⟨by omega, by omega⟩ ?_
                    refine N_any (fun x61 => ?_)
                    refine R_iconst (-1) rfl rfl ?_
                    refine N_icmp_eq (a := x61.toInt) (b := (-1)) 218 rfl rfl rfl (by decide) (fun c62 => ?_) (fun c62 => ?_)
                    · refine N_iinc (a := x42.toInt) (c := 1) (fun w => [(3, .inl w), (0, .inr (.inr (.inl 96))), (1, .inl a0), (2, .inl a1)]) rfl rfl (fun _ => rfl) (by decide) rfl (by decide) (by omega) (fun x63 q64 => ?_)
                      refine R_goto 166 rfl rfl ?_
                      exact RUN_weak (psub_cons rfl (psub_cons rfl (psub_cons rfl (psub_cons rfl (psub_nil _))))) (ih43 h40 x63 hI fr fl41 (by omega) (by omega))
                    · refine R_aload_n (k := 0) rfl rfl rfl ?_
                      refine R_aload_n (k := 0) rfl rfl rfl ?_
                      refine R_getf_r (j := 17) rfl ft_9_40 sh_96 rfl ?_
                      refine R_iload_n (k := 3) rfl rfl rfl ?_
                      refine R_iald rfl sh_105 ⟨by omega, by omega⟩ ?_
                      refine N_bd (lo := 0) (hi := 5) (hI.1 105 _) (fun x65 q66 => ?_)
                      refine R_iload_n (k := 1) rfl rfl rfl ?_
                      refine R_callV (v := .inr (.inr (.inl 96))) (As := [.inl x65, .inl a0]) (rest := []) rfl mt_9_i271 pp_X9_doesRest (by decide) rfl rfl rfl (Nat.le_of_ble_eq_true rfl) (Nat.le_of_ble_eq_true rfl) ((k_X9_doesRest h40 hI x65 a0 (by omega) (by omega)).mono (fun r67 h68 p69 => ?_))
                      obtain ⟨rfl, x70, rfl, q71 | q71 | q71⟩ := p69
                      · exfalso; omega
                      · show RUN d_X9_goSecond 200 [(3, .inl x42), (0, .inr (.inr (.inl 96))), (1, .inl a0), (2, .inl a1)] [.inl x70] h40 _
                        refine N_if_ne (a := x70.toInt) 218 rfl rfl rfl (fun c72 => ?_) (fun c72 => ?_)
                        · exfalso; omega
                        · refine R_aload_n (k := 0) rfl rfl rfl ?_
                          refine R_getf_r (j := 22) rfl ft_9_46 sh_96 rfl ?_
                          refine R_aload_n (k := 0) rfl rfl rfl ?_
                          refine R_getf_r (j := 17) rfl ft_9_40 sh_96 rfl ?_
                          refine R_iload_n (k := 3) rfl rfl rfl ?_
                          refine R_iald rfl sh_105 ⟨by omega, by omega⟩ ?_
                          refine N_bd (lo := 0) (hi := 5) (hI.1 105 _) (fun x73 q74 => ?_)
                          refine R_dup2 rfl ?_
                          refine R_iald rfl sh_107 ⟨by omega, by omega⟩ ?_
                          refine N_any (fun x75 => ?_)
                          refine R_iconst 1 rfl rfl ?_
                          have b76 := i_rng x75
                          refine R_iadd rfl ?_
                          refine N_any (fun x77 => ?_)
                          refine K_iast (a := x73.toInt) (lo := (-2147483648)) (hi' := 2147483647) rfl sh_107 rfl ⟨by omega, by omega⟩ hI (by decide) rfl (i_rng _) fr (by decide) (fun h78 g79 hI fr => ?_)
                          have fl41 : FR [107] h9 h78 := by rw [g79]; exact FR_wI _ _ fl41 (by decide)
                          have fl10 : FR [96, 107, 108, 109, 117, 118] h h78 := by rw [g79]; exact FR_wI _ _ fl10 (by decide)
                          have s80 : (h78.1 96 41).toInt = (h40.1 96 41).toInt := by rw [g79, wI_ne _ _ _ (by decide)]
                          have s81 : (h78.1 96 42).toInt = (h40.1 96 42).toInt := by rw [g79, wI_ne _ _ _ (by decide)]
                          have s82 : (h78.1 96 19).toInt = (h40.1 96 19).toInt := by rw [g79, wI_ne _ _ _ (by decide)]
                          have s83 : (h78.1 96 18).toInt = (h40.1 96 18).toInt := by rw [g79, wI_ne _ _ _ (by decide)]
                          have s84 : (h78.1 96 20).toInt = (h40.1 96 20).toInt := by rw [g79, wI_ne _ _ _ (by decide)]
                          have s85 : (h78.1 96 46).toInt = (h40.1 96 46).toInt := by rw [g79, wI_ne _ _ _ (by decide)]
                          have s86 : (h78.1 96 44).toInt = (h40.1 96 44).toInt := by rw [g79, wI_ne _ _ _ (by decide)]
                          have s87 : (h78.1 96 47).toInt = (h40.1 96 47).toInt := by rw [g79, wI_ne _ _ _ (by decide)]
                          have s88 : (h78.1 96 48).toInt = (h40.1 96 48).toInt := by rw [g79, wI_ne _ _ _ (by decide)]
                          have s89 : (h78.1 105 0).toInt = (h40.1 105 0).toInt := by rw [g79, wI_ne _ _ _ (by decide)]
                          refine N_iinc (a := x42.toInt) (c := 1) (fun w => [(3, .inl w), (0, .inr (.inr (.inl 96))), (1, .inl a0), (2, .inl a1)]) rfl rfl (fun _ => rfl) (by decide) rfl (by decide) (by omega) (fun x90 q91 => ?_)
                          refine R_goto 166 rfl rfl ?_
                          exact RUN_weak (psub_cons rfl (psub_cons rfl (psub_cons rfl (psub_cons rfl (psub_nil _))))) (ih43 h78 x90 hI fr fl41 (by omega) (by omega))
                      · show RUN d_X9_goSecond 200 [(3, .inl x42), (0, .inr (.inr (.inl 96))), (1, .inl a0), (2, .inl a1)] [.inl x70] h40 _
                        refine N_if_ne (a := x70.toInt) 218 rfl rfl rfl (fun c92 => ?_) (fun c92 => ?_)
                        · refine N_iinc (a := x42.toInt) (c := 1) (fun w => [(3, .inl w), (0, .inr (.inr (.inl 96))), (1, .inl a0), (2, .inl a1)]) rfl rfl (fun _ => rfl) (by decide) rfl (by decide) (by omega) (fun x93 q94 => ?_)
                          refine R_goto 166 rfl rfl ?_
                          exact RUN_weak (psub_cons rfl (psub_cons rfl (psub_cons rfl (psub_cons rfl (psub_nil _))))) (ih43 h40 x93 hI fr fl41 (by omega) (by omega))
                        · exfalso; omega
              exact lp39 _ h9 (0 : Int32) hI fr (FR.rf _ _) (by decide) (Nat.lt_succ_self _)
            · refine R_aload_n (k := 0) rfl rfl rfl ?_
              refine R_aload_n (k := 0) rfl rfl rfl ?_
              refine R_getf_r (j := 17) rfl ft_9_40 sh_96 rfl ?_
              refine R_iconst 0 rfl rfl ?_
              refine R_iald rfl sh_105 (by decide) ?_
              show RUN d_X9_goSecond 111 [(3, .inl x11), (0, .inr (.inr (.inl 96))), (1, .inl a0), (2, .inl a1)] [.inl (h9.1 105 0), .inr (.inr (.inl 96))] h9 _
              refine R_iload_n (k := 1) rfl rfl rfl ?_
              refine R_callV (v := .inr (.inr (.inl 96))) (As := [.inl (h9.1 105 0), .inl a0]) (rest := []) rfl mt_9_i271 pp_X9_doesRest (by decide) rfl rfl rfl (Nat.le_of_ble_eq_true rfl) (Nat.le_of_ble_eq_true rfl) ((k_X9_doesRest h9 hI (h9.1 105 0) a0 (by omega) (by omega)).mono (fun r95 h96 p97 => ?_))
              obtain ⟨rfl, x98, rfl, q99 | q99 | q99⟩ := p97
              · exfalso; omega
              · show RUN d_X9_goSecond 115 [(3, .inl x11), (0, .inr (.inr (.inl 96))), (1, .inl a0), (2, .inl a1)] [.inl x98] h9 _
                refine N_if_ne (a := x98.toInt) 164 rfl rfl rfl (fun c100 => ?_) (fun c100 => ?_)
                · exfalso; omega
                · refine R_aload_n (k := 0) rfl rfl rfl ?_
                  refine R_getf_r (j := 24) rfl ft_9_52 sh_96 rfl ?_
                  refine R_iconst 0 rfl rfl ?_
                  refine R_iald rfl sh_109 (by decide) ?_
                  show RUN d_X9_goSecond 124 [(3, .inl x11), (0, .inr (.inr (.inl 96))), (1, .inl a0), (2, .inl a1)] [.inl (h9.1 109 0)] h9 _
                  refine N_if_le (a := (h9.1 109 0).toInt) 164 rfl rfl rfl (fun c101 => ?_) (fun c101 => ?_)
                  · refine R_iconst 0 rfl rfl ?_
                    refine R_istore_n (k := 3) rfl [(3, .inl 0), (0, .inr (.inr (.inl 96))), (1, .inl a0), (2, .inl a1)] rfl rfl (by decide) ?_
                    have lp103 : ∀ (n102 : Nat) (h104 : PH) (x106 : Int32), INV h104 → FR [96, 107, 108, 109, 117, 118] h h104 → FR [107] h9 h104 → 0 ≤ x106.toInt ∧ x106.toInt ≤ 6 → (6 - x106.toInt).toNat < n102 → RUN d_X9_goSecond 166 [(3, .inl x106), (0, .inr (.inr (.inl 96))), (1, .inl a0), (2, .inl a1)] [] h104 (q_X9_goSecond h a0 a1) := by
                      intro n102
                      induction n102 with
                      | zero => intro h104 x106 m108 m109 m110 m111 hz; exact absurd hz (Nat.not_lt_zero _)
                      | succ n102 ih107 =>
                        intro h104 x106 hI fr fl105 m111 hz
                        have s112 : (h104.1 96 41).toInt = (h9.1 96 41).toInt := by rw [(fl105 96 (by decide)).1]
                        have s113 : (h104.1 96 42).toInt = (h9.1 96 42).toInt := by rw [(fl105 96 (by decide)).1]
                        have s114 : (h104.1 96 19).toInt = (h9.1 96 19).toInt := by rw [(fl105 96 (by decide)).1]
                        have s115 : (h104.1 96 18).toInt = (h9.1 96 18).toInt := by rw [(fl105 96 (by decide)).1]
                        have s116 : (h104.1 96 20).toInt = (h9.1 96 20).toInt := by rw [(fl105 96 (by decide)).1]
                        have s117 : (h104.1 96 46).toInt = (h9.1 96 46).toInt := by rw [(fl105 96 (by decide)).1]
                        have s118 : (h104.1 96 44).toInt = (h9.1 96 44).toInt := by rw [(fl105 96 (by decide)).1]
                        have s119 : (h104.1 96 47).toInt = (h9.1 96 47).toInt := by rw [(fl105 96 (by decide)).1]
                        have s120 : (h104.1 96 48).toInt = (h9.1 96 48).toInt := by rw [(fl105 96 (by decide)).1]
                        have s121 : (h104.1 105 0).toInt = (h9.1 105 0).toInt := by rw [(fl105 105 (by decide)).1]
                        have s122 : (h104.1 109 0).toInt = (h9.1 109 0).toInt := by rw [(fl105 109 (by decide)).1]
                        have fl10 : FR [96, 107, 108, 109, 117, 118] h h104 := fl10.trans fl105 (by decide)
                        refine R_iload_n (k := 3) rfl rfl rfl ?_
                        refine R_aload_n (k := 0) rfl rfl rfl ?_
                        refine R_getf_i (j := 18) rfl ft_9_253 sh_96 rfl ?_
                        refine N_icmp_ge (a := x106.toInt) (b := (h104.1 96 18).toInt) 224 rfl rfl rfl rfl (fun c123 => ?_) (fun c123 => ?_)
                        · exact R_vret rfl rfl ⟨hI, fr, ⟨by omega, by omega, by omega, by omega, by omega, by omega, by omega, by omega, by omega, trivial⟩, rfl⟩
                        · refine R_aload_n (k := 0) rfl rfl rfl ?_
                          refine R_getf_r (j := 22) rfl ft_9_46 sh_96 rfl ?_
                          refine R_aload_n (k := 0) rfl rfl rfl ?_
                          refine R_getf_r (j := 17) rfl ft_9_40 sh_96 rfl ?_
                          refine R_iload_n (k := 3) rfl rfl rfl ?_
                          refine R_iald rfl sh_105 ⟨by omega, by omega⟩ ?_
                          refine N_bd (lo := 0) (hi := 5) (hI.1 105 _) (fun x124 q125 => ?_)
                          refine R_iald rfl sh_107 ⟨by omega, by omega⟩ ?_
                          refine N_any (fun x126 => ?_)
                          refine R_iconst (-1) rfl rfl ?_
                          refine N_icmp_eq (a := x126.toInt) (b := (-1)) 218 rfl rfl rfl (by decide) (fun c127 => ?_) (fun c127 => ?_)
                          · refine N_iinc (a := x106.toInt) (c := 1) (fun w => [(3, .inl w), (0, .inr (.inr (.inl 96))), (1, .inl a0), (2, .inl a1)]) rfl rfl (fun _ => rfl) (by decide) rfl (by decide) (by omega) (fun x128 q129 => ?_)
                            refine R_goto 166 rfl rfl ?_
                            exact RUN_weak (psub_cons rfl (psub_cons rfl (psub_cons rfl (psub_cons rfl (psub_nil _))))) (ih107 h104 x128 hI fr fl105 (by omega) (by omega))
                          · refine R_aload_n (k := 0) rfl rfl rfl ?_
                            refine R_aload_n (k := 0) rfl rfl rfl ?_
                            refine R_getf_r (j := 17) rfl ft_9_40 sh_96 rfl ?_
                            refine R_iload_n (k := 3) rfl rfl rfl ?_
                            refine R_iald rfl sh_105 ⟨by omega, by omega⟩ ?_
                            refine N_bd (lo := 0) (hi := 5) (hI.1 105 _) (fun x130 q131 => ?_)
                            refine R_iload_n (k := 1) rfl rfl rfl ?_
                            refine R_callV (v := .inr (.inr (.inl 96))) (As := [.inl x130, .inl a0]) (rest := []) rfl mt_9_i271 pp_X9_doesRest (by decide) rfl rfl rfl (Nat.le_of_ble_eq_true rfl) (Nat.le_of_ble_eq_true rfl) ((k_X9_doesRest h104 hI x130 a0 (by omega) (by omega)).mono (fun r132 h133 p134 => ?_))
                            obtain ⟨rfl, x135, rfl, q136 | q136 | q136⟩ := p134
                            · exfalso; omega
                            · show RUN d_X9_goSecond 200 [(3, .inl x106), (0, .inr (.inr (.inl 96))), (1, .inl a0), (2, .inl a1)] [.inl x135] h104 _
                              refine N_if_ne (a := x135.toInt) 218 rfl rfl rfl (fun c137 => ?_) (fun c137 => ?_)
                              · exfalso; omega
                              · refine R_aload_n (k := 0) rfl rfl rfl ?_
                                refine R_getf_r (j := 22) rfl ft_9_46 sh_96 rfl ?_
                                refine R_aload_n (k := 0) rfl rfl rfl ?_
                                refine R_getf_r (j := 17) rfl ft_9_40 sh_96 rfl ?_
                                refine R_iload_n (k := 3) rfl rfl rfl ?_
                                refine R_iald rfl sh_105 ⟨by omega, by omega⟩ ?_
                                refine N_bd (lo := 0) (hi := 5) (hI.1 105 _) (fun x138 q139 => ?_)
                                refine R_dup2 rfl ?_
                                refine R_iald rfl sh_107 ⟨by omega, by omega⟩ ?_
                                refine N_any (fun x140 => ?_)
                                refine R_iconst 1 rfl rfl ?_
                                have b141 := i_rng x140
                                refine R_iadd rfl ?_
                                refine N_any (fun x142 => ?_)
                                refine K_iast (a := x138.toInt) (lo := (-2147483648)) (hi' := 2147483647) rfl sh_107 rfl ⟨by omega, by omega⟩ hI (by decide) rfl (i_rng _) fr (by decide) (fun h143 g144 hI fr => ?_)
                                have fl105 : FR [107] h9 h143 := by rw [g144]; exact FR_wI _ _ fl105 (by decide)
                                have fl10 : FR [96, 107, 108, 109, 117, 118] h h143 := by rw [g144]; exact FR_wI _ _ fl10 (by decide)
                                have s145 : (h143.1 96 41).toInt = (h104.1 96 41).toInt := by rw [g144, wI_ne _ _ _ (by decide)]
                                have s146 : (h143.1 96 42).toInt = (h104.1 96 42).toInt := by rw [g144, wI_ne _ _ _ (by decide)]
                                have s147 : (h143.1 96 19).toInt = (h104.1 96 19).toInt := by rw [g144, wI_ne _ _ _ (by decide)]
                                have s148 : (h143.1 96 18).toInt = (h104.1 96 18).toInt := by rw [g144, wI_ne _ _ _ (by decide)]
                                have s149 : (h143.1 96 20).toInt = (h104.1 96 20).toInt := by rw [g144, wI_ne _ _ _ (by decide)]
                                have s150 : (h143.1 96 46).toInt = (h104.1 96 46).toInt := by rw [g144, wI_ne _ _ _ (by decide)]
                                have s151 : (h143.1 96 44).toInt = (h104.1 96 44).toInt := by rw [g144, wI_ne _ _ _ (by decide)]
                                have s152 : (h143.1 96 47).toInt = (h104.1 96 47).toInt := by rw [g144, wI_ne _ _ _ (by decide)]
                                have s153 : (h143.1 96 48).toInt = (h104.1 96 48).toInt := by rw [g144, wI_ne _ _ _ (by decide)]
                                have s154 : (h143.1 105 0).toInt = (h104.1 105 0).toInt := by rw [g144, wI_ne _ _ _ (by decide)]
                                have s155 : (h143.1 109 0).toInt = (h104.1 109 0).toInt := by rw [g144, wI_ne _ _ _ (by decide)]
                                refine N_iinc (a := x106.toInt) (c := 1) (fun w => [(3, .inl w), (0, .inr (.inr (.inl 96))), (1, .inl a0), (2, .inl a1)]) rfl rfl (fun _ => rfl) (by decide) rfl (by decide) (by omega) (fun x156 q157 => ?_)
                                refine R_goto 166 rfl rfl ?_
                                exact RUN_weak (psub_cons rfl (psub_cons rfl (psub_cons rfl (psub_cons rfl (psub_nil _))))) (ih107 h143 x156 hI fr fl105 (by omega) (by omega))
                            · show RUN d_X9_goSecond 200 [(3, .inl x106), (0, .inr (.inr (.inl 96))), (1, .inl a0), (2, .inl a1)] [.inl x135] h104 _
                              refine N_if_ne (a := x135.toInt) 218 rfl rfl rfl (fun c158 => ?_) (fun c158 => ?_)
                              · refine N_iinc (a := x106.toInt) (c := 1) (fun w => [(3, .inl w), (0, .inr (.inr (.inl 96))), (1, .inl a0), (2, .inl a1)]) rfl rfl (fun _ => rfl) (by decide) rfl (by decide) (by omega) (fun x159 q160 => ?_)
                                refine R_goto 166 rfl rfl ?_
                                exact RUN_weak (psub_cons rfl (psub_cons rfl (psub_cons rfl (psub_cons rfl (psub_nil _))))) (ih107 h104 x159 hI fr fl105 (by omega) (by omega))
                              · exfalso; omega
                    exact lp103 _ h9 (0 : Int32) hI fr (FR.rf _ _) (by decide) (Nat.lt_succ_self _)
                  · refine R_aload_n (k := 0) rfl rfl rfl ?_
                    refine R_getf_r (j := 24) rfl ft_9_52 sh_96 rfl ?_
                    refine R_iconst 0 rfl rfl ?_
                    refine R_dup2 rfl ?_
                    refine R_iald rfl sh_109 (by decide) ?_
                    show RUN d_X9_goSecond 134 [(3, .inl x11), (0, .inr (.inr (.inl 96))), (1, .inl a0), (2, .inl a1)] [.inl (h9.1 109 0), .inl 0, .inr (.inr (.inl 109))] h9 _
                    refine R_iconst 1 rfl rfl ?_
                    have b161 := i_rng (h9.1 109 0)
                    refine N_isub (a := (h9.1 109 0).toInt) (b := 1) rfl rfl (by decide) (by omega) (fun x162 q163 => ?_)
                    refine K_iast (a := 0) (lo := (-2147483648)) (hi' := 2147483647) rfl sh_109 (by decide) (by decide) hI (by decide) rfl (i_rng _) fr (by decide) (fun h164 g165 hI fr => ?_)
                    have fl10 : FR [96, 107, 108, 109, 117, 118] h h164 := by rw [g165]; exact FR_wI _ _ fl10 (by decide)
                    have s166 : (h164.1 96 41).toInt = (h9.1 96 41).toInt := by rw [g165, wI_ne _ _ _ (by decide)]
                    have s167 : (h164.1 96 42).toInt = (h9.1 96 42).toInt := by rw [g165, wI_ne _ _ _ (by decide)]
                    have s168 : (h164.1 96 19).toInt = (h9.1 96 19).toInt := by rw [g165, wI_ne _ _ _ (by decide)]
                    have s169 : (h164.1 96 18).toInt = (h9.1 96 18).toInt := by rw [g165, wI_ne _ _ _ (by decide)]
                    have s170 : (h164.1 96 20).toInt = (h9.1 96 20).toInt := by rw [g165, wI_ne _ _ _ (by decide)]
                    have s171 : (h164.1 96 46).toInt = (h9.1 96 46).toInt := by rw [g165, wI_ne _ _ _ (by decide)]
                    have s172 : (h164.1 96 44).toInt = (h9.1 96 44).toInt := by rw [g165, wI_ne _ _ _ (by decide)]
                    have s173 : (h164.1 96 47).toInt = (h9.1 96 47).toInt := by rw [g165, wI_ne _ _ _ (by decide)]
                    have s174 : (h164.1 96 48).toInt = (h9.1 96 48).toInt := by rw [g165, wI_ne _ _ _ (by decide)]
                    have s175 : (h164.1 105 0).toInt = (h9.1 105 0).toInt := by rw [g165, wI_ne _ _ _ (by decide)]
                    have s176 : (h164.1 109 0).toInt = x162.toInt := by rw [g165, show (0 : Int32).toNatClampNeg = 0 from rfl, wI_is]
                    refine R_aload_n (k := 0) rfl rfl rfl ?_
                    refine R_getf_r (j := 22) rfl ft_9_46 sh_96 rfl ?_
                    refine R_aload_n (k := 0) rfl rfl rfl ?_
                    refine R_getf_r (j := 17) rfl ft_9_40 sh_96 rfl ?_
                    refine R_iconst 0 rfl rfl ?_
                    refine R_iald rfl sh_105 (by decide) ?_
                    show RUN d_X9_goSecond 147 [(3, .inl x11), (0, .inr (.inr (.inl 96))), (1, .inl a0), (2, .inl a1)] [.inl (h164.1 105 0), .inr (.inr (.inl 107))] h164 _
                    refine R_iconst 0 rfl rfl ?_
                    refine K_iast (a := (h164.1 105 0).toInt) (lo := (-2147483648)) (hi' := 2147483647) rfl sh_107 rfl ⟨by omega, by omega⟩ hI (by decide) rfl (by decide) fr (by decide) (fun h177 g178 hI fr => ?_)
                    have fl10 : FR [96, 107, 108, 109, 117, 118] h h177 := by rw [g178]; exact FR_wI _ _ fl10 (by decide)
                    have s179 : (h177.1 96 41).toInt = (h164.1 96 41).toInt := by rw [g178, wI_ne _ _ _ (by decide)]
                    have s180 : (h177.1 96 42).toInt = (h164.1 96 42).toInt := by rw [g178, wI_ne _ _ _ (by decide)]
                    have s181 : (h177.1 96 19).toInt = (h164.1 96 19).toInt := by rw [g178, wI_ne _ _ _ (by decide)]
                    have s182 : (h177.1 96 18).toInt = (h164.1 96 18).toInt := by rw [g178, wI_ne _ _ _ (by decide)]
                    have s183 : (h177.1 96 20).toInt = (h164.1 96 20).toInt := by rw [g178, wI_ne _ _ _ (by decide)]
                    have s184 : (h177.1 96 46).toInt = (h164.1 96 46).toInt := by rw [g178, wI_ne _ _ _ (by decide)]
                    have s185 : (h177.1 96 44).toInt = (h164.1 96 44).toInt := by rw [g178, wI_ne _ _ _ (by decide)]
                    have s186 : (h177.1 96 47).toInt = (h164.1 96 47).toInt := by rw [g178, wI_ne _ _ _ (by decide)]
                    have s187 : (h177.1 96 48).toInt = (h164.1 96 48).toInt := by rw [g178, wI_ne _ _ _ (by decide)]
                    have s188 : (h177.1 105 0).toInt = (h164.1 105 0).toInt := by rw [g178, wI_ne _ _ _ (by decide)]
                    have s189 : (h177.1 109 0).toInt = (h164.1 109 0).toInt := by rw [g178, wI_ne _ _ _ (by decide)]
                    refine R_aload_n (k := 0) rfl rfl rfl ?_
                    refine R_getf_r (j := 23) rfl ft_9_49 sh_96 rfl ?_
                    refine R_aload_n (k := 0) rfl rfl rfl ?_
                    refine R_getf_r (j := 17) rfl ft_9_40 sh_96 rfl ?_
                    refine R_iconst 0 rfl rfl ?_
                    refine R_iald rfl sh_105 (by decide) ?_
                    show RUN d_X9_goSecond 159 [(3, .inl x11), (0, .inr (.inr (.inl 96))), (1, .inl a0), (2, .inl a1)] [.inl (h177.1 105 0), .inr (.inr (.inl 108))] h177 _
                    refine R_aload_n (k := 0) rfl rfl rfl ?_
                    refine R_getf_i (j := 20) rfl ft_9_259 sh_96 rfl ?_
                    refine K_iast (a := (h177.1 105 0).toInt) (lo := (-2147483648)) (hi' := 2147483647) rfl sh_108 rfl ⟨by omega, by omega⟩ hI (by decide) rfl (i_rng _) fr (by decide) (fun h190 g191 hI fr => ?_)
                    have fl10 : FR [96, 107, 108, 109, 117, 118] h h190 := by rw [g191]; exact FR_wI _ _ fl10 (by decide)
                    have s192 : (h190.1 96 41).toInt = (h177.1 96 41).toInt := by rw [g191, wI_ne _ _ _ (by decide)]
                    have s193 : (h190.1 96 42).toInt = (h177.1 96 42).toInt := by rw [g191, wI_ne _ _ _ (by decide)]
                    have s194 : (h190.1 96 19).toInt = (h177.1 96 19).toInt := by rw [g191, wI_ne _ _ _ (by decide)]
                    have s195 : (h190.1 96 18).toInt = (h177.1 96 18).toInt := by rw [g191, wI_ne _ _ _ (by decide)]
                    have s196 : (h190.1 96 20).toInt = (h177.1 96 20).toInt := by rw [g191, wI_ne _ _ _ (by decide)]
                    have s197 : (h190.1 96 46).toInt = (h177.1 96 46).toInt := by rw [g191, wI_ne _ _ _ (by decide)]
                    have s198 : (h190.1 96 44).toInt = (h177.1 96 44).toInt := by rw [g191, wI_ne _ _ _ (by decide)]
                    have s199 : (h190.1 96 47).toInt = (h177.1 96 47).toInt := by rw [g191, wI_ne _ _ _ (by decide)]
                    have s200 : (h190.1 96 48).toInt = (h177.1 96 48).toInt := by rw [g191, wI_ne _ _ _ (by decide)]
                    have s201 : (h190.1 105 0).toInt = (h177.1 105 0).toInt := by rw [g191, wI_ne _ _ _ (by decide)]
                    have s202 : (h190.1 109 0).toInt = (h177.1 109 0).toInt := by rw [g191, wI_ne _ _ _ (by decide)]
                    refine R_iconst 0 rfl rfl ?_
                    refine R_istore_n (k := 3) rfl [(3, .inl 0), (0, .inr (.inr (.inl 96))), (1, .inl a0), (2, .inl a1)] rfl rfl (by decide) ?_
                    have lp204 : ∀ (n203 : Nat) (h205 : PH) (x207 : Int32), INV h205 → FR [96, 107, 108, 109, 117, 118] h h205 → FR [107] h190 h205 → 0 ≤ x207.toInt ∧ x207.toInt ≤ 6 → (6 - x207.toInt).toNat < n203 → RUN d_X9_goSecond 166 [(3, .inl x207), (0, .inr (.inr (.inl 96))), (1, .inl a0), (2, .inl a1)] [] h205 (q_X9_goSecond h a0 a1) := by
                      intro n203
                      induction n203 with
                      | zero => intro h205 x207 m209 m210 m211 m212 hz; exact absurd hz (Nat.not_lt_zero _)
                      | succ n203 ih208 =>
                        intro h205 x207 hI fr fl206 m212 hz
                        have s213 : (h205.1 96 41).toInt = (h190.1 96 41).toInt := by rw [(fl206 96 (by decide)).1]
                        have s214 : (h205.1 96 42).toInt = (h190.1 96 42).toInt := by rw [(fl206 96 (by decide)).1]
                        have s215 : (h205.1 96 19).toInt = (h190.1 96 19).toInt := by rw [(fl206 96 (by decide)).1]
                        have s216 : (h205.1 96 18).toInt = (h190.1 96 18).toInt := by rw [(fl206 96 (by decide)).1]
                        have s217 : (h205.1 96 20).toInt = (h190.1 96 20).toInt := by rw [(fl206 96 (by decide)).1]
                        have s218 : (h205.1 96 46).toInt = (h190.1 96 46).toInt := by rw [(fl206 96 (by decide)).1]
                        have s219 : (h205.1 96 44).toInt = (h190.1 96 44).toInt := by rw [(fl206 96 (by decide)).1]
                        have s220 : (h205.1 96 47).toInt = (h190.1 96 47).toInt := by rw [(fl206 96 (by decide)).1]
                        have s221 : (h205.1 96 48).toInt = (h190.1 96 48).toInt := by rw [(fl206 96 (by decide)).1]
                        have s222 : (h205.1 105 0).toInt = (h190.1 105 0).toInt := by rw [(fl206 105 (by decide)).1]
                        have s223 : (h205.1 109 0).toInt = (h190.1 109 0).toInt := by rw [(fl206 109 (by decide)).1]
                        have fl10 : FR [96, 107, 108, 109, 117, 118] h h205 := fl10.trans fl206 (by decide)
                        refine R_iload_n (k := 3) rfl rfl rfl ?_
                        refine R_aload_n (k := 0) rfl rfl rfl ?_
                        refine R_getf_i (j := 18) rfl ft_9_253 sh_96 rfl ?_
                        refine N_icmp_ge (a := x207.toInt) (b := (h205.1 96 18).toInt) 224 rfl rfl rfl rfl (fun c224 => ?_) (fun c224 => ?_)
                        · exact R_vret rfl rfl ⟨hI, fr, ⟨by omega, by omega, by omega, by omega, by omega, by omega, by omega, by omega, by omega, trivial⟩, rfl⟩
                        · refine R_aload_n (k := 0) rfl rfl rfl ?_
                          refine R_getf_r (j := 22) rfl ft_9_46 sh_96 rfl ?_
                          refine R_aload_n (k := 0) rfl rfl rfl ?_
                          refine R_getf_r (j := 17) rfl ft_9_40 sh_96 rfl ?_
                          refine R_iload_n (k := 3) rfl rfl rfl ?_
                          refine R_iald rfl sh_105 ⟨by omega, by omega⟩ ?_
                          refine N_bd (lo := 0) (hi := 5) (hI.1 105 _) (fun x225 q226 => ?_)
                          refine R_iald rfl sh_107 ⟨by omega, by omega⟩ ?_
                          refine N_any (fun x227 => ?_)
                          refine R_iconst (-1) rfl rfl ?_
                          refine N_icmp_eq (a := x227.toInt) (b := (-1)) 218 rfl rfl rfl (by decide) (fun c228 => ?_) (fun c228 => ?_)
                          · refine N_iinc (a := x207.toInt) (c := 1) (fun w => [(3, .inl w), (0, .inr (.inr (.inl 96))), (1, .inl a0), (2, .inl a1)]) rfl rfl (fun _ => rfl) (by decide) rfl (by decide) (by omega) (fun x229 q230 => ?_)
                            refine R_goto 166 rfl rfl ?_
                            exact RUN_weak (psub_cons rfl (psub_cons rfl (psub_cons rfl (psub_cons rfl (psub_nil _))))) (ih208 h205 x229 hI fr fl206 (by omega) (by omega))
                          · refine R_aload_n (k := 0) rfl rfl rfl ?_
                            refine R_aload_n (k := 0) rfl rfl rfl ?_
                            refine R_getf_r (j := 17) rfl ft_9_40 sh_96 rfl ?_
                            refine R_iload_n (k := 3) rfl rfl rfl ?_
                            refine R_iald rfl sh_105 ⟨by omega, by omega⟩ ?_
                            refine N_bd (lo := 0) (hi := 5) (hI.1 105 _) (fun x231 q232 => ?_)
                            refine R_iload_n (k := 1) rfl rfl rfl ?_
                            refine R_callV (v := .inr (.inr (.inl 96))) (As := [.inl x231, .inl a0]) (rest := []) rfl mt_9_i271 pp_X9_doesRest (by decide) rfl rfl rfl (Nat.le_of_ble_eq_true rfl) (Nat.le_of_ble_eq_true rfl) ((k_X9_doesRest h205 hI x231 a0 (by omega) (by omega)).mono (fun r233 h234 p235 => ?_))
                            obtain ⟨rfl, x236, rfl, q237 | q237 | q237⟩ := p235
                            · exfalso; omega
                            · show RUN d_X9_goSecond 200 [(3, .inl x207), (0, .inr (.inr (.inl 96))), (1, .inl a0), (2, .inl a1)] [.inl x236] h205 _
                              refine N_if_ne (a := x236.toInt) 218 rfl rfl rfl (fun c238 => ?_) (fun c238 => ?_)
                              · exfalso; omega
                              · refine R_aload_n (k := 0) rfl rfl rfl ?_
                                refine R_getf_r (j := 22) rfl ft_9_46 sh_96 rfl ?_
                                refine R_aload_n (k := 0) rfl rfl rfl ?_
                                refine R_getf_r (j := 17) rfl ft_9_40 sh_96 rfl ?_
                                refine R_iload_n (k := 3) rfl rfl rfl ?_
                                refine R_iald rfl sh_105 ⟨by omega, by omega⟩ ?_
                                refine N_bd (lo := 0) (hi := 5) (hI.1 105 _) (fun x239 q240 => ?_)
                                refine R_dup2 rfl ?_
                                refine R_iald rfl sh_107 ⟨by omega, by omega⟩ ?_
                                refine N_any (fun x241 => ?_)
                                refine R_iconst 1 rfl rfl ?_
                                have b242 := i_rng x241
                                refine R_iadd rfl ?_
                                refine N_any (fun x243 => ?_)
                                refine K_iast (a := x239.toInt) (lo := (-2147483648)) (hi' := 2147483647) rfl sh_107 rfl ⟨by omega, by omega⟩ hI (by decide) rfl (i_rng _) fr (by decide) (fun h244 g245 hI fr => ?_)
                                have fl206 : FR [107] h190 h244 := by rw [g245]; exact FR_wI _ _ fl206 (by decide)
                                have fl10 : FR [96, 107, 108, 109, 117, 118] h h244 := by rw [g245]; exact FR_wI _ _ fl10 (by decide)
                                have s246 : (h244.1 96 41).toInt = (h205.1 96 41).toInt := by rw [g245, wI_ne _ _ _ (by decide)]
                                have s247 : (h244.1 96 42).toInt = (h205.1 96 42).toInt := by rw [g245, wI_ne _ _ _ (by decide)]
                                have s248 : (h244.1 96 19).toInt = (h205.1 96 19).toInt := by rw [g245, wI_ne _ _ _ (by decide)]
                                have s249 : (h244.1 96 18).toInt = (h205.1 96 18).toInt := by rw [g245, wI_ne _ _ _ (by decide)]
                                have s250 : (h244.1 96 20).toInt = (h205.1 96 20).toInt := by rw [g245, wI_ne _ _ _ (by decide)]
                                have s251 : (h244.1 96 46).toInt = (h205.1 96 46).toInt := by rw [g245, wI_ne _ _ _ (by decide)]
                                have s252 : (h244.1 96 44).toInt = (h205.1 96 44).toInt := by rw [g245, wI_ne _ _ _ (by decide)]
                                have s253 : (h244.1 96 47).toInt = (h205.1 96 47).toInt := by rw [g245, wI_ne _ _ _ (by decide)]
                                have s254 : (h244.1 96 48).toInt = (h205.1 96 48).toInt := by rw [g245, wI_ne _ _ _ (by decide)]
                                have s255 : (h244.1 105 0).toInt = (h205.1 105 0).toInt := by rw [g245, wI_ne _ _ _ (by decide)]
                                have s256 : (h244.1 109 0).toInt = (h205.1 109 0).toInt := by rw [g245, wI_ne _ _ _ (by decide)]
                                refine N_iinc (a := x207.toInt) (c := 1) (fun w => [(3, .inl w), (0, .inr (.inr (.inl 96))), (1, .inl a0), (2, .inl a1)]) rfl rfl (fun _ => rfl) (by decide) rfl (by decide) (by omega) (fun x257 q258 => ?_)
                                refine R_goto 166 rfl rfl ?_
                                exact RUN_weak (psub_cons rfl (psub_cons rfl (psub_cons rfl (psub_cons rfl (psub_nil _))))) (ih208 h244 x257 hI fr fl206 (by omega) (by omega))
                            · show RUN d_X9_goSecond 200 [(3, .inl x207), (0, .inr (.inr (.inl 96))), (1, .inl a0), (2, .inl a1)] [.inl x236] h205 _
                              refine N_if_ne (a := x236.toInt) 218 rfl rfl rfl (fun c259 => ?_) (fun c259 => ?_)
                              · refine N_iinc (a := x207.toInt) (c := 1) (fun w => [(3, .inl w), (0, .inr (.inr (.inl 96))), (1, .inl a0), (2, .inl a1)]) rfl rfl (fun _ => rfl) (by decide) rfl (by decide) (by omega) (fun x260 q261 => ?_)
                                refine R_goto 166 rfl rfl ?_
                                exact RUN_weak (psub_cons rfl (psub_cons rfl (psub_cons rfl (psub_cons rfl (psub_nil _))))) (ih208 h205 x260 hI fr fl206 (by omega) (by omega))
                              · exfalso; omega
                    exact lp204 _ h190 (0 : Int32) hI fr (FR.rf _ _) (by decide) (Nat.lt_succ_self _)
              · show RUN d_X9_goSecond 115 [(3, .inl x11), (0, .inr (.inr (.inl 96))), (1, .inl a0), (2, .inl a1)] [.inl x98] h9 _
                refine N_if_ne (a := x98.toInt) 164 rfl rfl rfl (fun c262 => ?_) (fun c262 => ?_)
                · refine R_iconst 0 rfl rfl ?_
                  refine R_istore_n (k := 3) rfl [(3, .inl 0), (0, .inr (.inr (.inl 96))), (1, .inl a0), (2, .inl a1)] rfl rfl (by decide) ?_
                  have lp264 : ∀ (n263 : Nat) (h265 : PH) (x267 : Int32), INV h265 → FR [96, 107, 108, 109, 117, 118] h h265 → FR [107] h9 h265 → 0 ≤ x267.toInt ∧ x267.toInt ≤ 6 → (6 - x267.toInt).toNat < n263 → RUN d_X9_goSecond 166 [(3, .inl x267), (0, .inr (.inr (.inl 96))), (1, .inl a0), (2, .inl a1)] [] h265 (q_X9_goSecond h a0 a1) := by
                    intro n263
                    induction n263 with
                    | zero => intro h265 x267 m269 m270 m271 m272 hz; exact absurd hz (Nat.not_lt_zero _)
                    | succ n263 ih268 =>
                      intro h265 x267 hI fr fl266 m272 hz
                      have s273 : (h265.1 96 41).toInt = (h9.1 96 41).toInt := by rw [(fl266 96 (by decide)).1]
                      have s274 : (h265.1 96 42).toInt = (h9.1 96 42).toInt := by rw [(fl266 96 (by decide)).1]
                      have s275 : (h265.1 96 19).toInt = (h9.1 96 19).toInt := by rw [(fl266 96 (by decide)).1]
                      have s276 : (h265.1 96 18).toInt = (h9.1 96 18).toInt := by rw [(fl266 96 (by decide)).1]
                      have s277 : (h265.1 96 20).toInt = (h9.1 96 20).toInt := by rw [(fl266 96 (by decide)).1]
                      have s278 : (h265.1 96 46).toInt = (h9.1 96 46).toInt := by rw [(fl266 96 (by decide)).1]
                      have s279 : (h265.1 96 44).toInt = (h9.1 96 44).toInt := by rw [(fl266 96 (by decide)).1]
                      have s280 : (h265.1 96 47).toInt = (h9.1 96 47).toInt := by rw [(fl266 96 (by decide)).1]
                      have s281 : (h265.1 96 48).toInt = (h9.1 96 48).toInt := by rw [(fl266 96 (by decide)).1]
                      have s282 : (h265.1 105 0).toInt = (h9.1 105 0).toInt := by rw [(fl266 105 (by decide)).1]
                      have fl10 : FR [96, 107, 108, 109, 117, 118] h h265 := fl10.trans fl266 (by decide)
                      refine R_iload_n (k := 3) rfl rfl rfl ?_
                      refine R_aload_n (k := 0) rfl rfl rfl ?_
                      refine R_getf_i (j := 18) rfl ft_9_253 sh_96 rfl ?_
                      refine N_icmp_ge (a := x267.toInt) (b := (h265.1 96 18).toInt) 224 rfl rfl rfl rfl (fun c283 => ?_) (fun c283 => ?_)
                      · exact R_vret rfl rfl ⟨hI, fr, ⟨by omega, by omega, by omega, by omega, by omega, by omega, by omega, by omega, by omega, trivial⟩, rfl⟩
                      · refine R_aload_n (k := 0) rfl rfl rfl ?_
                        refine R_getf_r (j := 22) rfl ft_9_46 sh_96 rfl ?_
                        refine R_aload_n (k := 0) rfl rfl rfl ?_
                        refine R_getf_r (j := 17) rfl ft_9_40 sh_96 rfl ?_
                        refine R_iload_n (k := 3) rfl rfl rfl ?_
                        refine R_iald rfl sh_105 ⟨by omega, by omega⟩ ?_
                        refine N_bd (lo := 0) (hi := 5) (hI.1 105 _) (fun x284 q285 => ?_)
                        refine R_iald rfl sh_107 ⟨by omega, by omega⟩ ?_
                        refine N_any (fun x286 => ?_)
                        refine R_iconst (-1) rfl rfl ?_
                        refine N_icmp_eq (a := x286.toInt) (b := (-1)) 218 rfl rfl rfl (by decide) (fun c287 => ?_) (fun c287 => ?_)
                        · refine N_iinc (a := x267.toInt) (c := 1) (fun w => [(3, .inl w), (0, .inr (.inr (.inl 96))), (1, .inl a0), (2, .inl a1)]) rfl rfl (fun _ => rfl) (by decide) rfl (by decide) (by omega) (fun x288 q289 => ?_)
                          refine R_goto 166 rfl rfl ?_
                          exact RUN_weak (psub_cons rfl (psub_cons rfl (psub_cons rfl (psub_cons rfl (psub_nil _))))) (ih268 h265 x288 hI fr fl266 (by omega) (by omega))
                        · refine R_aload_n (k := 0) rfl rfl rfl ?_
                          refine R_aload_n (k := 0) rfl rfl rfl ?_
                          refine R_getf_r (j := 17) rfl ft_9_40 sh_96 rfl ?_
                          refine R_iload_n (k := 3) rfl rfl rfl ?_
                          refine R_iald rfl sh_105 ⟨by omega, by omega⟩ ?_
                          refine N_bd (lo := 0) (hi := 5) (hI.1 105 _) (fun x290 q291 => ?_)
                          refine R_iload_n (k := 1) rfl rfl rfl ?_
                          refine R_callV (v := .inr (.inr (.inl 96))) (As := [.inl x290, .inl a0]) (rest := []) rfl mt_9_i271 pp_X9_doesRest (by decide) rfl rfl rfl (Nat.le_of_ble_eq_true rfl) (Nat.le_of_ble_eq_true rfl) ((k_X9_doesRest h265 hI x290 a0 (by omega) (by omega)).mono (fun r292 h293 p294 => ?_))
                          obtain ⟨rfl, x295, rfl, q296 | q296 | q296⟩ := p294
                          · exfalso; omega
                          · show RUN d_X9_goSecond 200 [(3, .inl x267), (0, .inr (.inr (.inl 96))), (1, .inl a0), (2, .inl a1)] [.inl x295] h265 _
                            refine N_if_ne (a := x295.toInt) 218 rfl rfl rfl (fun c297 => ?_) (fun c297 => ?_)
                            · exfalso; omega
                            · refine R_aload_n (k := 0) rfl rfl rfl ?_
                              refine R_getf_r (j := 22) rfl ft_9_46 sh_96 rfl ?_
                              refine R_aload_n (k := 0) rfl rfl rfl ?_
                              refine R_getf_r (j := 17) rfl ft_9_40 sh_96 rfl ?_
                              refine R_iload_n (k := 3) rfl rfl rfl ?_
                              refine R_iald rfl sh_105 ⟨by omega, by omega⟩ ?_
                              refine N_bd (lo := 0) (hi := 5) (hI.1 105 _) (fun x298 q299 => ?_)
                              refine R_dup2 rfl ?_
                              refine R_iald rfl sh_107 ⟨by omega, by omega⟩ ?_
                              refine N_any (fun x300 => ?_)
                              refine R_iconst 1 rfl rfl ?_
                              have b301 := i_rng x300
                              refine R_iadd rfl ?_
                              refine N_any (fun x302 => ?_)
                              refine K_iast (a := x298.toInt) (lo := (-2147483648)) (hi' := 2147483647) rfl sh_107 rfl ⟨by omega, by omega⟩ hI (by decide) rfl (i_rng _) fr (by decide) (fun h303 g304 hI fr => ?_)
                              have fl266 : FR [107] h9 h303 := by rw [g304]; exact FR_wI _ _ fl266 (by decide)
                              have fl10 : FR [96, 107, 108, 109, 117, 118] h h303 := by rw [g304]; exact FR_wI _ _ fl10 (by decide)
                              have s305 : (h303.1 96 41).toInt = (h265.1 96 41).toInt := by rw [g304, wI_ne _ _ _ (by decide)]
                              have s306 : (h303.1 96 42).toInt = (h265.1 96 42).toInt := by rw [g304, wI_ne _ _ _ (by decide)]
                              have s307 : (h303.1 96 19).toInt = (h265.1 96 19).toInt := by rw [g304, wI_ne _ _ _ (by decide)]
                              have s308 : (h303.1 96 18).toInt = (h265.1 96 18).toInt := by rw [g304, wI_ne _ _ _ (by decide)]
                              have s309 : (h303.1 96 20).toInt = (h265.1 96 20).toInt := by rw [g304, wI_ne _ _ _ (by decide)]
                              have s310 : (h303.1 96 46).toInt = (h265.1 96 46).toInt := by rw [g304, wI_ne _ _ _ (by decide)]
                              have s311 : (h303.1 96 44).toInt = (h265.1 96 44).toInt := by rw [g304, wI_ne _ _ _ (by decide)]
                              have s312 : (h303.1 96 47).toInt = (h265.1 96 47).toInt := by rw [g304, wI_ne _ _ _ (by decide)]
                              have s313 : (h303.1 96 48).toInt = (h265.1 96 48).toInt := by rw [g304, wI_ne _ _ _ (by decide)]
                              have s314 : (h303.1 105 0).toInt = (h265.1 105 0).toInt := by rw [g304, wI_ne _ _ _ (by decide)]
                              refine N_iinc (a := x267.toInt) (c := 1) (fun w => [(3, .inl w), (0, .inr (.inr (.inl 96))), (1, .inl a0), (2, .inl a1)]) rfl rfl (fun _ => rfl) (by decide) rfl (by decide) (by omega) (fun x315 q316 => ?_)
                              refine R_goto 166 rfl rfl ?_
                              exact RUN_weak (psub_cons rfl (psub_cons rfl (psub_cons rfl (psub_cons rfl (psub_nil _))))) (ih268 h303 x315 hI fr fl266 (by omega) (by omega))
                          · show RUN d_X9_goSecond 200 [(3, .inl x267), (0, .inr (.inr (.inl 96))), (1, .inl a0), (2, .inl a1)] [.inl x295] h265 _
                            refine N_if_ne (a := x295.toInt) 218 rfl rfl rfl (fun c317 => ?_) (fun c317 => ?_)
                            · refine N_iinc (a := x267.toInt) (c := 1) (fun w => [(3, .inl w), (0, .inr (.inr (.inl 96))), (1, .inl a0), (2, .inl a1)]) rfl rfl (fun _ => rfl) (by decide) rfl (by decide) (by omega) (fun x318 q319 => ?_)
                              refine R_goto 166 rfl rfl ?_
                              exact RUN_weak (psub_cons rfl (psub_cons rfl (psub_cons rfl (psub_cons rfl (psub_nil _))))) (ih268 h265 x318 hI fr fl266 (by omega) (by omega))
                            · exfalso; omega
                  exact lp264 _ h9 (0 : Int32) hI fr (FR.rf _ _) (by decide) (Nat.lt_succ_self _)
                · exfalso; omega
        · refine R_iload_n (k := 2) rfl rfl rfl ?_
          refine N_if_ne (a := a1.toInt) 82 rfl rfl rfl (fun c320 => ?_) (fun c320 => ?_)
          · refine R_aload_n (k := 0) rfl rfl rfl ?_
            refine R_getf_i (j := 18) rfl ft_9_253 sh_96 rfl ?_
            refine N_if_le (a := (h9.1 96 18).toInt) 164 rfl rfl rfl (fun c321 => ?_) (fun c321 => ?_)
            · exfalso; omega
            · refine R_aload_n (k := 0) rfl rfl rfl ?_
              refine R_getf_r (j := 22) rfl ft_9_46 sh_96 rfl ?_
              refine R_aload_n (k := 0) rfl rfl rfl ?_
              refine R_getf_r (j := 17) rfl ft_9_40 sh_96 rfl ?_
              refine R_iconst 0 rfl rfl ?_
              refine R_iald rfl sh_105 (by decide) ?_
              have b322 : (0 : Int) ≤ (h9.1 105 0).toInt ∧ (h9.1 105 0).toInt ≤ 5 := hI.1 105 0
              show RUN d_X9_goSecond 99 [(3, .inl x11), (0, .inr (.inr (.inl 96))), (1, .inl a0), (2, .inl a1)] [.inl (h9.1 105 0), .inr (.inr (.inl 107))] h9 _
              refine R_iald rfl sh_107 ⟨by omega, by omega⟩ ?_
              refine N_any (fun x323 => ?_)
              refine R_iconst (-1) rfl rfl ?_
              refine N_icmp_ne (a := x323.toInt) (b := (-1)) 164 rfl rfl rfl (by decide) (fun c324 => ?_) (fun c324 => ?_)
              · refine R_iconst 0 rfl rfl ?_
                refine R_istore_n (k := 3) rfl [(3, .inl 0), (0, .inr (.inr (.inl 96))), (1, .inl a0), (2, .inl a1)] rfl rfl (by decide) ?_
                have lp326 : ∀ (n325 : Nat) (h327 : PH) (x329 : Int32), INV h327 → FR [96, 107, 108, 109, 117, 118] h h327 → FR [107] h9 h327 → 0 ≤ x329.toInt ∧ x329.toInt ≤ 6 → (6 - x329.toInt).toNat < n325 → RUN d_X9_goSecond 166 [(3, .inl x329), (0, .inr (.inr (.inl 96))), (1, .inl a0), (2, .inl a1)] [] h327 (q_X9_goSecond h a0 a1) := by
                  intro n325
                  induction n325 with
                  | zero => intro h327 x329 m331 m332 m333 m334 hz; exact absurd hz (Nat.not_lt_zero _)
                  | succ n325 ih330 =>
                    intro h327 x329 hI fr fl328 m334 hz
                    have s335 : (h327.1 96 41).toInt = (h9.1 96 41).toInt := by rw [(fl328 96 (by decide)).1]
                    have s336 : (h327.1 96 42).toInt = (h9.1 96 42).toInt := by rw [(fl328 96 (by decide)).1]
                    have s337 : (h327.1 96 19).toInt = (h9.1 96 19).toInt := by rw [(fl328 96 (by decide)).1]
                    have s338 : (h327.1 96 18).toInt = (h9.1 96 18).toInt := by rw [(fl328 96 (by decide)).1]
                    have s339 : (h327.1 96 20).toInt = (h9.1 96 20).toInt := by rw [(fl328 96 (by decide)).1]
                    have s340 : (h327.1 96 46).toInt = (h9.1 96 46).toInt := by rw [(fl328 96 (by decide)).1]
                    have s341 : (h327.1 96 44).toInt = (h9.1 96 44).toInt := by rw [(fl328 96 (by decide)).1]
                    have s342 : (h327.1 96 47).toInt = (h9.1 96 47).toInt := by rw [(fl328 96 (by decide)).1]
                    have s343 : (h327.1 96 48).toInt = (h9.1 96 48).toInt := by rw [(fl328 96 (by decide)).1]
                    have s344 : (h327.1 105 0).toInt = (h9.1 105 0).toInt := by rw [(fl328 105 (by decide)).1]
                    have fl10 : FR [96, 107, 108, 109, 117, 118] h h327 := fl10.trans fl328 (by decide)
                    refine R_iload_n (k := 3) rfl rfl rfl ?_
                    refine R_aload_n (k := 0) rfl rfl rfl ?_
                    refine R_getf_i (j := 18) rfl ft_9_253 sh_96 rfl ?_
                    refine N_icmp_ge (a := x329.toInt) (b := (h327.1 96 18).toInt) 224 rfl rfl rfl rfl (fun c345 => ?_) (fun c345 => ?_)
                    · exact R_vret rfl rfl ⟨hI, fr, ⟨by omega, by omega, by omega, by omega, by omega, by omega, by omega, by omega, by omega, trivial⟩, rfl⟩
                    · refine R_aload_n (k := 0) rfl rfl rfl ?_
                      refine R_getf_r (j := 22) rfl ft_9_46 sh_96 rfl ?_
                      refine R_aload_n (k := 0) rfl rfl rfl ?_
                      refine R_getf_r (j := 17) rfl ft_9_40 sh_96 rfl ?_
                      refine R_iload_n (k := 3) rfl rfl rfl ?_
                      refine R_iald rfl sh_105 ⟨by omega, by omega⟩ ?_
                      refine N_bd (lo := 0) (hi := 5) (hI.1 105 _) (fun x346 q347 => ?_)
                      refine R_iald rfl sh_107 ⟨by omega, by omega⟩ ?_
                      refine N_any (fun x348 => ?_)
                      refine R_iconst (-1) rfl rfl ?_
                      refine N_icmp_eq (a := x348.toInt) (b := (-1)) 218 rfl rfl rfl (by decide) (fun c349 => ?_) (fun c349 => ?_)
                      · refine N_iinc (a := x329.toInt) (c := 1) (fun w => [(3, .inl w), (0, .inr (.inr (.inl 96))), (1, .inl a0), (2, .inl a1)]) rfl rfl (fun _ => rfl) (by decide) rfl (by decide) (by omega) (fun x350 q351 => ?_)
                        refine R_goto 166 rfl rfl ?_
                        exact RUN_weak (psub_cons rfl (psub_cons rfl (psub_cons rfl (psub_cons rfl (psub_nil _))))) (ih330 h327 x350 hI fr fl328 (by omega) (by omega))
                      · refine R_aload_n (k := 0) rfl rfl rfl ?_
                        refine R_aload_n (k := 0) rfl rfl rfl ?_
                        refine R_getf_r (j := 17) rfl ft_9_40 sh_96 rfl ?_
                        refine R_iload_n (k := 3) rfl rfl rfl ?_
                        refine R_iald rfl sh_105 ⟨by omega, by omega⟩ ?_
                        refine N_bd (lo := 0) (hi := 5) (hI.1 105 _) (fun x352 q353 => ?_)
                        refine R_iload_n (k := 1) rfl rfl rfl ?_
                        refine R_callV (v := .inr (.inr (.inl 96))) (As := [.inl x352, .inl a0]) (rest := []) rfl mt_9_i271 pp_X9_doesRest (by decide) rfl rfl rfl (Nat.le_of_ble_eq_true rfl) (Nat.le_of_ble_eq_true rfl) ((k_X9_doesRest h327 hI x352 a0 (by omega) (by omega)).mono (fun r354 h355 p356 => ?_))
                        obtain ⟨rfl, x357, rfl, q358 | q358 | q358⟩ := p356
                        · exfalso; omega
                        · show RUN d_X9_goSecond 200 [(3, .inl x329), (0, .inr (.inr (.inl 96))), (1, .inl a0), (2, .inl a1)] [.inl x357] h327 _
                          refine N_if_ne (a := x357.toInt) 218 rfl rfl rfl (fun c359 => ?_) (fun c359 => ?_)
                          · exfalso; omega
                          · refine R_aload_n (k := 0) rfl rfl rfl ?_
                            refine R_getf_r (j := 22) rfl ft_9_46 sh_96 rfl ?_
                            refine R_aload_n (k := 0) rfl rfl rfl ?_
                            refine R_getf_r (j := 17) rfl ft_9_40 sh_96 rfl ?_
                            refine R_iload_n (k := 3) rfl rfl rfl ?_
                            refine R_iald rfl sh_105 ⟨by omega, by omega⟩ ?_
                            refine N_bd (lo := 0) (hi := 5) (hI.1 105 _) (fun x360 q361 => ?_)
                            refine R_dup2 rfl ?_
                            refine R_iald rfl sh_107 ⟨by omega, by omega⟩ ?_
                            refine N_any (fun x362 => ?_)
                            refine R_iconst 1 rfl rfl ?_
                            have b363 := i_rng x362
                            refine R_iadd rfl ?_
                            refine N_any (fun x364 => ?_)
                            refine K_iast (a := x360.toInt) (lo := (-2147483648)) (hi' := 2147483647) rfl sh_107 rfl ⟨by omega, by omega⟩ hI (by decide) rfl (i_rng _) fr (by decide) (fun h365 g366 hI fr => ?_)
                            have fl328 : FR [107] h9 h365 := by rw [g366]; exact FR_wI _ _ fl328 (by decide)
                            have fl10 : FR [96, 107, 108, 109, 117, 118] h h365 := by rw [g366]; exact FR_wI _ _ fl10 (by decide)
                            have s367 : (h365.1 96 41).toInt = (h327.1 96 41).toInt := by rw [g366, wI_ne _ _ _ (by decide)]
                            have s368 : (h365.1 96 42).toInt = (h327.1 96 42).toInt := by rw [g366, wI_ne _ _ _ (by decide)]
                            have s369 : (h365.1 96 19).toInt = (h327.1 96 19).toInt := by rw [g366, wI_ne _ _ _ (by decide)]
                            have s370 : (h365.1 96 18).toInt = (h327.1 96 18).toInt := by rw [g366, wI_ne _ _ _ (by decide)]
                            have s371 : (h365.1 96 20).toInt = (h327.1 96 20).toInt := by rw [g366, wI_ne _ _ _ (by decide)]
                            have s372 : (h365.1 96 46).toInt = (h327.1 96 46).toInt := by rw [g366, wI_ne _ _ _ (by decide)]
                            have s373 : (h365.1 96 44).toInt = (h327.1 96 44).toInt := by rw [g366, wI_ne _ _ _ (by decide)]
                            have s374 : (h365.1 96 47).toInt = (h327.1 96 47).toInt := by rw [g366, wI_ne _ _ _ (by decide)]
                            have s375 : (h365.1 96 48).toInt = (h327.1 96 48).toInt := by rw [g366, wI_ne _ _ _ (by decide)]
                            have s376 : (h365.1 105 0).toInt = (h327.1 105 0).toInt := by rw [g366, wI_ne _ _ _ (by decide)]
                            refine N_iinc (a := x329.toInt) (c := 1) (fun w => [(3, .inl w), (0, .inr (.inr (.inl 96))), (1, .inl a0), (2, .inl a1)]) rfl rfl (fun _ => rfl) (by decide) rfl (by decide) (by omega) (fun x377 q378 => ?_)
                            refine R_goto 166 rfl rfl ?_
                            exact RUN_weak (psub_cons rfl (psub_cons rfl (psub_cons rfl (psub_cons rfl (psub_nil _))))) (ih330 h365 x377 hI fr fl328 (by omega) (by omega))
                        · show RUN d_X9_goSecond 200 [(3, .inl x329), (0, .inr (.inr (.inl 96))), (1, .inl a0), (2, .inl a1)] [.inl x357] h327 _
                          refine N_if_ne (a := x357.toInt) 218 rfl rfl rfl (fun c379 => ?_) (fun c379 => ?_)
                          · refine N_iinc (a := x329.toInt) (c := 1) (fun w => [(3, .inl w), (0, .inr (.inr (.inl 96))), (1, .inl a0), (2, .inl a1)]) rfl rfl (fun _ => rfl) (by decide) rfl (by decide) (by omega) (fun x380 q381 => ?_)
                            refine R_goto 166 rfl rfl ?_
                            exact RUN_weak (psub_cons rfl (psub_cons rfl (psub_cons rfl (psub_cons rfl (psub_nil _))))) (ih330 h327 x380 hI fr fl328 (by omega) (by omega))
                          · exfalso; omega
                exact lp326 _ h9 (0 : Int32) hI fr (FR.rf _ _) (by decide) (Nat.lt_succ_self _)
              · refine R_aload_n (k := 0) rfl rfl rfl ?_
                refine R_aload_n (k := 0) rfl rfl rfl ?_
                refine R_getf_r (j := 17) rfl ft_9_40 sh_96 rfl ?_
                refine R_iconst 0 rfl rfl ?_
                refine R_iald rfl sh_105 (by decide) ?_
                show RUN d_X9_goSecond 111 [(3, .inl x11), (0, .inr (.inr (.inl 96))), (1, .inl a0), (2, .inl a1)] [.inl (h9.1 105 0), .inr (.inr (.inl 96))] h9 _
                refine R_iload_n (k := 1) rfl rfl rfl ?_
                refine R_callV (v := .inr (.inr (.inl 96))) (As := [.inl (h9.1 105 0), .inl a0]) (rest := []) rfl mt_9_i271 pp_X9_doesRest (by decide) rfl rfl rfl (Nat.le_of_ble_eq_true rfl) (Nat.le_of_ble_eq_true rfl) ((k_X9_doesRest h9 hI (h9.1 105 0) a0 (by omega) (by omega)).mono (fun r382 h383 p384 => ?_))
                obtain ⟨rfl, x385, rfl, q386 | q386 | q386⟩ := p384
                · exfalso; omega
                · show RUN d_X9_goSecond 115 [(3, .inl x11), (0, .inr (.inr (.inl 96))), (1, .inl a0), (2, .inl a1)] [.inl x385] h9 _
                  refine N_if_ne (a := x385.toInt) 164 rfl rfl rfl (fun c387 => ?_) (fun c387 => ?_)
                  · exfalso; omega
                  · refine R_aload_n (k := 0) rfl rfl rfl ?_
                    refine R_getf_r (j := 24) rfl ft_9_52 sh_96 rfl ?_
                    refine R_iconst 0 rfl rfl ?_
                    refine R_iald rfl sh_109 (by decide) ?_
                    show RUN d_X9_goSecond 124 [(3, .inl x11), (0, .inr (.inr (.inl 96))), (1, .inl a0), (2, .inl a1)] [.inl (h9.1 109 0)] h9 _
                    refine N_if_le (a := (h9.1 109 0).toInt) 164 rfl rfl rfl (fun c388 => ?_) (fun c388 => ?_)
                    · refine R_iconst 0 rfl rfl ?_
                      refine R_istore_n (k := 3) rfl [(3, .inl 0), (0, .inr (.inr (.inl 96))), (1, .inl a0), (2, .inl a1)] rfl rfl (by decide) ?_
                      have lp390 : ∀ (n389 : Nat) (h391 : PH) (x393 : Int32), INV h391 → FR [96, 107, 108, 109, 117, 118] h h391 → FR [107] h9 h391 → 0 ≤ x393.toInt ∧ x393.toInt ≤ 6 → (6 - x393.toInt).toNat < n389 → RUN d_X9_goSecond 166 [(3, .inl x393), (0, .inr (.inr (.inl 96))), (1, .inl a0), (2, .inl a1)] [] h391 (q_X9_goSecond h a0 a1) := by
                        intro n389
                        induction n389 with
                        | zero => intro h391 x393 m395 m396 m397 m398 hz; exact absurd hz (Nat.not_lt_zero _)
                        | succ n389 ih394 =>
                          intro h391 x393 hI fr fl392 m398 hz
                          have s399 : (h391.1 96 41).toInt = (h9.1 96 41).toInt := by rw [(fl392 96 (by decide)).1]
                          have s400 : (h391.1 96 42).toInt = (h9.1 96 42).toInt := by rw [(fl392 96 (by decide)).1]
                          have s401 : (h391.1 96 19).toInt = (h9.1 96 19).toInt := by rw [(fl392 96 (by decide)).1]
                          have s402 : (h391.1 96 18).toInt = (h9.1 96 18).toInt := by rw [(fl392 96 (by decide)).1]
                          have s403 : (h391.1 96 20).toInt = (h9.1 96 20).toInt := by rw [(fl392 96 (by decide)).1]
                          have s404 : (h391.1 96 46).toInt = (h9.1 96 46).toInt := by rw [(fl392 96 (by decide)).1]
                          have s405 : (h391.1 96 44).toInt = (h9.1 96 44).toInt := by rw [(fl392 96 (by decide)).1]
                          have s406 : (h391.1 96 47).toInt = (h9.1 96 47).toInt := by rw [(fl392 96 (by decide)).1]
                          have s407 : (h391.1 96 48).toInt = (h9.1 96 48).toInt := by rw [(fl392 96 (by decide)).1]
                          have s408 : (h391.1 105 0).toInt = (h9.1 105 0).toInt := by rw [(fl392 105 (by decide)).1]
                          have s409 : (h391.1 109 0).toInt = (h9.1 109 0).toInt := by rw [(fl392 109 (by decide)).1]
                          have fl10 : FR [96, 107, 108, 109, 117, 118] h h391 := fl10.trans fl392 (by decide)
                          refine R_iload_n (k := 3) rfl rfl rfl ?_
                          refine R_aload_n (k := 0) rfl rfl rfl ?_
                          refine R_getf_i (j := 18) rfl ft_9_253 sh_96 rfl ?_
                          refine N_icmp_ge (a := x393.toInt) (b := (h391.1 96 18).toInt) 224 rfl rfl rfl rfl (fun c410 => ?_) (fun c410 => ?_)
                          · exact R_vret rfl rfl ⟨hI, fr, ⟨by omega, by omega, by omega, by omega, by omega, by omega, by omega, by omega, by omega, trivial⟩, rfl⟩
                          · refine R_aload_n (k := 0) rfl rfl rfl ?_
                            refine R_getf_r (j := 22) rfl ft_9_46 sh_96 rfl ?_
                            refine R_aload_n (k := 0) rfl rfl rfl ?_
                            refine R_getf_r (j := 17) rfl ft_9_40 sh_96 rfl ?_
                            refine R_iload_n (k := 3) rfl rfl rfl ?_
                            refine R_iald rfl sh_105 ⟨by omega, by omega⟩ ?_
                            refine N_bd (lo := 0) (hi := 5) (hI.1 105 _) (fun x411 q412 => ?_)
                            refine R_iald rfl sh_107 ⟨by omega, by omega⟩ ?_
                            refine N_any (fun x413 => ?_)
                            refine R_iconst (-1) rfl rfl ?_
                            refine N_icmp_eq (a := x413.toInt) (b := (-1)) 218 rfl rfl rfl (by decide) (fun c414 => ?_) (fun c414 => ?_)
                            · refine N_iinc (a := x393.toInt) (c := 1) (fun w => [(3, .inl w), (0, .inr (.inr (.inl 96))), (1, .inl a0), (2, .inl a1)]) rfl rfl (fun _ => rfl) (by decide) rfl (by decide) (by omega) (fun x415 q416 => ?_)
                              refine R_goto 166 rfl rfl ?_
                              exact RUN_weak (psub_cons rfl (psub_cons rfl (psub_cons rfl (psub_cons rfl (psub_nil _))))) (ih394 h391 x415 hI fr fl392 (by omega) (by omega))
                            · refine R_aload_n (k := 0) rfl rfl rfl ?_
                              refine R_aload_n (k := 0) rfl rfl rfl ?_
                              refine R_getf_r (j := 17) rfl ft_9_40 sh_96 rfl ?_
                              refine R_iload_n (k := 3) rfl rfl rfl ?_
                              refine R_iald rfl sh_105 ⟨by omega, by omega⟩ ?_
                              refine N_bd (lo := 0) (hi := 5) (hI.1 105 _) (fun x417 q418 => ?_)
                              refine R_iload_n (k := 1) rfl rfl rfl ?_
                              refine R_callV (v := .inr (.inr (.inl 96))) (As := [.inl x417, .inl a0]) (rest := []) rfl mt_9_i271 pp_X9_doesRest (by decide) rfl rfl rfl (Nat.le_of_ble_eq_true rfl) (Nat.le_of_ble_eq_true rfl) ((k_X9_doesRest h391 hI x417 a0 (by omega) (by omega)).mono (fun r419 h420 p421 => ?_))
                              obtain ⟨rfl, x422, rfl, q423 | q423 | q423⟩ := p421
                              · exfalso; omega
                              · show RUN d_X9_goSecond 200 [(3, .inl x393), (0, .inr (.inr (.inl 96))), (1, .inl a0), (2, .inl a1)] [.inl x422] h391 _
                                refine N_if_ne (a := x422.toInt) 218 rfl rfl rfl (fun c424 => ?_) (fun c424 => ?_)
                                · exfalso; omega
                                · refine R_aload_n (k := 0) rfl rfl rfl ?_
                                  refine R_getf_r (j := 22) rfl ft_9_46 sh_96 rfl ?_
                                  refine R_aload_n (k := 0) rfl rfl rfl ?_
                                  refine R_getf_r (j := 17) rfl ft_9_40 sh_96 rfl ?_
                                  refine R_iload_n (k := 3) rfl rfl rfl ?_
                                  refine R_iald rfl sh_105 ⟨by omega, by omega⟩ ?_
                                  refine N_bd (lo := 0) (hi := 5) (hI.1 105 _) (fun x425 q426 => ?_)
                                  refine R_dup2 rfl ?_
                                  refine R_iald rfl sh_107 ⟨by omega, by omega⟩ ?_
                                  refine N_any (fun x427 => ?_)
                                  refine R_iconst 1 rfl rfl ?_
                                  have b428 := i_rng x427
                                  refine R_iadd rfl ?_
                                  refine N_any (fun x429 => ?_)
                                  refine K_iast (a := x425.toInt) (lo := (-2147483648)) (hi' := 2147483647) rfl sh_107 rfl ⟨by omega, by omega⟩ hI (by decide) rfl (i_rng _) fr (by decide) (fun h430 g431 hI fr => ?_)
                                  have fl392 : FR [107] h9 h430 := by rw [g431]; exact FR_wI _ _ fl392 (by decide)
                                  have fl10 : FR [96, 107, 108, 109, 117, 118] h h430 := by rw [g431]; exact FR_wI _ _ fl10 (by decide)
                                  have s432 : (h430.1 96 41).toInt = (h391.1 96 41).toInt := by rw [g431, wI_ne _ _ _ (by decide)]
                                  have s433 : (h430.1 96 42).toInt = (h391.1 96 42).toInt := by rw [g431, wI_ne _ _ _ (by decide)]
                                  have s434 : (h430.1 96 19).toInt = (h391.1 96 19).toInt := by rw [g431, wI_ne _ _ _ (by decide)]
                                  have s435 : (h430.1 96 18).toInt = (h391.1 96 18).toInt := by rw [g431, wI_ne _ _ _ (by decide)]
                                  have s436 : (h430.1 96 20).toInt = (h391.1 96 20).toInt := by rw [g431, wI_ne _ _ _ (by decide)]
                                  have s437 : (h430.1 96 46).toInt = (h391.1 96 46).toInt := by rw [g431, wI_ne _ _ _ (by decide)]
                                  have s438 : (h430.1 96 44).toInt = (h391.1 96 44).toInt := by rw [g431, wI_ne _ _ _ (by decide)]
                                  have s439 : (h430.1 96 47).toInt = (h391.1 96 47).toInt := by rw [g431, wI_ne _ _ _ (by decide)]
                                  have s440 : (h430.1 96 48).toInt = (h391.1 96 48).toInt := by rw [g431, wI_ne _ _ _ (by decide)]
                                  have s441 : (h430.1 105 0).toInt = (h391.1 105 0).toInt := by rw [g431, wI_ne _ _ _ (by decide)]
                                  have s442 : (h430.1 109 0).toInt = (h391.1 109 0).toInt := by rw [g431, wI_ne _ _ _ (by decide)]
                                  refine N_iinc (a := x393.toInt) (c := 1) (fun w => [(3, .inl w), (0, .inr (.inr (.inl 96))), (1, .inl a0), (2, .inl a1)]) rfl rfl (fun _ => rfl) (by decide) rfl (by decide) (by omega) (fun x443 q444 => ?_)
                                  refine R_goto 166 rfl rfl ?_
                                  exact RUN_weak (psub_cons rfl (psub_cons rfl (psub_cons rfl (psub_cons rfl (psub_nil _))))) (ih394 h430 x443 hI fr fl392 (by omega) (by omega))
                              · show RUN d_X9_goSecond 200 [(3, .inl x393), (0, .inr (.inr (.inl 96))), (1, .inl a0), (2, .inl a1)] [.inl x422] h391 _
                                refine N_if_ne (a := x422.toInt) 218 rfl rfl rfl (fun c445 => ?_) (fun c445 => ?_)
                                · refine N_iinc (a := x393.toInt) (c := 1) (fun w => [(3, .inl w), (0, .inr (.inr (.inl 96))), (1, .inl a0), (2, .inl a1)]) rfl rfl (fun _ => rfl) (by decide) rfl (by decide) (by omega) (fun x446 q447 => ?_)
                                  refine R_goto 166 rfl rfl ?_
                                  exact RUN_weak (psub_cons rfl (psub_cons rfl (psub_cons rfl (psub_cons rfl (psub_nil _))))) (ih394 h391 x446 hI fr fl392 (by omega) (by omega))
                                · exfalso; omega
                      exact lp390 _ h9 (0 : Int32) hI fr (FR.rf _ _) (by decide) (Nat.lt_succ_self _)
                    · refine R_aload_n (k := 0) rfl rfl rfl ?_
                      refine R_getf_r (j := 24) rfl ft_9_52 sh_96 rfl ?_
                      refine R_iconst 0 rfl rfl ?_
                      refine R_dup2 rfl ?_
                      refine R_iald rfl sh_109 (by decide) ?_
                      show RUN d_X9_goSecond 134 [(3, .inl x11), (0, .inr (.inr (.inl 96))), (1, .inl a0), (2, .inl a1)] [.inl (h9.1 109 0), .inl 0, .inr (.inr (.inl 109))] h9 _
                      refine R_iconst 1 rfl rfl ?_
                      have b448 := i_rng (h9.1 109 0)
                      refine N_isub (a := (h9.1 109 0).toInt) (b := 1) rfl rfl (by decide) (by omega) (fun x449 q450 => ?_)
                      refine K_iast (a := 0) (lo := (-2147483648)) (hi' := 2147483647) rfl sh_109 (by decide) (by decide) hI (by decide) rfl (i_rng _) fr (by decide) (fun h451 g452 hI fr => ?_)
                      have fl10 : FR [96, 107, 108, 109, 117, 118] h h451 := by rw [g452]; exact FR_wI _ _ fl10 (by decide)
                      have s453 : (h451.1 96 41).toInt = (h9.1 96 41).toInt := by rw [g452, wI_ne _ _ _ (by decide)]
                      have s454 : (h451.1 96 42).toInt = (h9.1 96 42).toInt := by rw [g452, wI_ne _ _ _ (by decide)]
                      have s455 : (h451.1 96 19).toInt = (h9.1 96 19).toInt := by rw [g452, wI_ne _ _ _ (by decide)]
                      have s456 : (h451.1 96 18).toInt = (h9.1 96 18).toInt := by rw [g452, wI_ne _ _ _ (by decide)]
                      have s457 : (h451.1 96 20).toInt = (h9.1 96 20).toInt := by rw [g452, wI_ne _ _ _ (by decide)]
                      have s458 : (h451.1 96 46).toInt = (h9.1 96 46).toInt := by rw [g452, wI_ne _ _ _ (by decide)]
                      have s459 : (h451.1 96 44).toInt = (h9.1 96 44).toInt := by rw [g452, wI_ne _ _ _ (by decide)]
                      have s460 : (h451.1 96 47).toInt = (h9.1 96 47).toInt := by rw [g452, wI_ne _ _ _ (by decide)]
                      have s461 : (h451.1 96 48).toInt = (h9.1 96 48).toInt := by rw [g452, wI_ne _ _ _ (by decide)]
                      have s462 : (h451.1 105 0).toInt = (h9.1 105 0).toInt := by rw [g452, wI_ne _ _ _ (by decide)]
                      have s463 : (h451.1 109 0).toInt = x449.toInt := by rw [g452, show (0 : Int32).toNatClampNeg = 0 from rfl, wI_is]
                      refine R_aload_n (k := 0) rfl rfl rfl ?_
                      refine R_getf_r (j := 22) rfl ft_9_46 sh_96 rfl ?_
                      refine R_aload_n (k := 0) rfl rfl rfl ?_
                      refine R_getf_r (j := 17) rfl ft_9_40 sh_96 rfl ?_
                      refine R_iconst 0 rfl rfl ?_
                      refine R_iald rfl sh_105 (by decide) ?_
                      show RUN d_X9_goSecond 147 [(3, .inl x11), (0, .inr (.inr (.inl 96))), (1, .inl a0), (2, .inl a1)] [.inl (h451.1 105 0), .inr (.inr (.inl 107))] h451 _
                      refine R_iconst 0 rfl rfl ?_
                      refine K_iast (a := (h451.1 105 0).toInt) (lo := (-2147483648)) (hi' := 2147483647) rfl sh_107 rfl ⟨by omega, by omega⟩ hI (by decide) rfl (by decide) fr (by decide) (fun h464 g465 hI fr => ?_)
                      have fl10 : FR [96, 107, 108, 109, 117, 118] h h464 := by rw [g465]; exact FR_wI _ _ fl10 (by decide)
                      have s466 : (h464.1 96 41).toInt = (h451.1 96 41).toInt := by rw [g465, wI_ne _ _ _ (by decide)]
                      have s467 : (h464.1 96 42).toInt = (h451.1 96 42).toInt := by rw [g465, wI_ne _ _ _ (by decide)]
                      have s468 : (h464.1 96 19).toInt = (h451.1 96 19).toInt := by rw [g465, wI_ne _ _ _ (by decide)]
                      have s469 : (h464.1 96 18).toInt = (h451.1 96 18).toInt := by rw [g465, wI_ne _ _ _ (by decide)]
                      have s470 : (h464.1 96 20).toInt = (h451.1 96 20).toInt := by rw [g465, wI_ne _ _ _ (by decide)]
                      have s471 : (h464.1 96 46).toInt = (h451.1 96 46).toInt := by rw [g465, wI_ne _ _ _ (by decide)]
                      have s472 : (h464.1 96 44).toInt = (h451.1 96 44).toInt := by rw [g465, wI_ne _ _ _ (by decide)]
                      have s473 : (h464.1 96 47).toInt = (h451.1 96 47).toInt := by rw [g465, wI_ne _ _ _ (by decide)]
                      have s474 : (h464.1 96 48).toInt = (h451.1 96 48).toInt := by rw [g465, wI_ne _ _ _ (by decide)]
                      have s475 : (h464.1 105 0).toInt = (h451.1 105 0).toInt := by rw [g465, wI_ne _ _ _ (by decide)]
                      have s476 : (h464.1 109 0).toInt = (h451.1 109 0).toInt := by rw [g465, wI_ne _ _ _ (by decide)]
                      refine R_aload_n (k := 0) rfl rfl rfl ?_
                      refine R_getf_r (j := 23) rfl ft_9_49 sh_96 rfl ?_
                      refine R_aload_n (k := 0) rfl rfl rfl ?_
                      refine R_getf_r (j := 17) rfl ft_9_40 sh_96 rfl ?_
                      refine R_iconst 0 rfl rfl ?_
                      refine R_iald rfl sh_105 (by decide) ?_
                      show RUN d_X9_goSecond 159 [(3, .inl x11), (0, .inr (.inr (.inl 96))), (1, .inl a0), (2, .inl a1)] [.inl (h464.1 105 0), .inr (.inr (.inl 108))] h464 _
                      refine R_aload_n (k := 0) rfl rfl rfl ?_
                      refine R_getf_i (j := 20) rfl ft_9_259 sh_96 rfl ?_
                      refine K_iast (a := (h464.1 105 0).toInt) (lo := (-2147483648)) (hi' := 2147483647) rfl sh_108 rfl ⟨by omega, by omega⟩ hI (by decide) rfl (i_rng _) fr (by decide) (fun h477 g478 hI fr => ?_)
                      have fl10 : FR [96, 107, 108, 109, 117, 118] h h477 := by rw [g478]; exact FR_wI _ _ fl10 (by decide)
                      have s479 : (h477.1 96 41).toInt = (h464.1 96 41).toInt := by rw [g478, wI_ne _ _ _ (by decide)]
                      have s480 : (h477.1 96 42).toInt = (h464.1 96 42).toInt := by rw [g478, wI_ne _ _ _ (by decide)]
                      have s481 : (h477.1 96 19).toInt = (h464.1 96 19).toInt := by rw [g478, wI_ne _ _ _ (by decide)]
                      have s482 : (h477.1 96 18).toInt = (h464.1 96 18).toInt := by rw [g478, wI_ne _ _ _ (by decide)]
                      have s483 : (h477.1 96 20).toInt = (h464.1 96 20).toInt := by rw [g478, wI_ne _ _ _ (by decide)]
                      have s484 : (h477.1 96 46).toInt = (h464.1 96 46).toInt := by rw [g478, wI_ne _ _ _ (by decide)]
                      have s485 : (h477.1 96 44).toInt = (h464.1 96 44).toInt := by rw [g478, wI_ne _ _ _ (by decide)]
                      have s486 : (h477.1 96 47).toInt = (h464.1 96 47).toInt := by rw [g478, wI_ne _ _ _ (by decide)]
                      have s487 : (h477.1 96 48).toInt = (h464.1 96 48).toInt := by rw [g478, wI_ne _ _ _ (by decide)]
                      have s488 : (h477.1 105 0).toInt = (h464.1 105 0).toInt := by rw [g478, wI_ne _ _ _ (by decide)]
                      have s489 : (h477.1 109 0).toInt = (h464.1 109 0).toInt := by rw [g478, wI_ne _ _ _ (by decide)]
                      refine R_iconst 0 rfl rfl ?_
                      refine R_istore_n (k := 3) rfl [(3, .inl 0), (0, .inr (.inr (.inl 96))), (1, .inl a0), (2, .inl a1)] rfl rfl (by decide) ?_
                      have lp491 : ∀ (n490 : Nat) (h492 : PH) (x494 : Int32), INV h492 → FR [96, 107, 108, 109, 117, 118] h h492 → FR [107] h477 h492 → 0 ≤ x494.toInt ∧ x494.toInt ≤ 6 → (6 - x494.toInt).toNat < n490 → RUN d_X9_goSecond 166 [(3, .inl x494), (0, .inr (.inr (.inl 96))), (1, .inl a0), (2, .inl a1)] [] h492 (q_X9_goSecond h a0 a1) := by
                        intro n490
                        induction n490 with
                        | zero => intro h492 x494 m496 m497 m498 m499 hz; exact absurd hz (Nat.not_lt_zero _)
                        | succ n490 ih495 =>
                          intro h492 x494 hI fr fl493 m499 hz
                          have s500 : (h492.1 96 41).toInt = (h477.1 96 41).toInt := by rw [(fl493 96 (by decide)).1]
                          have s501 : (h492.1 96 42).toInt = (h477.1 96 42).toInt := by rw [(fl493 96 (by decide)).1]
                          have s502 : (h492.1 96 19).toInt = (h477.1 96 19).toInt := by rw [(fl493 96 (by decide)).1]
                          have s503 : (h492.1 96 18).toInt = (h477.1 96 18).toInt := by rw [(fl493 96 (by decide)).1]
                          have s504 : (h492.1 96 20).toInt = (h477.1 96 20).toInt := by rw [(fl493 96 (by decide)).1]
                          have s505 : (h492.1 96 46).toInt = (h477.1 96 46).toInt := by rw [(fl493 96 (by decide)).1]
                          have s506 : (h492.1 96 44).toInt = (h477.1 96 44).toInt := by rw [(fl493 96 (by decide)).1]
                          have s507 : (h492.1 96 47).toInt = (h477.1 96 47).toInt := by rw [(fl493 96 (by decide)).1]
                          have s508 : (h492.1 96 48).toInt = (h477.1 96 48).toInt := by rw [(fl493 96 (by decide)).1]
                          have s509 : (h492.1 105 0).toInt = (h477.1 105 0).toInt := by rw [(fl493 105 (by decide)).1]
                          have s510 : (h492.1 109 0).toInt = (h477.1 109 0).toInt := by rw [(fl493 109 (by decide)).1]
                          have fl10 : FR [96, 107, 108, 109, 117, 118] h h492 := fl10.trans fl493 (by decide)
                          refine R_iload_n (k := 3) rfl rfl rfl ?_
                          refine R_aload_n (k := 0) rfl rfl rfl ?_
                          refine R_getf_i (j := 18) rfl ft_9_253 sh_96 rfl ?_
                          refine N_icmp_ge (a := x494.toInt) (b := (h492.1 96 18).toInt) 224 rfl rfl rfl rfl (fun c511 => ?_) (fun c511 => ?_)
                          · exact R_vret rfl rfl ⟨hI, fr, ⟨by omega, by omega, by omega, by omega, by omega, by omega, by omega, by omega, by omega, trivial⟩, rfl⟩
                          · refine R_aload_n (k := 0) rfl rfl rfl ?_
                            refine R_getf_r (j := 22) rfl ft_9_46 sh_96 rfl ?_
                            refine R_aload_n (k := 0) rfl rfl rfl ?_
                            refine R_getf_r (j := 17) rfl ft_9_40 sh_96 rfl ?_
                            refine R_iload_n (k := 3) rfl rfl rfl ?_
                            refine R_iald rfl sh_105 ⟨by omega, by omega⟩ ?_
                            refine N_bd (lo := 0) (hi := 5) (hI.1 105 _) (fun x512 q513 => ?_)
                            refine R_iald rfl sh_107 ⟨by omega, by omega⟩ ?_
                            refine N_any (fun x514 => ?_)
                            refine R_iconst (-1) rfl rfl ?_
                            refine N_icmp_eq (a := x514.toInt) (b := (-1)) 218 rfl rfl rfl (by decide) (fun c515 => ?_) (fun c515 => ?_)
                            · refine N_iinc (a := x494.toInt) (c := 1) (fun w => [(3, .inl w), (0, .inr (.inr (.inl 96))), (1, .inl a0), (2, .inl a1)]) rfl rfl (fun _ => rfl) (by decide) rfl (by decide) (by omega) (fun x516 q517 => ?_)
                              refine R_goto 166 rfl rfl ?_
                              exact RUN_weak (psub_cons rfl (psub_cons rfl (psub_cons rfl (psub_cons rfl (psub_nil _))))) (ih495 h492 x516 hI fr fl493 (by omega) (by omega))
                            · refine R_aload_n (k := 0) rfl rfl rfl ?_
                              refine R_aload_n (k := 0) rfl rfl rfl ?_
                              refine R_getf_r (j := 17) rfl ft_9_40 sh_96 rfl ?_
                              refine R_iload_n (k := 3) rfl rfl rfl ?_
                              refine R_iald rfl sh_105 ⟨by omega, by omega⟩ ?_
                              refine N_bd (lo := 0) (hi := 5) (hI.1 105 _) (fun x518 q519 => ?_)
                              refine R_iload_n (k := 1) rfl rfl rfl ?_
                              refine R_callV (v := .inr (.inr (.inl 96))) (As := [.inl x518, .inl a0]) (rest := []) rfl mt_9_i271 pp_X9_doesRest (by decide) rfl rfl rfl (Nat.le_of_ble_eq_true rfl) (Nat.le_of_ble_eq_true rfl) ((k_X9_doesRest h492 hI x518 a0 (by omega) (by omega)).mono (fun r520 h521 p522 => ?_))
                              obtain ⟨rfl, x523, rfl, q524 | q524 | q524⟩ := p522
                              · exfalso; omega
                              · show RUN d_X9_goSecond 200 [(3, .inl x494), (0, .inr (.inr (.inl 96))), (1, .inl a0), (2, .inl a1)] [.inl x523] h492 _
                                refine N_if_ne (a := x523.toInt) 218 rfl rfl rfl (fun c525 => ?_) (fun c525 => ?_)
                                · exfalso; omega
                                · refine R_aload_n (k := 0) rfl rfl rfl ?_
                                  refine R_getf_r (j := 22) rfl ft_9_46 sh_96 rfl ?_
                                  refine R_aload_n (k := 0) rfl rfl rfl ?_
                                  refine R_getf_r (j := 17) rfl ft_9_40 sh_96 rfl ?_
                                  refine R_iload_n (k := 3) rfl rfl rfl ?_
                                  refine R_iald rfl sh_105 ⟨by omega, by omega⟩ ?_
                                  refine N_bd (lo := 0) (hi := 5) (hI.1 105 _) (fun x526 q527 => ?_)
                                  refine R_dup2 rfl ?_
                                  refine R_iald rfl sh_107 ⟨by omega, by omega⟩ ?_
                                  refine N_any (fun x528 => ?_)
                                  refine R_iconst 1 rfl rfl ?_
                                  have b529 := i_rng x528
                                  refine R_iadd rfl ?_
                                  refine N_any (fun x530 => ?_)
                                  refine K_iast (a := x526.toInt) (lo := (-2147483648)) (hi' := 2147483647) rfl sh_107 rfl ⟨by omega, by omega⟩ hI (by decide) rfl (i_rng _) fr (by decide) (fun h531 g532 hI fr => ?_)
                                  have fl493 : FR [107] h477 h531 := by rw [g532]; exact FR_wI _ _ fl493 (by decide)
                                  have fl10 : FR [96, 107, 108, 109, 117, 118] h h531 := by rw [g532]; exact FR_wI _ _ fl10 (by decide)
                                  have s533 : (h531.1 96 41).toInt = (h492.1 96 41).toInt := by rw [g532, wI_ne _ _ _ (by decide)]
                                  have s534 : (h531.1 96 42).toInt = (h492.1 96 42).toInt := by rw [g532, wI_ne _ _ _ (by decide)]
                                  have s535 : (h531.1 96 19).toInt = (h492.1 96 19).toInt := by rw [g532, wI_ne _ _ _ (by decide)]
                                  have s536 : (h531.1 96 18).toInt = (h492.1 96 18).toInt := by rw [g532, wI_ne _ _ _ (by decide)]
                                  have s537 : (h531.1 96 20).toInt = (h492.1 96 20).toInt := by rw [g532, wI_ne _ _ _ (by decide)]
                                  have s538 : (h531.1 96 46).toInt = (h492.1 96 46).toInt := by rw [g532, wI_ne _ _ _ (by decide)]
                                  have s539 : (h531.1 96 44).toInt = (h492.1 96 44).toInt := by rw [g532, wI_ne _ _ _ (by decide)]
                                  have s540 : (h531.1 96 47).toInt = (h492.1 96 47).toInt := by rw [g532, wI_ne _ _ _ (by decide)]
                                  have s541 : (h531.1 96 48).toInt = (h492.1 96 48).toInt := by rw [g532, wI_ne _ _ _ (by decide)]
                                  have s542 : (h531.1 105 0).toInt = (h492.1 105 0).toInt := by rw [g532, wI_ne _ _ _ (by decide)]
                                  have s543 : (h531.1 109 0).toInt = (h492.1 109 0).toInt := by rw [g532, wI_ne _ _ _ (by decide)]
                                  refine N_iinc (a := x494.toInt) (c := 1) (fun w => [(3, .inl w), (0, .inr (.inr (.inl 96))), (1, .inl a0), (2, .inl a1)]) rfl rfl (fun _ => rfl) (by decide) rfl (by decide) (by omega) (fun x544 q545 => ?_)
                                  refine R_goto 166 rfl rfl ?_
                                  exact RUN_weak (psub_cons rfl (psub_cons rfl (psub_cons rfl (psub_cons rfl (psub_nil _))))) (ih495 h531 x544 hI fr fl493 (by omega) (by omega))
                              · show RUN d_X9_goSecond 200 [(3, .inl x494), (0, .inr (.inr (.inl 96))), (1, .inl a0), (2, .inl a1)] [.inl x523] h492 _
                                refine N_if_ne (a := x523.toInt) 218 rfl rfl rfl (fun c546 => ?_) (fun c546 => ?_)
                                · refine N_iinc (a := x494.toInt) (c := 1) (fun w => [(3, .inl w), (0, .inr (.inr (.inl 96))), (1, .inl a0), (2, .inl a1)]) rfl rfl (fun _ => rfl) (by decide) rfl (by decide) (by omega) (fun x547 q548 => ?_)
                                  refine R_goto 166 rfl rfl ?_
                                  exact RUN_weak (psub_cons rfl (psub_cons rfl (psub_cons rfl (psub_cons rfl (psub_nil _))))) (ih495 h492 x547 hI fr fl493 (by omega) (by omega))
                                · exfalso; omega
                      exact lp491 _ h477 (0 : Int32) hI fr (FR.rf _ _) (by decide) (Nat.lt_succ_self _)
                · show RUN d_X9_goSecond 115 [(3, .inl x11), (0, .inr (.inr (.inl 96))), (1, .inl a0), (2, .inl a1)] [.inl x385] h9 _
                  refine N_if_ne (a := x385.toInt) 164 rfl rfl rfl (fun c549 => ?_) (fun c549 => ?_)
                  · refine R_iconst 0 rfl rfl ?_
                    refine R_istore_n (k := 3) rfl [(3, .inl 0), (0, .inr (.inr (.inl 96))), (1, .inl a0), (2, .inl a1)] rfl rfl (by decide) ?_
                    have lp551 : ∀ (n550 : Nat) (h552 : PH) (x554 : Int32), INV h552 → FR [96, 107, 108, 109, 117, 118] h h552 → FR [107] h9 h552 → 0 ≤ x554.toInt ∧ x554.toInt ≤ 6 → (6 - x554.toInt).toNat < n550 → RUN d_X9_goSecond 166 [(3, .inl x554), (0, .inr (.inr (.inl 96))), (1, .inl a0), (2, .inl a1)] [] h552 (q_X9_goSecond h a0 a1) := by
                      intro n550
                      induction n550 with
                      | zero => intro h552 x554 m556 m557 m558 m559 hz; exact absurd hz (Nat.not_lt_zero _)
                      | succ n550 ih555 =>
                        intro h552 x554 hI fr fl553 m559 hz
                        have s560 : (h552.1 96 41).toInt = (h9.1 96 41).toInt := by rw [(fl553 96 (by decide)).1]
                        have s561 : (h552.1 96 42).toInt = (h9.1 96 42).toInt := by rw [(fl553 96 (by decide)).1]
                        have s562 : (h552.1 96 19).toInt = (h9.1 96 19).toInt := by rw [(fl553 96 (by decide)).1]
                        have s563 : (h552.1 96 18).toInt = (h9.1 96 18).toInt := by rw [(fl553 96 (by decide)).1]
                        have s564 : (h552.1 96 20).toInt = (h9.1 96 20).toInt := by rw [(fl553 96 (by decide)).1]
                        have s565 : (h552.1 96 46).toInt = (h9.1 96 46).toInt := by rw [(fl553 96 (by decide)).1]
                        have s566 : (h552.1 96 44).toInt = (h9.1 96 44).toInt := by rw [(fl553 96 (by decide)).1]
                        have s567 : (h552.1 96 47).toInt = (h9.1 96 47).toInt := by rw [(fl553 96 (by decide)).1]
                        have s568 : (h552.1 96 48).toInt = (h9.1 96 48).toInt := by rw [(fl553 96 (by decide)).1]
                        have s569 : (h552.1 105 0).toInt = (h9.1 105 0).toInt := by rw [(fl553 105 (by decide)).1]
                        have fl10 : FR [96, 107, 108, 109, 117, 118] h h552 := fl10.trans fl553 (by decide)
                        refine R_iload_n (k := 3) rfl rfl rfl ?_
                        refine R_aload_n (k := 0) rfl rfl rfl ?_
                        refine R_getf_i (j := 18) rfl ft_9_253 sh_96 rfl ?_
                        refine N_icmp_ge (a := x554.toInt) (b := (h552.1 96 18).toInt) 224 rfl rfl rfl rfl (fun c570 => ?_) (fun c570 => ?_)
                        · exact R_vret rfl rfl ⟨hI, fr, ⟨by omega, by omega, by omega, by omega, by omega, by omega, by omega, by omega, by omega, trivial⟩, rfl⟩
                        · refine R_aload_n (k := 0) rfl rfl rfl ?_
                          refine R_getf_r (j := 22) rfl ft_9_46 sh_96 rfl ?_
                          refine R_aload_n (k := 0) rfl rfl rfl ?_
                          refine R_getf_r (j := 17) rfl ft_9_40 sh_96 rfl ?_
                          refine R_iload_n (k := 3) rfl rfl rfl ?_
                          refine R_iald rfl sh_105 ⟨by omega, by omega⟩ ?_
                          refine N_bd (lo := 0) (hi := 5) (hI.1 105 _) (fun x571 q572 => ?_)
                          refine R_iald rfl sh_107 ⟨by omega, by omega⟩ ?_
                          refine N_any (fun x573 => ?_)
                          refine R_iconst (-1) rfl rfl ?_
                          refine N_icmp_eq (a := x573.toInt) (b := (-1)) 218 rfl rfl rfl (by decide) (fun c574 => ?_) (fun c574 => ?_)
                          · refine N_iinc (a := x554.toInt) (c := 1) (fun w => [(3, .inl w), (0, .inr (.inr (.inl 96))), (1, .inl a0), (2, .inl a1)]) rfl rfl (fun _ => rfl) (by decide) rfl (by decide) (by omega) (fun x575 q576 => ?_)
                            refine R_goto 166 rfl rfl ?_
                            exact RUN_weak (psub_cons rfl (psub_cons rfl (psub_cons rfl (psub_cons rfl (psub_nil _))))) (ih555 h552 x575 hI fr fl553 (by omega) (by omega))
                          · refine R_aload_n (k := 0) rfl rfl rfl ?_
                            refine R_aload_n (k := 0) rfl rfl rfl ?_
                            refine R_getf_r (j := 17) rfl ft_9_40 sh_96 rfl ?_
                            refine R_iload_n (k := 3) rfl rfl rfl ?_
                            refine R_iald rfl sh_105 ⟨by omega, by omega⟩ ?_
                            refine N_bd (lo := 0) (hi := 5) (hI.1 105 _) (fun x577 q578 => ?_)
                            refine R_iload_n (k := 1) rfl rfl rfl ?_
                            refine R_callV (v := .inr (.inr (.inl 96))) (As := [.inl x577, .inl a0]) (rest := []) rfl mt_9_i271 pp_X9_doesRest (by decide) rfl rfl rfl (Nat.le_of_ble_eq_true rfl) (Nat.le_of_ble_eq_true rfl) ((k_X9_doesRest h552 hI x577 a0 (by omega) (by omega)).mono (fun r579 h580 p581 => ?_))
                            obtain ⟨rfl, x582, rfl, q583 | q583 | q583⟩ := p581
                            · exfalso; omega
                            · show RUN d_X9_goSecond 200 [(3, .inl x554), (0, .inr (.inr (.inl 96))), (1, .inl a0), (2, .inl a1)] [.inl x582] h552 _
                              refine N_if_ne (a := x582.toInt) 218 rfl rfl rfl (fun c584 => ?_) (fun c584 => ?_)
                              · exfalso; omega
                              · refine R_aload_n (k := 0) rfl rfl rfl ?_
                                refine R_getf_r (j := 22) rfl ft_9_46 sh_96 rfl ?_
                                refine R_aload_n (k := 0) rfl rfl rfl ?_
                                refine R_getf_r (j := 17) rfl ft_9_40 sh_96 rfl ?_
                                refine R_iload_n (k := 3) rfl rfl rfl ?_
                                refine R_iald rfl sh_105 ⟨by omega, by omega⟩ ?_
                                refine N_bd (lo := 0) (hi := 5) (hI.1 105 _) (fun x585 q586 => ?_)
                                refine R_dup2 rfl ?_
                                refine R_iald rfl sh_107 ⟨by omega, by omega⟩ ?_
                                refine N_any (fun x587 => ?_)
                                refine R_iconst 1 rfl rfl ?_
                                have b588 := i_rng x587
                                refine R_iadd rfl ?_
                                refine N_any (fun x589 => ?_)
                                refine K_iast (a := x585.toInt) (lo := (-2147483648)) (hi' := 2147483647) rfl sh_107 rfl ⟨by omega, by omega⟩ hI (by decide) rfl (i_rng _) fr (by decide) (fun h590 g591 hI fr => ?_)
                                have fl553 : FR [107] h9 h590 := by rw [g591]; exact FR_wI _ _ fl553 (by decide)
                                have fl10 : FR [96, 107, 108, 109, 117, 118] h h590 := by rw [g591]; exact FR_wI _ _ fl10 (by decide)
                                have s592 : (h590.1 96 41).toInt = (h552.1 96 41).toInt := by rw [g591, wI_ne _ _ _ (by decide)]
                                have s593 : (h590.1 96 42).toInt = (h552.1 96 42).toInt := by rw [g591, wI_ne _ _ _ (by decide)]
                                have s594 : (h590.1 96 19).toInt = (h552.1 96 19).toInt := by rw [g591, wI_ne _ _ _ (by decide)]
                                have s595 : (h590.1 96 18).toInt = (h552.1 96 18).toInt := by rw [g591, wI_ne _ _ _ (by decide)]
                                have s596 : (h590.1 96 20).toInt = (h552.1 96 20).toInt := by rw [g591, wI_ne _ _ _ (by decide)]
                                have s597 : (h590.1 96 46).toInt = (h552.1 96 46).toInt := by rw [g591, wI_ne _ _ _ (by decide)]
                                have s598 : (h590.1 96 44).toInt = (h552.1 96 44).toInt := by rw [g591, wI_ne _ _ _ (by decide)]
                                have s599 : (h590.1 96 47).toInt = (h552.1 96 47).toInt := by rw [g591, wI_ne _ _ _ (by decide)]
                                have s600 : (h590.1 96 48).toInt = (h552.1 96 48).toInt := by rw [g591, wI_ne _ _ _ (by decide)]
                                have s601 : (h590.1 105 0).toInt = (h552.1 105 0).toInt := by rw [g591, wI_ne _ _ _ (by decide)]
                                refine N_iinc (a := x554.toInt) (c := 1) (fun w => [(3, .inl w), (0, .inr (.inr (.inl 96))), (1, .inl a0), (2, .inl a1)]) rfl rfl (fun _ => rfl) (by decide) rfl (by decide) (by omega) (fun x602 q603 => ?_)
                                refine R_goto 166 rfl rfl ?_
                                exact RUN_weak (psub_cons rfl (psub_cons rfl (psub_cons rfl (psub_cons rfl (psub_nil _))))) (ih555 h590 x602 hI fr fl553 (by omega) (by omega))
                            · show RUN d_X9_goSecond 200 [(3, .inl x554), (0, .inr (.inr (.inl 96))), (1, .inl a0), (2, .inl a1)] [.inl x582] h552 _
                              refine N_if_ne (a := x582.toInt) 218 rfl rfl rfl (fun c604 => ?_) (fun c604 => ?_)
                              · refine N_iinc (a := x554.toInt) (c := 1) (fun w => [(3, .inl w), (0, .inr (.inr (.inl 96))), (1, .inl a0), (2, .inl a1)]) rfl rfl (fun _ => rfl) (by decide) rfl (by decide) (by omega) (fun x605 q606 => ?_)
                                refine R_goto 166 rfl rfl ?_
                                exact RUN_weak (psub_cons rfl (psub_cons rfl (psub_cons rfl (psub_cons rfl (psub_nil _))))) (ih555 h552 x605 hI fr fl553 (by omega) (by omega))
                              · exfalso; omega
                    exact lp551 _ h9 (0 : Int32) hI fr (FR.rf _ _) (by decide) (Nat.lt_succ_self _)
                  · exfalso; omega
          · refine R_aload_n (k := 0) rfl rfl rfl ?_
            refine R_iload_n (k := 3) rfl rfl rfl ?_
            refine R_iload_n (k := 1) rfl rfl rfl ?_
            refine R_callV (v := .inr (.inr (.inl 96))) (As := [.inl x11, .inl a0]) (rest := []) rfl mt_9_i278 pp_X9_goPlace (by decide) rfl rfl rfl (Nat.le_of_ble_eq_true rfl) (Nat.le_of_ble_eq_true rfl) ((k_X9_goPlace h9 hI x11 a0 (by omega) (by omega) (by omega)).mono (fun r607 h608 p609 => ?_))
            obtain ⟨hJ, fj, ⟨kp610, kp611, kp612, kp613, kp614, kp615, kp616, kp617, kp618, -⟩, rfl⟩ := p609
            have f619 := fj
            have fr := fr.trans fj (by decide)
            have hI := hJ
            have fl10 : FR [96, 107, 108, 109, 117, 118] h h608 := fl10.trans fj (by decide)
            show RUN d_X9_goSecond 76 [(3, .inl x11), (0, .inr (.inr (.inl 96))), (1, .inl a0), (2, .inl a1)] [] h608 _
            refine N_iinc (a := x11.toInt) (c := (-1)) (fun w => [(3, .inl w), (0, .inr (.inr (.inl 96))), (1, .inl a0), (2, .inl a1)]) rfl rfl (fun _ => rfl) (by decide) rfl (by decide) (by omega) (fun x620 q621 => ?_)
            refine R_goto 62 rfl rfl ?_
            exact RUN_weak (psub_cons rfl (psub_cons rfl (psub_cons rfl (psub_cons rfl (psub_nil _))))) (ih12 h608 x620 hI fr fl10 (by omega) (by omega) (by omega) (by omega) (by omega) (by omega) (by omega) (by omega) (by omega) (by omega) (by omega) (by omega))
    exact lp8 _ h x5 hI fr (FR.rf _ _) (by omega) rfl rfl rfl rfl rfl rfl rfl rfl rfl (by omega) (Nat.lt_succ_self _)
  · refine R_aload_n (k := 0) rfl rfl rfl ?_
    refine R_getf_r (j := 24) rfl ft_9_52 sh_96 rfl ?_
    refine R_iconst 0 rfl rfl ?_
    refine R_dup2 rfl ?_
    refine R_iald rfl sh_109 (by decide) ?_
    show RUN d_X9_goSecond 11 [(0, .inr (.inr (.inl 96))), (1, .inl a0), (2, .inl a1)] [.inl (h.1 109 0), .inl 0, .inr (.inr (.inl 109))] h _
    refine R_aload_n (k := 0) rfl rfl rfl ?_
    refine R_getf_r (j := 24) rfl ft_9_52 sh_96 rfl ?_
    refine R_iconst 1 rfl rfl ?_
    refine R_iald rfl sh_109 (by decide) ?_
    show RUN d_X9_goSecond 17 [(0, .inr (.inr (.inl 96))), (1, .inl a0), (2, .inl a1)] [.inl (h.1 109 1), .inl (h.1 109 0), .inl 0, .inr (.inr (.inl 109))] h _
    have b622 := i_rng (h.1 109 0)
    have b623 := i_rng (h.1 109 1)
    refine R_iadd rfl ?_
    refine N_any (fun x624 => ?_)
    refine K_iast (a := 0) (lo := (-2147483648)) (hi' := 2147483647) rfl sh_109 (by decide) (by decide) hI (by decide) rfl (i_rng _) fr (by decide) (fun h625 g626 hI fr => ?_)
    have s627 : (h625.1 96 34).toInt = (h.1 96 34).toInt := by rw [g626, wI_ne _ _ _ (by decide)]
    have s628 : (h625.1 96 35).toInt = (h.1 96 35).toInt := by rw [g626, wI_ne _ _ _ (by decide)]
    have s629 : (h625.1 96 36).toInt = (h.1 96 36).toInt := by rw [g626, wI_ne _ _ _ (by decide)]
    have s630 : (h625.1 96 41).toInt = (h.1 96 41).toInt := by rw [g626, wI_ne _ _ _ (by decide)]
    have s631 : (h625.1 96 42).toInt = (h.1 96 42).toInt := by rw [g626, wI_ne _ _ _ (by decide)]
    have s632 : (h625.1 96 19).toInt = (h.1 96 19).toInt := by rw [g626, wI_ne _ _ _ (by decide)]
    have s633 : (h625.1 96 18).toInt = (h.1 96 18).toInt := by rw [g626, wI_ne _ _ _ (by decide)]
    have s634 : (h625.1 96 20).toInt = (h.1 96 20).toInt := by rw [g626, wI_ne _ _ _ (by decide)]
    have s635 : (h625.1 96 46).toInt = (h.1 96 46).toInt := by rw [g626, wI_ne _ _ _ (by decide)]
    have s636 : (h625.1 96 44).toInt = (h.1 96 44).toInt := by rw [g626, wI_ne _ _ _ (by decide)]
    have s637 : (h625.1 96 47).toInt = (h.1 96 47).toInt := by rw [g626, wI_ne _ _ _ (by decide)]
    have s638 : (h625.1 96 48).toInt = (h.1 96 48).toInt := by rw [g626, wI_ne _ _ _ (by decide)]
    have s639 : (h625.1 96 51).toInt = (h.1 96 51).toInt := by rw [g626, wI_ne _ _ _ (by decide)]
    have s640 : (h625.1 109 1).toInt = (h.1 109 1).toInt := by rw [g626, show (0 : Int32).toNatClampNeg = 0 from rfl, wI_at (by decide)]
    have s641 : (h625.1 109 0).toInt = x624.toInt := by rw [g626, show (0 : Int32).toNatClampNeg = 0 from rfl, wI_is]
    refine R_iconst 1 rfl rfl ?_
    refine R_istore_n (k := 3) rfl [(3, .inl 1), (0, .inr (.inr (.inl 96))), (1, .inl a0), (2, .inl a1)] rfl rfl (by decide) ?_
    have lp643 : ∀ (n642 : Nat) (h644 : PH) (x646 : Int32), INV h644 → FR [96, 107, 108, 109, 117, 118] h h644 → FR [96, 107, 108, 109, 117, 118] h625 h644 → 1 ≤ x646.toInt ∧ x646.toInt ≤ 22 → (h644.1 96 41).toInt = (h625.1 96 41).toInt → (h644.1 96 42).toInt = (h625.1 96 42).toInt → (h644.1 96 19).toInt = (h625.1 96 19).toInt → (h644.1 96 18).toInt = (h625.1 96 18).toInt → (h644.1 96 20).toInt = (h625.1 96 20).toInt → (h644.1 96 46).toInt = (h625.1 96 46).toInt → (h644.1 96 44).toInt = (h625.1 96 44).toInt → (h644.1 96 47).toInt = (h625.1 96 47).toInt → (h644.1 96 48).toInt = (h625.1 96 48).toInt → True → True → True → 0 ≤ (h644.1 96 51).toInt ∧ (h644.1 96 51).toInt ≤ 720 → (22 - x646.toInt).toNat < n642 → RUN d_X9_goSecond 21 [(3, .inl x646), (0, .inr (.inr (.inl 96))), (1, .inl a0), (2, .inl a1)] [] h644 (q_X9_goSecond h a0 a1) := by
      intro n642
      induction n642 with
      | zero => intro h644 x646 m648 m649 m650 m651 m652 m653 m654 m655 m656 m657 m658 m659 m660 m661 m662 m663 m664 hz; exact absurd hz (Nat.not_lt_zero _)
      | succ n642 ih647 =>
        intro h644 x646 hI fr fl645 m651 m652 m653 m654 m655 m656 m657 m658 m659 m660 m661 m662 m663 m664 hz
        refine R_iload_n (k := 3) rfl rfl rfl ?_
        refine R_bipush 22 rfl rfl ?_
        refine N_icmp_ge (a := x646.toInt) (b := 22) 47 rfl rfl rfl (by decide) (fun c665 => ?_) (fun c665 => ?_)
        · refine R_aload_n (k := 0) rfl rfl rfl ?_
          refine R_getf_r (j := 24) rfl ft_9_52 sh_96 rfl ?_
          refine R_bipush 22 rfl rfl ?_
          refine R_iconst 0 rfl rfl ?_
          refine K_iast (a := 22) (lo := (-2147483648)) (hi' := 2147483647) rfl sh_109 (by decide) (by decide) hI (by decide) rfl (by decide) fr (by decide) (fun h666 g667 hI fr => ?_)
          have fl645 : FR [96, 107, 108, 109, 117, 118] h625 h666 := by rw [g667]; exact FR_wI _ _ fl645 (by decide)
          have s668 : (h666.1 96 34).toInt = (h644.1 96 34).toInt := by rw [g667, wI_ne _ _ _ (by decide)]
          have s669 : (h666.1 96 35).toInt = (h644.1 96 35).toInt := by rw [g667, wI_ne _ _ _ (by decide)]
          have s670 : (h666.1 96 36).toInt = (h644.1 96 36).toInt := by rw [g667, wI_ne _ _ _ (by decide)]
          have s671 : (h666.1 96 41).toInt = (h644.1 96 41).toInt := by rw [g667, wI_ne _ _ _ (by decide)]
          have s672 : (h666.1 96 42).toInt = (h644.1 96 42).toInt := by rw [g667, wI_ne _ _ _ (by decide)]
          have s673 : (h666.1 96 19).toInt = (h644.1 96 19).toInt := by rw [g667, wI_ne _ _ _ (by decide)]
          have s674 : (h666.1 96 18).toInt = (h644.1 96 18).toInt := by rw [g667, wI_ne _ _ _ (by decide)]
          have s675 : (h666.1 96 20).toInt = (h644.1 96 20).toInt := by rw [g667, wI_ne _ _ _ (by decide)]
          have s676 : (h666.1 96 46).toInt = (h644.1 96 46).toInt := by rw [g667, wI_ne _ _ _ (by decide)]
          have s677 : (h666.1 96 44).toInt = (h644.1 96 44).toInt := by rw [g667, wI_ne _ _ _ (by decide)]
          have s678 : (h666.1 96 47).toInt = (h644.1 96 47).toInt := by rw [g667, wI_ne _ _ _ (by decide)]
          have s679 : (h666.1 96 48).toInt = (h644.1 96 48).toInt := by rw [g667, wI_ne _ _ _ (by decide)]
          have s680 : (h666.1 96 51).toInt = (h644.1 96 51).toInt := by rw [g667, wI_ne _ _ _ (by decide)]
          have s681 : (h666.1 109 22).toInt = 0 := by rw [g667, show (22 : Int32).toNatClampNeg = 22 from rfl, wI_is]; rfl
          refine R_aload_n (k := 0) rfl rfl rfl ?_
          refine R_getf_i (j := 18) rfl ft_9_253 sh_96 rfl ?_
          refine R_iconst 1 rfl rfl ?_
          refine N_isub (a := (h666.1 96 18).toInt) (b := 1) rfl rfl (by decide) (by omega) (fun x682 q683 => ?_)
          refine R_istore_n (k := 3) rfl [(3, .inl x682), (0, .inr (.inr (.inl 96))), (1, .inl a0), (2, .inl a1)] rfl rfl (by decide) ?_
          have lp685 : ∀ (n684 : Nat) (h686 : PH) (x688 : Int32), INV h686 → FR [96, 107, 108, 109, 117, 118] h h686 → FR [96, 107, 108, 109, 117, 118] h666 h686 → (-1) ≤ x688.toInt ∧ x688.toInt ≤ 5 → (h686.1 96 41).toInt = (h666.1 96 41).toInt → (h686.1 96 42).toInt = (h666.1 96 42).toInt → (h686.1 96 19).toInt = (h666.1 96 19).toInt → (h686.1 96 18).toInt = (h666.1 96 18).toInt → (h686.1 96 20).toInt = (h666.1 96 20).toInt → (h686.1 96 46).toInt = (h666.1 96 46).toInt → (h686.1 96 44).toInt = (h666.1 96 44).toInt → (h686.1 96 47).toInt = (h666.1 96 47).toInt → (h686.1 96 48).toInt = (h666.1 96 48).toInt → x688.toInt ≤ (h666.1 96 18).toInt + (-1) → (x688.toInt - (-1)).toNat < n684 → RUN d_X9_goSecond 62 [(3, .inl x688), (0, .inr (.inr (.inl 96))), (1, .inl a0), (2, .inl a1)] [] h686 (q_X9_goSecond h a0 a1) := by
            intro n684
            induction n684 with
            | zero => intro h686 x688 m690 m691 m692 m693 m694 m695 m696 m697 m698 m699 m700 m701 m702 m703 hz; exact absurd hz (Nat.not_lt_zero _)
            | succ n684 ih689 =>
              intro h686 x688 hI fr fl687 m693 m694 m695 m696 m697 m698 m699 m700 m701 m702 m703 hz
              have fl645 : FR [96, 107, 108, 109, 117, 118] h625 h686 := fl645.trans fl687 (by decide)
              refine R_iload_n (k := 3) rfl rfl rfl ?_
              refine N_if_lt (a := x688.toInt) 82 rfl rfl rfl (fun c704 => ?_) (fun c704 => ?_)
              · refine R_aload_n (k := 0) rfl rfl rfl ?_
                refine R_getf_i (j := 18) rfl ft_9_253 sh_96 rfl ?_
                refine N_if_le (a := (h686.1 96 18).toInt) 164 rfl rfl rfl (fun c705 => ?_) (fun c705 => ?_)
                · refine R_iconst 0 rfl rfl ?_
                  refine R_istore_n (k := 3) rfl [(3, .inl 0), (0, .inr (.inr (.inl 96))), (1, .inl a0), (2, .inl a1)] rfl rfl (by decide) ?_
                  have lp707 : ∀ (n706 : Nat) (x708 : Int32), 0 ≤ x708.toInt ∧ x708.toInt ≤ 0 → 0 < n706 → RUN d_X9_goSecond 166 [(3, .inl x708), (0, .inr (.inr (.inl 96))), (1, .inl a0), (2, .inl a1)] [] h686 (q_X9_goSecond h a0 a1) := by
                    intro n706
                    induction n706 with
                    | zero => intro x708 m710 hz; exact absurd hz (Nat.not_lt_zero _)
                    | succ n706 ih709 =>
                      intro x708 m710 hz
                      refine R_iload_n (k := 3) rfl rfl rfl ?_
                      refine R_aload_n (k := 0) rfl rfl rfl ?_
                      refine R_getf_i (j := 18) rfl ft_9_253 sh_96 rfl ?_
                      refine N_icmp_ge (a := x708.toInt) (b := (h686.1 96 18).toInt) 224 rfl rfl rfl rfl (fun c711 => ?_) (fun c711 => ?_)
                      · exact R_vret rfl rfl ⟨hI, fr, ⟨by omega, by omega, by omega, by omega, by omega, by omega, by omega, by omega, by omega, trivial⟩, rfl⟩
                      · exfalso; omega
                  exact lp707 _ (0 : Int32) (by decide) (Nat.lt_succ_self _)
                · refine R_aload_n (k := 0) rfl rfl rfl ?_
                  refine R_getf_r (j := 22) rfl ft_9_46 sh_96 rfl ?_
                  refine R_aload_n (k := 0) rfl rfl rfl ?_
                  refine R_getf_r (j := 17) rfl ft_9_40 sh_96 rfl ?_
                  refine R_iconst 0 rfl rfl ?_
                  refine R_iald rfl sh_105 (by decide) ?_
                  have b712 : (0 : Int) ≤ (h686.1 105 0).toInt ∧ (h686.1 105 0).toInt ≤ 5 := hI.1 105 0
                  show RUN d_X9_goSecond 99 [(3, .inl x688), (0, .inr (.inr (.inl 96))), (1, .inl a0), (2, .inl a1)] [.inl (h686.1 105 0), .inr (.inr (.inl 107))] h686 _
                  refine R_iald rfl sh_107 ⟨by omega, by omega⟩ ?_
                  refine N_any (fun x713 => ?_)
                  refine R_iconst (-1) rfl rfl ?_
                  refine N_icmp_ne (a := x713.toInt) (b := (-1)) 164 rfl rfl rfl (by decide) (fun c714 => ?_) (fun c714 => ?_)
                  · refine R_iconst 0 rfl rfl ?_
                    refine R_istore_n (k := 3) rfl [(3, .inl 0), (0, .inr (.inr (.inl 96))), (1, .inl a0), (2, .inl a1)] rfl rfl (by decide) ?_
                    have lp716 : ∀ (n715 : Nat) (h717 : PH) (x719 : Int32), INV h717 → FR [96, 107, 108, 109, 117, 118] h h717 → FR [107] h686 h717 → 0 ≤ x719.toInt ∧ x719.toInt ≤ 6 → (6 - x719.toInt).toNat < n715 → RUN d_X9_goSecond 166 [(3, .inl x719), (0, .inr (.inr (.inl 96))), (1, .inl a0), (2, .inl a1)] [] h717 (q_X9_goSecond h a0 a1) := by
                      intro n715
                      induction n715 with
                      | zero => intro h717 x719 m721 m722 m723 m724 hz; exact absurd hz (Nat.not_lt_zero _)
                      | succ n715 ih720 =>
                        intro h717 x719 hI fr fl718 m724 hz
                        have s725 : (h717.1 96 41).toInt = (h686.1 96 41).toInt := by rw [(fl718 96 (by decide)).1]
                        have s726 : (h717.1 96 42).toInt = (h686.1 96 42).toInt := by rw [(fl718 96 (by decide)).1]
                        have s727 : (h717.1 96 19).toInt = (h686.1 96 19).toInt := by rw [(fl718 96 (by decide)).1]
                        have s728 : (h717.1 96 18).toInt = (h686.1 96 18).toInt := by rw [(fl718 96 (by decide)).1]
                        have s729 : (h717.1 96 20).toInt = (h686.1 96 20).toInt := by rw [(fl718 96 (by decide)).1]
                        have s730 : (h717.1 96 46).toInt = (h686.1 96 46).toInt := by rw [(fl718 96 (by decide)).1]
                        have s731 : (h717.1 96 44).toInt = (h686.1 96 44).toInt := by rw [(fl718 96 (by decide)).1]
                        have s732 : (h717.1 96 47).toInt = (h686.1 96 47).toInt := by rw [(fl718 96 (by decide)).1]
                        have s733 : (h717.1 96 48).toInt = (h686.1 96 48).toInt := by rw [(fl718 96 (by decide)).1]
                        have s734 : (h717.1 105 0).toInt = (h686.1 105 0).toInt := by rw [(fl718 105 (by decide)).1]
                        have fl687 : FR [96, 107, 108, 109, 117, 118] h666 h717 := fl687.trans fl718 (by decide)
                        have fl645 : FR [96, 107, 108, 109, 117, 118] h625 h717 := fl645.trans fl718 (by decide)
                        refine R_iload_n (k := 3) rfl rfl rfl ?_
                        refine R_aload_n (k := 0) rfl rfl rfl ?_
                        refine R_getf_i (j := 18) rfl ft_9_253 sh_96 rfl ?_
                        refine N_icmp_ge (a := x719.toInt) (b := (h717.1 96 18).toInt) 224 rfl rfl rfl rfl (fun c735 => ?_) (fun c735 => ?_)
                        · exact R_vret rfl rfl ⟨hI, fr, ⟨by omega, by omega, by omega, by omega, by omega, by omega, by omega, by omega, by omega, trivial⟩, rfl⟩
                        · refine R_aload_n (k := 0) rfl rfl rfl ?_
                          refine R_getf_r (j := 22) rfl ft_9_46 sh_96 rfl ?_
                          refine R_aload_n (k := 0) rfl rfl rfl ?_
                          refine R_getf_r (j := 17) rfl ft_9_40 sh_96 rfl ?_
                          refine R_iload_n (k := 3) rfl rfl rfl ?_
                          refine R_iald rfl sh_105 ⟨by omega, by omega⟩ ?_
                          refine N_bd (lo := 0) (hi := 5) (hI.1 105 _) (fun x736 q737 => ?_)
                          refine R_iald rfl sh_107 ⟨by omega, by omega⟩ ?_
                          refine N_any (fun x738 => ?_)
                          refine R_iconst (-1) rfl rfl ?_
                          refine N_icmp_eq (a := x738.toInt) (b := (-1)) 218 rfl rfl rfl (by decide) (fun c739 => ?_) (fun c739 => ?_)
                          · refine N_iinc (a := x719.toInt) (c := 1) (fun w => [(3, .inl w), (0, .inr (.inr (.inl 96))), (1, .inl a0), (2, .inl a1)]) rfl rfl (fun _ => rfl) (by decide) rfl (by decide) (by omega) (fun x740 q741 => ?_)
                            refine R_goto 166 rfl rfl ?_
                            exact RUN_weak (psub_cons rfl (psub_cons rfl (psub_cons rfl (psub_cons rfl (psub_nil _))))) (ih720 h717 x740 hI fr fl718 (by omega) (by omega))
                          · refine R_aload_n (k := 0) rfl rfl rfl ?_
                            refine R_aload_n (k := 0) rfl rfl rfl ?_
                            refine R_getf_r (j := 17) rfl ft_9_40 sh_96 rfl ?_
                            refine R_iload_n (k := 3) rfl rfl rfl ?_
                            refine R_iald rfl sh_105 ⟨by omega, by omega⟩ ?_
                            refine N_bd (lo := 0) (hi := 5) (hI.1 105 _) (fun x742 q743 => ?_)
                            refine R_iload_n (k := 1) rfl rfl rfl ?_
                            have b744 := i_rng a0
                            refine R_callV (v := .inr (.inr (.inl 96))) (As := [.inl x742, .inl a0]) (rest := []) rfl mt_9_i271 pp_X9_doesRest (by decide) rfl rfl rfl (Nat.le_of_ble_eq_true rfl) (Nat.le_of_ble_eq_true rfl) ((k_X9_doesRest h717 hI x742 a0 (by omega) (by omega)).mono (fun r745 h746 p747 => ?_))
                            obtain ⟨rfl, x748, rfl, q749 | q749 | q749⟩ := p747
                            · show RUN d_X9_goSecond 200 [(3, .inl x719), (0, .inr (.inr (.inl 96))), (1, .inl a0), (2, .inl a1)] [.inl x748] h717 _
                              refine N_if_ne (a := x748.toInt) 218 rfl rfl rfl (fun c750 => ?_) (fun c750 => ?_)
                              · exfalso; omega
                              · refine R_aload_n (k := 0) rfl rfl rfl ?_
                                refine R_getf_r (j := 22) rfl ft_9_46 sh_96 rfl ?_
                                refine R_aload_n (k := 0) rfl rfl rfl ?_
                                refine R_getf_r (j := 17) rfl ft_9_40 sh_96 rfl ?_
                                refine R_iload_n (k := 3) rfl rfl rfl ?_
                                refine R_iald rfl sh_105 ⟨by omega, by omega⟩ ?_
                                refine N_bd (lo := 0) (hi := 5) (hI.1 105 _) (fun x751 q752 => ?_)
                                refine R_dup2 rfl ?_
                                refine R_iald rfl sh_107 ⟨by omega, by omega⟩ ?_
                                refine N_any (fun x753 => ?_)
                                refine R_iconst 1 rfl rfl ?_
                                have b754 := i_rng x753
                                refine R_iadd rfl ?_
                                refine N_any (fun x755 => ?_)
                                refine K_iast (a := x751.toInt) (lo := (-2147483648)) (hi' := 2147483647) rfl sh_107 rfl ⟨by omega, by omega⟩ hI (by decide) rfl (i_rng _) fr (by decide) (fun h756 g757 hI fr => ?_)
                                have fl718 : FR [107] h686 h756 := by rw [g757]; exact FR_wI _ _ fl718 (by decide)
                                have fl687 : FR [96, 107, 108, 109, 117, 118] h666 h756 := by rw [g757]; exact FR_wI _ _ fl687 (by decide)
                                have fl645 : FR [96, 107, 108, 109, 117, 118] h625 h756 := by rw [g757]; exact FR_wI _ _ fl645 (by decide)
                                have s758 : (h756.1 96 41).toInt = (h717.1 96 41).toInt := by rw [g757, wI_ne _ _ _ (by decide)]
                                have s759 : (h756.1 96 42).toInt = (h717.1 96 42).toInt := by rw [g757, wI_ne _ _ _ (by decide)]
                                have s760 : (h756.1 96 19).toInt = (h717.1 96 19).toInt := by rw [g757, wI_ne _ _ _ (by decide)]
                                have s761 : (h756.1 96 18).toInt = (h717.1 96 18).toInt := by rw [g757, wI_ne _ _ _ (by decide)]
                                have s762 : (h756.1 96 20).toInt = (h717.1 96 20).toInt := by rw [g757, wI_ne _ _ _ (by decide)]
                                have s763 : (h756.1 96 46).toInt = (h717.1 96 46).toInt := by rw [g757, wI_ne _ _ _ (by decide)]
                                have s764 : (h756.1 96 44).toInt = (h717.1 96 44).toInt := by rw [g757, wI_ne _ _ _ (by decide)]
                                have s765 : (h756.1 96 47).toInt = (h717.1 96 47).toInt := by rw [g757, wI_ne _ _ _ (by decide)]
                                have s766 : (h756.1 96 48).toInt = (h717.1 96 48).toInt := by rw [g757, wI_ne _ _ _ (by decide)]
                                have s767 : (h756.1 105 0).toInt = (h717.1 105 0).toInt := by rw [g757, wI_ne _ _ _ (by decide)]
                                refine N_iinc (a := x719.toInt) (c := 1) (fun w => [(3, .inl w), (0, .inr (.inr (.inl 96))), (1, .inl a0), (2, .inl a1)]) rfl rfl (fun _ => rfl) (by decide) rfl (by decide) (by omega) (fun x768 q769 => ?_)
                                refine R_goto 166 rfl rfl ?_
                                exact RUN_weak (psub_cons rfl (psub_cons rfl (psub_cons rfl (psub_cons rfl (psub_nil _))))) (ih720 h756 x768 hI fr fl718 (by omega) (by omega))
                            · show RUN d_X9_goSecond 200 [(3, .inl x719), (0, .inr (.inr (.inl 96))), (1, .inl a0), (2, .inl a1)] [.inl x748] h717 _
                              refine N_if_ne (a := x748.toInt) 218 rfl rfl rfl (fun c770 => ?_) (fun c770 => ?_)
                              · exfalso; omega
                              · refine R_aload_n (k := 0) rfl rfl rfl ?_
                                refine R_getf_r (j := 22) rfl ft_9_46 sh_96 rfl ?_
                                refine R_aload_n (k := 0) rfl rfl rfl ?_
                                refine R_getf_r (j := 17) rfl ft_9_40 sh_96 rfl ?_
                                refine R_iload_n (k := 3) rfl rfl rfl ?_
                                refine R_iald rfl sh_105 ⟨by omega, by omega⟩ ?_
                                refine N_bd (lo := 0) (hi := 5) (hI.1 105 _) (fun x771 q772 => ?_)
                                refine R_dup2 rfl ?_
                                refine R_iald rfl sh_107 ⟨by omega, by omega⟩ ?_
                                refine N_any (fun x773 => ?_)
                                refine R_iconst 1 rfl rfl ?_
                                have b774 := i_rng x773
                                refine R_iadd rfl ?_
                                refine N_any (fun x775 => ?_)
                                refine K_iast (a := x771.toInt) (lo := (-2147483648)) (hi' := 2147483647) rfl sh_107 rfl ⟨by omega, by omega⟩ hI (by decide) rfl (i_rng _) fr (by decide) (fun h776 g777 hI fr => ?_)
                                have fl718 : FR [107] h686 h776 := by rw [g777]; exact FR_wI _ _ fl718 (by decide)
                                have fl687 : FR [96, 107, 108, 109, 117, 118] h666 h776 := by rw [g777]; exact FR_wI _ _ fl687 (by decide)
                                have fl645 : FR [96, 107, 108, 109, 117, 118] h625 h776 := by rw [g777]; exact FR_wI _ _ fl645 (by decide)
                                have s778 : (h776.1 96 41).toInt = (h717.1 96 41).toInt := by rw [g777, wI_ne _ _ _ (by decide)]
                                have s779 : (h776.1 96 42).toInt = (h717.1 96 42).toInt := by rw [g777, wI_ne _ _ _ (by decide)]
                                have s780 : (h776.1 96 19).toInt = (h717.1 96 19).toInt := by rw [g777, wI_ne _ _ _ (by decide)]
                                have s781 : (h776.1 96 18).toInt = (h717.1 96 18).toInt := by rw [g777, wI_ne _ _ _ (by decide)]
                                have s782 : (h776.1 96 20).toInt = (h717.1 96 20).toInt := by rw [g777, wI_ne _ _ _ (by decide)]
                                have s783 : (h776.1 96 46).toInt = (h717.1 96 46).toInt := by rw [g777, wI_ne _ _ _ (by decide)]
                                have s784 : (h776.1 96 44).toInt = (h717.1 96 44).toInt := by rw [g777, wI_ne _ _ _ (by decide)]
                                have s785 : (h776.1 96 47).toInt = (h717.1 96 47).toInt := by rw [g777, wI_ne _ _ _ (by decide)]
                                have s786 : (h776.1 96 48).toInt = (h717.1 96 48).toInt := by rw [g777, wI_ne _ _ _ (by decide)]
                                have s787 : (h776.1 105 0).toInt = (h717.1 105 0).toInt := by rw [g777, wI_ne _ _ _ (by decide)]
                                refine N_iinc (a := x719.toInt) (c := 1) (fun w => [(3, .inl w), (0, .inr (.inr (.inl 96))), (1, .inl a0), (2, .inl a1)]) rfl rfl (fun _ => rfl) (by decide) rfl (by decide) (by omega) (fun x788 q789 => ?_)
                                refine R_goto 166 rfl rfl ?_
                                exact RUN_weak (psub_cons rfl (psub_cons rfl (psub_cons rfl (psub_cons rfl (psub_nil _))))) (ih720 h776 x788 hI fr fl718 (by omega) (by omega))
                            · show RUN d_X9_goSecond 200 [(3, .inl x719), (0, .inr (.inr (.inl 96))), (1, .inl a0), (2, .inl a1)] [.inl x748] h717 _
                              refine N_if_ne (a := x748.toInt) 218 rfl rfl rfl (fun c790 => ?_) (fun c790 => ?_)
                              · refine N_iinc (a := x719.toInt) (c := 1) (fun w => [(3, .inl w), (0, .inr (.inr (.inl 96))), (1, .inl a0), (2, .inl a1)]) rfl rfl (fun _ => rfl) (by decide) rfl (by decide) (by omega) (fun x791 q792 => ?_)
                                refine R_goto 166 rfl rfl ?_
                                exact RUN_weak (psub_cons rfl (psub_cons rfl (psub_cons rfl (psub_cons rfl (psub_nil _))))) (ih720 h717 x791 hI fr fl718 (by omega) (by omega))
                              · exfalso; omega
                    exact lp716 _ h686 (0 : Int32) hI fr (FR.rf _ _) (by decide) (Nat.lt_succ_self _)
                  · refine R_aload_n (k := 0) rfl rfl rfl ?_
                    refine R_aload_n (k := 0) rfl rfl rfl ?_
                    refine R_getf_r (j := 17) rfl ft_9_40 sh_96 rfl ?_
                    refine R_iconst 0 rfl rfl ?_
                    refine R_iald rfl sh_105 (by decide) ?_
                    show RUN d_X9_goSecond 111 [(3, .inl x688), (0, .inr (.inr (.inl 96))), (1, .inl a0), (2, .inl a1)] [.inl (h686.1 105 0), .inr (.inr (.inl 96))] h686 _
                    refine R_iload_n (k := 1) rfl rfl rfl ?_
                    have b793 := i_rng a0
                    refine R_callV (v := .inr (.inr (.inl 96))) (As := [.inl (h686.1 105 0), .inl a0]) (rest := []) rfl mt_9_i271 pp_X9_doesRest (by decide) rfl rfl rfl (Nat.le_of_ble_eq_true rfl) (Nat.le_of_ble_eq_true rfl) ((k_X9_doesRest h686 hI (h686.1 105 0) a0 (by omega) (by omega)).mono (fun r794 h795 p796 => ?_))
                    obtain ⟨rfl, x797, rfl, q798 | q798 | q798⟩ := p796
                    · show RUN d_X9_goSecond 115 [(3, .inl x688), (0, .inr (.inr (.inl 96))), (1, .inl a0), (2, .inl a1)] [.inl x797] h686 _
                      refine N_if_ne (a := x797.toInt) 164 rfl rfl rfl (fun c799 => ?_) (fun c799 => ?_)
                      · exfalso; omega
                      · refine R_aload_n (k := 0) rfl rfl rfl ?_
                        refine R_getf_r (j := 24) rfl ft_9_52 sh_96 rfl ?_
                        refine R_iconst 0 rfl rfl ?_
                        refine R_iald rfl sh_109 (by decide) ?_
                        show RUN d_X9_goSecond 124 [(3, .inl x688), (0, .inr (.inr (.inl 96))), (1, .inl a0), (2, .inl a1)] [.inl (h686.1 109 0)] h686 _
                        refine N_if_le (a := (h686.1 109 0).toInt) 164 rfl rfl rfl (fun c800 => ?_) (fun c800 => ?_)
                        · refine R_iconst 0 rfl rfl ?_
                          refine R_istore_n (k := 3) rfl [(3, .inl 0), (0, .inr (.inr (.inl 96))), (1, .inl a0), (2, .inl a1)] rfl rfl (by decide) ?_
                          have lp802 : ∀ (n801 : Nat) (h803 : PH) (x805 : Int32), INV h803 → FR [96, 107, 108, 109, 117, 118] h h803 → FR [107] h686 h803 → 0 ≤ x805.toInt ∧ x805.toInt ≤ 6 → (6 - x805.toInt).toNat < n801 → RUN d_X9_goSecond 166 [(3, .inl x805), (0, .inr (.inr (.inl 96))), (1, .inl a0), (2, .inl a1)] [] h803 (q_X9_goSecond h a0 a1) := by
                            intro n801
                            induction n801 with
                            | zero => intro h803 x805 m807 m808 m809 m810 hz; exact absurd hz (Nat.not_lt_zero _)
                            | succ n801 ih806 =>
                              intro h803 x805 hI fr fl804 m810 hz
                              have s811 : (h803.1 96 41).toInt = (h686.1 96 41).toInt := by rw [(fl804 96 (by decide)).1]
                              have s812 : (h803.1 96 42).toInt = (h686.1 96 42).toInt := by rw [(fl804 96 (by decide)).1]
                              have s813 : (h803.1 96 19).toInt = (h686.1 96 19).toInt := by rw [(fl804 96 (by decide)).1]
                              have s814 : (h803.1 96 18).toInt = (h686.1 96 18).toInt := by rw [(fl804 96 (by decide)).1]
                              have s815 : (h803.1 96 20).toInt = (h686.1 96 20).toInt := by rw [(fl804 96 (by decide)).1]
                              have s816 : (h803.1 96 46).toInt = (h686.1 96 46).toInt := by rw [(fl804 96 (by decide)).1]
                              have s817 : (h803.1 96 44).toInt = (h686.1 96 44).toInt := by rw [(fl804 96 (by decide)).1]
                              have s818 : (h803.1 96 47).toInt = (h686.1 96 47).toInt := by rw [(fl804 96 (by decide)).1]
                              have s819 : (h803.1 96 48).toInt = (h686.1 96 48).toInt := by rw [(fl804 96 (by decide)).1]
                              have s820 : (h803.1 105 0).toInt = (h686.1 105 0).toInt := by rw [(fl804 105 (by decide)).1]
                              have s821 : (h803.1 109 0).toInt = (h686.1 109 0).toInt := by rw [(fl804 109 (by decide)).1]
                              have fl687 : FR [96, 107, 108, 109, 117, 118] h666 h803 := fl687.trans fl804 (by decide)
                              have fl645 : FR [96, 107, 108, 109, 117, 118] h625 h803 := fl645.trans fl804 (by decide)
                              refine R_iload_n (k := 3) rfl rfl rfl ?_
                              refine R_aload_n (k := 0) rfl rfl rfl ?_
                              refine R_getf_i (j := 18) rfl ft_9_253 sh_96 rfl ?_
                              refine N_icmp_ge (a := x805.toInt) (b := (h803.1 96 18).toInt) 224 rfl rfl rfl rfl (fun c822 => ?_) (fun c822 => ?_)
                              · exact R_vret rfl rfl ⟨hI, fr, ⟨by omega, by omega, by omega, by omega, by omega, by omega, by omega, by omega, by omega, trivial⟩, rfl⟩
                              · refine R_aload_n (k := 0) rfl rfl rfl ?_
                                refine R_getf_r (j := 22) rfl ft_9_46 sh_96 rfl ?_
                                refine R_aload_n (k := 0) rfl rfl rfl ?_
                                refine R_getf_r (j := 17) rfl ft_9_40 sh_96 rfl ?_
                                refine R_iload_n (k := 3) rfl rfl rfl ?_
                                refine R_iald rfl sh_105 ⟨by omega, by omega⟩ ?_
                                refine N_bd (lo := 0) (hi := 5) (hI.1 105 _) (fun x823 q824 => ?_)
                                refine R_iald rfl sh_107 ⟨by omega, by omega⟩ ?_
                                refine N_any (fun x825 => ?_)
                                refine R_iconst (-1) rfl rfl ?_
                                refine N_icmp_eq (a := x825.toInt) (b := (-1)) 218 rfl rfl rfl (by decide) (fun c826 => ?_) (fun c826 => ?_)
                                · refine N_iinc (a := x805.toInt) (c := 1) (fun w => [(3, .inl w), (0, .inr (.inr (.inl 96))), (1, .inl a0), (2, .inl a1)]) rfl rfl (fun _ => rfl) (by decide) rfl (by decide) (by omega) (fun x827 q828 => ?_)
                                  refine R_goto 166 rfl rfl ?_
                                  exact RUN_weak (psub_cons rfl (psub_cons rfl (psub_cons rfl (psub_cons rfl (psub_nil _))))) (ih806 h803 x827 hI fr fl804 (by omega) (by omega))
                                · refine R_aload_n (k := 0) rfl rfl rfl ?_
                                  refine R_aload_n (k := 0) rfl rfl rfl ?_
                                  refine R_getf_r (j := 17) rfl ft_9_40 sh_96 rfl ?_
                                  refine R_iload_n (k := 3) rfl rfl rfl ?_
                                  refine R_iald rfl sh_105 ⟨by omega, by omega⟩ ?_
                                  refine N_bd (lo := 0) (hi := 5) (hI.1 105 _) (fun x829 q830 => ?_)
                                  refine R_iload_n (k := 1) rfl rfl rfl ?_
                                  have b831 := i_rng a0
                                  refine R_callV (v := .inr (.inr (.inl 96))) (As := [.inl x829, .inl a0]) (rest := []) rfl mt_9_i271 pp_X9_doesRest (by decide) rfl rfl rfl (Nat.le_of_ble_eq_true rfl) (Nat.le_of_ble_eq_true rfl) ((k_X9_doesRest h803 hI x829 a0 (by omega) (by omega)).mono (fun r832 h833 p834 => ?_))
                                  obtain ⟨rfl, x835, rfl, q836 | q836 | q836⟩ := p834
                                  · show RUN d_X9_goSecond 200 [(3, .inl x805), (0, .inr (.inr (.inl 96))), (1, .inl a0), (2, .inl a1)] [.inl x835] h803 _
                                    refine N_if_ne (a := x835.toInt) 218 rfl rfl rfl (fun c837 => ?_) (fun c837 => ?_)
                                    · exfalso; omega
                                    · refine R_aload_n (k := 0) rfl rfl rfl ?_
                                      refine R_getf_r (j := 22) rfl ft_9_46 sh_96 rfl ?_
                                      refine R_aload_n (k := 0) rfl rfl rfl ?_
                                      refine R_getf_r (j := 17) rfl ft_9_40 sh_96 rfl ?_
                                      refine R_iload_n (k := 3) rfl rfl rfl ?_
                                      refine R_iald rfl sh_105 ⟨by omega, by omega⟩ ?_
                                      refine N_bd (lo := 0) (hi := 5) (hI.1 105 _) (fun x838 q839 => ?_)
                                      refine R_dup2 rfl ?_
                                      refine R_iald rfl sh_107 ⟨by omega, by omega⟩ ?_
                                      refine N_any (fun x840 => ?_)
                                      refine R_iconst 1 rfl rfl ?_
                                      have b841 := i_rng x840
                                      refine R_iadd rfl ?_
                                      refine N_any (fun x842 => ?_)
                                      refine K_iast (a := x838.toInt) (lo := (-2147483648)) (hi' := 2147483647) rfl sh_107 rfl ⟨by omega, by omega⟩ hI (by decide) rfl (i_rng _) fr (by decide) (fun h843 g844 hI fr => ?_)
                                      have fl804 : FR [107] h686 h843 := by rw [g844]; exact FR_wI _ _ fl804 (by decide)
                                      have fl687 : FR [96, 107, 108, 109, 117, 118] h666 h843 := by rw [g844]; exact FR_wI _ _ fl687 (by decide)
                                      have fl645 : FR [96, 107, 108, 109, 117, 118] h625 h843 := by rw [g844]; exact FR_wI _ _ fl645 (by decide)
                                      have s845 : (h843.1 96 41).toInt = (h803.1 96 41).toInt := by rw [g844, wI_ne _ _ _ (by decide)]
                                      have s846 : (h843.1 96 42).toInt = (h803.1 96 42).toInt := by rw [g844, wI_ne _ _ _ (by decide)]
                                      have s847 : (h843.1 96 19).toInt = (h803.1 96 19).toInt := by rw [g844, wI_ne _ _ _ (by decide)]
                                      have s848 : (h843.1 96 18).toInt = (h803.1 96 18).toInt := by rw [g844, wI_ne _ _ _ (by decide)]
                                      have s849 : (h843.1 96 20).toInt = (h803.1 96 20).toInt := by rw [g844, wI_ne _ _ _ (by decide)]
                                      have s850 : (h843.1 96 46).toInt = (h803.1 96 46).toInt := by rw [g844, wI_ne _ _ _ (by decide)]
                                      have s851 : (h843.1 96 44).toInt = (h803.1 96 44).toInt := by rw [g844, wI_ne _ _ _ (by decide)]
                                      have s852 : (h843.1 96 47).toInt = (h803.1 96 47).toInt := by rw [g844, wI_ne _ _ _ (by decide)]
                                      have s853 : (h843.1 96 48).toInt = (h803.1 96 48).toInt := by rw [g844, wI_ne _ _ _ (by decide)]
                                      have s854 : (h843.1 105 0).toInt = (h803.1 105 0).toInt := by rw [g844, wI_ne _ _ _ (by decide)]
                                      have s855 : (h843.1 109 0).toInt = (h803.1 109 0).toInt := by rw [g844, wI_ne _ _ _ (by decide)]
                                      refine N_iinc (a := x805.toInt) (c := 1) (fun w => [(3, .inl w), (0, .inr (.inr (.inl 96))), (1, .inl a0), (2, .inl a1)]) rfl rfl (fun _ => rfl) (by decide) rfl (by decide) (by omega) (fun x856 q857 => ?_)
                                      refine R_goto 166 rfl rfl ?_
                                      exact RUN_weak (psub_cons rfl (psub_cons rfl (psub_cons rfl (psub_cons rfl (psub_nil _))))) (ih806 h843 x856 hI fr fl804 (by omega) (by omega))
                                  · exfalso; omega
                                  · exfalso; omega
                          exact lp802 _ h686 (0 : Int32) hI fr (FR.rf _ _) (by decide) (Nat.lt_succ_self _)
                        · refine R_aload_n (k := 0) rfl rfl rfl ?_
                          refine R_getf_r (j := 24) rfl ft_9_52 sh_96 rfl ?_
                          refine R_iconst 0 rfl rfl ?_
                          refine R_dup2 rfl ?_
                          refine R_iald rfl sh_109 (by decide) ?_
                          show RUN d_X9_goSecond 134 [(3, .inl x688), (0, .inr (.inr (.inl 96))), (1, .inl a0), (2, .inl a1)] [.inl (h686.1 109 0), .inl 0, .inr (.inr (.inl 109))] h686 _
                          refine R_iconst 1 rfl rfl ?_
                          have b858 := i_rng (h686.1 109 0)
                          refine N_isub (a := (h686.1 109 0).toInt) (b := 1) rfl rfl (by decide) (by omega) (fun x859 q860 => ?_)
                          refine K_iast (a := 0) (lo := (-2147483648)) (hi' := 2147483647) rfl sh_109 (by decide) (by decide) hI (by decide) rfl (i_rng _) fr (by decide) (fun h861 g862 hI fr => ?_)
                          have fl687 : FR [96, 107, 108, 109, 117, 118] h666 h861 := by rw [g862]; exact FR_wI _ _ fl687 (by decide)
                          have fl645 : FR [96, 107, 108, 109, 117, 118] h625 h861 := by rw [g862]; exact FR_wI _ _ fl645 (by decide)
                          have s863 : (h861.1 96 41).toInt = (h686.1 96 41).toInt := by rw [g862, wI_ne _ _ _ (by decide)]
                          have s864 : (h861.1 96 42).toInt = (h686.1 96 42).toInt := by rw [g862, wI_ne _ _ _ (by decide)]
                          have s865 : (h861.1 96 19).toInt = (h686.1 96 19).toInt := by rw [g862, wI_ne _ _ _ (by decide)]
                          have s866 : (h861.1 96 18).toInt = (h686.1 96 18).toInt := by rw [g862, wI_ne _ _ _ (by decide)]
                          have s867 : (h861.1 96 20).toInt = (h686.1 96 20).toInt := by rw [g862, wI_ne _ _ _ (by decide)]
                          have s868 : (h861.1 96 46).toInt = (h686.1 96 46).toInt := by rw [g862, wI_ne _ _ _ (by decide)]
                          have s869 : (h861.1 96 44).toInt = (h686.1 96 44).toInt := by rw [g862, wI_ne _ _ _ (by decide)]
                          have s870 : (h861.1 96 47).toInt = (h686.1 96 47).toInt := by rw [g862, wI_ne _ _ _ (by decide)]
                          have s871 : (h861.1 96 48).toInt = (h686.1 96 48).toInt := by rw [g862, wI_ne _ _ _ (by decide)]
                          have s872 : (h861.1 105 0).toInt = (h686.1 105 0).toInt := by rw [g862, wI_ne _ _ _ (by decide)]
                          have s873 : (h861.1 109 0).toInt = x859.toInt := by rw [g862, show (0 : Int32).toNatClampNeg = 0 from rfl, wI_is]
                          refine R_aload_n (k := 0) rfl rfl rfl ?_
                          refine R_getf_r (j := 22) rfl ft_9_46 sh_96 rfl ?_
                          refine R_aload_n (k := 0) rfl rfl rfl ?_
                          refine R_getf_r (j := 17) rfl ft_9_40 sh_96 rfl ?_
                          refine R_iconst 0 rfl rfl ?_
                          refine R_iald rfl sh_105 (by decide) ?_
                          show RUN d_X9_goSecond 147 [(3, .inl x688), (0, .inr (.inr (.inl 96))), (1, .inl a0), (2, .inl a1)] [.inl (h861.1 105 0), .inr (.inr (.inl 107))] h861 _
                          refine R_iconst 0 rfl rfl ?_
                          refine K_iast (a := (h861.1 105 0).toInt) (lo := (-2147483648)) (hi' := 2147483647) rfl sh_107 rfl ⟨by omega, by omega⟩ hI (by decide) rfl (by decide) fr (by decide) (fun h874 g875 hI fr => ?_)
                          have fl687 : FR [96, 107, 108, 109, 117, 118] h666 h874 := by rw [g875]; exact FR_wI _ _ fl687 (by decide)
                          have fl645 : FR [96, 107, 108, 109, 117, 118] h625 h874 := by rw [g875]; exact FR_wI _ _ fl645 (by decide)
                          have s876 : (h874.1 96 41).toInt = (h861.1 96 41).toInt := by rw [g875, wI_ne _ _ _ (by decide)]
                          have s877 : (h874.1 96 42).toInt = (h861.1 96 42).toInt := by rw [g875, wI_ne _ _ _ (by decide)]
                          have s878 : (h874.1 96 19).toInt = (h861.1 96 19).toInt := by rw [g875, wI_ne _ _ _ (by decide)]
                          have s879 : (h874.1 96 18).toInt = (h861.1 96 18).toInt := by rw [g875, wI_ne _ _ _ (by decide)]
                          have s880 : (h874.1 96 20).toInt = (h861.1 96 20).toInt := by rw [g875, wI_ne _ _ _ (by decide)]
                          have s881 : (h874.1 96 46).toInt = (h861.1 96 46).toInt := by rw [g875, wI_ne _ _ _ (by decide)]
                          have s882 : (h874.1 96 44).toInt = (h861.1 96 44).toInt := by rw [g875, wI_ne _ _ _ (by decide)]
                          have s883 : (h874.1 96 47).toInt = (h861.1 96 47).toInt := by rw [g875, wI_ne _ _ _ (by decide)]
                          have s884 : (h874.1 96 48).toInt = (h861.1 96 48).toInt := by rw [g875, wI_ne _ _ _ (by decide)]
                          have s885 : (h874.1 105 0).toInt = (h861.1 105 0).toInt := by rw [g875, wI_ne _ _ _ (by decide)]
                          have s886 : (h874.1 109 0).toInt = (h861.1 109 0).toInt := by rw [g875, wI_ne _ _ _ (by decide)]
                          refine R_aload_n (k := 0) rfl rfl rfl ?_
                          refine R_getf_r (j := 23) rfl ft_9_49 sh_96 rfl ?_
                          refine R_aload_n (k := 0) rfl rfl rfl ?_
                          refine R_getf_r (j := 17) rfl ft_9_40 sh_96 rfl ?_
                          refine R_iconst 0 rfl rfl ?_
                          refine R_iald rfl sh_105 (by decide) ?_
                          show RUN d_X9_goSecond 159 [(3, .inl x688), (0, .inr (.inr (.inl 96))), (1, .inl a0), (2, .inl a1)] [.inl (h874.1 105 0), .inr (.inr (.inl 108))] h874 _
                          refine R_aload_n (k := 0) rfl rfl rfl ?_
                          refine R_getf_i (j := 20) rfl ft_9_259 sh_96 rfl ?_
                          refine K_iast (a := (h874.1 105 0).toInt) (lo := (-2147483648)) (hi' := 2147483647) rfl sh_108 rfl ⟨by omega, by omega⟩ hI (by decide) rfl (i_rng _) fr (by decide) (fun h887 g888 hI fr => ?_)
                          have fl687 : FR [96, 107, 108, 109, 117, 118] h666 h887 := by rw [g888]; exact FR_wI _ _ fl687 (by decide)
                          have fl645 : FR [96, 107, 108, 109, 117, 118] h625 h887 := by rw [g888]; exact FR_wI _ _ fl645 (by decide)
                          have s889 : (h887.1 96 41).toInt = (h874.1 96 41).toInt := by rw [g888, wI_ne _ _ _ (by decide)]
                          have s890 : (h887.1 96 42).toInt = (h874.1 96 42).toInt := by rw [g888, wI_ne _ _ _ (by decide)]
                          have s891 : (h887.1 96 19).toInt = (h874.1 96 19).toInt := by rw [g888, wI_ne _ _ _ (by decide)]
                          have s892 : (h887.1 96 18).toInt = (h874.1 96 18).toInt := by rw [g888, wI_ne _ _ _ (by decide)]
                          have s893 : (h887.1 96 20).toInt = (h874.1 96 20).toInt := by rw [g888, wI_ne _ _ _ (by decide)]
                          have s894 : (h887.1 96 46).toInt = (h874.1 96 46).toInt := by rw [g888, wI_ne _ _ _ (by decide)]
                          have s895 : (h887.1 96 44).toInt = (h874.1 96 44).toInt := by rw [g888, wI_ne _ _ _ (by decide)]
                          have s896 : (h887.1 96 47).toInt = (h874.1 96 47).toInt := by rw [g888, wI_ne _ _ _ (by decide)]
                          have s897 : (h887.1 96 48).toInt = (h874.1 96 48).toInt := by rw [g888, wI_ne _ _ _ (by decide)]
                          have s898 : (h887.1 105 0).toInt = (h874.1 105 0).toInt := by rw [g888, wI_ne _ _ _ (by decide)]
                          have s899 : (h887.1 109 0).toInt = (h874.1 109 0).toInt := by rw [g888, wI_ne _ _ _ (by decide)]
                          refine R_iconst 0 rfl rfl ?_
                          refine R_istore_n (k := 3) rfl [(3, .inl 0), (0, .inr (.inr (.inl 96))), (1, .inl a0), (2, .inl a1)] rfl rfl (by decide) ?_
                          have lp901 : ∀ (n900 : Nat) (h902 : PH) (x904 : Int32), INV h902 → FR [96, 107, 108, 109, 117, 118] h h902 → FR [107] h887 h902 → 0 ≤ x904.toInt ∧ x904.toInt ≤ 6 → (6 - x904.toInt).toNat < n900 → RUN d_X9_goSecond 166 [(3, .inl x904), (0, .inr (.inr (.inl 96))), (1, .inl a0), (2, .inl a1)] [] h902 (q_X9_goSecond h a0 a1) := by
                            intro n900
                            induction n900 with
                            | zero => intro h902 x904 m906 m907 m908 m909 hz; exact absurd hz (Nat.not_lt_zero _)
                            | succ n900 ih905 =>
                              intro h902 x904 hI fr fl903 m909 hz
                              have s910 : (h902.1 96 41).toInt = (h887.1 96 41).toInt := by rw [(fl903 96 (by decide)).1]
                              have s911 : (h902.1 96 42).toInt = (h887.1 96 42).toInt := by rw [(fl903 96 (by decide)).1]
                              have s912 : (h902.1 96 19).toInt = (h887.1 96 19).toInt := by rw [(fl903 96 (by decide)).1]
                              have s913 : (h902.1 96 18).toInt = (h887.1 96 18).toInt := by rw [(fl903 96 (by decide)).1]
                              have s914 : (h902.1 96 20).toInt = (h887.1 96 20).toInt := by rw [(fl903 96 (by decide)).1]
                              have s915 : (h902.1 96 46).toInt = (h887.1 96 46).toInt := by rw [(fl903 96 (by decide)).1]
                              have s916 : (h902.1 96 44).toInt = (h887.1 96 44).toInt := by rw [(fl903 96 (by decide)).1]
                              have s917 : (h902.1 96 47).toInt = (h887.1 96 47).toInt := by rw [(fl903 96 (by decide)).1]
                              have s918 : (h902.1 96 48).toInt = (h887.1 96 48).toInt := by rw [(fl903 96 (by decide)).1]
                              have s919 : (h902.1 105 0).toInt = (h887.1 105 0).toInt := by rw [(fl903 105 (by decide)).1]
                              have s920 : (h902.1 109 0).toInt = (h887.1 109 0).toInt := by rw [(fl903 109 (by decide)).1]
                              have fl687 : FR [96, 107, 108, 109, 117, 118] h666 h902 := fl687.trans fl903 (by decide)
                              have fl645 : FR [96, 107, 108, 109, 117, 118] h625 h902 := fl645.trans fl903 (by decide)
                              refine R_iload_n (k := 3) rfl rfl rfl ?_
                              refine R_aload_n (k := 0) rfl rfl rfl ?_
                              refine R_getf_i (j := 18) rfl ft_9_253 sh_96 rfl ?_
                              refine N_icmp_ge (a := x904.toInt) (b := (h902.1 96 18).toInt) 224 rfl rfl rfl rfl (fun c921 => ?_) (fun c921 => ?_)
                              · exact R_vret rfl rfl ⟨hI, fr, ⟨by omega, by omega, by omega, by omega, by omega, by omega, by omega, by omega, by omega, trivial⟩, rfl⟩
                              · refine R_aload_n (k := 0) rfl rfl rfl ?_
                                refine R_getf_r (j := 22) rfl ft_9_46 sh_96 rfl ?_
                                refine R_aload_n (k := 0) rfl rfl rfl ?_
                                refine R_getf_r (j := 17) rfl ft_9_40 sh_96 rfl ?_
                                refine R_iload_n (k := 3) rfl rfl rfl ?_
                                refine R_iald rfl sh_105 ⟨by omega, by omega⟩ ?_
                                refine N_bd (lo := 0) (hi := 5) (hI.1 105 _) (fun x922 q923 => ?_)
                                refine R_iald rfl sh_107 ⟨by omega, by omega⟩ ?_
                                refine N_any (fun x924 => ?_)
                                refine R_iconst (-1) rfl rfl ?_
                                refine N_icmp_eq (a := x924.toInt) (b := (-1)) 218 rfl rfl rfl (by decide) (fun c925 => ?_) (fun c925 => ?_)
                                · refine N_iinc (a := x904.toInt) (c := 1) (fun w => [(3, .inl w), (0, .inr (.inr (.inl 96))), (1, .inl a0), (2, .inl a1)]) rfl rfl (fun _ => rfl) (by decide) rfl (by decide) (by omega) (fun x926 q927 => ?_)
                                  refine R_goto 166 rfl rfl ?_
                                  exact RUN_weak (psub_cons rfl (psub_cons rfl (psub_cons rfl (psub_cons rfl (psub_nil _))))) (ih905 h902 x926 hI fr fl903 (by omega) (by omega))
                                · refine R_aload_n (k := 0) rfl rfl rfl ?_
                                  refine R_aload_n (k := 0) rfl rfl rfl ?_
                                  refine R_getf_r (j := 17) rfl ft_9_40 sh_96 rfl ?_
                                  refine R_iload_n (k := 3) rfl rfl rfl ?_
                                  refine R_iald rfl sh_105 ⟨by omega, by omega⟩ ?_
                                  refine N_bd (lo := 0) (hi := 5) (hI.1 105 _) (fun x928 q929 => ?_)
                                  refine R_iload_n (k := 1) rfl rfl rfl ?_
                                  have b930 := i_rng a0
                                  refine R_callV (v := .inr (.inr (.inl 96))) (As := [.inl x928, .inl a0]) (rest := []) rfl mt_9_i271 pp_X9_doesRest (by decide) rfl rfl rfl (Nat.le_of_ble_eq_true rfl) (Nat.le_of_ble_eq_true rfl) ((k_X9_doesRest h902 hI x928 a0 (by omega) (by omega)).mono (fun r931 h932 p933 => ?_))
                                  obtain ⟨rfl, x934, rfl, q935 | q935 | q935⟩ := p933
                                  · show RUN d_X9_goSecond 200 [(3, .inl x904), (0, .inr (.inr (.inl 96))), (1, .inl a0), (2, .inl a1)] [.inl x934] h902 _
                                    refine N_if_ne (a := x934.toInt) 218 rfl rfl rfl (fun c936 => ?_) (fun c936 => ?_)
                                    · exfalso; omega
                                    · refine R_aload_n (k := 0) rfl rfl rfl ?_
                                      refine R_getf_r (j := 22) rfl ft_9_46 sh_96 rfl ?_
                                      refine R_aload_n (k := 0) rfl rfl rfl ?_
                                      refine R_getf_r (j := 17) rfl ft_9_40 sh_96 rfl ?_
                                      refine R_iload_n (k := 3) rfl rfl rfl ?_
                                      refine R_iald rfl sh_105 ⟨by omega, by omega⟩ ?_
                                      refine N_bd (lo := 0) (hi := 5) (hI.1 105 _) (fun x937 q938 => ?_)
                                      refine R_dup2 rfl ?_
                                      refine R_iald rfl sh_107 ⟨by omega, by omega⟩ ?_
                                      refine N_any (fun x939 => ?_)
                                      refine R_iconst 1 rfl rfl ?_
                                      have b940 := i_rng x939
                                      refine R_iadd rfl ?_
                                      refine N_any (fun x941 => ?_)
                                      refine K_iast (a := x937.toInt) (lo := (-2147483648)) (hi' := 2147483647) rfl sh_107 rfl ⟨by omega, by omega⟩ hI (by decide) rfl (i_rng _) fr (by decide) (fun h942 g943 hI fr => ?_)
                                      have fl903 : FR [107] h887 h942 := by rw [g943]; exact FR_wI _ _ fl903 (by decide)
                                      have fl687 : FR [96, 107, 108, 109, 117, 118] h666 h942 := by rw [g943]; exact FR_wI _ _ fl687 (by decide)
                                      have fl645 : FR [96, 107, 108, 109, 117, 118] h625 h942 := by rw [g943]; exact FR_wI _ _ fl645 (by decide)
                                      have s944 : (h942.1 96 41).toInt = (h902.1 96 41).toInt := by rw [g943, wI_ne _ _ _ (by decide)]
                                      have s945 : (h942.1 96 42).toInt = (h902.1 96 42).toInt := by rw [g943, wI_ne _ _ _ (by decide)]
                                      have s946 : (h942.1 96 19).toInt = (h902.1 96 19).toInt := by rw [g943, wI_ne _ _ _ (by decide)]
                                      have s947 : (h942.1 96 18).toInt = (h902.1 96 18).toInt := by rw [g943, wI_ne _ _ _ (by decide)]
                                      have s948 : (h942.1 96 20).toInt = (h902.1 96 20).toInt := by rw [g943, wI_ne _ _ _ (by decide)]
                                      have s949 : (h942.1 96 46).toInt = (h902.1 96 46).toInt := by rw [g943, wI_ne _ _ _ (by decide)]
                                      have s950 : (h942.1 96 44).toInt = (h902.1 96 44).toInt := by rw [g943, wI_ne _ _ _ (by decide)]
                                      have s951 : (h942.1 96 47).toInt = (h902.1 96 47).toInt := by rw [g943, wI_ne _ _ _ (by decide)]
                                      have s952 : (h942.1 96 48).toInt = (h902.1 96 48).toInt := by rw [g943, wI_ne _ _ _ (by decide)]
                                      have s953 : (h942.1 105 0).toInt = (h902.1 105 0).toInt := by rw [g943, wI_ne _ _ _ (by decide)]
                                      have s954 : (h942.1 109 0).toInt = (h902.1 109 0).toInt := by rw [g943, wI_ne _ _ _ (by decide)]
                                      refine N_iinc (a := x904.toInt) (c := 1) (fun w => [(3, .inl w), (0, .inr (.inr (.inl 96))), (1, .inl a0), (2, .inl a1)]) rfl rfl (fun _ => rfl) (by decide) rfl (by decide) (by omega) (fun x955 q956 => ?_)
                                      refine R_goto 166 rfl rfl ?_
                                      exact RUN_weak (psub_cons rfl (psub_cons rfl (psub_cons rfl (psub_cons rfl (psub_nil _))))) (ih905 h942 x955 hI fr fl903 (by omega) (by omega))
                                  · exfalso; omega
                                  · exfalso; omega
                          exact lp901 _ h887 (0 : Int32) hI fr (FR.rf _ _) (by decide) (Nat.lt_succ_self _)
                    · show RUN d_X9_goSecond 115 [(3, .inl x688), (0, .inr (.inr (.inl 96))), (1, .inl a0), (2, .inl a1)] [.inl x797] h686 _
                      refine N_if_ne (a := x797.toInt) 164 rfl rfl rfl (fun c957 => ?_) (fun c957 => ?_)
                      · exfalso; omega
                      · refine R_aload_n (k := 0) rfl rfl rfl ?_
                        refine R_getf_r (j := 24) rfl ft_9_52 sh_96 rfl ?_
                        refine R_iconst 0 rfl rfl ?_
                        refine R_iald rfl sh_109 (by decide) ?_
                        show RUN d_X9_goSecond 124 [(3, .inl x688), (0, .inr (.inr (.inl 96))), (1, .inl a0), (2, .inl a1)] [.inl (h686.1 109 0)] h686 _
                        refine N_if_le (a := (h686.1 109 0).toInt) 164 rfl rfl rfl (fun c958 => ?_) (fun c958 => ?_)
                        · refine R_iconst 0 rfl rfl ?_
                          refine R_istore_n (k := 3) rfl [(3, .inl 0), (0, .inr (.inr (.inl 96))), (1, .inl a0), (2, .inl a1)] rfl rfl (by decide) ?_
                          have lp960 : ∀ (n959 : Nat) (h961 : PH) (x963 : Int32), INV h961 → FR [96, 107, 108, 109, 117, 118] h h961 → FR [107] h686 h961 → 0 ≤ x963.toInt ∧ x963.toInt ≤ 6 → (6 - x963.toInt).toNat < n959 → RUN d_X9_goSecond 166 [(3, .inl x963), (0, .inr (.inr (.inl 96))), (1, .inl a0), (2, .inl a1)] [] h961 (q_X9_goSecond h a0 a1) := by
                            intro n959
                            induction n959 with
                            | zero => intro h961 x963 m965 m966 m967 m968 hz; exact absurd hz (Nat.not_lt_zero _)
                            | succ n959 ih964 =>
                              intro h961 x963 hI fr fl962 m968 hz
                              have s969 : (h961.1 96 41).toInt = (h686.1 96 41).toInt := by rw [(fl962 96 (by decide)).1]
                              have s970 : (h961.1 96 42).toInt = (h686.1 96 42).toInt := by rw [(fl962 96 (by decide)).1]
                              have s971 : (h961.1 96 19).toInt = (h686.1 96 19).toInt := by rw [(fl962 96 (by decide)).1]
                              have s972 : (h961.1 96 18).toInt = (h686.1 96 18).toInt := by rw [(fl962 96 (by decide)).1]
                              have s973 : (h961.1 96 20).toInt = (h686.1 96 20).toInt := by rw [(fl962 96 (by decide)).1]
                              have s974 : (h961.1 96 46).toInt = (h686.1 96 46).toInt := by rw [(fl962 96 (by decide)).1]
                              have s975 : (h961.1 96 44).toInt = (h686.1 96 44).toInt := by rw [(fl962 96 (by decide)).1]
                              have s976 : (h961.1 96 47).toInt = (h686.1 96 47).toInt := by rw [(fl962 96 (by decide)).1]
                              have s977 : (h961.1 96 48).toInt = (h686.1 96 48).toInt := by rw [(fl962 96 (by decide)).1]
                              have s978 : (h961.1 105 0).toInt = (h686.1 105 0).toInt := by rw [(fl962 105 (by decide)).1]
                              have s979 : (h961.1 109 0).toInt = (h686.1 109 0).toInt := by rw [(fl962 109 (by decide)).1]
                              have fl687 : FR [96, 107, 108, 109, 117, 118] h666 h961 := fl687.trans fl962 (by decide)
                              have fl645 : FR [96, 107, 108, 109, 117, 118] h625 h961 := fl645.trans fl962 (by decide)
                              refine R_iload_n (k := 3) rfl rfl rfl ?_
                              refine R_aload_n (k := 0) rfl rfl rfl ?_
                              refine R_getf_i (j := 18) rfl ft_9_253 sh_96 rfl ?_
                              refine N_icmp_ge (a := x963.toInt) (b := (h961.1 96 18).toInt) 224 rfl rfl rfl rfl (fun c980 => ?_) (fun c980 => ?_)
                              · exact R_vret rfl rfl ⟨hI, fr, ⟨by omega, by omega, by omega, by omega, by omega, by omega, by omega, by omega, by omega, trivial⟩, rfl⟩
                              · refine R_aload_n (k := 0) rfl rfl rfl ?_
                                refine R_getf_r (j := 22) rfl ft_9_46 sh_96 rfl ?_
                                refine R_aload_n (k := 0) rfl rfl rfl ?_
                                refine R_getf_r (j := 17) rfl ft_9_40 sh_96 rfl ?_
                                refine R_iload_n (k := 3) rfl rfl rfl ?_
                                refine R_iald rfl sh_105 ⟨by omega, by omega⟩ ?_
                                refine N_bd (lo := 0) (hi := 5) (hI.1 105 _) (fun x981 q982 => ?_)
                                refine R_iald rfl sh_107 ⟨by omega, by omega⟩ ?_
                                refine N_any (fun x983 => ?_)
                                refine R_iconst (-1) rfl rfl ?_
                                refine N_icmp_eq (a := x983.toInt) (b := (-1)) 218 rfl rfl rfl (by decide) (fun c984 => ?_) (fun c984 => ?_)
                                · refine N_iinc (a := x963.toInt) (c := 1) (fun w => [(3, .inl w), (0, .inr (.inr (.inl 96))), (1, .inl a0), (2, .inl a1)]) rfl rfl (fun _ => rfl) (by decide) rfl (by decide) (by omega) (fun x985 q986 => ?_)
                                  refine R_goto 166 rfl rfl ?_
                                  exact RUN_weak (psub_cons rfl (psub_cons rfl (psub_cons rfl (psub_cons rfl (psub_nil _))))) (ih964 h961 x985 hI fr fl962 (by omega) (by omega))
                                · refine R_aload_n (k := 0) rfl rfl rfl ?_
                                  refine R_aload_n (k := 0) rfl rfl rfl ?_
                                  refine R_getf_r (j := 17) rfl ft_9_40 sh_96 rfl ?_
                                  refine R_iload_n (k := 3) rfl rfl rfl ?_
                                  refine R_iald rfl sh_105 ⟨by omega, by omega⟩ ?_
                                  refine N_bd (lo := 0) (hi := 5) (hI.1 105 _) (fun x987 q988 => ?_)
                                  refine R_iload_n (k := 1) rfl rfl rfl ?_
                                  refine R_callV (v := .inr (.inr (.inl 96))) (As := [.inl x987, .inl a0]) (rest := []) rfl mt_9_i271 pp_X9_doesRest (by decide) rfl rfl rfl (Nat.le_of_ble_eq_true rfl) (Nat.le_of_ble_eq_true rfl) ((k_X9_doesRest h961 hI x987 a0 (by omega) (by omega)).mono (fun r989 h990 p991 => ?_))
                                  obtain ⟨rfl, x992, rfl, q993 | q993 | q993⟩ := p991
                                  · exfalso; omega
                                  · show RUN d_X9_goSecond 200 [(3, .inl x963), (0, .inr (.inr (.inl 96))), (1, .inl a0), (2, .inl a1)] [.inl x992] h961 _
                                    refine N_if_ne (a := x992.toInt) 218 rfl rfl rfl (fun c994 => ?_) (fun c994 => ?_)
                                    · exfalso; omega
                                    · refine R_aload_n (k := 0) rfl rfl rfl ?_
                                      refine R_getf_r (j := 22) rfl ft_9_46 sh_96 rfl ?_
                                      refine R_aload_n (k := 0) rfl rfl rfl ?_
                                      refine R_getf_r (j := 17) rfl ft_9_40 sh_96 rfl ?_
                                      refine R_iload_n (k := 3) rfl rfl rfl ?_
                                      refine R_iald rfl sh_105 ⟨by omega, by omega⟩ ?_
                                      refine N_bd (lo := 0) (hi := 5) (hI.1 105 _) (fun x995 q996 => ?_)
                                      refine R_dup2 rfl ?_
                                      refine R_iald rfl sh_107 ⟨by omega, by omega⟩ ?_
                                      refine N_any (fun x997 => ?_)
                                      refine R_iconst 1 rfl rfl ?_
                                      have b998 := i_rng x997
                                      refine R_iadd rfl ?_
                                      refine N_any (fun x999 => ?_)
                                      refine K_iast (a := x995.toInt) (lo := (-2147483648)) (hi' := 2147483647) rfl sh_107 rfl ⟨by omega, by omega⟩ hI (by decide) rfl (i_rng _) fr (by decide) (fun h1000 g1001 hI fr => ?_)
                                      have fl962 : FR [107] h686 h1000 := by rw [g1001]; exact FR_wI _ _ fl962 (by decide)
                                      have fl687 : FR [96, 107, 108, 109, 117, 118] h666 h1000 := by rw [g1001]; exact FR_wI _ _ fl687 (by decide)
                                      have fl645 : FR [96, 107, 108, 109, 117, 118] h625 h1000 := by rw [g1001]; exact FR_wI _ _ fl645 (by decide)
                                      have s1002 : (h1000.1 96 41).toInt = (h961.1 96 41).toInt := by rw [g1001, wI_ne _ _ _ (by decide)]
                                      have s1003 : (h1000.1 96 42).toInt = (h961.1 96 42).toInt := by rw [g1001, wI_ne _ _ _ (by decide)]
                                      have s1004 : (h1000.1 96 19).toInt = (h961.1 96 19).toInt := by rw [g1001, wI_ne _ _ _ (by decide)]
                                      have s1005 : (h1000.1 96 18).toInt = (h961.1 96 18).toInt := by rw [g1001, wI_ne _ _ _ (by decide)]
                                      have s1006 : (h1000.1 96 20).toInt = (h961.1 96 20).toInt := by rw [g1001, wI_ne _ _ _ (by decide)]
                                      have s1007 : (h1000.1 96 46).toInt = (h961.1 96 46).toInt := by rw [g1001, wI_ne _ _ _ (by decide)]
                                      have s1008 : (h1000.1 96 44).toInt = (h961.1 96 44).toInt := by rw [g1001, wI_ne _ _ _ (by decide)]
                                      have s1009 : (h1000.1 96 47).toInt = (h961.1 96 47).toInt := by rw [g1001, wI_ne _ _ _ (by decide)]
                                      have s1010 : (h1000.1 96 48).toInt = (h961.1 96 48).toInt := by rw [g1001, wI_ne _ _ _ (by decide)]
                                      have s1011 : (h1000.1 105 0).toInt = (h961.1 105 0).toInt := by rw [g1001, wI_ne _ _ _ (by decide)]
                                      have s1012 : (h1000.1 109 0).toInt = (h961.1 109 0).toInt := by rw [g1001, wI_ne _ _ _ (by decide)]
                                      refine N_iinc (a := x963.toInt) (c := 1) (fun w => [(3, .inl w), (0, .inr (.inr (.inl 96))), (1, .inl a0), (2, .inl a1)]) rfl rfl (fun _ => rfl) (by decide) rfl (by decide) (by omega) (fun x1013 q1014 => ?_)
                                      refine R_goto 166 rfl rfl ?_
                                      exact RUN_weak (psub_cons rfl (psub_cons rfl (psub_cons rfl (psub_cons rfl (psub_nil _))))) (ih964 h1000 x1013 hI fr fl962 (by omega) (by omega))
                                  · show RUN d_X9_goSecond 200 [(3, .inl x963), (0, .inr (.inr (.inl 96))), (1, .inl a0), (2, .inl a1)] [.inl x992] h961 _
                                    refine N_if_ne (a := x992.toInt) 218 rfl rfl rfl (fun c1015 => ?_) (fun c1015 => ?_)
                                    · refine N_iinc (a := x963.toInt) (c := 1) (fun w => [(3, .inl w), (0, .inr (.inr (.inl 96))), (1, .inl a0), (2, .inl a1)]) rfl rfl (fun _ => rfl) (by decide) rfl (by decide) (by omega) (fun x1016 q1017 => ?_)
                                      refine R_goto 166 rfl rfl ?_
                                      exact RUN_weak (psub_cons rfl (psub_cons rfl (psub_cons rfl (psub_cons rfl (psub_nil _))))) (ih964 h961 x1016 hI fr fl962 (by omega) (by omega))
                                    · exfalso; omega
                          exact lp960 _ h686 (0 : Int32) hI fr (FR.rf _ _) (by decide) (Nat.lt_succ_self _)
                        · refine R_aload_n (k := 0) rfl rfl rfl ?_
                          refine R_getf_r (j := 24) rfl ft_9_52 sh_96 rfl ?_
                          refine R_iconst 0 rfl rfl ?_
                          refine R_dup2 rfl ?_
                          refine R_iald rfl sh_109 (by decide) ?_
                          show RUN d_X9_goSecond 134 [(3, .inl x688), (0, .inr (.inr (.inl 96))), (1, .inl a0), (2, .inl a1)] [.inl (h686.1 109 0), .inl 0, .inr (.inr (.inl 109))] h686 _
                          refine R_iconst 1 rfl rfl ?_
                          have b1018 := i_rng (h686.1 109 0)
                          refine N_isub (a := (h686.1 109 0).toInt) (b := 1) rfl rfl (by decide) (by omega) (fun x1019 q1020 => ?_)
                          refine K_iast (a := 0) (lo := (-2147483648)) (hi' := 2147483647) rfl sh_109 (by decide) (by decide) hI (by decide) rfl (i_rng _) fr (by decide) (fun h1021 g1022 hI fr => ?_)
                          have fl687 : FR [96, 107, 108, 109, 117, 118] h666 h1021 := by rw [g1022]; exact FR_wI _ _ fl687 (by decide)
                          have fl645 : FR [96, 107, 108, 109, 117, 118] h625 h1021 := by rw [g1022]; exact FR_wI _ _ fl645 (by decide)
                          have s1023 : (h1021.1 96 41).toInt = (h686.1 96 41).toInt := by rw [g1022, wI_ne _ _ _ (by decide)]
                          have s1024 : (h1021.1 96 42).toInt = (h686.1 96 42).toInt := by rw [g1022, wI_ne _ _ _ (by decide)]
                          have s1025 : (h1021.1 96 19).toInt = (h686.1 96 19).toInt := by rw [g1022, wI_ne _ _ _ (by decide)]
                          have s1026 : (h1021.1 96 18).toInt = (h686.1 96 18).toInt := by rw [g1022, wI_ne _ _ _ (by decide)]
                          have s1027 : (h1021.1 96 20).toInt = (h686.1 96 20).toInt := by rw [g1022, wI_ne _ _ _ (by decide)]
                          have s1028 : (h1021.1 96 46).toInt = (h686.1 96 46).toInt := by rw [g1022, wI_ne _ _ _ (by decide)]
                          have s1029 : (h1021.1 96 44).toInt = (h686.1 96 44).toInt := by rw [g1022, wI_ne _ _ _ (by decide)]
                          have s1030 : (h1021.1 96 47).toInt = (h686.1 96 47).toInt := by rw [g1022, wI_ne _ _ _ (by decide)]
                          have s1031 : (h1021.1 96 48).toInt = (h686.1 96 48).toInt := by rw [g1022, wI_ne _ _ _ (by decide)]
                          have s1032 : (h1021.1 105 0).toInt = (h686.1 105 0).toInt := by rw [g1022, wI_ne _ _ _ (by decide)]
                          have s1033 : (h1021.1 109 0).toInt = x1019.toInt := by rw [g1022, show (0 : Int32).toNatClampNeg = 0 from rfl, wI_is]
                          refine R_aload_n (k := 0) rfl rfl rfl ?_
                          refine R_getf_r (j := 22) rfl ft_9_46 sh_96 rfl ?_
                          refine R_aload_n (k := 0) rfl rfl rfl ?_
                          refine R_getf_r (j := 17) rfl ft_9_40 sh_96 rfl ?_
                          refine R_iconst 0 rfl rfl ?_
                          refine R_iald rfl sh_105 (by decide) ?_
                          show RUN d_X9_goSecond 147 [(3, .inl x688), (0, .inr (.inr (.inl 96))), (1, .inl a0), (2, .inl a1)] [.inl (h1021.1 105 0), .inr (.inr (.inl 107))] h1021 _
                          refine R_iconst 0 rfl rfl ?_
                          refine K_iast (a := (h1021.1 105 0).toInt) (lo := (-2147483648)) (hi' := 2147483647) rfl sh_107 rfl ⟨by omega, by omega⟩ hI (by decide) rfl (by decide) fr (by decide) (fun h1034 g1035 hI fr => ?_)
                          have fl687 : FR [96, 107, 108, 109, 117, 118] h666 h1034 := by rw [g1035]; exact FR_wI _ _ fl687 (by decide)
                          have fl645 : FR [96, 107, 108, 109, 117, 118] h625 h1034 := by rw [g1035]; exact FR_wI _ _ fl645 (by decide)
                          have s1036 : (h1034.1 96 41).toInt = (h1021.1 96 41).toInt := by rw [g1035, wI_ne _ _ _ (by decide)]
                          have s1037 : (h1034.1 96 42).toInt = (h1021.1 96 42).toInt := by rw [g1035, wI_ne _ _ _ (by decide)]
                          have s1038 : (h1034.1 96 19).toInt = (h1021.1 96 19).toInt := by rw [g1035, wI_ne _ _ _ (by decide)]
                          have s1039 : (h1034.1 96 18).toInt = (h1021.1 96 18).toInt := by rw [g1035, wI_ne _ _ _ (by decide)]
                          have s1040 : (h1034.1 96 20).toInt = (h1021.1 96 20).toInt := by rw [g1035, wI_ne _ _ _ (by decide)]
                          have s1041 : (h1034.1 96 46).toInt = (h1021.1 96 46).toInt := by rw [g1035, wI_ne _ _ _ (by decide)]
                          have s1042 : (h1034.1 96 44).toInt = (h1021.1 96 44).toInt := by rw [g1035, wI_ne _ _ _ (by decide)]
                          have s1043 : (h1034.1 96 47).toInt = (h1021.1 96 47).toInt := by rw [g1035, wI_ne _ _ _ (by decide)]
                          have s1044 : (h1034.1 96 48).toInt = (h1021.1 96 48).toInt := by rw [g1035, wI_ne _ _ _ (by decide)]
                          have s1045 : (h1034.1 105 0).toInt = (h1021.1 105 0).toInt := by rw [g1035, wI_ne _ _ _ (by decide)]
                          have s1046 : (h1034.1 109 0).toInt = (h1021.1 109 0).toInt := by rw [g1035, wI_ne _ _ _ (by decide)]
                          refine R_aload_n (k := 0) rfl rfl rfl ?_
                          refine R_getf_r (j := 23) rfl ft_9_49 sh_96 rfl ?_
                          refine R_aload_n (k := 0) rfl rfl rfl ?_
                          refine R_getf_r (j := 17) rfl ft_9_40 sh_96 rfl ?_
                          refine R_iconst 0 rfl rfl ?_
                          refine R_iald rfl sh_105 (by decide) ?_
                          show RUN d_X9_goSecond 159 [(3, .inl x688), (0, .inr (.inr (.inl 96))), (1, .inl a0), (2, .inl a1)] [.inl (h1034.1 105 0), .inr (.inr (.inl 108))] h1034 _
                          refine R_aload_n (k := 0) rfl rfl rfl ?_
                          refine R_getf_i (j := 20) rfl ft_9_259 sh_96 rfl ?_
                          refine K_iast (a := (h1034.1 105 0).toInt) (lo := (-2147483648)) (hi' := 2147483647) rfl sh_108 rfl ⟨by omega, by omega⟩ hI (by decide) rfl (i_rng _) fr (by decide) (fun h1047 g1048 hI fr => ?_)
                          have fl687 : FR [96, 107, 108, 109, 117, 118] h666 h1047 := by rw [g1048]; exact FR_wI _ _ fl687 (by decide)
                          have fl645 : FR [96, 107, 108, 109, 117, 118] h625 h1047 := by rw [g1048]; exact FR_wI _ _ fl645 (by decide)
                          have s1049 : (h1047.1 96 41).toInt = (h1034.1 96 41).toInt := by rw [g1048, wI_ne _ _ _ (by decide)]
                          have s1050 : (h1047.1 96 42).toInt = (h1034.1 96 42).toInt := by rw [g1048, wI_ne _ _ _ (by decide)]
                          have s1051 : (h1047.1 96 19).toInt = (h1034.1 96 19).toInt := by rw [g1048, wI_ne _ _ _ (by decide)]
                          have s1052 : (h1047.1 96 18).toInt = (h1034.1 96 18).toInt := by rw [g1048, wI_ne _ _ _ (by decide)]
                          have s1053 : (h1047.1 96 20).toInt = (h1034.1 96 20).toInt := by rw [g1048, wI_ne _ _ _ (by decide)]
                          have s1054 : (h1047.1 96 46).toInt = (h1034.1 96 46).toInt := by rw [g1048, wI_ne _ _ _ (by decide)]
                          have s1055 : (h1047.1 96 44).toInt = (h1034.1 96 44).toInt := by rw [g1048, wI_ne _ _ _ (by decide)]
                          have s1056 : (h1047.1 96 47).toInt = (h1034.1 96 47).toInt := by rw [g1048, wI_ne _ _ _ (by decide)]
                          have s1057 : (h1047.1 96 48).toInt = (h1034.1 96 48).toInt := by rw [g1048, wI_ne _ _ _ (by decide)]
                          have s1058 : (h1047.1 105 0).toInt = (h1034.1 105 0).toInt := by rw [g1048, wI_ne _ _ _ (by decide)]
                          have s1059 : (h1047.1 109 0).toInt = (h1034.1 109 0).toInt := by rw [g1048, wI_ne _ _ _ (by decide)]
                          refine R_iconst 0 rfl rfl ?_
                          refine R_istore_n (k := 3) rfl [(3, .inl 0), (0, .inr (.inr (.inl 96))), (1, .inl a0), (2, .inl a1)] rfl rfl (by decide) ?_
                          have lp1061 : ∀ (n1060 : Nat) (h1062 : PH) (x1064 : Int32), INV h1062 → FR [96, 107, 108, 109, 117, 118] h h1062 → FR [107] h1047 h1062 → 0 ≤ x1064.toInt ∧ x1064.toInt ≤ 6 → (6 - x1064.toInt).toNat < n1060 → RUN d_X9_goSecond 166 [(3, .inl x1064), (0, .inr (.inr (.inl 96))), (1, .inl a0), (2, .inl a1)] [] h1062 (q_X9_goSecond h a0 a1) := by
                            intro n1060
                            induction n1060 with
                            | zero => intro h1062 x1064 m1066 m1067 m1068 m1069 hz; exact absurd hz (Nat.not_lt_zero _)
                            | succ n1060 ih1065 =>
                              intro h1062 x1064 hI fr fl1063 m1069 hz
                              have s1070 : (h1062.1 96 41).toInt = (h1047.1 96 41).toInt := by rw [(fl1063 96 (by decide)).1]
                              have s1071 : (h1062.1 96 42).toInt = (h1047.1 96 42).toInt := by rw [(fl1063 96 (by decide)).1]
                              have s1072 : (h1062.1 96 19).toInt = (h1047.1 96 19).toInt := by rw [(fl1063 96 (by decide)).1]
                              have s1073 : (h1062.1 96 18).toInt = (h1047.1 96 18).toInt := by rw [(fl1063 96 (by decide)).1]
                              have s1074 : (h1062.1 96 20).toInt = (h1047.1 96 20).toInt := by rw [(fl1063 96 (by decide)).1]
                              have s1075 : (h1062.1 96 46).toInt = (h1047.1 96 46).toInt := by rw [(fl1063 96 (by decide)).1]
                              have s1076 : (h1062.1 96 44).toInt = (h1047.1 96 44).toInt := by rw [(fl1063 96 (by decide)).1]
                              have s1077 : (h1062.1 96 47).toInt = (h1047.1 96 47).toInt := by rw [(fl1063 96 (by decide)).1]
                              have s1078 : (h1062.1 96 48).toInt = (h1047.1 96 48).toInt := by rw [(fl1063 96 (by decide)).1]
                              have s1079 : (h1062.1 105 0).toInt = (h1047.1 105 0).toInt := by rw [(fl1063 105 (by decide)).1]
                              have s1080 : (h1062.1 109 0).toInt = (h1047.1 109 0).toInt := by rw [(fl1063 109 (by decide)).1]
                              have fl687 : FR [96, 107, 108, 109, 117, 118] h666 h1062 := fl687.trans fl1063 (by decide)
                              have fl645 : FR [96, 107, 108, 109, 117, 118] h625 h1062 := fl645.trans fl1063 (by decide)
                              refine R_iload_n (k := 3) rfl rfl rfl ?_
                              refine R_aload_n (k := 0) rfl rfl rfl ?_
                              refine R_getf_i (j := 18) rfl ft_9_253 sh_96 rfl ?_
                              refine N_icmp_ge (a := x1064.toInt) (b := (h1062.1 96 18).toInt) 224 rfl rfl rfl rfl (fun c1081 => ?_) (fun c1081 => ?_)
                              · exact R_vret rfl rfl ⟨hI, fr, ⟨by omega, by omega, by omega, by omega, by omega, by omega, by omega, by omega, by omega, trivial⟩, rfl⟩
                              · refine R_aload_n (k := 0) rfl rfl rfl ?_
                                refine R_getf_r (j := 22) rfl ft_9_46 sh_96 rfl ?_
                                refine R_aload_n (k := 0) rfl rfl rfl ?_
                                refine R_getf_r (j := 17) rfl ft_9_40 sh_96 rfl ?_
                                refine R_iload_n (k := 3) rfl rfl rfl ?_
                                refine R_iald rfl sh_105 ⟨by omega, by omega⟩ ?_
                                refine N_bd (lo := 0) (hi := 5) (hI.1 105 _) (fun x1082 q1083 => ?_)
                                refine R_iald rfl sh_107 ⟨by omega, by omega⟩ ?_
                                refine N_any (fun x1084 => ?_)
                                refine R_iconst (-1) rfl rfl ?_
                                refine N_icmp_eq (a := x1084.toInt) (b := (-1)) 218 rfl rfl rfl (by decide) (fun c1085 => ?_) (fun c1085 => ?_)
                                · refine N_iinc (a := x1064.toInt) (c := 1) (fun w => [(3, .inl w), (0, .inr (.inr (.inl 96))), (1, .inl a0), (2, .inl a1)]) rfl rfl (fun _ => rfl) (by decide) rfl (by decide) (by omega) (fun x1086 q1087 => ?_)
                                  refine R_goto 166 rfl rfl ?_
                                  exact RUN_weak (psub_cons rfl (psub_cons rfl (psub_cons rfl (psub_cons rfl (psub_nil _))))) (ih1065 h1062 x1086 hI fr fl1063 (by omega) (by omega))
                                · refine R_aload_n (k := 0) rfl rfl rfl ?_
                                  refine R_aload_n (k := 0) rfl rfl rfl ?_
                                  refine R_getf_r (j := 17) rfl ft_9_40 sh_96 rfl ?_
                                  refine R_iload_n (k := 3) rfl rfl rfl ?_
                                  refine R_iald rfl sh_105 ⟨by omega, by omega⟩ ?_
                                  refine N_bd (lo := 0) (hi := 5) (hI.1 105 _) (fun x1088 q1089 => ?_)
                                  refine R_iload_n (k := 1) rfl rfl rfl ?_
                                  refine R_callV (v := .inr (.inr (.inl 96))) (As := [.inl x1088, .inl a0]) (rest := []) rfl mt_9_i271 pp_X9_doesRest (by decide) rfl rfl rfl (Nat.le_of_ble_eq_true rfl) (Nat.le_of_ble_eq_true rfl) ((k_X9_doesRest h1062 hI x1088 a0 (by omega) (by omega)).mono (fun r1090 h1091 p1092 => ?_))
                                  obtain ⟨rfl, x1093, rfl, q1094 | q1094 | q1094⟩ := p1092
                                  · exfalso; omega
                                  · show RUN d_X9_goSecond 200 [(3, .inl x1064), (0, .inr (.inr (.inl 96))), (1, .inl a0), (2, .inl a1)] [.inl x1093] h1062 _
                                    refine N_if_ne (a := x1093.toInt) 218 rfl rfl rfl (fun c1095 => ?_) (fun c1095 => ?_)
                                    · exfalso; omega
                                    · refine R_aload_n (k := 0) rfl rfl rfl ?_
                                      refine R_getf_r (j := 22) rfl ft_9_46 sh_96 rfl ?_
                                      refine R_aload_n (k := 0) rfl rfl rfl ?_
                                      refine R_getf_r (j := 17) rfl ft_9_40 sh_96 rfl ?_
                                      refine R_iload_n (k := 3) rfl rfl rfl ?_
                                      refine R_iald rfl sh_105 ⟨by omega, by omega⟩ ?_
                                      refine N_bd (lo := 0) (hi := 5) (hI.1 105 _) (fun x1096 q1097 => ?_)
                                      refine R_dup2 rfl ?_
                                      refine R_iald rfl sh_107 ⟨by omega, by omega⟩ ?_
                                      refine N_any (fun x1098 => ?_)
                                      refine R_iconst 1 rfl rfl ?_
                                      have b1099 := i_rng x1098
                                      refine R_iadd rfl ?_
                                      refine N_any (fun x1100 => ?_)
                                      refine K_iast (a := x1096.toInt) (lo := (-2147483648)) (hi' := 2147483647) rfl sh_107 rfl ⟨by omega, by omega⟩ hI (by decide) rfl (i_rng _) fr (by decide) (fun h1101 g1102 hI fr => ?_)
                                      have fl1063 : FR [107] h1047 h1101 := by rw [g1102]; exact FR_wI _ _ fl1063 (by decide)
                                      have fl687 : FR [96, 107, 108, 109, 117, 118] h666 h1101 := by rw [g1102]; exact FR_wI _ _ fl687 (by decide)
                                      have fl645 : FR [96, 107, 108, 109, 117, 118] h625 h1101 := by rw [g1102]; exact FR_wI _ _ fl645 (by decide)
                                      have s1103 : (h1101.1 96 41).toInt = (h1062.1 96 41).toInt := by rw [g1102, wI_ne _ _ _ (by decide)]
                                      have s1104 : (h1101.1 96 42).toInt = (h1062.1 96 42).toInt := by rw [g1102, wI_ne _ _ _ (by decide)]
                                      have s1105 : (h1101.1 96 19).toInt = (h1062.1 96 19).toInt := by rw [g1102, wI_ne _ _ _ (by decide)]
                                      have s1106 : (h1101.1 96 18).toInt = (h1062.1 96 18).toInt := by rw [g1102, wI_ne _ _ _ (by decide)]
                                      have s1107 : (h1101.1 96 20).toInt = (h1062.1 96 20).toInt := by rw [g1102, wI_ne _ _ _ (by decide)]
                                      have s1108 : (h1101.1 96 46).toInt = (h1062.1 96 46).toInt := by rw [g1102, wI_ne _ _ _ (by decide)]
                                      have s1109 : (h1101.1 96 44).toInt = (h1062.1 96 44).toInt := by rw [g1102, wI_ne _ _ _ (by decide)]
                                      have s1110 : (h1101.1 96 47).toInt = (h1062.1 96 47).toInt := by rw [g1102, wI_ne _ _ _ (by decide)]
                                      have s1111 : (h1101.1 96 48).toInt = (h1062.1 96 48).toInt := by rw [g1102, wI_ne _ _ _ (by decide)]
                                      have s1112 : (h1101.1 105 0).toInt = (h1062.1 105 0).toInt := by rw [g1102, wI_ne _ _ _ (by decide)]
                                      have s1113 : (h1101.1 109 0).toInt = (h1062.1 109 0).toInt := by rw [g1102, wI_ne _ _ _ (by decide)]
                                      refine N_iinc (a := x1064.toInt) (c := 1) (fun w => [(3, .inl w), (0, .inr (.inr (.inl 96))), (1, .inl a0), (2, .inl a1)]) rfl rfl (fun _ => rfl) (by decide) rfl (by decide) (by omega) (fun x1114 q1115 => ?_)
                                      refine R_goto 166 rfl rfl ?_
                                      exact RUN_weak (psub_cons rfl (psub_cons rfl (psub_cons rfl (psub_cons rfl (psub_nil _))))) (ih1065 h1101 x1114 hI fr fl1063 (by omega) (by omega))
                                  · show RUN d_X9_goSecond 200 [(3, .inl x1064), (0, .inr (.inr (.inl 96))), (1, .inl a0), (2, .inl a1)] [.inl x1093] h1062 _
                                    refine N_if_ne (a := x1093.toInt) 218 rfl rfl rfl (fun c1116 => ?_) (fun c1116 => ?_)
                                    · refine N_iinc (a := x1064.toInt) (c := 1) (fun w => [(3, .inl w), (0, .inr (.inr (.inl 96))), (1, .inl a0), (2, .inl a1)]) rfl rfl (fun _ => rfl) (by decide) rfl (by decide) (by omega) (fun x1117 q1118 => ?_)
                                      refine R_goto 166 rfl rfl ?_
                                      exact RUN_weak (psub_cons rfl (psub_cons rfl (psub_cons rfl (psub_cons rfl (psub_nil _))))) (ih1065 h1062 x1117 hI fr fl1063 (by omega) (by omega))
                                    · exfalso; omega
                          exact lp1061 _ h1047 (0 : Int32) hI fr (FR.rf _ _) (by decide) (Nat.lt_succ_self _)
                    · show RUN d_X9_goSecond 115 [(3, .inl x688), (0, .inr (.inr (.inl 96))), (1, .inl a0), (2, .inl a1)] [.inl x797] h686 _
                      refine N_if_ne (a := x797.toInt) 164 rfl rfl rfl (fun c1119 => ?_) (fun c1119 => ?_)
                      · refine R_iconst 0 rfl rfl ?_
                        refine R_istore_n (k := 3) rfl [(3, .inl 0), (0, .inr (.inr (.inl 96))), (1, .inl a0), (2, .inl a1)] rfl rfl (by decide) ?_
                        have lp1121 : ∀ (n1120 : Nat) (h1122 : PH) (x1124 : Int32), INV h1122 → FR [96, 107, 108, 109, 117, 118] h h1122 → FR [107] h686 h1122 → 0 ≤ x1124.toInt ∧ x1124.toInt ≤ 6 → (6 - x1124.toInt).toNat < n1120 → RUN d_X9_goSecond 166 [(3, .inl x1124), (0, .inr (.inr (.inl 96))), (1, .inl a0), (2, .inl a1)] [] h1122 (q_X9_goSecond h a0 a1) := by
                          intro n1120
                          induction n1120 with
                          | zero => intro h1122 x1124 m1126 m1127 m1128 m1129 hz; exact absurd hz (Nat.not_lt_zero _)
                          | succ n1120 ih1125 =>
                            intro h1122 x1124 hI fr fl1123 m1129 hz
                            have s1130 : (h1122.1 96 41).toInt = (h686.1 96 41).toInt := by rw [(fl1123 96 (by decide)).1]
                            have s1131 : (h1122.1 96 42).toInt = (h686.1 96 42).toInt := by rw [(fl1123 96 (by decide)).1]
                            have s1132 : (h1122.1 96 19).toInt = (h686.1 96 19).toInt := by rw [(fl1123 96 (by decide)).1]
                            have s1133 : (h1122.1 96 18).toInt = (h686.1 96 18).toInt := by rw [(fl1123 96 (by decide)).1]
                            have s1134 : (h1122.1 96 20).toInt = (h686.1 96 20).toInt := by rw [(fl1123 96 (by decide)).1]
                            have s1135 : (h1122.1 96 46).toInt = (h686.1 96 46).toInt := by rw [(fl1123 96 (by decide)).1]
                            have s1136 : (h1122.1 96 44).toInt = (h686.1 96 44).toInt := by rw [(fl1123 96 (by decide)).1]
                            have s1137 : (h1122.1 96 47).toInt = (h686.1 96 47).toInt := by rw [(fl1123 96 (by decide)).1]
                            have s1138 : (h1122.1 96 48).toInt = (h686.1 96 48).toInt := by rw [(fl1123 96 (by decide)).1]
                            have s1139 : (h1122.1 105 0).toInt = (h686.1 105 0).toInt := by rw [(fl1123 105 (by decide)).1]
                            have fl687 : FR [96, 107, 108, 109, 117, 118] h666 h1122 := fl687.trans fl1123 (by decide)
                            have fl645 : FR [96, 107, 108, 109, 117, 118] h625 h1122 := fl645.trans fl1123 (by decide)
                            refine R_iload_n (k := 3) rfl rfl rfl ?_
                            refine R_aload_n (k := 0) rfl rfl rfl ?_
                            refine R_getf_i (j := 18) rfl ft_9_253 sh_96 rfl ?_
                            refine N_icmp_ge (a := x1124.toInt) (b := (h1122.1 96 18).toInt) 224 rfl rfl rfl rfl (fun c1140 => ?_) (fun c1140 => ?_)
                            · exact R_vret rfl rfl ⟨hI, fr, ⟨by omega, by omega, by omega, by omega, by omega, by omega, by omega, by omega, by omega, trivial⟩, rfl⟩
                            · refine R_aload_n (k := 0) rfl rfl rfl ?_
                              refine R_getf_r (j := 22) rfl ft_9_46 sh_96 rfl ?_
                              refine R_aload_n (k := 0) rfl rfl rfl ?_
                              refine R_getf_r (j := 17) rfl ft_9_40 sh_96 rfl ?_
                              refine R_iload_n (k := 3) rfl rfl rfl ?_
                              refine R_iald rfl sh_105 ⟨by omega, by omega⟩ ?_
                              refine N_bd (lo := 0) (hi := 5) (hI.1 105 _) (fun x1141 q1142 => ?_)
                              refine R_iald rfl sh_107 ⟨by omega, by omega⟩ ?_
                              refine N_any (fun x1143 => ?_)
                              refine R_iconst (-1) rfl rfl ?_
                              refine N_icmp_eq (a := x1143.toInt) (b := (-1)) 218 rfl rfl rfl (by decide) (fun c1144 => ?_) (fun c1144 => ?_)
                              · refine N_iinc (a := x1124.toInt) (c := 1) (fun w => [(3, .inl w), (0, .inr (.inr (.inl 96))), (1, .inl a0), (2, .inl a1)]) rfl rfl (fun _ => rfl) (by decide) rfl (by decide) (by omega) (fun x1145 q1146 => ?_)
                                refine R_goto 166 rfl rfl ?_
                                exact RUN_weak (psub_cons rfl (psub_cons rfl (psub_cons rfl (psub_cons rfl (psub_nil _))))) (ih1125 h1122 x1145 hI fr fl1123 (by omega) (by omega))
                              · refine R_aload_n (k := 0) rfl rfl rfl ?_
                                refine R_aload_n (k := 0) rfl rfl rfl ?_
                                refine R_getf_r (j := 17) rfl ft_9_40 sh_96 rfl ?_
                                refine R_iload_n (k := 3) rfl rfl rfl ?_
                                refine R_iald rfl sh_105 ⟨by omega, by omega⟩ ?_
                                refine N_bd (lo := 0) (hi := 5) (hI.1 105 _) (fun x1147 q1148 => ?_)
                                refine R_iload_n (k := 1) rfl rfl rfl ?_
                                refine R_callV (v := .inr (.inr (.inl 96))) (As := [.inl x1147, .inl a0]) (rest := []) rfl mt_9_i271 pp_X9_doesRest (by decide) rfl rfl rfl (Nat.le_of_ble_eq_true rfl) (Nat.le_of_ble_eq_true rfl) ((k_X9_doesRest h1122 hI x1147 a0 (by omega) (by omega)).mono (fun r1149 h1150 p1151 => ?_))
                                obtain ⟨rfl, x1152, rfl, q1153 | q1153 | q1153⟩ := p1151
                                · exfalso; omega
                                · show RUN d_X9_goSecond 200 [(3, .inl x1124), (0, .inr (.inr (.inl 96))), (1, .inl a0), (2, .inl a1)] [.inl x1152] h1122 _
                                  refine N_if_ne (a := x1152.toInt) 218 rfl rfl rfl (fun c1154 => ?_) (fun c1154 => ?_)
                                  · exfalso; omega
                                  · refine R_aload_n (k := 0) rfl rfl rfl ?_
                                    refine R_getf_r (j := 22) rfl ft_9_46 sh_96 rfl ?_
                                    refine R_aload_n (k := 0) rfl rfl rfl ?_
                                    refine R_getf_r (j := 17) rfl ft_9_40 sh_96 rfl ?_
                                    refine R_iload_n (k := 3) rfl rfl rfl ?_
                                    refine R_iald rfl sh_105 ⟨by omega, by omega⟩ ?_
                                    refine N_bd (lo := 0) (hi := 5) (hI.1 105 _) (fun x1155 q1156 => ?_)
                                    refine R_dup2 rfl ?_
                                    refine R_iald rfl sh_107 ⟨by omega, by omega⟩ ?_
                                    refine N_any (fun x1157 => ?_)
                                    refine R_iconst 1 rfl rfl ?_
                                    have b1158 := i_rng x1157
                                    refine R_iadd rfl ?_
                                    refine N_any (fun x1159 => ?_)
                                    refine K_iast (a := x1155.toInt) (lo := (-2147483648)) (hi' := 2147483647) rfl sh_107 rfl ⟨by omega, by omega⟩ hI (by decide) rfl (i_rng _) fr (by decide) (fun h1160 g1161 hI fr => ?_)
                                    have fl1123 : FR [107] h686 h1160 := by rw [g1161]; exact FR_wI _ _ fl1123 (by decide)
                                    have fl687 : FR [96, 107, 108, 109, 117, 118] h666 h1160 := by rw [g1161]; exact FR_wI _ _ fl687 (by decide)
                                    have fl645 : FR [96, 107, 108, 109, 117, 118] h625 h1160 := by rw [g1161]; exact FR_wI _ _ fl645 (by decide)
                                    have s1162 : (h1160.1 96 41).toInt = (h1122.1 96 41).toInt := by rw [g1161, wI_ne _ _ _ (by decide)]
                                    have s1163 : (h1160.1 96 42).toInt = (h1122.1 96 42).toInt := by rw [g1161, wI_ne _ _ _ (by decide)]
                                    have s1164 : (h1160.1 96 19).toInt = (h1122.1 96 19).toInt := by rw [g1161, wI_ne _ _ _ (by decide)]
                                    have s1165 : (h1160.1 96 18).toInt = (h1122.1 96 18).toInt := by rw [g1161, wI_ne _ _ _ (by decide)]
                                    have s1166 : (h1160.1 96 20).toInt = (h1122.1 96 20).toInt := by rw [g1161, wI_ne _ _ _ (by decide)]
                                    have s1167 : (h1160.1 96 46).toInt = (h1122.1 96 46).toInt := by rw [g1161, wI_ne _ _ _ (by decide)]
                                    have s1168 : (h1160.1 96 44).toInt = (h1122.1 96 44).toInt := by rw [g1161, wI_ne _ _ _ (by decide)]
                                    have s1169 : (h1160.1 96 47).toInt = (h1122.1 96 47).toInt := by rw [g1161, wI_ne _ _ _ (by decide)]
                                    have s1170 : (h1160.1 96 48).toInt = (h1122.1 96 48).toInt := by rw [g1161, wI_ne _ _ _ (by decide)]
                                    have s1171 : (h1160.1 105 0).toInt = (h1122.1 105 0).toInt := by rw [g1161, wI_ne _ _ _ (by decide)]
                                    refine N_iinc (a := x1124.toInt) (c := 1) (fun w => [(3, .inl w), (0, .inr (.inr (.inl 96))), (1, .inl a0), (2, .inl a1)]) rfl rfl (fun _ => rfl) (by decide) rfl (by decide) (by omega) (fun x1172 q1173 => ?_)
                                    refine R_goto 166 rfl rfl ?_
                                    exact RUN_weak (psub_cons rfl (psub_cons rfl (psub_cons rfl (psub_cons rfl (psub_nil _))))) (ih1125 h1160 x1172 hI fr fl1123 (by omega) (by omega))
                                · show RUN d_X9_goSecond 200 [(3, .inl x1124), (0, .inr (.inr (.inl 96))), (1, .inl a0), (2, .inl a1)] [.inl x1152] h1122 _
                                  refine N_if_ne (a := x1152.toInt) 218 rfl rfl rfl (fun c1174 => ?_) (fun c1174 => ?_)
                                  · refine N_iinc (a := x1124.toInt) (c := 1) (fun w => [(3, .inl w), (0, .inr (.inr (.inl 96))), (1, .inl a0), (2, .inl a1)]) rfl rfl (fun _ => rfl) (by decide) rfl (by decide) (by omega) (fun x1175 q1176 => ?_)
                                    refine R_goto 166 rfl rfl ?_
                                    exact RUN_weak (psub_cons rfl (psub_cons rfl (psub_cons rfl (psub_cons rfl (psub_nil _))))) (ih1125 h1122 x1175 hI fr fl1123 (by omega) (by omega))
                                  · exfalso; omega
                        exact lp1121 _ h686 (0 : Int32) hI fr (FR.rf _ _) (by decide) (Nat.lt_succ_self _)
                      · exfalso; omega
              · refine R_iload_n (k := 2) rfl rfl rfl ?_
                refine N_if_ne (a := a1.toInt) 82 rfl rfl rfl (fun c1177 => ?_) (fun c1177 => ?_)
                · refine R_aload_n (k := 0) rfl rfl rfl ?_
                  refine R_getf_i (j := 18) rfl ft_9_253 sh_96 rfl ?_
                  refine N_if_le (a := (h686.1 96 18).toInt) 164 rfl rfl rfl (fun c1178 => ?_) (fun c1178 => ?_)
                  · exfalso; omega
                  · refine R_aload_n (k := 0) rfl rfl rfl ?_
                    refine R_getf_r (j := 22) rfl ft_9_46 sh_96 rfl ?_
                    refine R_aload_n (k := 0) rfl rfl rfl ?_
                    refine R_getf_r (j := 17) rfl ft_9_40 sh_96 rfl ?_
                    refine R_iconst 0 rfl rfl ?_
                    refine R_iald rfl sh_105 (by decide) ?_
                    have b1179 : (0 : Int) ≤ (h686.1 105 0).toInt ∧ (h686.1 105 0).toInt ≤ 5 := hI.1 105 0
                    show RUN d_X9_goSecond 99 [(3, .inl x688), (0, .inr (.inr (.inl 96))), (1, .inl a0), (2, .inl a1)] [.inl (h686.1 105 0), .inr (.inr (.inl 107))] h686 _
                    refine R_iald rfl sh_107 ⟨by omega, by omega⟩ ?_
                    refine N_any (fun x1180 => ?_)
                    refine R_iconst (-1) rfl rfl ?_
                    refine N_icmp_ne (a := x1180.toInt) (b := (-1)) 164 rfl rfl rfl (by decide) (fun c1181 => ?_) (fun c1181 => ?_)
                    · refine R_iconst 0 rfl rfl ?_
                      refine R_istore_n (k := 3) rfl [(3, .inl 0), (0, .inr (.inr (.inl 96))), (1, .inl a0), (2, .inl a1)] rfl rfl (by decide) ?_
                      have lp1183 : ∀ (n1182 : Nat) (h1184 : PH) (x1186 : Int32), INV h1184 → FR [96, 107, 108, 109, 117, 118] h h1184 → FR [107] h686 h1184 → 0 ≤ x1186.toInt ∧ x1186.toInt ≤ 6 → (6 - x1186.toInt).toNat < n1182 → RUN d_X9_goSecond 166 [(3, .inl x1186), (0, .inr (.inr (.inl 96))), (1, .inl a0), (2, .inl a1)] [] h1184 (q_X9_goSecond h a0 a1) := by
                        intro n1182
                        induction n1182 with
                        | zero => intro h1184 x1186 m1188 m1189 m1190 m1191 hz; exact absurd hz (Nat.not_lt_zero _)
                        | succ n1182 ih1187 =>
                          intro h1184 x1186 hI fr fl1185 m1191 hz
                          have s1192 : (h1184.1 96 41).toInt = (h686.1 96 41).toInt := by rw [(fl1185 96 (by decide)).1]
                          have s1193 : (h1184.1 96 42).toInt = (h686.1 96 42).toInt := by rw [(fl1185 96 (by decide)).1]
                          have s1194 : (h1184.1 96 19).toInt = (h686.1 96 19).toInt := by rw [(fl1185 96 (by decide)).1]
                          have s1195 : (h1184.1 96 18).toInt = (h686.1 96 18).toInt := by rw [(fl1185 96 (by decide)).1]
                          have s1196 : (h1184.1 96 20).toInt = (h686.1 96 20).toInt := by rw [(fl1185 96 (by decide)).1]
                          have s1197 : (h1184.1 96 46).toInt = (h686.1 96 46).toInt := by rw [(fl1185 96 (by decide)).1]
                          have s1198 : (h1184.1 96 44).toInt = (h686.1 96 44).toInt := by rw [(fl1185 96 (by decide)).1]
                          have s1199 : (h1184.1 96 47).toInt = (h686.1 96 47).toInt := by rw [(fl1185 96 (by decide)).1]
                          have s1200 : (h1184.1 96 48).toInt = (h686.1 96 48).toInt := by rw [(fl1185 96 (by decide)).1]
                          have s1201 : (h1184.1 105 0).toInt = (h686.1 105 0).toInt := by rw [(fl1185 105 (by decide)).1]
                          have fl687 : FR [96, 107, 108, 109, 117, 118] h666 h1184 := fl687.trans fl1185 (by decide)
                          have fl645 : FR [96, 107, 108, 109, 117, 118] h625 h1184 := fl645.trans fl1185 (by decide)
                          refine R_iload_n (k := 3) rfl rfl rfl ?_
                          refine R_aload_n (k := 0) rfl rfl rfl ?_
                          refine R_getf_i (j := 18) rfl ft_9_253 sh_96 rfl ?_
                          refine N_icmp_ge (a := x1186.toInt) (b := (h1184.1 96 18).toInt) 224 rfl rfl rfl rfl (fun c1202 => ?_) (fun c1202 => ?_)
                          · exact R_vret rfl rfl ⟨hI, fr, ⟨by omega, by omega, by omega, by omega, by omega, by omega, by omega, by omega, by omega, trivial⟩, rfl⟩
                          · refine R_aload_n (k := 0) rfl rfl rfl ?_
                            refine R_getf_r (j := 22) rfl ft_9_46 sh_96 rfl ?_
                            refine R_aload_n (k := 0) rfl rfl rfl ?_
                            refine R_getf_r (j := 17) rfl ft_9_40 sh_96 rfl ?_
                            refine R_iload_n (k := 3) rfl rfl rfl ?_
                            refine R_iald rfl sh_105 ⟨by omega, by omega⟩ ?_
                            refine N_bd (lo := 0) (hi := 5) (hI.1 105 _) (fun x1203 q1204 => ?_)
                            refine R_iald rfl sh_107 ⟨by omega, by omega⟩ ?_
                            refine N_any (fun x1205 => ?_)
                            refine R_iconst (-1) rfl rfl ?_
                            refine N_icmp_eq (a := x1205.toInt) (b := (-1)) 218 rfl rfl rfl (by decide) (fun c1206 => ?_) (fun c1206 => ?_)
                            · refine N_iinc (a := x1186.toInt) (c := 1) (fun w => [(3, .inl w), (0, .inr (.inr (.inl 96))), (1, .inl a0), (2, .inl a1)]) rfl rfl (fun _ => rfl) (by decide) rfl (by decide) (by omega) (fun x1207 q1208 => ?_)
                              refine R_goto 166 rfl rfl ?_
                              exact RUN_weak (psub_cons rfl (psub_cons rfl (psub_cons rfl (psub_cons rfl (psub_nil _))))) (ih1187 h1184 x1207 hI fr fl1185 (by omega) (by omega))
                            · refine R_aload_n (k := 0) rfl rfl rfl ?_
                              refine R_aload_n (k := 0) rfl rfl rfl ?_
                              refine R_getf_r (j := 17) rfl ft_9_40 sh_96 rfl ?_
                              refine R_iload_n (k := 3) rfl rfl rfl ?_
                              refine R_iald rfl sh_105 ⟨by omega, by omega⟩ ?_
                              refine N_bd (lo := 0) (hi := 5) (hI.1 105 _) (fun x1209 q1210 => ?_)
                              refine R_iload_n (k := 1) rfl rfl rfl ?_
                              have b1211 := i_rng a0
                              refine R_callV (v := .inr (.inr (.inl 96))) (As := [.inl x1209, .inl a0]) (rest := []) rfl mt_9_i271 pp_X9_doesRest (by decide) rfl rfl rfl (Nat.le_of_ble_eq_true rfl) (Nat.le_of_ble_eq_true rfl) ((k_X9_doesRest h1184 hI x1209 a0 (by omega) (by omega)).mono (fun r1212 h1213 p1214 => ?_))
                              obtain ⟨rfl, x1215, rfl, q1216 | q1216 | q1216⟩ := p1214
                              · show RUN d_X9_goSecond 200 [(3, .inl x1186), (0, .inr (.inr (.inl 96))), (1, .inl a0), (2, .inl a1)] [.inl x1215] h1184 _
                                refine N_if_ne (a := x1215.toInt) 218 rfl rfl rfl (fun c1217 => ?_) (fun c1217 => ?_)
                                · exfalso; omega
                                · refine R_aload_n (k := 0) rfl rfl rfl ?_
                                  refine R_getf_r (j := 22) rfl ft_9_46 sh_96 rfl ?_
                                  refine R_aload_n (k := 0) rfl rfl rfl ?_
                                  refine R_getf_r (j := 17) rfl ft_9_40 sh_96 rfl ?_
                                  refine R_iload_n (k := 3) rfl rfl rfl ?_
                                  refine R_iald rfl sh_105 ⟨by omega, by omega⟩ ?_
                                  refine N_bd (lo := 0) (hi := 5) (hI.1 105 _) (fun x1218 q1219 => ?_)
                                  refine R_dup2 rfl ?_
                                  refine R_iald rfl sh_107 ⟨by omega, by omega⟩ ?_
                                  refine N_any (fun x1220 => ?_)
                                  refine R_iconst 1 rfl rfl ?_
                                  have b1221 := i_rng x1220
                                  refine R_iadd rfl ?_
                                  refine N_any (fun x1222 => ?_)
                                  refine K_iast (a := x1218.toInt) (lo := (-2147483648)) (hi' := 2147483647) rfl sh_107 rfl ⟨by omega, by omega⟩ hI (by decide) rfl (i_rng _) fr (by decide) (fun h1223 g1224 hI fr => ?_)
                                  have fl1185 : FR [107] h686 h1223 := by rw [g1224]; exact FR_wI _ _ fl1185 (by decide)
                                  have fl687 : FR [96, 107, 108, 109, 117, 118] h666 h1223 := by rw [g1224]; exact FR_wI _ _ fl687 (by decide)
                                  have fl645 : FR [96, 107, 108, 109, 117, 118] h625 h1223 := by rw [g1224]; exact FR_wI _ _ fl645 (by decide)
                                  have s1225 : (h1223.1 96 41).toInt = (h1184.1 96 41).toInt := by rw [g1224, wI_ne _ _ _ (by decide)]
                                  have s1226 : (h1223.1 96 42).toInt = (h1184.1 96 42).toInt := by rw [g1224, wI_ne _ _ _ (by decide)]
                                  have s1227 : (h1223.1 96 19).toInt = (h1184.1 96 19).toInt := by rw [g1224, wI_ne _ _ _ (by decide)]
                                  have s1228 : (h1223.1 96 18).toInt = (h1184.1 96 18).toInt := by rw [g1224, wI_ne _ _ _ (by decide)]
                                  have s1229 : (h1223.1 96 20).toInt = (h1184.1 96 20).toInt := by rw [g1224, wI_ne _ _ _ (by decide)]
                                  have s1230 : (h1223.1 96 46).toInt = (h1184.1 96 46).toInt := by rw [g1224, wI_ne _ _ _ (by decide)]
                                  have s1231 : (h1223.1 96 44).toInt = (h1184.1 96 44).toInt := by rw [g1224, wI_ne _ _ _ (by decide)]
                                  have s1232 : (h1223.1 96 47).toInt = (h1184.1 96 47).toInt := by rw [g1224, wI_ne _ _ _ (by decide)]
                                  have s1233 : (h1223.1 96 48).toInt = (h1184.1 96 48).toInt := by rw [g1224, wI_ne _ _ _ (by decide)]
                                  have s1234 : (h1223.1 105 0).toInt = (h1184.1 105 0).toInt := by rw [g1224, wI_ne _ _ _ (by decide)]
                                  refine N_iinc (a := x1186.toInt) (c := 1) (fun w => [(3, .inl w), (0, .inr (.inr (.inl 96))), (1, .inl a0), (2, .inl a1)]) rfl rfl (fun _ => rfl) (by decide) rfl (by decide) (by omega) (fun x1235 q1236 => ?_)
                                  refine R_goto 166 rfl rfl ?_
                                  exact RUN_weak (psub_cons rfl (psub_cons rfl (psub_cons rfl (psub_cons rfl (psub_nil _))))) (ih1187 h1223 x1235 hI fr fl1185 (by omega) (by omega))
                              · show RUN d_X9_goSecond 200 [(3, .inl x1186), (0, .inr (.inr (.inl 96))), (1, .inl a0), (2, .inl a1)] [.inl x1215] h1184 _
                                refine N_if_ne (a := x1215.toInt) 218 rfl rfl rfl (fun c1237 => ?_) (fun c1237 => ?_)
                                · exfalso; omega
                                · refine R_aload_n (k := 0) rfl rfl rfl ?_
                                  refine R_getf_r (j := 22) rfl ft_9_46 sh_96 rfl ?_
                                  refine R_aload_n (k := 0) rfl rfl rfl ?_
                                  refine R_getf_r (j := 17) rfl ft_9_40 sh_96 rfl ?_
                                  refine R_iload_n (k := 3) rfl rfl rfl ?_
                                  refine R_iald rfl sh_105 ⟨by omega, by omega⟩ ?_
                                  refine N_bd (lo := 0) (hi := 5) (hI.1 105 _) (fun x1238 q1239 => ?_)
                                  refine R_dup2 rfl ?_
                                  refine R_iald rfl sh_107 ⟨by omega, by omega⟩ ?_
                                  refine N_any (fun x1240 => ?_)
                                  refine R_iconst 1 rfl rfl ?_
                                  have b1241 := i_rng x1240
                                  refine R_iadd rfl ?_
                                  refine N_any (fun x1242 => ?_)
                                  refine K_iast (a := x1238.toInt) (lo := (-2147483648)) (hi' := 2147483647) rfl sh_107 rfl ⟨by omega, by omega⟩ hI (by decide) rfl (i_rng _) fr (by decide) (fun h1243 g1244 hI fr => ?_)
                                  have fl1185 : FR [107] h686 h1243 := by rw [g1244]; exact FR_wI _ _ fl1185 (by decide)
                                  have fl687 : FR [96, 107, 108, 109, 117, 118] h666 h1243 := by rw [g1244]; exact FR_wI _ _ fl687 (by decide)
                                  have fl645 : FR [96, 107, 108, 109, 117, 118] h625 h1243 := by rw [g1244]; exact FR_wI _ _ fl645 (by decide)
                                  have s1245 : (h1243.1 96 41).toInt = (h1184.1 96 41).toInt := by rw [g1244, wI_ne _ _ _ (by decide)]
                                  have s1246 : (h1243.1 96 42).toInt = (h1184.1 96 42).toInt := by rw [g1244, wI_ne _ _ _ (by decide)]
                                  have s1247 : (h1243.1 96 19).toInt = (h1184.1 96 19).toInt := by rw [g1244, wI_ne _ _ _ (by decide)]
                                  have s1248 : (h1243.1 96 18).toInt = (h1184.1 96 18).toInt := by rw [g1244, wI_ne _ _ _ (by decide)]
                                  have s1249 : (h1243.1 96 20).toInt = (h1184.1 96 20).toInt := by rw [g1244, wI_ne _ _ _ (by decide)]
                                  have s1250 : (h1243.1 96 46).toInt = (h1184.1 96 46).toInt := by rw [g1244, wI_ne _ _ _ (by decide)]
                                  have s1251 : (h1243.1 96 44).toInt = (h1184.1 96 44).toInt := by rw [g1244, wI_ne _ _ _ (by decide)]
                                  have s1252 : (h1243.1 96 47).toInt = (h1184.1 96 47).toInt := by rw [g1244, wI_ne _ _ _ (by decide)]
                                  have s1253 : (h1243.1 96 48).toInt = (h1184.1 96 48).toInt := by rw [g1244, wI_ne _ _ _ (by decide)]
                                  have s1254 : (h1243.1 105 0).toInt = (h1184.1 105 0).toInt := by rw [g1244, wI_ne _ _ _ (by decide)]
                                  refine N_iinc (a := x1186.toInt) (c := 1) (fun w => [(3, .inl w), (0, .inr (.inr (.inl 96))), (1, .inl a0), (2, .inl a1)]) rfl rfl (fun _ => rfl) (by decide) rfl (by decide) (by omega) (fun x1255 q1256 => ?_)
                                  refine R_goto 166 rfl rfl ?_
                                  exact RUN_weak (psub_cons rfl (psub_cons rfl (psub_cons rfl (psub_cons rfl (psub_nil _))))) (ih1187 h1243 x1255 hI fr fl1185 (by omega) (by omega))
                              · show RUN d_X9_goSecond 200 [(3, .inl x1186), (0, .inr (.inr (.inl 96))), (1, .inl a0), (2, .inl a1)] [.inl x1215] h1184 _
                                refine N_if_ne (a := x1215.toInt) 218 rfl rfl rfl (fun c1257 => ?_) (fun c1257 => ?_)
                                · refine N_iinc (a := x1186.toInt) (c := 1) (fun w => [(3, .inl w), (0, .inr (.inr (.inl 96))), (1, .inl a0), (2, .inl a1)]) rfl rfl (fun _ => rfl) (by decide) rfl (by decide) (by omega) (fun x1258 q1259 => ?_)
                                  refine R_goto 166 rfl rfl ?_
                                  exact RUN_weak (psub_cons rfl (psub_cons rfl (psub_cons rfl (psub_cons rfl (psub_nil _))))) (ih1187 h1184 x1258 hI fr fl1185 (by omega) (by omega))
                                · exfalso; omega
                      exact lp1183 _ h686 (0 : Int32) hI fr (FR.rf _ _) (by decide) (Nat.lt_succ_self _)
                    · refine R_aload_n (k := 0) rfl rfl rfl ?_
                      refine R_aload_n (k := 0) rfl rfl rfl ?_
                      refine R_getf_r (j := 17) rfl ft_9_40 sh_96 rfl ?_
                      refine R_iconst 0 rfl rfl ?_
                      refine R_iald rfl sh_105 (by decide) ?_
                      show RUN d_X9_goSecond 111 [(3, .inl x688), (0, .inr (.inr (.inl 96))), (1, .inl a0), (2, .inl a1)] [.inl (h686.1 105 0), .inr (.inr (.inl 96))] h686 _
                      refine R_iload_n (k := 1) rfl rfl rfl ?_
                      have b1260 := i_rng a0
                      refine R_callV (v := .inr (.inr (.inl 96))) (As := [.inl (h686.1 105 0), .inl a0]) (rest := []) rfl mt_9_i271 pp_X9_doesRest (by decide) rfl rfl rfl (Nat.le_of_ble_eq_true rfl) (Nat.le_of_ble_eq_true rfl) ((k_X9_doesRest h686 hI (h686.1 105 0) a0 (by omega) (by omega)).mono (fun r1261 h1262 p1263 => ?_))
                      obtain ⟨rfl, x1264, rfl, q1265 | q1265 | q1265⟩ := p1263
                      · show RUN d_X9_goSecond 115 [(3, .inl x688), (0, .inr (.inr (.inl 96))), (1, .inl a0), (2, .inl a1)] [.inl x1264] h686 _
                        refine N_if_ne (a := x1264.toInt) 164 rfl rfl rfl (fun c1266 => ?_) (fun c1266 => ?_)
                        · exfalso; omega
                        · refine R_aload_n (k := 0) rfl rfl rfl ?_
                          refine R_getf_r (j := 24) rfl ft_9_52 sh_96 rfl ?_
                          refine R_iconst 0 rfl rfl ?_
                          refine R_iald rfl sh_109 (by decide) ?_
                          show RUN d_X9_goSecond 124 [(3, .inl x688), (0, .inr (.inr (.inl 96))), (1, .inl a0), (2, .inl a1)] [.inl (h686.1 109 0)] h686 _
                          refine N_if_le (a := (h686.1 109 0).toInt) 164 rfl rfl rfl (fun c1267 => ?_) (fun c1267 => ?_)
                          · refine R_iconst 0 rfl rfl ?_
                            refine R_istore_n (k := 3) rfl [(3, .inl 0), (0, .inr (.inr (.inl 96))), (1, .inl a0), (2, .inl a1)] rfl rfl (by decide) ?_
                            have lp1269 : ∀ (n1268 : Nat) (h1270 : PH) (x1272 : Int32), INV h1270 → FR [96, 107, 108, 109, 117, 118] h h1270 → FR [107] h686 h1270 → 0 ≤ x1272.toInt ∧ x1272.toInt ≤ 6 → (6 - x1272.toInt).toNat < n1268 → RUN d_X9_goSecond 166 [(3, .inl x1272), (0, .inr (.inr (.inl 96))), (1, .inl a0), (2, .inl a1)] [] h1270 (q_X9_goSecond h a0 a1) := by
                              intro n1268
                              induction n1268 with
                              | zero => intro h1270 x1272 m1274 m1275 m1276 m1277 hz; exact absurd hz (Nat.not_lt_zero _)
                              | succ n1268 ih1273 =>
                                intro h1270 x1272 hI fr fl1271 m1277 hz
                                have s1278 : (h1270.1 96 41).toInt = (h686.1 96 41).toInt := by rw [(fl1271 96 (by decide)).1]
                                have s1279 : (h1270.1 96 42).toInt = (h686.1 96 42).toInt := by rw [(fl1271 96 (by decide)).1]
                                have s1280 : (h1270.1 96 19).toInt = (h686.1 96 19).toInt := by rw [(fl1271 96 (by decide)).1]
                                have s1281 : (h1270.1 96 18).toInt = (h686.1 96 18).toInt := by rw [(fl1271 96 (by decide)).1]
                                have s1282 : (h1270.1 96 20).toInt = (h686.1 96 20).toInt := by rw [(fl1271 96 (by decide)).1]
                                have s1283 : (h1270.1 96 46).toInt = (h686.1 96 46).toInt := by rw [(fl1271 96 (by decide)).1]
                                have s1284 : (h1270.1 96 44).toInt = (h686.1 96 44).toInt := by rw [(fl1271 96 (by decide)).1]
                                have s1285 : (h1270.1 96 47).toInt = (h686.1 96 47).toInt := by rw [(fl1271 96 (by decide)).1]
                                have s1286 : (h1270.1 96 48).toInt = (h686.1 96 48).toInt := by rw [(fl1271 96 (by decide)).1]
                                have s1287 : (h1270.1 105 0).toInt = (h686.1 105 0).toInt := by rw [(fl1271 105 (by decide)).1]
                                have s1288 : (h1270.1 109 0).toInt = (h686.1 109 0).toInt := by rw [(fl1271 109 (by decide)).1]
                                have fl687 : FR [96, 107, 108, 109, 117, 118] h666 h1270 := fl687.trans fl1271 (by decide)
                                have fl645 : FR [96, 107, 108, 109, 117, 118] h625 h1270 := fl645.trans fl1271 (by decide)
                                refine R_iload_n (k := 3) rfl rfl rfl ?_
                                refine R_aload_n (k := 0) rfl rfl rfl ?_
                                refine R_getf_i (j := 18) rfl ft_9_253 sh_96 rfl ?_
                                refine N_icmp_ge (a := x1272.toInt) (b := (h1270.1 96 18).toInt) 224 rfl rfl rfl rfl (fun c1289 => ?_) (fun c1289 => ?_)
                                · exact R_vret rfl rfl ⟨hI, fr, ⟨by omega, by omega, by omega, by omega, by omega, by omega, by omega, by omega, by omega, trivial⟩, rfl⟩
                                · refine R_aload_n (k := 0) rfl rfl rfl ?_
                                  refine R_getf_r (j := 22) rfl ft_9_46 sh_96 rfl ?_
                                  refine R_aload_n (k := 0) rfl rfl rfl ?_
                                  refine R_getf_r (j := 17) rfl ft_9_40 sh_96 rfl ?_
                                  refine R_iload_n (k := 3) rfl rfl rfl ?_
                                  refine R_iald rfl sh_105 ⟨by omega, by omega⟩ ?_
                                  refine N_bd (lo := 0) (hi := 5) (hI.1 105 _) (fun x1290 q1291 => ?_)
                                  refine R_iald rfl sh_107 ⟨by omega, by omega⟩ ?_
                                  refine N_any (fun x1292 => ?_)
                                  refine R_iconst (-1) rfl rfl ?_
                                  refine N_icmp_eq (a := x1292.toInt) (b := (-1)) 218 rfl rfl rfl (by decide) (fun c1293 => ?_) (fun c1293 => ?_)
                                  · refine N_iinc (a := x1272.toInt) (c := 1) (fun w => [(3, .inl w), (0, .inr (.inr (.inl 96))), (1, .inl a0), (2, .inl a1)]) rfl rfl (fun _ => rfl) (by decide) rfl (by decide) (by omega) (fun x1294 q1295 => ?_)
                                    refine R_goto 166 rfl rfl ?_
                                    exact RUN_weak (psub_cons rfl (psub_cons rfl (psub_cons rfl (psub_cons rfl (psub_nil _))))) (ih1273 h1270 x1294 hI fr fl1271 (by omega) (by omega))
                                  · refine R_aload_n (k := 0) rfl rfl rfl ?_
                                    refine R_aload_n (k := 0) rfl rfl rfl ?_
                                    refine R_getf_r (j := 17) rfl ft_9_40 sh_96 rfl ?_
                                    refine R_iload_n (k := 3) rfl rfl rfl ?_
                                    refine R_iald rfl sh_105 ⟨by omega, by omega⟩ ?_
                                    refine N_bd (lo := 0) (hi := 5) (hI.1 105 _) (fun x1296 q1297 => ?_)
                                    refine R_iload_n (k := 1) rfl rfl rfl ?_
                                    have b1298 := i_rng a0
                                    refine R_callV (v := .inr (.inr (.inl 96))) (As := [.inl x1296, .inl a0]) (rest := []) rfl mt_9_i271 pp_X9_doesRest (by decide) rfl rfl rfl (Nat.le_of_ble_eq_true rfl) (Nat.le_of_ble_eq_true rfl) ((k_X9_doesRest h1270 hI x1296 a0 (by omega) (by omega)).mono (fun r1299 h1300 p1301 => ?_))
                                    obtain ⟨rfl, x1302, rfl, q1303 | q1303 | q1303⟩ := p1301
                                    · show RUN d_X9_goSecond 200 [(3, .inl x1272), (0, .inr (.inr (.inl 96))), (1, .inl a0), (2, .inl a1)] [.inl x1302] h1270 _
                                      refine N_if_ne (a := x1302.toInt) 218 rfl rfl rfl (fun c1304 => ?_) (fun c1304 => ?_)
                                      · exfalso; omega
                                      · refine R_aload_n (k := 0) rfl rfl rfl ?_
                                        refine R_getf_r (j := 22) rfl ft_9_46 sh_96 rfl ?_
                                        refine R_aload_n (k := 0) rfl rfl rfl ?_
                                        refine R_getf_r (j := 17) rfl ft_9_40 sh_96 rfl ?_
                                        refine R_iload_n (k := 3) rfl rfl rfl ?_
                                        refine R_iald rfl sh_105 ⟨by omega, by omega⟩ ?_
                                        refine N_bd (lo := 0) (hi := 5) (hI.1 105 _) (fun x1305 q1306 => ?_)
                                        refine R_dup2 rfl ?_
                                        refine R_iald rfl sh_107 ⟨by omega, by omega⟩ ?_
                                        refine N_any (fun x1307 => ?_)
                                        refine R_iconst 1 rfl rfl ?_
                                        have b1308 := i_rng x1307
                                        refine R_iadd rfl ?_
                                        refine N_any (fun x1309 => ?_)
                                        refine K_iast (a := x1305.toInt) (lo := (-2147483648)) (hi' := 2147483647) rfl sh_107 rfl ⟨by omega, by omega⟩ hI (by decide) rfl (i_rng _) fr (by decide) (fun h1310 g1311 hI fr => ?_)
                                        have fl1271 : FR [107] h686 h1310 := by rw [g1311]; exact FR_wI _ _ fl1271 (by decide)
                                        have fl687 : FR [96, 107, 108, 109, 117, 118] h666 h1310 := by rw [g1311]; exact FR_wI _ _ fl687 (by decide)
                                        have fl645 : FR [96, 107, 108, 109, 117, 118] h625 h1310 := by rw [g1311]; exact FR_wI _ _ fl645 (by decide)
                                        have s1312 : (h1310.1 96 41).toInt = (h1270.1 96 41).toInt := by rw [g1311, wI_ne _ _ _ (by decide)]
                                        have s1313 : (h1310.1 96 42).toInt = (h1270.1 96 42).toInt := by rw [g1311, wI_ne _ _ _ (by decide)]
                                        have s1314 : (h1310.1 96 19).toInt = (h1270.1 96 19).toInt := by rw [g1311, wI_ne _ _ _ (by decide)]
                                        have s1315 : (h1310.1 96 18).toInt = (h1270.1 96 18).toInt := by rw [g1311, wI_ne _ _ _ (by decide)]
                                        have s1316 : (h1310.1 96 20).toInt = (h1270.1 96 20).toInt := by rw [g1311, wI_ne _ _ _ (by decide)]
                                        have s1317 : (h1310.1 96 46).toInt = (h1270.1 96 46).toInt := by rw [g1311, wI_ne _ _ _ (by decide)]
                                        have s1318 : (h1310.1 96 44).toInt = (h1270.1 96 44).toInt := by rw [g1311, wI_ne _ _ _ (by decide)]
                                        have s1319 : (h1310.1 96 47).toInt = (h1270.1 96 47).toInt := by rw [g1311, wI_ne _ _ _ (by decide)]
                                        have s1320 : (h1310.1 96 48).toInt = (h1270.1 96 48).toInt := by rw [g1311, wI_ne _ _ _ (by decide)]
                                        have s1321 : (h1310.1 105 0).toInt = (h1270.1 105 0).toInt := by rw [g1311, wI_ne _ _ _ (by decide)]
                                        have s1322 : (h1310.1 109 0).toInt = (h1270.1 109 0).toInt := by rw [g1311, wI_ne _ _ _ (by decide)]
                                        refine N_iinc (a := x1272.toInt) (c := 1) (fun w => [(3, .inl w), (0, .inr (.inr (.inl 96))), (1, .inl a0), (2, .inl a1)]) rfl rfl (fun _ => rfl) (by decide) rfl (by decide) (by omega) (fun x1323 q1324 => ?_)
                                        refine R_goto 166 rfl rfl ?_
                                        exact RUN_weak (psub_cons rfl (psub_cons rfl (psub_cons rfl (psub_cons rfl (psub_nil _))))) (ih1273 h1310 x1323 hI fr fl1271 (by omega) (by omega))
                                    · exfalso; omega
                                    · exfalso; omega
                            exact lp1269 _ h686 (0 : Int32) hI fr (FR.rf _ _) (by decide) (Nat.lt_succ_self _)
                          · refine R_aload_n (k := 0) rfl rfl rfl ?_
                            refine R_getf_r (j := 24) rfl ft_9_52 sh_96 rfl ?_
                            refine R_iconst 0 rfl rfl ?_
                            refine R_dup2 rfl ?_
                            refine R_iald rfl sh_109 (by decide) ?_
                            show RUN d_X9_goSecond 134 [(3, .inl x688), (0, .inr (.inr (.inl 96))), (1, .inl a0), (2, .inl a1)] [.inl (h686.1 109 0), .inl 0, .inr (.inr (.inl 109))] h686 _
                            refine R_iconst 1 rfl rfl ?_
                            have b1325 := i_rng (h686.1 109 0)
                            refine N_isub (a := (h686.1 109 0).toInt) (b := 1) rfl rfl (by decide) (by omega) (fun x1326 q1327 => ?_)
                            refine K_iast (a := 0) (lo := (-2147483648)) (hi' := 2147483647) rfl sh_109 (by decide) (by decide) hI (by decide) rfl (i_rng _) fr (by decide) (fun h1328 g1329 hI fr => ?_)
                            have fl687 : FR [96, 107, 108, 109, 117, 118] h666 h1328 := by rw [g1329]; exact FR_wI _ _ fl687 (by decide)
                            have fl645 : FR [96, 107, 108, 109, 117, 118] h625 h1328 := by rw [g1329]; exact FR_wI _ _ fl645 (by decide)
                            have s1330 : (h1328.1 96 41).toInt = (h686.1 96 41).toInt := by rw [g1329, wI_ne _ _ _ (by decide)]
                            have s1331 : (h1328.1 96 42).toInt = (h686.1 96 42).toInt := by rw [g1329, wI_ne _ _ _ (by decide)]
                            have s1332 : (h1328.1 96 19).toInt = (h686.1 96 19).toInt := by rw [g1329, wI_ne _ _ _ (by decide)]
                            have s1333 : (h1328.1 96 18).toInt = (h686.1 96 18).toInt := by rw [g1329, wI_ne _ _ _ (by decide)]
                            have s1334 : (h1328.1 96 20).toInt = (h686.1 96 20).toInt := by rw [g1329, wI_ne _ _ _ (by decide)]
                            have s1335 : (h1328.1 96 46).toInt = (h686.1 96 46).toInt := by rw [g1329, wI_ne _ _ _ (by decide)]
                            have s1336 : (h1328.1 96 44).toInt = (h686.1 96 44).toInt := by rw [g1329, wI_ne _ _ _ (by decide)]
                            have s1337 : (h1328.1 96 47).toInt = (h686.1 96 47).toInt := by rw [g1329, wI_ne _ _ _ (by decide)]
                            have s1338 : (h1328.1 96 48).toInt = (h686.1 96 48).toInt := by rw [g1329, wI_ne _ _ _ (by decide)]
                            have s1339 : (h1328.1 105 0).toInt = (h686.1 105 0).toInt := by rw [g1329, wI_ne _ _ _ (by decide)]
                            have s1340 : (h1328.1 109 0).toInt = x1326.toInt := by rw [g1329, show (0 : Int32).toNatClampNeg = 0 from rfl, wI_is]
                            refine R_aload_n (k := 0) rfl rfl rfl ?_
                            refine R_getf_r (j := 22) rfl ft_9_46 sh_96 rfl ?_
                            refine R_aload_n (k := 0) rfl rfl rfl ?_
                            refine R_getf_r (j := 17) rfl ft_9_40 sh_96 rfl ?_
                            refine R_iconst 0 rfl rfl ?_
                            refine R_iald rfl sh_105 (by decide) ?_
                            show RUN d_X9_goSecond 147 [(3, .inl x688), (0, .inr (.inr (.inl 96))), (1, .inl a0), (2, .inl a1)] [.inl (h1328.1 105 0), .inr (.inr (.inl 107))] h1328 _
                            refine R_iconst 0 rfl rfl ?_
                            refine K_iast (a := (h1328.1 105 0).toInt) (lo := (-2147483648)) (hi' := 2147483647) rfl sh_107 rfl ⟨by omega, by omega⟩ hI (by decide) rfl (by decide) fr (by decide) (fun h1341 g1342 hI fr => ?_)
                            have fl687 : FR [96, 107, 108, 109, 117, 118] h666 h1341 := by rw [g1342]; exact FR_wI _ _ fl687 (by decide)
                            have fl645 : FR [96, 107, 108, 109, 117, 118] h625 h1341 := by rw [g1342]; exact FR_wI _ _ fl645 (by decide)
                            have s1343 : (h1341.1 96 41).toInt = (h1328.1 96 41).toInt := by rw [g1342, wI_ne _ _ _ (by decide)]
                            have s1344 : (h1341.1 96 42).toInt = (h1328.1 96 42).toInt := by rw [g1342, wI_ne _ _ _ (by decide)]
                            have s1345 : (h1341.1 96 19).toInt = (h1328.1 96 19).toInt := by rw [g1342, wI_ne _ _ _ (by decide)]
                            have s1346 : (h1341.1 96 18).toInt = (h1328.1 96 18).toInt := by rw [g1342, wI_ne _ _ _ (by decide)]
                            have s1347 : (h1341.1 96 20).toInt = (h1328.1 96 20).toInt := by rw [g1342, wI_ne _ _ _ (by decide)]
                            have s1348 : (h1341.1 96 46).toInt = (h1328.1 96 46).toInt := by rw [g1342, wI_ne _ _ _ (by decide)]
                            have s1349 : (h1341.1 96 44).toInt = (h1328.1 96 44).toInt := by rw [g1342, wI_ne _ _ _ (by decide)]
                            have s1350 : (h1341.1 96 47).toInt = (h1328.1 96 47).toInt := by rw [g1342, wI_ne _ _ _ (by decide)]
                            have s1351 : (h1341.1 96 48).toInt = (h1328.1 96 48).toInt := by rw [g1342, wI_ne _ _ _ (by decide)]
                            have s1352 : (h1341.1 105 0).toInt = (h1328.1 105 0).toInt := by rw [g1342, wI_ne _ _ _ (by decide)]
                            have s1353 : (h1341.1 109 0).toInt = (h1328.1 109 0).toInt := by rw [g1342, wI_ne _ _ _ (by decide)]
                            refine R_aload_n (k := 0) rfl rfl rfl ?_
                            refine R_getf_r (j := 23) rfl ft_9_49 sh_96 rfl ?_
                            refine R_aload_n (k := 0) rfl rfl rfl ?_
                            refine R_getf_r (j := 17) rfl ft_9_40 sh_96 rfl ?_
                            refine R_iconst 0 rfl rfl ?_
                            refine R_iald rfl sh_105 (by decide) ?_
                            show RUN d_X9_goSecond 159 [(3, .inl x688), (0, .inr (.inr (.inl 96))), (1, .inl a0), (2, .inl a1)] [.inl (h1341.1 105 0), .inr (.inr (.inl 108))] h1341 _
                            refine R_aload_n (k := 0) rfl rfl rfl ?_
                            refine R_getf_i (j := 20) rfl ft_9_259 sh_96 rfl ?_
                            refine K_iast (a := (h1341.1 105 0).toInt) (lo := (-2147483648)) (hi' := 2147483647) rfl sh_108 rfl ⟨by omega, by omega⟩ hI (by decide) rfl (i_rng _) fr (by decide) (fun h1354 g1355 hI fr => ?_)
                            have fl687 : FR [96, 107, 108, 109, 117, 118] h666 h1354 := by rw [g1355]; exact FR_wI _ _ fl687 (by decide)
                            have fl645 : FR [96, 107, 108, 109, 117, 118] h625 h1354 := by rw [g1355]; exact FR_wI _ _ fl645 (by decide)
                            have s1356 : (h1354.1 96 41).toInt = (h1341.1 96 41).toInt := by rw [g1355, wI_ne _ _ _ (by decide)]
                            have s1357 : (h1354.1 96 42).toInt = (h1341.1 96 42).toInt := by rw [g1355, wI_ne _ _ _ (by decide)]
                            have s1358 : (h1354.1 96 19).toInt = (h1341.1 96 19).toInt := by rw [g1355, wI_ne _ _ _ (by decide)]
                            have s1359 : (h1354.1 96 18).toInt = (h1341.1 96 18).toInt := by rw [g1355, wI_ne _ _ _ (by decide)]
                            have s1360 : (h1354.1 96 20).toInt = (h1341.1 96 20).toInt := by rw [g1355, wI_ne _ _ _ (by decide)]
                            have s1361 : (h1354.1 96 46).toInt = (h1341.1 96 46).toInt := by rw [g1355, wI_ne _ _ _ (by decide)]
                            have s1362 : (h1354.1 96 44).toInt = (h1341.1 96 44).toInt := by rw [g1355, wI_ne _ _ _ (by decide)]
                            have s1363 : (h1354.1 96 47).toInt = (h1341.1 96 47).toInt := by rw [g1355, wI_ne _ _ _ (by decide)]
                            have s1364 : (h1354.1 96 48).toInt = (h1341.1 96 48).toInt := by rw [g1355, wI_ne _ _ _ (by decide)]
                            have s1365 : (h1354.1 105 0).toInt = (h1341.1 105 0).toInt := by rw [g1355, wI_ne _ _ _ (by decide)]
                            have s1366 : (h1354.1 109 0).toInt = (h1341.1 109 0).toInt := by rw [g1355, wI_ne _ _ _ (by decide)]
                            refine R_iconst 0 rfl rfl ?_
                            refine R_istore_n (k := 3) rfl [(3, .inl 0), (0, .inr (.inr (.inl 96))), (1, .inl a0), (2, .inl a1)] rfl rfl (by decide) ?_
                            have lp1368 : ∀ (n1367 : Nat) (h1369 : PH) (x1371 : Int32), INV h1369 → FR [96, 107, 108, 109, 117, 118] h h1369 → FR [107] h1354 h1369 → 0 ≤ x1371.toInt ∧ x1371.toInt ≤ 6 → (6 - x1371.toInt).toNat < n1367 → RUN d_X9_goSecond 166 [(3, .inl x1371), (0, .inr (.inr (.inl 96))), (1, .inl a0), (2, .inl a1)] [] h1369 (q_X9_goSecond h a0 a1) := by
                              intro n1367
                              induction n1367 with
                              | zero => intro h1369 x1371 m1373 m1374 m1375 m1376 hz; exact absurd hz (Nat.not_lt_zero _)
                              | succ n1367 ih1372 =>
                                intro h1369 x1371 hI fr fl1370 m1376 hz
                                have s1377 : (h1369.1 96 41).toInt = (h1354.1 96 41).toInt := by rw [(fl1370 96 (by decide)).1]
                                have s1378 : (h1369.1 96 42).toInt = (h1354.1 96 42).toInt := by rw [(fl1370 96 (by decide)).1]
                                have s1379 : (h1369.1 96 19).toInt = (h1354.1 96 19).toInt := by rw [(fl1370 96 (by decide)).1]
                                have s1380 : (h1369.1 96 18).toInt = (h1354.1 96 18).toInt := by rw [(fl1370 96 (by decide)).1]
                                have s1381 : (h1369.1 96 20).toInt = (h1354.1 96 20).toInt := by rw [(fl1370 96 (by decide)).1]
                                have s1382 : (h1369.1 96 46).toInt = (h1354.1 96 46).toInt := by rw [(fl1370 96 (by decide)).1]
                                have s1383 : (h1369.1 96 44).toInt = (h1354.1 96 44).toInt := by rw [(fl1370 96 (by decide)).1]
                                have s1384 : (h1369.1 96 47).toInt = (h1354.1 96 47).toInt := by rw [(fl1370 96 (by decide)).1]
                                have s1385 : (h1369.1 96 48).toInt = (h1354.1 96 48).toInt := by rw [(fl1370 96 (by decide)).1]
                                have s1386 : (h1369.1 105 0).toInt = (h1354.1 105 0).toInt := by rw [(fl1370 105 (by decide)).1]
                                have s1387 : (h1369.1 109 0).toInt = (h1354.1 109 0).toInt := by rw [(fl1370 109 (by decide)).1]
                                have fl687 : FR [96, 107, 108, 109, 117, 118] h666 h1369 := fl687.trans fl1370 (by decide)
                                have fl645 : FR [96, 107, 108, 109, 117, 118] h625 h1369 := fl645.trans fl1370 (by decide)
                                refine R_iload_n (k := 3) rfl rfl rfl ?_
                                refine R_aload_n (k := 0) rfl rfl rfl ?_
                                refine R_getf_i (j := 18) rfl ft_9_253 sh_96 rfl ?_
                                refine N_icmp_ge (a := x1371.toInt) (b := (h1369.1 96 18).toInt) 224 rfl rfl rfl rfl (fun c1388 => ?_) (fun c1388 => ?_)
                                · exact R_vret rfl rfl ⟨hI, fr, ⟨by omega, by omega, by omega, by omega, by omega, by omega, by omega, by omega, by omega, trivial⟩, rfl⟩
                                · refine R_aload_n (k := 0) rfl rfl rfl ?_
                                  refine R_getf_r (j := 22) rfl ft_9_46 sh_96 rfl ?_
                                  refine R_aload_n (k := 0) rfl rfl rfl ?_
                                  refine R_getf_r (j := 17) rfl ft_9_40 sh_96 rfl ?_
                                  refine R_iload_n (k := 3) rfl rfl rfl ?_
                                  refine R_iald rfl sh_105 ⟨by omega, by omega⟩ ?_
                                  refine N_bd (lo := 0) (hi := 5) (hI.1 105 _) (fun x1389 q1390 => ?_)
                                  refine R_iald rfl sh_107 ⟨by omega, by omega⟩ ?_
                                  refine N_any (fun x1391 => ?_)
                                  refine R_iconst (-1) rfl rfl ?_
                                  refine N_icmp_eq (a := x1391.toInt) (b := (-1)) 218 rfl rfl rfl (by decide) (fun c1392 => ?_) (fun c1392 => ?_)
                                  · refine N_iinc (a := x1371.toInt) (c := 1) (fun w => [(3, .inl w), (0, .inr (.inr (.inl 96))), (1, .inl a0), (2, .inl a1)]) rfl rfl (fun _ => rfl) (by decide) rfl (by decide) (by omega) (fun x1393 q1394 => ?_)
                                    refine R_goto 166 rfl rfl ?_
                                    exact RUN_weak (psub_cons rfl (psub_cons rfl (psub_cons rfl (psub_cons rfl (psub_nil _))))) (ih1372 h1369 x1393 hI fr fl1370 (by omega) (by omega))
                                  · refine R_aload_n (k := 0) rfl rfl rfl ?_
                                    refine R_aload_n (k := 0) rfl rfl rfl ?_
                                    refine R_getf_r (j := 17) rfl ft_9_40 sh_96 rfl ?_
                                    refine R_iload_n (k := 3) rfl rfl rfl ?_
                                    refine R_iald rfl sh_105 ⟨by omega, by omega⟩ ?_
                                    refine N_bd (lo := 0) (hi := 5) (hI.1 105 _) (fun x1395 q1396 => ?_)
                                    refine R_iload_n (k := 1) rfl rfl rfl ?_
                                    have b1397 := i_rng a0
                                    refine R_callV (v := .inr (.inr (.inl 96))) (As := [.inl x1395, .inl a0]) (rest := []) rfl mt_9_i271 pp_X9_doesRest (by decide) rfl rfl rfl (Nat.le_of_ble_eq_true rfl) (Nat.le_of_ble_eq_true rfl) ((k_X9_doesRest h1369 hI x1395 a0 (by omega) (by omega)).mono (fun r1398 h1399 p1400 => ?_))
                                    obtain ⟨rfl, x1401, rfl, q1402 | q1402 | q1402⟩ := p1400
                                    · show RUN d_X9_goSecond 200 [(3, .inl x1371), (0, .inr (.inr (.inl 96))), (1, .inl a0), (2, .inl a1)] [.inl x1401] h1369 _
                                      refine N_if_ne (a := x1401.toInt) 218 rfl rfl rfl (fun c1403 => ?_) (fun c1403 => ?_)
                                      · exfalso; omega
                                      · refine R_aload_n (k := 0) rfl rfl rfl ?_
                                        refine R_getf_r (j := 22) rfl ft_9_46 sh_96 rfl ?_
                                        refine R_aload_n (k := 0) rfl rfl rfl ?_
                                        refine R_getf_r (j := 17) rfl ft_9_40 sh_96 rfl ?_
                                        refine R_iload_n (k := 3) rfl rfl rfl ?_
                                        refine R_iald rfl sh_105 ⟨by omega, by omega⟩ ?_
                                        refine N_bd (lo := 0) (hi := 5) (hI.1 105 _) (fun x1404 q1405 => ?_)
                                        refine R_dup2 rfl ?_
                                        refine R_iald rfl sh_107 ⟨by omega, by omega⟩ ?_
                                        refine N_any (fun x1406 => ?_)
                                        refine R_iconst 1 rfl rfl ?_
                                        have b1407 := i_rng x1406
                                        refine R_iadd rfl ?_
                                        refine N_any (fun x1408 => ?_)
                                        refine K_iast (a := x1404.toInt) (lo := (-2147483648)) (hi' := 2147483647) rfl sh_107 rfl ⟨by omega, by omega⟩ hI (by decide) rfl (i_rng _) fr (by decide) (fun h1409 g1410 hI fr => ?_)
                                        have fl1370 : FR [107] h1354 h1409 := by rw [g1410]; exact FR_wI _ _ fl1370 (by decide)
                                        have fl687 : FR [96, 107, 108, 109, 117, 118] h666 h1409 := by rw [g1410]; exact FR_wI _ _ fl687 (by decide)
                                        have fl645 : FR [96, 107, 108, 109, 117, 118] h625 h1409 := by rw [g1410]; exact FR_wI _ _ fl645 (by decide)
                                        have s1411 : (h1409.1 96 41).toInt = (h1369.1 96 41).toInt := by rw [g1410, wI_ne _ _ _ (by decide)]
                                        have s1412 : (h1409.1 96 42).toInt = (h1369.1 96 42).toInt := by rw [g1410, wI_ne _ _ _ (by decide)]
                                        have s1413 : (h1409.1 96 19).toInt = (h1369.1 96 19).toInt := by rw [g1410, wI_ne _ _ _ (by decide)]
                                        have s1414 : (h1409.1 96 18).toInt = (h1369.1 96 18).toInt := by rw [g1410, wI_ne _ _ _ (by decide)]
                                        have s1415 : (h1409.1 96 20).toInt = (h1369.1 96 20).toInt := by rw [g1410, wI_ne _ _ _ (by decide)]
                                        have s1416 : (h1409.1 96 46).toInt = (h1369.1 96 46).toInt := by rw [g1410, wI_ne _ _ _ (by decide)]
                                        have s1417 : (h1409.1 96 44).toInt = (h1369.1 96 44).toInt := by rw [g1410, wI_ne _ _ _ (by decide)]
                                        have s1418 : (h1409.1 96 47).toInt = (h1369.1 96 47).toInt := by rw [g1410, wI_ne _ _ _ (by decide)]
                                        have s1419 : (h1409.1 96 48).toInt = (h1369.1 96 48).toInt := by rw [g1410, wI_ne _ _ _ (by decide)]
                                        have s1420 : (h1409.1 105 0).toInt = (h1369.1 105 0).toInt := by rw [g1410, wI_ne _ _ _ (by decide)]
                                        have s1421 : (h1409.1 109 0).toInt = (h1369.1 109 0).toInt := by rw [g1410, wI_ne _ _ _ (by decide)]
                                        refine N_iinc (a := x1371.toInt) (c := 1) (fun w => [(3, .inl w), (0, .inr (.inr (.inl 96))), (1, .inl a0), (2, .inl a1)]) rfl rfl (fun _ => rfl) (by decide) rfl (by decide) (by omega) (fun x1422 q1423 => ?_)
                                        refine R_goto 166 rfl rfl ?_
                                        exact RUN_weak (psub_cons rfl (psub_cons rfl (psub_cons rfl (psub_cons rfl (psub_nil _))))) (ih1372 h1409 x1422 hI fr fl1370 (by omega) (by omega))
                                    · exfalso; omega
                                    · exfalso; omega
                            exact lp1368 _ h1354 (0 : Int32) hI fr (FR.rf _ _) (by decide) (Nat.lt_succ_self _)
                      · show RUN d_X9_goSecond 115 [(3, .inl x688), (0, .inr (.inr (.inl 96))), (1, .inl a0), (2, .inl a1)] [.inl x1264] h686 _
                        refine N_if_ne (a := x1264.toInt) 164 rfl rfl rfl (fun c1424 => ?_) (fun c1424 => ?_)
                        · exfalso; omega
                        · refine R_aload_n (k := 0) rfl rfl rfl ?_
                          refine R_getf_r (j := 24) rfl ft_9_52 sh_96 rfl ?_
                          refine R_iconst 0 rfl rfl ?_
                          refine R_iald rfl sh_109 (by decide) ?_
                          show RUN d_X9_goSecond 124 [(3, .inl x688), (0, .inr (.inr (.inl 96))), (1, .inl a0), (2, .inl a1)] [.inl (h686.1 109 0)] h686 _
                          refine N_if_le (a := (h686.1 109 0).toInt) 164 rfl rfl rfl (fun c1425 => ?_) (fun c1425 => ?_)
                          · refine R_iconst 0 rfl rfl ?_
                            refine R_istore_n (k := 3) rfl [(3, .inl 0), (0, .inr (.inr (.inl 96))), (1, .inl a0), (2, .inl a1)] rfl rfl (by decide) ?_
                            have lp1427 : ∀ (n1426 : Nat) (h1428 : PH) (x1430 : Int32), INV h1428 → FR [96, 107, 108, 109, 117, 118] h h1428 → FR [107] h686 h1428 → 0 ≤ x1430.toInt ∧ x1430.toInt ≤ 6 → (6 - x1430.toInt).toNat < n1426 → RUN d_X9_goSecond 166 [(3, .inl x1430), (0, .inr (.inr (.inl 96))), (1, .inl a0), (2, .inl a1)] [] h1428 (q_X9_goSecond h a0 a1) := by
                              intro n1426
                              induction n1426 with
                              | zero => intro h1428 x1430 m1432 m1433 m1434 m1435 hz; exact absurd hz (Nat.not_lt_zero _)
                              | succ n1426 ih1431 =>
                                intro h1428 x1430 hI fr fl1429 m1435 hz
                                have s1436 : (h1428.1 96 41).toInt = (h686.1 96 41).toInt := by rw [(fl1429 96 (by decide)).1]
                                have s1437 : (h1428.1 96 42).toInt = (h686.1 96 42).toInt := by rw [(fl1429 96 (by decide)).1]
                                have s1438 : (h1428.1 96 19).toInt = (h686.1 96 19).toInt := by rw [(fl1429 96 (by decide)).1]
                                have s1439 : (h1428.1 96 18).toInt = (h686.1 96 18).toInt := by rw [(fl1429 96 (by decide)).1]
                                have s1440 : (h1428.1 96 20).toInt = (h686.1 96 20).toInt := by rw [(fl1429 96 (by decide)).1]
                                have s1441 : (h1428.1 96 46).toInt = (h686.1 96 46).toInt := by rw [(fl1429 96 (by decide)).1]
                                have s1442 : (h1428.1 96 44).toInt = (h686.1 96 44).toInt := by rw [(fl1429 96 (by decide)).1]
                                have s1443 : (h1428.1 96 47).toInt = (h686.1 96 47).toInt := by rw [(fl1429 96 (by decide)).1]
                                have s1444 : (h1428.1 96 48).toInt = (h686.1 96 48).toInt := by rw [(fl1429 96 (by decide)).1]
                                have s1445 : (h1428.1 105 0).toInt = (h686.1 105 0).toInt := by rw [(fl1429 105 (by decide)).1]
                                have s1446 : (h1428.1 109 0).toInt = (h686.1 109 0).toInt := by rw [(fl1429 109 (by decide)).1]
                                have fl687 : FR [96, 107, 108, 109, 117, 118] h666 h1428 := fl687.trans fl1429 (by decide)
                                have fl645 : FR [96, 107, 108, 109, 117, 118] h625 h1428 := fl645.trans fl1429 (by decide)
                                refine R_iload_n (k := 3) rfl rfl rfl ?_
                                refine R_aload_n (k := 0) rfl rfl rfl ?_
                                refine R_getf_i (j := 18) rfl ft_9_253 sh_96 rfl ?_
                                refine N_icmp_ge (a := x1430.toInt) (b := (h1428.1 96 18).toInt) 224 rfl rfl rfl rfl (fun c1447 => ?_) (fun c1447 => ?_)
                                · exact R_vret rfl rfl ⟨hI, fr, ⟨by omega, by omega, by omega, by omega, by omega, by omega, by omega, by omega, by omega, trivial⟩, rfl⟩
                                · refine R_aload_n (k := 0) rfl rfl rfl ?_
                                  refine R_getf_r (j := 22) rfl ft_9_46 sh_96 rfl ?_
                                  refine R_aload_n (k := 0) rfl rfl rfl ?_
                                  refine R_getf_r (j := 17) rfl ft_9_40 sh_96 rfl ?_
                                  refine R_iload_n (k := 3) rfl rfl rfl ?_
                                  refine R_iald rfl sh_105 ⟨by omega, by omega⟩ ?_
                                  refine N_bd (lo := 0) (hi := 5) (hI.1 105 _) (fun x1448 q1449 => ?_)
                                  refine R_iald rfl sh_107 ⟨by omega, by omega⟩ ?_
                                  refine N_any (fun x1450 => ?_)
                                  refine R_iconst (-1) rfl rfl ?_
                                  refine N_icmp_eq (a := x1450.toInt) (b := (-1)) 218 rfl rfl rfl (by decide) (fun c1451 => ?_) (fun c1451 => ?_)
                                  · refine N_iinc (a := x1430.toInt) (c := 1) (fun w => [(3, .inl w), (0, .inr (.inr (.inl 96))), (1, .inl a0), (2, .inl a1)]) rfl rfl (fun _ => rfl) (by decide) rfl (by decide) (by omega) (fun x1452 q1453 => ?_)
                                    refine R_goto 166 rfl rfl ?_
                                    exact RUN_weak (psub_cons rfl (psub_cons rfl (psub_cons rfl (psub_cons rfl (psub_nil _))))) (ih1431 h1428 x1452 hI fr fl1429 (by omega) (by omega))
                                  · refine R_aload_n (k := 0) rfl rfl rfl ?_
                                    refine R_aload_n (k := 0) rfl rfl rfl ?_
                                    refine R_getf_r (j := 17) rfl ft_9_40 sh_96 rfl ?_
                                    refine R_iload_n (k := 3) rfl rfl rfl ?_
                                    refine R_iald rfl sh_105 ⟨by omega, by omega⟩ ?_
                                    refine N_bd (lo := 0) (hi := 5) (hI.1 105 _) (fun x1454 q1455 => ?_)
                                    refine R_iload_n (k := 1) rfl rfl rfl ?_
                                    refine R_callV (v := .inr (.inr (.inl 96))) (As := [.inl x1454, .inl a0]) (rest := []) rfl mt_9_i271 pp_X9_doesRest (by decide) rfl rfl rfl (Nat.le_of_ble_eq_true rfl) (Nat.le_of_ble_eq_true rfl) ((k_X9_doesRest h1428 hI x1454 a0 (by omega) (by omega)).mono (fun r1456 h1457 p1458 => ?_))
                                    obtain ⟨rfl, x1459, rfl, q1460 | q1460 | q1460⟩ := p1458
                                    · exfalso; omega
                                    · show RUN d_X9_goSecond 200 [(3, .inl x1430), (0, .inr (.inr (.inl 96))), (1, .inl a0), (2, .inl a1)] [.inl x1459] h1428 _
                                      refine N_if_ne (a := x1459.toInt) 218 rfl rfl rfl (fun c1461 => ?_) (fun c1461 => ?_)
                                      · exfalso; omega
                                      · refine R_aload_n (k := 0) rfl rfl rfl ?_
                                        refine R_getf_r (j := 22) rfl ft_9_46 sh_96 rfl ?_
                                        refine R_aload_n (k := 0) rfl rfl rfl ?_
                                        refine R_getf_r (j := 17) rfl ft_9_40 sh_96 rfl ?_
                                        refine R_iload_n (k := 3) rfl rfl rfl ?_
                                        refine R_iald rfl sh_105 ⟨by omega, by omega⟩ ?_
                                        refine N_bd (lo := 0) (hi := 5) (hI.1 105 _) (fun x1462 q1463 => ?_)
                                        refine R_dup2 rfl ?_
                                        refine R_iald rfl sh_107 ⟨by omega, by omega⟩ ?_
                                        refine N_any (fun x1464 => ?_)
                                        refine R_iconst 1 rfl rfl ?_
                                        have b1465 := i_rng x1464
                                        refine R_iadd rfl ?_
                                        refine N_any (fun x1466 => ?_)
                                        refine K_iast (a := x1462.toInt) (lo := (-2147483648)) (hi' := 2147483647) rfl sh_107 rfl ⟨by omega, by omega⟩ hI (by decide) rfl (i_rng _) fr (by decide) (fun h1467 g1468 hI fr => ?_)
                                        have fl1429 : FR [107] h686 h1467 := by rw [g1468]; exact FR_wI _ _ fl1429 (by decide)
                                        have fl687 : FR [96, 107, 108, 109, 117, 118] h666 h1467 := by rw [g1468]; exact FR_wI _ _ fl687 (by decide)
                                        have fl645 : FR [96, 107, 108, 109, 117, 118] h625 h1467 := by rw [g1468]; exact FR_wI _ _ fl645 (by decide)
                                        have s1469 : (h1467.1 96 41).toInt = (h1428.1 96 41).toInt := by rw [g1468, wI_ne _ _ _ (by decide)]
                                        have s1470 : (h1467.1 96 42).toInt = (h1428.1 96 42).toInt := by rw [g1468, wI_ne _ _ _ (by decide)]
                                        have s1471 : (h1467.1 96 19).toInt = (h1428.1 96 19).toInt := by rw [g1468, wI_ne _ _ _ (by decide)]
                                        have s1472 : (h1467.1 96 18).toInt = (h1428.1 96 18).toInt := by rw [g1468, wI_ne _ _ _ (by decide)]
                                        have s1473 : (h1467.1 96 20).toInt = (h1428.1 96 20).toInt := by rw [g1468, wI_ne _ _ _ (by decide)]
                                        have s1474 : (h1467.1 96 46).toInt = (h1428.1 96 46).toInt := by rw [g1468, wI_ne _ _ _ (by decide)]
                                        have s1475 : (h1467.1 96 44).toInt = (h1428.1 96 44).toInt := by rw [g1468, wI_ne _ _ _ (by decide)]
                                        have s1476 : (h1467.1 96 47).toInt = (h1428.1 96 47).toInt := by rw [g1468, wI_ne _ _ _ (by decide)]
                                        have s1477 : (h1467.1 96 48).toInt = (h1428.1 96 48).toInt := by rw [g1468, wI_ne _ _ _ (by decide)]
                                        have s1478 : (h1467.1 105 0).toInt = (h1428.1 105 0).toInt := by rw [g1468, wI_ne _ _ _ (by decide)]
                                        have s1479 : (h1467.1 109 0).toInt = (h1428.1 109 0).toInt := by rw [g1468, wI_ne _ _ _ (by decide)]
                                        refine N_iinc (a := x1430.toInt) (c := 1) (fun w => [(3, .inl w), (0, .inr (.inr (.inl 96))), (1, .inl a0), (2, .inl a1)]) rfl rfl (fun _ => rfl) (by decide) rfl (by decide) (by omega) (fun x1480 q1481 => ?_)
                                        refine R_goto 166 rfl rfl ?_
                                        exact RUN_weak (psub_cons rfl (psub_cons rfl (psub_cons rfl (psub_cons rfl (psub_nil _))))) (ih1431 h1467 x1480 hI fr fl1429 (by omega) (by omega))
                                    · show RUN d_X9_goSecond 200 [(3, .inl x1430), (0, .inr (.inr (.inl 96))), (1, .inl a0), (2, .inl a1)] [.inl x1459] h1428 _
                                      refine N_if_ne (a := x1459.toInt) 218 rfl rfl rfl (fun c1482 => ?_) (fun c1482 => ?_)
                                      · refine N_iinc (a := x1430.toInt) (c := 1) (fun w => [(3, .inl w), (0, .inr (.inr (.inl 96))), (1, .inl a0), (2, .inl a1)]) rfl rfl (fun _ => rfl) (by decide) rfl (by decide) (by omega) (fun x1483 q1484 => ?_)
                                        refine R_goto 166 rfl rfl ?_
                                        exact RUN_weak (psub_cons rfl (psub_cons rfl (psub_cons rfl (psub_cons rfl (psub_nil _))))) (ih1431 h1428 x1483 hI fr fl1429 (by omega) (by omega))
                                      · exfalso; omega
                            exact lp1427 _ h686 (0 : Int32) hI fr (FR.rf _ _) (by decide) (Nat.lt_succ_self _)
                          · refine R_aload_n (k := 0) rfl rfl rfl ?_
                            refine R_getf_r (j := 24) rfl ft_9_52 sh_96 rfl ?_
                            refine R_iconst 0 rfl rfl ?_
                            refine R_dup2 rfl ?_
                            refine R_iald rfl sh_109 (by decide) ?_
                            show RUN d_X9_goSecond 134 [(3, .inl x688), (0, .inr (.inr (.inl 96))), (1, .inl a0), (2, .inl a1)] [.inl (h686.1 109 0), .inl 0, .inr (.inr (.inl 109))] h686 _
                            refine R_iconst 1 rfl rfl ?_
                            have b1485 := i_rng (h686.1 109 0)
                            refine N_isub (a := (h686.1 109 0).toInt) (b := 1) rfl rfl (by decide) (by omega) (fun x1486 q1487 => ?_)
                            refine K_iast (a := 0) (lo := (-2147483648)) (hi' := 2147483647) rfl sh_109 (by decide) (by decide) hI (by decide) rfl (i_rng _) fr (by decide) (fun h1488 g1489 hI fr => ?_)
                            have fl687 : FR [96, 107, 108, 109, 117, 118] h666 h1488 := by rw [g1489]; exact FR_wI _ _ fl687 (by decide)
                            have fl645 : FR [96, 107, 108, 109, 117, 118] h625 h1488 := by rw [g1489]; exact FR_wI _ _ fl645 (by decide)
                            have s1490 : (h1488.1 96 41).toInt = (h686.1 96 41).toInt := by rw [g1489, wI_ne _ _ _ (by decide)]
                            have s1491 : (h1488.1 96 42).toInt = (h686.1 96 42).toInt := by rw [g1489, wI_ne _ _ _ (by decide)]
                            have s1492 : (h1488.1 96 19).toInt = (h686.1 96 19).toInt := by rw [g1489, wI_ne _ _ _ (by decide)]
                            have s1493 : (h1488.1 96 18).toInt = (h686.1 96 18).toInt := by rw [g1489, wI_ne _ _ _ (by decide)]
                            have s1494 : (h1488.1 96 20).toInt = (h686.1 96 20).toInt := by rw [g1489, wI_ne _ _ _ (by decide)]
                            have s1495 : (h1488.1 96 46).toInt = (h686.1 96 46).toInt := by rw [g1489, wI_ne _ _ _ (by decide)]
                            have s1496 : (h1488.1 96 44).toInt = (h686.1 96 44).toInt := by rw [g1489, wI_ne _ _ _ (by decide)]
                            have s1497 : (h1488.1 96 47).toInt = (h686.1 96 47).toInt := by rw [g1489, wI_ne _ _ _ (by decide)]
                            have s1498 : (h1488.1 96 48).toInt = (h686.1 96 48).toInt := by rw [g1489, wI_ne _ _ _ (by decide)]
                            have s1499 : (h1488.1 105 0).toInt = (h686.1 105 0).toInt := by rw [g1489, wI_ne _ _ _ (by decide)]
                            have s1500 : (h1488.1 109 0).toInt = x1486.toInt := by rw [g1489, show (0 : Int32).toNatClampNeg = 0 from rfl, wI_is]
                            refine R_aload_n (k := 0) rfl rfl rfl ?_
                            refine R_getf_r (j := 22) rfl ft_9_46 sh_96 rfl ?_
                            refine R_aload_n (k := 0) rfl rfl rfl ?_
                            refine R_getf_r (j := 17) rfl ft_9_40 sh_96 rfl ?_
                            refine R_iconst 0 rfl rfl ?_
                            refine R_iald rfl sh_105 (by decide) ?_
                            show RUN d_X9_goSecond 147 [(3, .inl x688), (0, .inr (.inr (.inl 96))), (1, .inl a0), (2, .inl a1)] [.inl (h1488.1 105 0), .inr (.inr (.inl 107))] h1488 _
                            refine R_iconst 0 rfl rfl ?_
                            refine K_iast (a := (h1488.1 105 0).toInt) (lo := (-2147483648)) (hi' := 2147483647) rfl sh_107 rfl ⟨by omega, by omega⟩ hI (by decide) rfl (by decide) fr (by decide) (fun h1501 g1502 hI fr => ?_)
                            have fl687 : FR [96, 107, 108, 109, 117, 118] h666 h1501 := by rw [g1502]; exact FR_wI _ _ fl687 (by decide)
                            have fl645 : FR [96, 107, 108, 109, 117, 118] h625 h1501 := by rw [g1502]; exact FR_wI _ _ fl645 (by decide)
                            have s1503 : (h1501.1 96 41).toInt = (h1488.1 96 41).toInt := by rw [g1502, wI_ne _ _ _ (by decide)]
                            have s1504 : (h1501.1 96 42).toInt = (h1488.1 96 42).toInt := by rw [g1502, wI_ne _ _ _ (by decide)]
                            have s1505 : (h1501.1 96 19).toInt = (h1488.1 96 19).toInt := by rw [g1502, wI_ne _ _ _ (by decide)]
                            have s1506 : (h1501.1 96 18).toInt = (h1488.1 96 18).toInt := by rw [g1502, wI_ne _ _ _ (by decide)]
                            have s1507 : (h1501.1 96 20).toInt = (h1488.1 96 20).toInt := by rw [g1502, wI_ne _ _ _ (by decide)]
                            have s1508 : (h1501.1 96 46).toInt = (h1488.1 96 46).toInt := by rw [g1502, wI_ne _ _ _ (by decide)]
                            have s1509 : (h1501.1 96 44).toInt = (h1488.1 96 44).toInt := by rw [g1502, wI_ne _ _ _ (by decide)]
                            have s1510 : (h1501.1 96 47).toInt = (h1488.1 96 47).toInt := by rw [g1502, wI_ne _ _ _ (by decide)]
                            have s1511 : (h1501.1 96 48).toInt = (h1488.1 96 48).toInt := by rw [g1502, wI_ne _ _ _ (by decide)]
                            have s1512 : (h1501.1 105 0).toInt = (h1488.1 105 0).toInt := by rw [g1502, wI_ne _ _ _ (by decide)]
                            have s1513 : (h1501.1 109 0).toInt = (h1488.1 109 0).toInt := by rw [g1502, wI_ne _ _ _ (by decide)]
                            refine R_aload_n (k := 0) rfl rfl rfl ?_
                            refine R_getf_r (j := 23) rfl ft_9_49 sh_96 rfl ?_
                            refine R_aload_n (k := 0) rfl rfl rfl ?_
                            refine R_getf_r (j := 17) rfl ft_9_40 sh_96 rfl ?_
                            refine R_iconst 0 rfl rfl ?_
                            refine R_iald rfl sh_105 (by decide) ?_
                            show RUN d_X9_goSecond 159 [(3, .inl x688), (0, .inr (.inr (.inl 96))), (1, .inl a0), (2, .inl a1)] [.inl (h1501.1 105 0), .inr (.inr (.inl 108))] h1501 _
                            refine R_aload_n (k := 0) rfl rfl rfl ?_
                            refine R_getf_i (j := 20) rfl ft_9_259 sh_96 rfl ?_
                            refine K_iast (a := (h1501.1 105 0).toInt) (lo := (-2147483648)) (hi' := 2147483647) rfl sh_108 rfl ⟨by omega, by omega⟩ hI (by decide) rfl (i_rng _) fr (by decide) (fun h1514 g1515 hI fr => ?_)
                            have fl687 : FR [96, 107, 108, 109, 117, 118] h666 h1514 := by rw [g1515]; exact FR_wI _ _ fl687 (by decide)
                            have fl645 : FR [96, 107, 108, 109, 117, 118] h625 h1514 := by rw [g1515]; exact FR_wI _ _ fl645 (by decide)
                            have s1516 : (h1514.1 96 41).toInt = (h1501.1 96 41).toInt := by rw [g1515, wI_ne _ _ _ (by decide)]
                            have s1517 : (h1514.1 96 42).toInt = (h1501.1 96 42).toInt := by rw [g1515, wI_ne _ _ _ (by decide)]
                            have s1518 : (h1514.1 96 19).toInt = (h1501.1 96 19).toInt := by rw [g1515, wI_ne _ _ _ (by decide)]
                            have s1519 : (h1514.1 96 18).toInt = (h1501.1 96 18).toInt := by rw [g1515, wI_ne _ _ _ (by decide)]
                            have s1520 : (h1514.1 96 20).toInt = (h1501.1 96 20).toInt := by rw [g1515, wI_ne _ _ _ (by decide)]
                            have s1521 : (h1514.1 96 46).toInt = (h1501.1 96 46).toInt := by rw [g1515, wI_ne _ _ _ (by decide)]
                            have s1522 : (h1514.1 96 44).toInt = (h1501.1 96 44).toInt := by rw [g1515, wI_ne _ _ _ (by decide)]
                            have s1523 : (h1514.1 96 47).toInt = (h1501.1 96 47).toInt := by rw [g1515, wI_ne _ _ _ (by decide)]
                            have s1524 : (h1514.1 96 48).toInt = (h1501.1 96 48).toInt := by rw [g1515, wI_ne _ _ _ (by decide)]
                            have s1525 : (h1514.1 105 0).toInt = (h1501.1 105 0).toInt := by rw [g1515, wI_ne _ _ _ (by decide)]
                            have s1526 : (h1514.1 109 0).toInt = (h1501.1 109 0).toInt := by rw [g1515, wI_ne _ _ _ (by decide)]
                            refine R_iconst 0 rfl rfl ?_
                            refine R_istore_n (k := 3) rfl [(3, .inl 0), (0, .inr (.inr (.inl 96))), (1, .inl a0), (2, .inl a1)] rfl rfl (by decide) ?_
                            have lp1528 : ∀ (n1527 : Nat) (h1529 : PH) (x1531 : Int32), INV h1529 → FR [96, 107, 108, 109, 117, 118] h h1529 → FR [107] h1514 h1529 → 0 ≤ x1531.toInt ∧ x1531.toInt ≤ 6 → (6 - x1531.toInt).toNat < n1527 → RUN d_X9_goSecond 166 [(3, .inl x1531), (0, .inr (.inr (.inl 96))), (1, .inl a0), (2, .inl a1)] [] h1529 (q_X9_goSecond h a0 a1) := by
                              intro n1527
                              induction n1527 with
                              | zero => intro h1529 x1531 m1533 m1534 m1535 m1536 hz; exact absurd hz (Nat.not_lt_zero _)
                              | succ n1527 ih1532 =>
                                intro h1529 x1531 hI fr fl1530 m1536 hz
                                have s1537 : (h1529.1 96 41).toInt = (h1514.1 96 41).toInt := by rw [(fl1530 96 (by decide)).1]
                                have s1538 : (h1529.1 96 42).toInt = (h1514.1 96 42).toInt := by rw [(fl1530 96 (by decide)).1]
                                have s1539 : (h1529.1 96 19).toInt = (h1514.1 96 19).toInt := by rw [(fl1530 96 (by decide)).1]
                                have s1540 : (h1529.1 96 18).toInt = (h1514.1 96 18).toInt := by rw [(fl1530 96 (by decide)).1]
                                have s1541 : (h1529.1 96 20).toInt = (h1514.1 96 20).toInt := by rw [(fl1530 96 (by decide)).1]
                                have s1542 : (h1529.1 96 46).toInt = (h1514.1 96 46).toInt := by rw [(fl1530 96 (by decide)).1]
                                have s1543 : (h1529.1 96 44).toInt = (h1514.1 96 44).toInt := by rw [(fl1530 96 (by decide)).1]
                                have s1544 : (h1529.1 96 47).toInt = (h1514.1 96 47).toInt := by rw [(fl1530 96 (by decide)).1]
                                have s1545 : (h1529.1 96 48).toInt = (h1514.1 96 48).toInt := by rw [(fl1530 96 (by decide)).1]
                                have s1546 : (h1529.1 105 0).toInt = (h1514.1 105 0).toInt := by rw [(fl1530 105 (by decide)).1]
                                have s1547 : (h1529.1 109 0).toInt = (h1514.1 109 0).toInt := by rw [(fl1530 109 (by decide)).1]
                                have fl687 : FR [96, 107, 108, 109, 117, 118] h666 h1529 := fl687.trans fl1530 (by decide)
                                have fl645 : FR [96, 107, 108, 109, 117, 118] h625 h1529 := fl645.trans fl1530 (by decide)
                                refine R_iload_n (k := 3) rfl rfl rfl ?_
                                refine R_aload_n (k := 0) rfl rfl rfl ?_
                                refine R_getf_i (j := 18) rfl ft_9_253 sh_96 rfl ?_
                                refine N_icmp_ge (a := x1531.toInt) (b := (h1529.1 96 18).toInt) 224 rfl rfl rfl rfl (fun c1548 => ?_) (fun c1548 => ?_)
                                · exact R_vret rfl rfl ⟨hI, fr, ⟨by omega, by omega, by omega, by omega, by omega, by omega, by omega, by omega, by omega, trivial⟩, rfl⟩
                                · refine R_aload_n (k := 0) rfl rfl rfl ?_
                                  refine R_getf_r (j := 22) rfl ft_9_46 sh_96 rfl ?_
                                  refine R_aload_n (k := 0) rfl rfl rfl ?_
                                  refine R_getf_r (j := 17) rfl ft_9_40 sh_96 rfl ?_
                                  refine R_iload_n (k := 3) rfl rfl rfl ?_
                                  refine R_iald rfl sh_105 ⟨by omega, by omega⟩ ?_
                                  refine N_bd (lo := 0) (hi := 5) (hI.1 105 _) (fun x1549 q1550 => ?_)
                                  refine R_iald rfl sh_107 ⟨by omega, by omega⟩ ?_
                                  refine N_any (fun x1551 => ?_)
                                  refine R_iconst (-1) rfl rfl ?_
                                  refine N_icmp_eq (a := x1551.toInt) (b := (-1)) 218 rfl rfl rfl (by decide) (fun c1552 => ?_) (fun c1552 => ?_)
                                  · refine N_iinc (a := x1531.toInt) (c := 1) (fun w => [(3, .inl w), (0, .inr (.inr (.inl 96))), (1, .inl a0), (2, .inl a1)]) rfl rfl (fun _ => rfl) (by decide) rfl (by decide) (by omega) (fun x1553 q1554 => ?_)
                                    refine R_goto 166 rfl rfl ?_
                                    exact RUN_weak (psub_cons rfl (psub_cons rfl (psub_cons rfl (psub_cons rfl (psub_nil _))))) (ih1532 h1529 x1553 hI fr fl1530 (by omega) (by omega))
                                  · refine R_aload_n (k := 0) rfl rfl rfl ?_
                                    refine R_aload_n (k := 0) rfl rfl rfl ?_
                                    refine R_getf_r (j := 17) rfl ft_9_40 sh_96 rfl ?_
                                    refine R_iload_n (k := 3) rfl rfl rfl ?_
                                    refine R_iald rfl sh_105 ⟨by omega, by omega⟩ ?_
                                    refine N_bd (lo := 0) (hi := 5) (hI.1 105 _) (fun x1555 q1556 => ?_)
                                    refine R_iload_n (k := 1) rfl rfl rfl ?_
                                    refine R_callV (v := .inr (.inr (.inl 96))) (As := [.inl x1555, .inl a0]) (rest := []) rfl mt_9_i271 pp_X9_doesRest (by decide) rfl rfl rfl (Nat.le_of_ble_eq_true rfl) (Nat.le_of_ble_eq_true rfl) ((k_X9_doesRest h1529 hI x1555 a0 (by omega) (by omega)).mono (fun r1557 h1558 p1559 => ?_))
                                    obtain ⟨rfl, x1560, rfl, q1561 | q1561 | q1561⟩ := p1559
                                    · exfalso; omega
                                    · show RUN d_X9_goSecond 200 [(3, .inl x1531), (0, .inr (.inr (.inl 96))), (1, .inl a0), (2, .inl a1)] [.inl x1560] h1529 _
                                      refine N_if_ne (a := x1560.toInt) 218 rfl rfl rfl (fun c1562 => ?_) (fun c1562 => ?_)
                                      · exfalso; omega
                                      · refine R_aload_n (k := 0) rfl rfl rfl ?_
                                        refine R_getf_r (j := 22) rfl ft_9_46 sh_96 rfl ?_
                                        refine R_aload_n (k := 0) rfl rfl rfl ?_
                                        refine R_getf_r (j := 17) rfl ft_9_40 sh_96 rfl ?_
                                        refine R_iload_n (k := 3) rfl rfl rfl ?_
                                        refine R_iald rfl sh_105 ⟨by omega, by omega⟩ ?_
                                        refine N_bd (lo := 0) (hi := 5) (hI.1 105 _) (fun x1563 q1564 => ?_)
                                        refine R_dup2 rfl ?_
                                        refine R_iald rfl sh_107 ⟨by omega, by omega⟩ ?_
                                        refine N_any (fun x1565 => ?_)
                                        refine R_iconst 1 rfl rfl ?_
                                        have b1566 := i_rng x1565
                                        refine R_iadd rfl ?_
                                        refine N_any (fun x1567 => ?_)
                                        refine K_iast (a := x1563.toInt) (lo := (-2147483648)) (hi' := 2147483647) rfl sh_107 rfl ⟨by omega, by omega⟩ hI (by decide) rfl (i_rng _) fr (by decide) (fun h1568 g1569 hI fr => ?_)
                                        have fl1530 : FR [107] h1514 h1568 := by rw [g1569]; exact FR_wI _ _ fl1530 (by decide)
                                        have fl687 : FR [96, 107, 108, 109, 117, 118] h666 h1568 := by rw [g1569]; exact FR_wI _ _ fl687 (by decide)
                                        have fl645 : FR [96, 107, 108, 109, 117, 118] h625 h1568 := by rw [g1569]; exact FR_wI _ _ fl645 (by decide)
                                        have s1570 : (h1568.1 96 41).toInt = (h1529.1 96 41).toInt := by rw [g1569, wI_ne _ _ _ (by decide)]
                                        have s1571 : (h1568.1 96 42).toInt = (h1529.1 96 42).toInt := by rw [g1569, wI_ne _ _ _ (by decide)]
                                        have s1572 : (h1568.1 96 19).toInt = (h1529.1 96 19).toInt := by rw [g1569, wI_ne _ _ _ (by decide)]
                                        have s1573 : (h1568.1 96 18).toInt = (h1529.1 96 18).toInt := by rw [g1569, wI_ne _ _ _ (by decide)]
                                        have s1574 : (h1568.1 96 20).toInt = (h1529.1 96 20).toInt := by rw [g1569, wI_ne _ _ _ (by decide)]
                                        have s1575 : (h1568.1 96 46).toInt = (h1529.1 96 46).toInt := by rw [g1569, wI_ne _ _ _ (by decide)]
                                        have s1576 : (h1568.1 96 44).toInt = (h1529.1 96 44).toInt := by rw [g1569, wI_ne _ _ _ (by decide)]
                                        have s1577 : (h1568.1 96 47).toInt = (h1529.1 96 47).toInt := by rw [g1569, wI_ne _ _ _ (by decide)]
                                        have s1578 : (h1568.1 96 48).toInt = (h1529.1 96 48).toInt := by rw [g1569, wI_ne _ _ _ (by decide)]
                                        have s1579 : (h1568.1 105 0).toInt = (h1529.1 105 0).toInt := by rw [g1569, wI_ne _ _ _ (by decide)]
                                        have s1580 : (h1568.1 109 0).toInt = (h1529.1 109 0).toInt := by rw [g1569, wI_ne _ _ _ (by decide)]
                                        refine N_iinc (a := x1531.toInt) (c := 1) (fun w => [(3, .inl w), (0, .inr (.inr (.inl 96))), (1, .inl a0), (2, .inl a1)]) rfl rfl (fun _ => rfl) (by decide) rfl (by decide) (by omega) (fun x1581 q1582 => ?_)
                                        refine R_goto 166 rfl rfl ?_
                                        exact RUN_weak (psub_cons rfl (psub_cons rfl (psub_cons rfl (psub_cons rfl (psub_nil _))))) (ih1532 h1568 x1581 hI fr fl1530 (by omega) (by omega))
                                    · show RUN d_X9_goSecond 200 [(3, .inl x1531), (0, .inr (.inr (.inl 96))), (1, .inl a0), (2, .inl a1)] [.inl x1560] h1529 _
                                      refine N_if_ne (a := x1560.toInt) 218 rfl rfl rfl (fun c1583 => ?_) (fun c1583 => ?_)
                                      · refine N_iinc (a := x1531.toInt) (c := 1) (fun w => [(3, .inl w), (0, .inr (.inr (.inl 96))), (1, .inl a0), (2, .inl a1)]) rfl rfl (fun _ => rfl) (by decide) rfl (by decide) (by omega) (fun x1584 q1585 => ?_)
                                        refine R_goto 166 rfl rfl ?_
                                        exact RUN_weak (psub_cons rfl (psub_cons rfl (psub_cons rfl (psub_cons rfl (psub_nil _))))) (ih1532 h1529 x1584 hI fr fl1530 (by omega) (by omega))
                                      · exfalso; omega
                            exact lp1528 _ h1514 (0 : Int32) hI fr (FR.rf _ _) (by decide) (Nat.lt_succ_self _)
                      · show RUN d_X9_goSecond 115 [(3, .inl x688), (0, .inr (.inr (.inl 96))), (1, .inl a0), (2, .inl a1)] [.inl x1264] h686 _
                        refine N_if_ne (a := x1264.toInt) 164 rfl rfl rfl (fun c1586 => ?_) (fun c1586 => ?_)
                        · refine R_iconst 0 rfl rfl ?_
                          refine R_istore_n (k := 3) rfl [(3, .inl 0), (0, .inr (.inr (.inl 96))), (1, .inl a0), (2, .inl a1)] rfl rfl (by decide) ?_
                          have lp1588 : ∀ (n1587 : Nat) (h1589 : PH) (x1591 : Int32), INV h1589 → FR [96, 107, 108, 109, 117, 118] h h1589 → FR [107] h686 h1589 → 0 ≤ x1591.toInt ∧ x1591.toInt ≤ 6 → (6 - x1591.toInt).toNat < n1587 → RUN d_X9_goSecond 166 [(3, .inl x1591), (0, .inr (.inr (.inl 96))), (1, .inl a0), (2, .inl a1)] [] h1589 (q_X9_goSecond h a0 a1) := by
                            intro n1587
                            induction n1587 with
                            | zero => intro h1589 x1591 m1593 m1594 m1595 m1596 hz; exact absurd hz (Nat.not_lt_zero _)
                            | succ n1587 ih1592 =>
                              intro h1589 x1591 hI fr fl1590 m1596 hz
                              have s1597 : (h1589.1 96 41).toInt = (h686.1 96 41).toInt := by rw [(fl1590 96 (by decide)).1]
                              have s1598 : (h1589.1 96 42).toInt = (h686.1 96 42).toInt := by rw [(fl1590 96 (by decide)).1]
                              have s1599 : (h1589.1 96 19).toInt = (h686.1 96 19).toInt := by rw [(fl1590 96 (by decide)).1]
                              have s1600 : (h1589.1 96 18).toInt = (h686.1 96 18).toInt := by rw [(fl1590 96 (by decide)).1]
                              have s1601 : (h1589.1 96 20).toInt = (h686.1 96 20).toInt := by rw [(fl1590 96 (by decide)).1]
                              have s1602 : (h1589.1 96 46).toInt = (h686.1 96 46).toInt := by rw [(fl1590 96 (by decide)).1]
                              have s1603 : (h1589.1 96 44).toInt = (h686.1 96 44).toInt := by rw [(fl1590 96 (by decide)).1]
                              have s1604 : (h1589.1 96 47).toInt = (h686.1 96 47).toInt := by rw [(fl1590 96 (by decide)).1]
                              have s1605 : (h1589.1 96 48).toInt = (h686.1 96 48).toInt := by rw [(fl1590 96 (by decide)).1]
                              have s1606 : (h1589.1 105 0).toInt = (h686.1 105 0).toInt := by rw [(fl1590 105 (by decide)).1]
                              have fl687 : FR [96, 107, 108, 109, 117, 118] h666 h1589 := fl687.trans fl1590 (by decide)
                              have fl645 : FR [96, 107, 108, 109, 117, 118] h625 h1589 := fl645.trans fl1590 (by decide)
                              refine R_iload_n (k := 3) rfl rfl rfl ?_
                              refine R_aload_n (k := 0) rfl rfl rfl ?_
                              refine R_getf_i (j := 18) rfl ft_9_253 sh_96 rfl ?_
                              refine N_icmp_ge (a := x1591.toInt) (b := (h1589.1 96 18).toInt) 224 rfl rfl rfl rfl (fun c1607 => ?_) (fun c1607 => ?_)
                              · exact R_vret rfl rfl ⟨hI, fr, ⟨by omega, by omega, by omega, by omega, by omega, by omega, by omega, by omega, by omega, trivial⟩, rfl⟩
                              · refine R_aload_n (k := 0) rfl rfl rfl ?_
                                refine R_getf_r (j := 22) rfl ft_9_46 sh_96 rfl ?_
                                refine R_aload_n (k := 0) rfl rfl rfl ?_
                                refine R_getf_r (j := 17) rfl ft_9_40 sh_96 rfl ?_
                                refine R_iload_n (k := 3) rfl rfl rfl ?_
                                refine R_iald rfl sh_105 ⟨by omega, by omega⟩ ?_
                                refine N_bd (lo := 0) (hi := 5) (hI.1 105 _) (fun x1608 q1609 => ?_)
                                refine R_iald rfl sh_107 ⟨by omega, by omega⟩ ?_
                                refine N_any (fun x1610 => ?_)
                                refine R_iconst (-1) rfl rfl ?_
                                refine N_icmp_eq (a := x1610.toInt) (b := (-1)) 218 rfl rfl rfl (by decide) (fun c1611 => ?_) (fun c1611 => ?_)
                                · refine N_iinc (a := x1591.toInt) (c := 1) (fun w => [(3, .inl w), (0, .inr (.inr (.inl 96))), (1, .inl a0), (2, .inl a1)]) rfl rfl (fun _ => rfl) (by decide) rfl (by decide) (by omega) (fun x1612 q1613 => ?_)
                                  refine R_goto 166 rfl rfl ?_
                                  exact RUN_weak (psub_cons rfl (psub_cons rfl (psub_cons rfl (psub_cons rfl (psub_nil _))))) (ih1592 h1589 x1612 hI fr fl1590 (by omega) (by omega))
                                · refine R_aload_n (k := 0) rfl rfl rfl ?_
                                  refine R_aload_n (k := 0) rfl rfl rfl ?_
                                  refine R_getf_r (j := 17) rfl ft_9_40 sh_96 rfl ?_
                                  refine R_iload_n (k := 3) rfl rfl rfl ?_
                                  refine R_iald rfl sh_105 ⟨by omega, by omega⟩ ?_
                                  refine N_bd (lo := 0) (hi := 5) (hI.1 105 _) (fun x1614 q1615 => ?_)
                                  refine R_iload_n (k := 1) rfl rfl rfl ?_
                                  refine R_callV (v := .inr (.inr (.inl 96))) (As := [.inl x1614, .inl a0]) (rest := []) rfl mt_9_i271 pp_X9_doesRest (by decide) rfl rfl rfl (Nat.le_of_ble_eq_true rfl) (Nat.le_of_ble_eq_true rfl) ((k_X9_doesRest h1589 hI x1614 a0 (by omega) (by omega)).mono (fun r1616 h1617 p1618 => ?_))
                                  obtain ⟨rfl, x1619, rfl, q1620 | q1620 | q1620⟩ := p1618
                                  · exfalso; omega
                                  · show RUN d_X9_goSecond 200 [(3, .inl x1591), (0, .inr (.inr (.inl 96))), (1, .inl a0), (2, .inl a1)] [.inl x1619] h1589 _
                                    refine N_if_ne (a := x1619.toInt) 218 rfl rfl rfl (fun c1621 => ?_) (fun c1621 => ?_)
                                    · exfalso; omega
                                    · refine R_aload_n (k := 0) rfl rfl rfl ?_
                                      refine R_getf_r (j := 22) rfl ft_9_46 sh_96 rfl ?_
                                      refine R_aload_n (k := 0) rfl rfl rfl ?_
                                      refine R_getf_r (j := 17) rfl ft_9_40 sh_96 rfl ?_
                                      refine R_iload_n (k := 3) rfl rfl rfl ?_
                                      refine R_iald rfl sh_105 ⟨by omega, by omega⟩ ?_
                                      refine N_bd (lo := 0) (hi := 5) (hI.1 105 _) (fun x1622 q1623 => ?_)
                                      refine R_dup2 rfl ?_
                                      refine R_iald rfl sh_107 ⟨by omega, by omega⟩ ?_
                                      refine N_any (fun x1624 => ?_)
                                      refine R_iconst 1 rfl rfl ?_
                                      have b1625 := i_rng x1624
                                      refine R_iadd rfl ?_
                                      refine N_any (fun x1626 => ?_)
                                      refine K_iast (a := x1622.toInt) (lo := (-2147483648)) (hi' := 2147483647) rfl sh_107 rfl ⟨by omega, by omega⟩ hI (by decide) rfl (i_rng _) fr (by decide) (fun h1627 g1628 hI fr => ?_)
                                      have fl1590 : FR [107] h686 h1627 := by rw [g1628]; exact FR_wI _ _ fl1590 (by decide)
                                      have fl687 : FR [96, 107, 108, 109, 117, 118] h666 h1627 := by rw [g1628]; exact FR_wI _ _ fl687 (by decide)
                                      have fl645 : FR [96, 107, 108, 109, 117, 118] h625 h1627 := by rw [g1628]; exact FR_wI _ _ fl645 (by decide)
                                      have s1629 : (h1627.1 96 41).toInt = (h1589.1 96 41).toInt := by rw [g1628, wI_ne _ _ _ (by decide)]
                                      have s1630 : (h1627.1 96 42).toInt = (h1589.1 96 42).toInt := by rw [g1628, wI_ne _ _ _ (by decide)]
                                      have s1631 : (h1627.1 96 19).toInt = (h1589.1 96 19).toInt := by rw [g1628, wI_ne _ _ _ (by decide)]
                                      have s1632 : (h1627.1 96 18).toInt = (h1589.1 96 18).toInt := by rw [g1628, wI_ne _ _ _ (by decide)]
                                      have s1633 : (h1627.1 96 20).toInt = (h1589.1 96 20).toInt := by rw [g1628, wI_ne _ _ _ (by decide)]
                                      have s1634 : (h1627.1 96 46).toInt = (h1589.1 96 46).toInt := by rw [g1628, wI_ne _ _ _ (by decide)]
                                      have s1635 : (h1627.1 96 44).toInt = (h1589.1 96 44).toInt := by rw [g1628, wI_ne _ _ _ (by decide)]
                                      have s1636 : (h1627.1 96 47).toInt = (h1589.1 96 47).toInt := by rw [g1628, wI_ne _ _ _ (by decide)]
                                      have s1637 : (h1627.1 96 48).toInt = (h1589.1 96 48).toInt := by rw [g1628, wI_ne _ _ _ (by decide)]
                                      have s1638 : (h1627.1 105 0).toInt = (h1589.1 105 0).toInt := by rw [g1628, wI_ne _ _ _ (by decide)]
                                      refine N_iinc (a := x1591.toInt) (c := 1) (fun w => [(3, .inl w), (0, .inr (.inr (.inl 96))), (1, .inl a0), (2, .inl a1)]) rfl rfl (fun _ => rfl) (by decide) rfl (by decide) (by omega) (fun x1639 q1640 => ?_)
                                      refine R_goto 166 rfl rfl ?_
                                      exact RUN_weak (psub_cons rfl (psub_cons rfl (psub_cons rfl (psub_cons rfl (psub_nil _))))) (ih1592 h1627 x1639 hI fr fl1590 (by omega) (by omega))
                                  · show RUN d_X9_goSecond 200 [(3, .inl x1591), (0, .inr (.inr (.inl 96))), (1, .inl a0), (2, .inl a1)] [.inl x1619] h1589 _
                                    refine N_if_ne (a := x1619.toInt) 218 rfl rfl rfl (fun c1641 => ?_) (fun c1641 => ?_)
                                    · refine N_iinc (a := x1591.toInt) (c := 1) (fun w => [(3, .inl w), (0, .inr (.inr (.inl 96))), (1, .inl a0), (2, .inl a1)]) rfl rfl (fun _ => rfl) (by decide) rfl (by decide) (by omega) (fun x1642 q1643 => ?_)
                                      refine R_goto 166 rfl rfl ?_
                                      exact RUN_weak (psub_cons rfl (psub_cons rfl (psub_cons rfl (psub_cons rfl (psub_nil _))))) (ih1592 h1589 x1642 hI fr fl1590 (by omega) (by omega))
                                    · exfalso; omega
                          exact lp1588 _ h686 (0 : Int32) hI fr (FR.rf _ _) (by decide) (Nat.lt_succ_self _)
                        · exfalso; omega
                · refine R_aload_n (k := 0) rfl rfl rfl ?_
                  refine R_iload_n (k := 3) rfl rfl rfl ?_
                  refine R_iload_n (k := 1) rfl rfl rfl ?_
                  have b1644 := i_rng a0
                  refine R_callV (v := .inr (.inr (.inl 96))) (As := [.inl x688, .inl a0]) (rest := []) rfl mt_9_i278 pp_X9_goPlace (by decide) rfl rfl rfl (Nat.le_of_ble_eq_true rfl) (Nat.le_of_ble_eq_true rfl) ((k_X9_goPlace h686 hI x688 a0 (by omega) (by omega) (by omega)).mono (fun r1645 h1646 p1647 => ?_))
                  obtain ⟨hJ, fj, ⟨kp1648, kp1649, kp1650, kp1651, kp1652, kp1653, kp1654, kp1655, kp1656, -⟩, rfl⟩ := p1647
                  have f1657 := fj
                  have fr := fr.trans fj (by decide)
                  have hI := hJ
                  have fl687 : FR [96, 107, 108, 109, 117, 118] h666 h1646 := fl687.trans fj (by decide)
                  have fl645 : FR [96, 107, 108, 109, 117, 118] h625 h1646 := fl645.trans fj (by decide)
                  show RUN d_X9_goSecond 76 [(3, .inl x688), (0, .inr (.inr (.inl 96))), (1, .inl a0), (2, .inl a1)] [] h1646 _
                  refine N_iinc (a := x688.toInt) (c := (-1)) (fun w => [(3, .inl w), (0, .inr (.inr (.inl 96))), (1, .inl a0), (2, .inl a1)]) rfl rfl (fun _ => rfl) (by decide) rfl (by decide) (by omega) (fun x1658 q1659 => ?_)
                  refine R_goto 62 rfl rfl ?_
                  exact RUN_weak (psub_cons rfl (psub_cons rfl (psub_cons rfl (psub_cons rfl (psub_nil _))))) (ih689 h1646 x1658 hI fr fl687 (by omega) (by omega) (by omega) (by omega) (by omega) (by omega) (by omega) (by omega) (by omega) (by omega) (by omega) (by omega))
          exact lp685 _ h666 x682 hI fr (FR.rf _ _) (by omega) rfl rfl rfl rfl rfl rfl rfl rfl rfl (by omega) (Nat.lt_succ_self _)
        · refine R_aload_n (k := 0) rfl rfl rfl ?_
          refine R_getf_r (j := 24) rfl ft_9_52 sh_96 rfl ?_
          refine R_iload_n (k := 3) rfl rfl rfl ?_
          refine R_aload_n (k := 0) rfl rfl rfl ?_
          refine R_getf_r (j := 24) rfl ft_9_52 sh_96 rfl ?_
          refine R_iload_n (k := 3) rfl rfl rfl ?_
          refine R_iconst 1 rfl rfl ?_
          refine N_iadd (a := x646.toInt) (b := 1) rfl rfl (by decide) (by omega) (fun x1660 q1661 => ?_)
          refine R_iald rfl sh_109 ⟨by omega, by omega⟩ ?_
          refine N_any (fun x1662 => ?_)
          refine K_iast (a := x646.toInt) (lo := (-2147483648)) (hi' := 2147483647) rfl sh_109 rfl ⟨by omega, by omega⟩ hI (by decide) rfl (i_rng _) fr (by decide) (fun h1663 g1664 hI fr => ?_)
          have fl645 : FR [96, 107, 108, 109, 117, 118] h625 h1663 := by rw [g1664]; exact FR_wI _ _ fl645 (by decide)
          have s1665 : (h1663.1 96 34).toInt = (h644.1 96 34).toInt := by rw [g1664, wI_ne _ _ _ (by decide)]
          have s1666 : (h1663.1 96 35).toInt = (h644.1 96 35).toInt := by rw [g1664, wI_ne _ _ _ (by decide)]
          have s1667 : (h1663.1 96 36).toInt = (h644.1 96 36).toInt := by rw [g1664, wI_ne _ _ _ (by decide)]
          have s1668 : (h1663.1 96 41).toInt = (h644.1 96 41).toInt := by rw [g1664, wI_ne _ _ _ (by decide)]
          have s1669 : (h1663.1 96 42).toInt = (h644.1 96 42).toInt := by rw [g1664, wI_ne _ _ _ (by decide)]
          have s1670 : (h1663.1 96 19).toInt = (h644.1 96 19).toInt := by rw [g1664, wI_ne _ _ _ (by decide)]
          have s1671 : (h1663.1 96 18).toInt = (h644.1 96 18).toInt := by rw [g1664, wI_ne _ _ _ (by decide)]
          have s1672 : (h1663.1 96 20).toInt = (h644.1 96 20).toInt := by rw [g1664, wI_ne _ _ _ (by decide)]
          have s1673 : (h1663.1 96 46).toInt = (h644.1 96 46).toInt := by rw [g1664, wI_ne _ _ _ (by decide)]
          have s1674 : (h1663.1 96 44).toInt = (h644.1 96 44).toInt := by rw [g1664, wI_ne _ _ _ (by decide)]
          have s1675 : (h1663.1 96 47).toInt = (h644.1 96 47).toInt := by rw [g1664, wI_ne _ _ _ (by decide)]
          have s1676 : (h1663.1 96 48).toInt = (h644.1 96 48).toInt := by rw [g1664, wI_ne _ _ _ (by decide)]
          have s1677 : (h1663.1 96 51).toInt = (h644.1 96 51).toInt := by rw [g1664, wI_ne _ _ _ (by decide)]
          refine N_iinc (a := x646.toInt) (c := 1) (fun w => [(3, .inl w), (0, .inr (.inr (.inl 96))), (1, .inl a0), (2, .inl a1)]) rfl rfl (fun _ => rfl) (by decide) rfl (by decide) (by omega) (fun x1678 q1679 => ?_)
          refine R_goto 21 rfl rfl ?_
          exact RUN_weak (psub_cons rfl (psub_cons rfl (psub_cons rfl (psub_cons rfl (psub_nil _))))) (ih647 h1663 x1678 hI fr fl645 (by omega) (by omega) (by omega) (by omega) (by omega) (by omega) (by omega) (by omega) (by omega) (by omega) trivial trivial trivial (by omega) (by omega))
    exact lp643 _ h625 (1 : Int32) hI fr (FR.rf _ _) (by decide) rfl rfl rfl rfl rfl rfl rfl rfl rfl trivial trivial trivial (by omega) (Nat.lt_succ_self _)
