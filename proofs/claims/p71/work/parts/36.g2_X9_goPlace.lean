abbrev qg_X9_goPlace (h : PH) (a0 : Int32) (a1 : Int32) : Option PV → PH → Prop := fun r h' => INV h' ∧ FR [96, 107, 108, 109, 117, 118] h h' ∧ ((h'.1 96 18).toInt = (h.1 96 18).toInt ∧ (h'.1 96 41).toInt = (h.1 96 41).toInt ∧ (h'.1 96 42).toInt = (h.1 96 42).toInt ∧ (h'.1 96 19).toInt = (h.1 96 19).toInt ∧ (h'.1 96 20).toInt = (h.1 96 20).toInt ∧ (h'.1 96 46).toInt = (h.1 96 46).toInt ∧ (h'.1 96 44).toInt = (h.1 96 44).toInt ∧ (h'.1 96 47).toInt = (h.1 96 47).toInt ∧ (h'.1 96 48).toInt = (h.1 96 48).toInt ∧ (h'.1 96 51).toInt = (h.1 96 51).toInt ∧ (kyOf h' = zPlace (evOf h) a0 a1 (kyOf h)) ∧ (evOf h' = evOf h) ∧ True) ∧ r = none
set_option maxHeartbeats 4000000 in
set_option maxRecDepth 100000 in
theorem g_X9_goPlace (h : PH) (hI : INV h) (a0 : Int32) (a1 : Int32) (h0a : 0 ≤ a0.toInt ∧ a0.toInt ≤ 5) (h1a : 0 ≤ a1.toInt ∧ a1.toInt ≤ 2147483647) (pr0 : a0.toInt ≤ (h.1 96 18).toInt + (-1)) : CALL d_X9_goPlace [.inr (.inr (.inl 96)), .inl a0, .inl a1] h (qg_X9_goPlace h a0 a1) := by
  show RUN d_X9_goPlace 0 [(0, .inr (.inr (.inl 96))), (1, .inl a0), (2, .inl a1)] [] h _
  have fr : FR [96, 107, 108, 109, 117, 118] h h := FR.rf _ _
  have hK : kyOf h = kyOf h := rfl
  have hE : evOf h = evOf h := rfl
  have b1 : (0 : Int) ≤ (h.1 96 18).toInt ∧ (h.1 96 18).toInt ≤ 6 := hI.1 96 18
  have b2 : (h.1 96 18).toInt = ((evOf h).2.2.2.2.1).toInt := congrArg (fun q : EV => (q.2.2.2.2.1).toInt) hE
  have b3 : (0 : Int) ≤ (h.1 96 51).toInt ∧ (h.1 96 51).toInt ≤ 720 := hI.1 96 51
  refine R_aload_n (k := 0) rfl rfl rfl ?_
  refine R_getf_r (j := 17) rfl ft_9_40 sh_96 rfl ?_
  refine R_iload_n (k := 1) rfl rfl rfl ?_
  refine R_iald rfl sh_105 ⟨by omega, by omega⟩ ?_
  refine N_eq (fun x4 e5 => ?_)
  have q6 : 0 ≤ x4.toInt ∧ x4.toInt ≤ 5 := by rw [e5]; exact hI.1 105 _
  have e7 : x4 = (evOf h).2.2.2.1 a0.toNatClampNeg := by rw [e5]; exact congrFun (congrArg (fun q : EV => q.2.2.2.1) hE) _
  refine R_istore_n (k := 3) rfl [(3, .inl x4), (0, .inr (.inr (.inl 96))), (1, .inl a0), (2, .inl a1)] rfl rfl (by decide) ?_
  refine R_aload_n (k := 0) rfl rfl rfl ?_
  refine R_getf_r (j := 22) rfl ft_9_46 sh_96 rfl ?_
  refine R_iload_n (k := 3) rfl rfl rfl ?_
  refine R_iald rfl sh_107 ⟨by omega, by omega⟩ ?_
  refine N_eq (fun x8 e9 => ?_)
  have e10 : x8 = ((kyOf h).1) x4.toNatClampNeg := by rw [e9]; exact (ky_at107 (nlt ⟨by omega, by omega⟩)).trans (congrFun (congrArg (fun q : KY => q.1) hK) _)
  refine R_aload_n (k := 0) rfl rfl rfl ?_
  refine R_getf_r (j := 15) rfl ft_9_34 sh_96 rfl ?_
  refine R_iload_n (k := 3) rfl rfl rfl ?_
  refine R_iald rfl sh_103 ⟨by omega, by omega⟩ ?_
  refine N_eq (fun x11 e12 => ?_)
  have e13 : x11 = (evOf h).2.1 x4.toNatClampNeg := by rw [e12]; exact congrFun (congrArg (fun q : EV => q.2.1) hE) _
  refine N_icmp_lt (a := x8.toInt) (b := x11.toInt) 31 rfl rfl rfl rfl (fun c14 => ?_) (fun c14 => ?_)
  · have hF : kyOf h = zPlace (evOf h) a0 a1 (kyOf h) := by
      refine hK.trans ?_
      subst e13 e10 e7
      simp only [zPlace, zPlace1, zThrow, zGive, ePace, eLine, eMany, eWorld] <;> (repeat' split) <;> first | (exfalso; omega) | rfl
    exact R_vret rfl rfl ⟨hI, fr, ⟨by omega, by omega, by omega, by omega, by omega, by omega, by omega, by omega, by omega, by omega, hF, hE, trivial⟩, rfl⟩
  · refine R_aload_n (k := 0) rfl rfl rfl ?_
    refine R_iload_n (k := 3) rfl rfl rfl ?_
    refine R_iload_n (k := 2) rfl rfl rfl ?_
    have b15 := i_rng a1
    refine R_callV (v := .inr (.inr (.inl 96))) (As := [.inl x4, .inl a1]) (rest := []) rfl mt_9_i271 pp_X9_doesRest (by decide) rfl rfl rfl (Nat.le_of_ble_eq_true rfl) (Nat.le_of_ble_eq_true rfl) ((g_X9_doesRest h hI x4 a1 (by omega) (by omega)).mono (fun r16 h17 p18 => ?_))
    obtain ⟨rfl, x20, rfl, (q21 | q21 | q21), zq19, -⟩ := p18
    · rw [hE] at zq19
      show RUN d_X9_goPlace 28 [(3, .inl x4), (0, .inr (.inr (.inl 96))), (1, .inl a0), (2, .inl a1)] [.inl x20] h _
      refine N_if_eq (a := x20.toInt) 32 rfl rfl rfl (fun c22 => ?_) (fun c22 => ?_)
      · refine R_iload_n (k := 1) rfl rfl rfl ?_
        refine R_aload_n (k := 0) rfl rfl rfl ?_
        refine R_getf_i (j := 18) rfl ft_9_253 sh_96 rfl ?_
        refine R_iconst 1 rfl rfl ?_
        refine R_isub rfl ?_
        refine N_eq (fun x23 e24 => ?_)
        have q25 : x23.toInt = (h.1 96 18).toInt - 1 := by rw [e24]; exact i_sub rfl (by decide) (by omega)
        refine N_icmp_ne (a := a0.toInt) (b := x23.toInt) 104 rfl rfl rfl rfl (fun c26 => ?_) (fun c26 => ?_)
        · refine R_aload_n (k := 0) rfl rfl rfl ?_
          refine R_getf_r (j := 17) rfl ft_9_40 sh_96 rfl ?_
          refine R_iload_n (k := 1) rfl rfl rfl ?_
          refine R_iconst 1 rfl rfl ?_
          refine R_iadd rfl ?_
          refine N_eq (fun x27 e28 => ?_)
          have q29 : x27.toInt = a0.toInt + 1 := by rw [e28]; exact i_add rfl (by decide) (by omega)
          refine R_iald rfl sh_105 ⟨by omega, by omega⟩ ?_
          refine N_eq (fun x30 e31 => ?_)
          have q32 : 0 ≤ x30.toInt ∧ x30.toInt ≤ 5 := by rw [e31]; exact hI.1 105 _
          have e33 : x30 = (evOf h).2.2.2.1 x27.toNatClampNeg := by rw [e31]; exact congrFun (congrArg (fun q : EV => q.2.2.2.1) hE) _
          refine R_istore (k := 4) [(4, .inl x30), (3, .inl x4), (0, .inr (.inr (.inl 96))), (1, .inl a0), (2, .inl a1)] rfl rfl (by decide) ?_
          refine R_aload_n (k := 0) rfl rfl rfl ?_
          refine R_getf_r (j := 22) rfl ft_9_46 sh_96 rfl ?_
          refine R_iload (k := 4) rfl rfl ?_
          refine R_iald rfl sh_107 ⟨by omega, by omega⟩ ?_
          refine N_eq (fun x34 e35 => ?_)
          have e36 : x34 = ((kyOf h).1) x30.toNatClampNeg := by rw [e35]; exact (ky_at107 (nlt ⟨by omega, by omega⟩)).trans (congrFun (congrArg (fun q : KY => q.1) hK) _)
          refine R_iconst (-1) rfl rfl ?_
          refine N_icmp_ne (a := x34.toInt) (b := (-1)) 135 rfl rfl rfl (by decide) (fun c37 => ?_) (fun c37 => ?_)
          · have hF : kyOf h = zPlace (evOf h) a0 a1 (kyOf h) := by
              refine hK.trans ?_
              subst e36 e33 e28 e24 e13 e10 e7
              simp only [zPlace, zPlace1, zThrow, zGive, ePace, eLine, eMany, eWorld] <;> (repeat' split) <;> first | (exfalso; omega) | rfl
            exact R_vret rfl rfl ⟨hI, fr, ⟨by omega, by omega, by omega, by omega, by omega, by omega, by omega, by omega, by omega, by omega, hF, hE, trivial⟩, rfl⟩
          · refine R_aload_n (k := 0) rfl rfl rfl ?_
            refine R_iload (k := 4) rfl rfl ?_
            refine R_iload_n (k := 2) rfl rfl rfl ?_
            have b38 := i_rng a1
            refine R_callV (v := .inr (.inr (.inl 96))) (As := [.inl x30, .inl a1]) (rest := []) rfl mt_9_i271 pp_X9_doesRest (by decide) rfl rfl rfl (Nat.le_of_ble_eq_true rfl) (Nat.le_of_ble_eq_true rfl) ((g_X9_doesRest h hI x30 a1 (by omega) (by omega)).mono (fun r39 h40 p41 => ?_))
            obtain ⟨rfl, x43, rfl, (q44 | q44 | q44), zq42, -⟩ := p41
            · rw [hE] at zq42
              show RUN d_X9_goPlace 132 [(4, .inl x30), (3, .inl x4), (0, .inr (.inr (.inl 96))), (1, .inl a0), (2, .inl a1)] [.inl x43] h _
              refine N_if_eq (a := x43.toInt) 136 rfl rfl rfl (fun c45 => ?_) (fun c45 => ?_)
              · refine R_aload_n (k := 0) rfl rfl rfl ?_
                refine R_iload_n (k := 3) rfl rfl rfl ?_
                refine R_callV (v := .inr (.inr (.inl 96))) (As := [.inl x4]) (rest := []) rfl mt_9_i275 pp_X9_spill (by decide) rfl rfl rfl (Nat.le_of_ble_eq_true rfl) (Nat.le_of_ble_eq_true rfl) ((g_X9_spill h hI x4 (by omega)).mono (fun r46 h47 p48 => ?_))
                obtain ⟨hJ, fj, ⟨kp49, kp50, kp51, kp52, kp53, kp54, kp55, kp56, kp57, kp58, kp59, xq60, xq61, -⟩, rfl⟩ := p48
                have f62 := fj
                have fr := fr.trans fj (by decide)
                have hI := hJ
                have hK : kyOf h47 = zSpill (evOf h) x4 (kyOf h) := by rw [xq60, hE, hK]
                have hE : evOf h47 = evOf h := xq61.trans hE
                show RUN d_X9_goPlace 141 [(4, .inl x30), (3, .inl x4), (0, .inr (.inr (.inl 96))), (1, .inl a0), (2, .inl a1)] [] h47 _
                refine R_aload_n (k := 0) rfl rfl rfl ?_
                refine R_getf_r (j := 22) rfl ft_9_46 sh_96 rfl ?_
                refine R_iload (k := 4) rfl rfl ?_
                refine R_iconst 0 rfl rfl ?_
                refine K_iast (a := x30.toInt) (lo := (-2147483648)) (hi' := 2147483647) rfl sh_107 rfl ⟨by omega, by omega⟩ hI (by decide) rfl (by decide) fr (by decide) (fun h63 g64 hI fr => ?_)
                have s65 : (h63.1 96 18).toInt = (h47.1 96 18).toInt := by rw [g64, wI_ne _ _ _ (by decide)]
                have s66 : (h63.1 96 34).toInt = (h47.1 96 34).toInt := by rw [g64, wI_ne _ _ _ (by decide)]
                have s67 : (h63.1 96 41).toInt = (h47.1 96 41).toInt := by rw [g64, wI_ne _ _ _ (by decide)]
                have s68 : (h63.1 96 42).toInt = (h47.1 96 42).toInt := by rw [g64, wI_ne _ _ _ (by decide)]
                have s69 : (h63.1 96 19).toInt = (h47.1 96 19).toInt := by rw [g64, wI_ne _ _ _ (by decide)]
                have s70 : (h63.1 96 20).toInt = (h47.1 96 20).toInt := by rw [g64, wI_ne _ _ _ (by decide)]
                have s71 : (h63.1 96 46).toInt = (h47.1 96 46).toInt := by rw [g64, wI_ne _ _ _ (by decide)]
                have s72 : (h63.1 96 44).toInt = (h47.1 96 44).toInt := by rw [g64, wI_ne _ _ _ (by decide)]
                have s73 : (h63.1 96 47).toInt = (h47.1 96 47).toInt := by rw [g64, wI_ne _ _ _ (by decide)]
                have s74 : (h63.1 96 48).toInt = (h47.1 96 48).toInt := by rw [g64, wI_ne _ _ _ (by decide)]
                have s75 : (h63.1 96 51).toInt = (h47.1 96 51).toInt := by rw [g64, wI_ne _ _ _ (by decide)]
                have hK : kyOf h63 = (upd ((zSpill (evOf h) x4 (kyOf h)).1) x30.toNatClampNeg (0), (zSpill (evOf h) x4 (kyOf h)).2.1, (zSpill (evOf h) x4 (kyOf h)).2.2.1, (zSpill (evOf h) x4 (kyOf h)).2.2.2) := by rw [g64, ky_107 (nlt ⟨by omega, by omega⟩), hK] <;> rfl
                have hE : evOf h63 = evOf h := by rw [g64, ev_o (by decide), hE]
                refine R_aload_n (k := 0) rfl rfl rfl ?_
                refine R_getf_r (j := 23) rfl ft_9_49 sh_96 rfl ?_
                refine R_iload (k := 4) rfl rfl ?_
                refine R_aload_n (k := 0) rfl rfl rfl ?_
                refine R_getf_r (j := 23) rfl ft_9_49 sh_96 rfl ?_
                refine R_iload_n (k := 3) rfl rfl rfl ?_
                refine R_iald rfl sh_108 ⟨by omega, by omega⟩ ?_
                refine N_eq (fun x76 e77 => ?_)
                have e78 : x76 = ((zSpill (evOf h) x4 (kyOf h)).2.1) x4.toNatClampNeg := by rw [e77]; exact (ky_at108 (nlt ⟨by omega, by omega⟩)).trans (congrFun (congrArg (fun q : KY => q.2.1) hK) _)
                refine K_iast (a := x30.toInt) (lo := (-2147483648)) (hi' := 2147483647) rfl sh_108 rfl ⟨by omega, by omega⟩ hI (by decide) rfl (i_rng _) fr (by decide) (fun h79 g80 hI fr => ?_)
                have s81 : (h79.1 96 18).toInt = (h63.1 96 18).toInt := by rw [g80, wI_ne _ _ _ (by decide)]
                have s82 : (h79.1 96 34).toInt = (h63.1 96 34).toInt := by rw [g80, wI_ne _ _ _ (by decide)]
                have s83 : (h79.1 96 41).toInt = (h63.1 96 41).toInt := by rw [g80, wI_ne _ _ _ (by decide)]
                have s84 : (h79.1 96 42).toInt = (h63.1 96 42).toInt := by rw [g80, wI_ne _ _ _ (by decide)]
                have s85 : (h79.1 96 19).toInt = (h63.1 96 19).toInt := by rw [g80, wI_ne _ _ _ (by decide)]
                have s86 : (h79.1 96 20).toInt = (h63.1 96 20).toInt := by rw [g80, wI_ne _ _ _ (by decide)]
                have s87 : (h79.1 96 46).toInt = (h63.1 96 46).toInt := by rw [g80, wI_ne _ _ _ (by decide)]
                have s88 : (h79.1 96 44).toInt = (h63.1 96 44).toInt := by rw [g80, wI_ne _ _ _ (by decide)]
                have s89 : (h79.1 96 47).toInt = (h63.1 96 47).toInt := by rw [g80, wI_ne _ _ _ (by decide)]
                have s90 : (h79.1 96 48).toInt = (h63.1 96 48).toInt := by rw [g80, wI_ne _ _ _ (by decide)]
                have s91 : (h79.1 96 51).toInt = (h63.1 96 51).toInt := by rw [g80, wI_ne _ _ _ (by decide)]
                have hK : kyOf h79 = (upd ((zSpill (evOf h) x4 (kyOf h)).1) x30.toNatClampNeg (0), upd ((zSpill (evOf h) x4 (kyOf h)).2.1) x30.toNatClampNeg x76, (zSpill (evOf h) x4 (kyOf h)).2.2.1, (zSpill (evOf h) x4 (kyOf h)).2.2.2) := by rw [g80, ky_108 (nlt ⟨by omega, by omega⟩), hK] <;> rfl
                have hE : evOf h79 = evOf h := by rw [g80, ev_o (by decide), hE]
                refine R_aload_n (k := 0) rfl rfl rfl ?_
                refine R_getf_r (j := 22) rfl ft_9_46 sh_96 rfl ?_
                refine R_iload_n (k := 3) rfl rfl rfl ?_
                refine R_iconst (-1) rfl rfl ?_
                refine K_iast (a := x4.toInt) (lo := (-2147483648)) (hi' := 2147483647) rfl sh_107 rfl ⟨by omega, by omega⟩ hI (by decide) rfl (by decide) fr (by decide) (fun h92 g93 hI fr => ?_)
                have s94 : (h92.1 96 18).toInt = (h79.1 96 18).toInt := by rw [g93, wI_ne _ _ _ (by decide)]
                have s95 : (h92.1 96 34).toInt = (h79.1 96 34).toInt := by rw [g93, wI_ne _ _ _ (by decide)]
                have s96 : (h92.1 96 41).toInt = (h79.1 96 41).toInt := by rw [g93, wI_ne _ _ _ (by decide)]
                have s97 : (h92.1 96 42).toInt = (h79.1 96 42).toInt := by rw [g93, wI_ne _ _ _ (by decide)]
                have s98 : (h92.1 96 19).toInt = (h79.1 96 19).toInt := by rw [g93, wI_ne _ _ _ (by decide)]
                have s99 : (h92.1 96 20).toInt = (h79.1 96 20).toInt := by rw [g93, wI_ne _ _ _ (by decide)]
                have s100 : (h92.1 96 46).toInt = (h79.1 96 46).toInt := by rw [g93, wI_ne _ _ _ (by decide)]
                have s101 : (h92.1 96 44).toInt = (h79.1 96 44).toInt := by rw [g93, wI_ne _ _ _ (by decide)]
                have s102 : (h92.1 96 47).toInt = (h79.1 96 47).toInt := by rw [g93, wI_ne _ _ _ (by decide)]
                have s103 : (h92.1 96 48).toInt = (h79.1 96 48).toInt := by rw [g93, wI_ne _ _ _ (by decide)]
                have s104 : (h92.1 96 51).toInt = (h79.1 96 51).toInt := by rw [g93, wI_ne _ _ _ (by decide)]
                have hK : kyOf h92 = (upd (upd ((zSpill (evOf h) x4 (kyOf h)).1) x30.toNatClampNeg (0)) x4.toNatClampNeg ((-1)), upd ((zSpill (evOf h) x4 (kyOf h)).2.1) x30.toNatClampNeg x76, (zSpill (evOf h) x4 (kyOf h)).2.2.1, (zSpill (evOf h) x4 (kyOf h)).2.2.2) := by rw [g93, ky_107 (nlt ⟨by omega, by omega⟩), hK] <;> rfl
                have hE : evOf h92 = evOf h := by rw [g93, ev_o (by decide), hE]
                refine R_aload_n (k := 0) rfl rfl rfl ?_
                refine R_getf_r (j := 23) rfl ft_9_49 sh_96 rfl ?_
                refine R_iload_n (k := 3) rfl rfl rfl ?_
                refine R_iconst 0 rfl rfl ?_
                refine K_iast (a := x4.toInt) (lo := (-2147483648)) (hi' := 2147483647) rfl sh_108 rfl ⟨by omega, by omega⟩ hI (by decide) rfl (by decide) fr (by decide) (fun h105 g106 hI fr => ?_)
                have s107 : (h105.1 96 18).toInt = (h92.1 96 18).toInt := by rw [g106, wI_ne _ _ _ (by decide)]
                have s108 : (h105.1 96 34).toInt = (h92.1 96 34).toInt := by rw [g106, wI_ne _ _ _ (by decide)]
                have s109 : (h105.1 96 41).toInt = (h92.1 96 41).toInt := by rw [g106, wI_ne _ _ _ (by decide)]
                have s110 : (h105.1 96 42).toInt = (h92.1 96 42).toInt := by rw [g106, wI_ne _ _ _ (by decide)]
                have s111 : (h105.1 96 19).toInt = (h92.1 96 19).toInt := by rw [g106, wI_ne _ _ _ (by decide)]
                have s112 : (h105.1 96 20).toInt = (h92.1 96 20).toInt := by rw [g106, wI_ne _ _ _ (by decide)]
                have s113 : (h105.1 96 46).toInt = (h92.1 96 46).toInt := by rw [g106, wI_ne _ _ _ (by decide)]
                have s114 : (h105.1 96 44).toInt = (h92.1 96 44).toInt := by rw [g106, wI_ne _ _ _ (by decide)]
                have s115 : (h105.1 96 47).toInt = (h92.1 96 47).toInt := by rw [g106, wI_ne _ _ _ (by decide)]
                have s116 : (h105.1 96 48).toInt = (h92.1 96 48).toInt := by rw [g106, wI_ne _ _ _ (by decide)]
                have s117 : (h105.1 96 51).toInt = (h92.1 96 51).toInt := by rw [g106, wI_ne _ _ _ (by decide)]
                have hK : kyOf h105 = (upd (upd ((zSpill (evOf h) x4 (kyOf h)).1) x30.toNatClampNeg (0)) x4.toNatClampNeg ((-1)), upd (upd ((zSpill (evOf h) x4 (kyOf h)).2.1) x30.toNatClampNeg x76) x4.toNatClampNeg (0), (zSpill (evOf h) x4 (kyOf h)).2.2.1, (zSpill (evOf h) x4 (kyOf h)).2.2.2) := by rw [g106, ky_108 (nlt ⟨by omega, by omega⟩), hK] <;> rfl
                have hE : evOf h105 = evOf h := by rw [g106, ev_o (by decide), hE]
                have hF : kyOf h105 = zPlace (evOf h) a0 a1 (kyOf h) := by
                  refine hK.trans ?_
                  subst e78 e36 e33 e28 e24 e13 e10 e7
                  simp only [zPlace, zPlace1, zThrow, zGive, ePace, eLine, eMany, eWorld] <;> (repeat' split) <;> first | (exfalso; omega) | rfl
                exact R_vret rfl rfl ⟨hI, fr, ⟨by omega, by omega, by omega, by omega, by omega, by omega, by omega, by omega, by omega, by omega, hF, hE, trivial⟩, rfl⟩
              · exfalso; omega
            · rw [hE] at zq42
              exfalso; omega
            · rw [hE] at zq42
              exfalso; omega
        · refine R_aload_n (k := 0) rfl rfl rfl ?_
          refine R_iload_n (k := 3) rfl rfl rfl ?_
          refine R_callV (v := .inr (.inr (.inl 96))) (As := [.inl x4]) (rest := []) rfl mt_9_i275 pp_X9_spill (by decide) rfl rfl rfl (Nat.le_of_ble_eq_true rfl) (Nat.le_of_ble_eq_true rfl) ((g_X9_spill h hI x4 (by omega)).mono (fun r118 h119 p120 => ?_))
          obtain ⟨hJ, fj, ⟨kp121, kp122, kp123, kp124, kp125, kp126, kp127, kp128, kp129, kp130, kp131, xq132, xq133, -⟩, rfl⟩ := p120
          have f134 := fj
          have fr := fr.trans fj (by decide)
          have hI := hJ
          have hK : kyOf h119 = zSpill (evOf h) x4 (kyOf h) := by rw [xq132, hE, hK]
          have hE : evOf h119 = evOf h := xq133.trans hE
          show RUN d_X9_goPlace 47 [(3, .inl x4), (0, .inr (.inr (.inl 96))), (1, .inl a0), (2, .inl a1)] [] h119 _
          refine R_aload_n (k := 0) rfl rfl rfl ?_
          refine R_dup_r rfl ?_
          refine R_getf_i (j := 35) rfl ft_9_265 sh_96 rfl ?_
          refine N_eq (fun x135 e136 => ?_)
          have e137 : x135 = (zSpill (evOf h) x4 (kyOf h)).2.2.2 := by rw [e136]; exact congrArg (fun q : KY => q.2.2.2) hK
          refine R_aload_n (k := 0) rfl rfl rfl ?_
          refine R_getf_r (j := 23) rfl ft_9_49 sh_96 rfl ?_
          refine R_iload_n (k := 3) rfl rfl rfl ?_
          refine R_iald rfl sh_108 ⟨by omega, by omega⟩ ?_
          refine N_eq (fun x138 e139 => ?_)
          have e140 : x138 = ((zSpill (evOf h) x4 (kyOf h)).2.1) x4.toNatClampNeg := by rw [e139]; exact (ky_at108 (nlt ⟨by omega, by omega⟩)).trans (congrFun (congrArg (fun q : KY => q.2.1) hK) _)
          have b141 := i_rng x135
          have b142 := i_rng x138
          refine R_iadd rfl ?_
          refine N_eq (fun x143 e144 => ?_)
          refine K_putf (j := 35) (lo := (-2147483648)) (hi' := 2147483647) rfl ft_9_265 sh_96 rfl hI (by decide) rfl (i_rng _) fr (by decide) (fun h145 g146 hI fr => ?_)
          have s147 : (h145.1 96 18).toInt = (h119.1 96 18).toInt := by rw [g146, wI_at (by decide)]
          have s148 : (h145.1 96 34).toInt = (h119.1 96 34).toInt := by rw [g146, wI_at (by decide)]
          have s149 : (h145.1 96 41).toInt = (h119.1 96 41).toInt := by rw [g146, wI_at (by decide)]
          have s150 : (h145.1 96 42).toInt = (h119.1 96 42).toInt := by rw [g146, wI_at (by decide)]
          have s151 : (h145.1 96 19).toInt = (h119.1 96 19).toInt := by rw [g146, wI_at (by decide)]
          have s152 : (h145.1 96 20).toInt = (h119.1 96 20).toInt := by rw [g146, wI_at (by decide)]
          have s153 : (h145.1 96 46).toInt = (h119.1 96 46).toInt := by rw [g146, wI_at (by decide)]
          have s154 : (h145.1 96 44).toInt = (h119.1 96 44).toInt := by rw [g146, wI_at (by decide)]
          have s155 : (h145.1 96 47).toInt = (h119.1 96 47).toInt := by rw [g146, wI_at (by decide)]
          have s156 : (h145.1 96 48).toInt = (h119.1 96 48).toInt := by rw [g146, wI_at (by decide)]
          have s157 : (h145.1 96 51).toInt = (h119.1 96 51).toInt := by rw [g146, wI_at (by decide)]
          have hK : kyOf h145 = ((zSpill (evOf h) x4 (kyOf h)).1, (zSpill (evOf h) x4 (kyOf h)).2.1, (zSpill (evOf h) x4 (kyOf h)).2.2.1, x143) := by rw [g146, ky_35, hK] <;> rfl
          have hE : evOf h145 = evOf h := by rw [g146, ev_s (by decide), hE]
          have s158 : (h145.1 96 35).toInt = x143.toInt := by rw [g146, wI_is]
          refine R_aload_n (k := 0) rfl rfl rfl ?_
          refine R_dup_r rfl ?_
          refine R_getf_i (j := 34) rfl ft_9_262 sh_96 rfl ?_
          refine R_iconst 1 rfl rfl ?_
          have b159 := i_rng (h145.1 96 34)
          refine R_iadd rfl ?_
          refine N_eq (fun x160 e161 => ?_)
          refine K_putf (j := 34) (lo := (-2147483648)) (hi' := 2147483647) rfl ft_9_262 sh_96 rfl hI (by decide) rfl (i_rng _) fr (by decide) (fun h162 g163 hI fr => ?_)
          have s164 : (h162.1 96 18).toInt = (h145.1 96 18).toInt := by rw [g163, wI_at (by decide)]
          have s165 : (h162.1 96 41).toInt = (h145.1 96 41).toInt := by rw [g163, wI_at (by decide)]
          have s166 : (h162.1 96 42).toInt = (h145.1 96 42).toInt := by rw [g163, wI_at (by decide)]
          have s167 : (h162.1 96 19).toInt = (h145.1 96 19).toInt := by rw [g163, wI_at (by decide)]
          have s168 : (h162.1 96 20).toInt = (h145.1 96 20).toInt := by rw [g163, wI_at (by decide)]
          have s169 : (h162.1 96 46).toInt = (h145.1 96 46).toInt := by rw [g163, wI_at (by decide)]
          have s170 : (h162.1 96 44).toInt = (h145.1 96 44).toInt := by rw [g163, wI_at (by decide)]
          have s171 : (h162.1 96 47).toInt = (h145.1 96 47).toInt := by rw [g163, wI_at (by decide)]
          have s172 : (h162.1 96 48).toInt = (h145.1 96 48).toInt := by rw [g163, wI_at (by decide)]
          have s173 : (h162.1 96 51).toInt = (h145.1 96 51).toInt := by rw [g163, wI_at (by decide)]
          have s174 : (h162.1 96 35).toInt = (h145.1 96 35).toInt := by rw [g163, wI_at (by decide)]
          have hK : kyOf h162 = ((zSpill (evOf h) x4 (kyOf h)).1, (zSpill (evOf h) x4 (kyOf h)).2.1, (zSpill (evOf h) x4 (kyOf h)).2.2.1, x143) := by rw [g163, ky_s (by decide), hK]
          have hE : evOf h162 = evOf h := by rw [g163, ev_s (by decide), hE]
          have s175 : (h162.1 96 34).toInt = x160.toInt := by rw [g163, wI_is]
          refine R_aload_n (k := 0) rfl rfl rfl ?_
          refine R_getf_r (j := 24) rfl ft_9_52 sh_96 rfl ?_
          refine R_aload_n (k := 0) rfl rfl rfl ?_
          refine R_getf_r (j := 1) rfl ft_9_9 sh_96 rfl ?_
          refine R_iconst 3 rfl rfl ?_
          refine R_iald rfl sh_97 (by decide) ?_
          refine N_eq (fun x176 e177 => ?_)
          have q178 : 0 ≤ x176.toInt ∧ x176.toInt ≤ 20 := by rw [e177]; exact hI.1 97 _
          have e179 : x176 = (evOf h).1 (3 : Int32).toNatClampNeg := by rw [e177]; exact congrFun (congrArg (fun q : EV => q.1) hE) _
          refine R_iconst 1 rfl rfl ?_
          refine R_iadd rfl ?_
          refine N_eq (fun x180 e181 => ?_)
          have q182 : x180.toInt = x176.toInt + 1 := by rw [e181]; exact i_add rfl (by decide) (by omega)
          refine R_dup2 rfl ?_
          refine R_iald rfl sh_109 ⟨by omega, by omega⟩ ?_
          refine N_eq (fun x183 e184 => ?_)
          have e185 : x183 = ((zSpill (evOf h) x4 (kyOf h)).2.2.1) x180.toNatClampNeg := by rw [e184]; exact (ky_at109 (nlt ⟨by omega, by omega⟩)).trans (congrFun (congrArg (fun q : KY => q.2.2.1) hK) _)
          refine R_iconst 1 rfl rfl ?_
          have b186 := i_rng x183
          refine R_iadd rfl ?_
          refine N_eq (fun x187 e188 => ?_)
          refine K_iast (a := x180.toInt) (lo := (-2147483648)) (hi' := 2147483647) rfl sh_109 rfl ⟨by omega, by omega⟩ hI (by decide) rfl (i_rng _) fr (by decide) (fun h189 g190 hI fr => ?_)
          have s191 : (h189.1 96 18).toInt = (h162.1 96 18).toInt := by rw [g190, wI_ne _ _ _ (by decide)]
          have s192 : (h189.1 96 41).toInt = (h162.1 96 41).toInt := by rw [g190, wI_ne _ _ _ (by decide)]
          have s193 : (h189.1 96 42).toInt = (h162.1 96 42).toInt := by rw [g190, wI_ne _ _ _ (by decide)]
          have s194 : (h189.1 96 19).toInt = (h162.1 96 19).toInt := by rw [g190, wI_ne _ _ _ (by decide)]
          have s195 : (h189.1 96 20).toInt = (h162.1 96 20).toInt := by rw [g190, wI_ne _ _ _ (by decide)]
          have s196 : (h189.1 96 46).toInt = (h162.1 96 46).toInt := by rw [g190, wI_ne _ _ _ (by decide)]
          have s197 : (h189.1 96 44).toInt = (h162.1 96 44).toInt := by rw [g190, wI_ne _ _ _ (by decide)]
          have s198 : (h189.1 96 47).toInt = (h162.1 96 47).toInt := by rw [g190, wI_ne _ _ _ (by decide)]
          have s199 : (h189.1 96 48).toInt = (h162.1 96 48).toInt := by rw [g190, wI_ne _ _ _ (by decide)]
          have s200 : (h189.1 96 51).toInt = (h162.1 96 51).toInt := by rw [g190, wI_ne _ _ _ (by decide)]
          have s201 : (h189.1 96 35).toInt = (h162.1 96 35).toInt := by rw [g190, wI_ne _ _ _ (by decide)]
          have s202 : (h189.1 96 34).toInt = (h162.1 96 34).toInt := by rw [g190, wI_ne _ _ _ (by decide)]
          have hK : kyOf h189 = ((zSpill (evOf h) x4 (kyOf h)).1, (zSpill (evOf h) x4 (kyOf h)).2.1, upd ((zSpill (evOf h) x4 (kyOf h)).2.2.1) x180.toNatClampNeg x187, x143) := by rw [g190, ky_109 (nlt ⟨by omega, by omega⟩), hK] <;> rfl
          have hE : evOf h189 = evOf h := by rw [g190, ev_o (by decide), hE]
          refine R_aload_n (k := 0) rfl rfl rfl ?_
          refine R_getf_r (j := 22) rfl ft_9_46 sh_96 rfl ?_
          refine R_iload_n (k := 3) rfl rfl rfl ?_
          refine R_iconst (-1) rfl rfl ?_
          refine K_iast (a := x4.toInt) (lo := (-2147483648)) (hi' := 2147483647) rfl sh_107 rfl ⟨by omega, by omega⟩ hI (by decide) rfl (by decide) fr (by decide) (fun h203 g204 hI fr => ?_)
          have s205 : (h203.1 96 18).toInt = (h189.1 96 18).toInt := by rw [g204, wI_ne _ _ _ (by decide)]
          have s206 : (h203.1 96 41).toInt = (h189.1 96 41).toInt := by rw [g204, wI_ne _ _ _ (by decide)]
          have s207 : (h203.1 96 42).toInt = (h189.1 96 42).toInt := by rw [g204, wI_ne _ _ _ (by decide)]
          have s208 : (h203.1 96 19).toInt = (h189.1 96 19).toInt := by rw [g204, wI_ne _ _ _ (by decide)]
          have s209 : (h203.1 96 20).toInt = (h189.1 96 20).toInt := by rw [g204, wI_ne _ _ _ (by decide)]
          have s210 : (h203.1 96 46).toInt = (h189.1 96 46).toInt := by rw [g204, wI_ne _ _ _ (by decide)]
          have s211 : (h203.1 96 44).toInt = (h189.1 96 44).toInt := by rw [g204, wI_ne _ _ _ (by decide)]
          have s212 : (h203.1 96 47).toInt = (h189.1 96 47).toInt := by rw [g204, wI_ne _ _ _ (by decide)]
          have s213 : (h203.1 96 48).toInt = (h189.1 96 48).toInt := by rw [g204, wI_ne _ _ _ (by decide)]
          have s214 : (h203.1 96 51).toInt = (h189.1 96 51).toInt := by rw [g204, wI_ne _ _ _ (by decide)]
          have s215 : (h203.1 96 35).toInt = (h189.1 96 35).toInt := by rw [g204, wI_ne _ _ _ (by decide)]
          have s216 : (h203.1 96 34).toInt = (h189.1 96 34).toInt := by rw [g204, wI_ne _ _ _ (by decide)]
          have hK : kyOf h203 = (upd ((zSpill (evOf h) x4 (kyOf h)).1) x4.toNatClampNeg ((-1)), (zSpill (evOf h) x4 (kyOf h)).2.1, upd ((zSpill (evOf h) x4 (kyOf h)).2.2.1) x180.toNatClampNeg x187, x143) := by rw [g204, ky_107 (nlt ⟨by omega, by omega⟩), hK] <;> rfl
          have hE : evOf h203 = evOf h := by rw [g204, ev_o (by decide), hE]
          refine R_aload_n (k := 0) rfl rfl rfl ?_
          refine R_getf_r (j := 23) rfl ft_9_49 sh_96 rfl ?_
          refine R_iload_n (k := 3) rfl rfl rfl ?_
          refine R_iconst 0 rfl rfl ?_
          refine K_iast (a := x4.toInt) (lo := (-2147483648)) (hi' := 2147483647) rfl sh_108 rfl ⟨by omega, by omega⟩ hI (by decide) rfl (by decide) fr (by decide) (fun h217 g218 hI fr => ?_)
          have s219 : (h217.1 96 18).toInt = (h203.1 96 18).toInt := by rw [g218, wI_ne _ _ _ (by decide)]
          have s220 : (h217.1 96 41).toInt = (h203.1 96 41).toInt := by rw [g218, wI_ne _ _ _ (by decide)]
          have s221 : (h217.1 96 42).toInt = (h203.1 96 42).toInt := by rw [g218, wI_ne _ _ _ (by decide)]
          have s222 : (h217.1 96 19).toInt = (h203.1 96 19).toInt := by rw [g218, wI_ne _ _ _ (by decide)]
          have s223 : (h217.1 96 20).toInt = (h203.1 96 20).toInt := by rw [g218, wI_ne _ _ _ (by decide)]
          have s224 : (h217.1 96 46).toInt = (h203.1 96 46).toInt := by rw [g218, wI_ne _ _ _ (by decide)]
          have s225 : (h217.1 96 44).toInt = (h203.1 96 44).toInt := by rw [g218, wI_ne _ _ _ (by decide)]
          have s226 : (h217.1 96 47).toInt = (h203.1 96 47).toInt := by rw [g218, wI_ne _ _ _ (by decide)]
          have s227 : (h217.1 96 48).toInt = (h203.1 96 48).toInt := by rw [g218, wI_ne _ _ _ (by decide)]
          have s228 : (h217.1 96 51).toInt = (h203.1 96 51).toInt := by rw [g218, wI_ne _ _ _ (by decide)]
          have s229 : (h217.1 96 35).toInt = (h203.1 96 35).toInt := by rw [g218, wI_ne _ _ _ (by decide)]
          have s230 : (h217.1 96 34).toInt = (h203.1 96 34).toInt := by rw [g218, wI_ne _ _ _ (by decide)]
          have hK : kyOf h217 = (upd ((zSpill (evOf h) x4 (kyOf h)).1) x4.toNatClampNeg ((-1)), upd ((zSpill (evOf h) x4 (kyOf h)).2.1) x4.toNatClampNeg (0), upd ((zSpill (evOf h) x4 (kyOf h)).2.2.1) x180.toNatClampNeg x187, x143) := by rw [g218, ky_108 (nlt ⟨by omega, by omega⟩), hK] <;> rfl
          have hE : evOf h217 = evOf h := by rw [g218, ev_o (by decide), hE]
          have hF : kyOf h217 = zPlace (evOf h) a0 a1 (kyOf h) := by
            refine hK.trans ?_
            subst e188 e185 e181 e179 e161 e144 e140 e137 e24 e13 e10 e7
            simp only [zPlace, zPlace1, zThrow, zGive, ePace, eLine, eMany, eWorld] <;> (repeat' split) <;> first | (exfalso; omega) | rfl
          exact R_vret rfl rfl ⟨hI, fr, ⟨by omega, by omega, by omega, by omega, by omega, by omega, by omega, by omega, by omega, by omega, hF, hE, trivial⟩, rfl⟩
      · exfalso; omega
    · rw [hE] at zq19
      show RUN d_X9_goPlace 28 [(3, .inl x4), (0, .inr (.inr (.inl 96))), (1, .inl a0), (2, .inl a1)] [.inl x20] h _
      refine N_if_eq (a := x20.toInt) 32 rfl rfl rfl (fun c231 => ?_) (fun c231 => ?_)
      · refine R_iload_n (k := 1) rfl rfl rfl ?_
        refine R_aload_n (k := 0) rfl rfl rfl ?_
        refine R_getf_i (j := 18) rfl ft_9_253 sh_96 rfl ?_
        refine R_iconst 1 rfl rfl ?_
        refine R_isub rfl ?_
        refine N_eq (fun x232 e233 => ?_)
        have q234 : x232.toInt = (h.1 96 18).toInt - 1 := by rw [e233]; exact i_sub rfl (by decide) (by omega)
        refine N_icmp_ne (a := a0.toInt) (b := x232.toInt) 104 rfl rfl rfl rfl (fun c235 => ?_) (fun c235 => ?_)
        · refine R_aload_n (k := 0) rfl rfl rfl ?_
          refine R_getf_r (j := 17) rfl ft_9_40 sh_96 rfl ?_
          refine R_iload_n (k := 1) rfl rfl rfl ?_
          refine R_iconst 1 rfl rfl ?_
          refine R_iadd rfl ?_
          refine N_eq (fun x236 e237 => ?_)
          have q238 : x236.toInt = a0.toInt + 1 := by rw [e237]; exact i_add rfl (by decide) (by omega)
          refine R_iald rfl sh_105 ⟨by omega, by omega⟩ ?_
          refine N_eq (fun x239 e240 => ?_)
          have q241 : 0 ≤ x239.toInt ∧ x239.toInt ≤ 5 := by rw [e240]; exact hI.1 105 _
          have e242 : x239 = (evOf h).2.2.2.1 x236.toNatClampNeg := by rw [e240]; exact congrFun (congrArg (fun q : EV => q.2.2.2.1) hE) _
          refine R_istore (k := 4) [(4, .inl x239), (3, .inl x4), (0, .inr (.inr (.inl 96))), (1, .inl a0), (2, .inl a1)] rfl rfl (by decide) ?_
          refine R_aload_n (k := 0) rfl rfl rfl ?_
          refine R_getf_r (j := 22) rfl ft_9_46 sh_96 rfl ?_
          refine R_iload (k := 4) rfl rfl ?_
          refine R_iald rfl sh_107 ⟨by omega, by omega⟩ ?_
          refine N_eq (fun x243 e244 => ?_)
          have e245 : x243 = ((kyOf h).1) x239.toNatClampNeg := by rw [e244]; exact (ky_at107 (nlt ⟨by omega, by omega⟩)).trans (congrFun (congrArg (fun q : KY => q.1) hK) _)
          refine R_iconst (-1) rfl rfl ?_
          refine N_icmp_ne (a := x243.toInt) (b := (-1)) 135 rfl rfl rfl (by decide) (fun c246 => ?_) (fun c246 => ?_)
          · have hF : kyOf h = zPlace (evOf h) a0 a1 (kyOf h) := by
              refine hK.trans ?_
              subst e245 e242 e237 e233 e13 e10 e7
              simp only [zPlace, zPlace1, zThrow, zGive, ePace, eLine, eMany, eWorld] <;> (repeat' split) <;> first | (exfalso; omega) | rfl
            exact R_vret rfl rfl ⟨hI, fr, ⟨by omega, by omega, by omega, by omega, by omega, by omega, by omega, by omega, by omega, by omega, hF, hE, trivial⟩, rfl⟩
          · refine R_aload_n (k := 0) rfl rfl rfl ?_
            refine R_iload (k := 4) rfl rfl ?_
            refine R_iload_n (k := 2) rfl rfl rfl ?_
            refine R_callV (v := .inr (.inr (.inl 96))) (As := [.inl x239, .inl a1]) (rest := []) rfl mt_9_i271 pp_X9_doesRest (by decide) rfl rfl rfl (Nat.le_of_ble_eq_true rfl) (Nat.le_of_ble_eq_true rfl) ((g_X9_doesRest h hI x239 a1 (by omega) (by omega)).mono (fun r247 h248 p249 => ?_))
            obtain ⟨rfl, x251, rfl, (q252 | q252 | q252), zq250, -⟩ := p249
            · rw [hE] at zq250
              exfalso; omega
            · rw [hE] at zq250
              show RUN d_X9_goPlace 132 [(4, .inl x239), (3, .inl x4), (0, .inr (.inr (.inl 96))), (1, .inl a0), (2, .inl a1)] [.inl x251] h _
              refine N_if_eq (a := x251.toInt) 136 rfl rfl rfl (fun c253 => ?_) (fun c253 => ?_)
              · refine R_aload_n (k := 0) rfl rfl rfl ?_
                refine R_iload_n (k := 3) rfl rfl rfl ?_
                refine R_callV (v := .inr (.inr (.inl 96))) (As := [.inl x4]) (rest := []) rfl mt_9_i275 pp_X9_spill (by decide) rfl rfl rfl (Nat.le_of_ble_eq_true rfl) (Nat.le_of_ble_eq_true rfl) ((g_X9_spill h hI x4 (by omega)).mono (fun r254 h255 p256 => ?_))
                obtain ⟨hJ, fj, ⟨kp257, kp258, kp259, kp260, kp261, kp262, kp263, kp264, kp265, kp266, kp267, xq268, xq269, -⟩, rfl⟩ := p256
                have f270 := fj
                have fr := fr.trans fj (by decide)
                have hI := hJ
                have hK : kyOf h255 = zSpill (evOf h) x4 (kyOf h) := by rw [xq268, hE, hK]
                have hE : evOf h255 = evOf h := xq269.trans hE
                show RUN d_X9_goPlace 141 [(4, .inl x239), (3, .inl x4), (0, .inr (.inr (.inl 96))), (1, .inl a0), (2, .inl a1)] [] h255 _
                refine R_aload_n (k := 0) rfl rfl rfl ?_
                refine R_getf_r (j := 22) rfl ft_9_46 sh_96 rfl ?_
                refine R_iload (k := 4) rfl rfl ?_
                refine R_iconst 0 rfl rfl ?_
                refine K_iast (a := x239.toInt) (lo := (-2147483648)) (hi' := 2147483647) rfl sh_107 rfl ⟨by omega, by omega⟩ hI (by decide) rfl (by decide) fr (by decide) (fun h271 g272 hI fr => ?_)
                have s273 : (h271.1 96 18).toInt = (h255.1 96 18).toInt := by rw [g272, wI_ne _ _ _ (by decide)]
                have s274 : (h271.1 96 34).toInt = (h255.1 96 34).toInt := by rw [g272, wI_ne _ _ _ (by decide)]
                have s275 : (h271.1 96 41).toInt = (h255.1 96 41).toInt := by rw [g272, wI_ne _ _ _ (by decide)]
                have s276 : (h271.1 96 42).toInt = (h255.1 96 42).toInt := by rw [g272, wI_ne _ _ _ (by decide)]
                have s277 : (h271.1 96 19).toInt = (h255.1 96 19).toInt := by rw [g272, wI_ne _ _ _ (by decide)]
                have s278 : (h271.1 96 20).toInt = (h255.1 96 20).toInt := by rw [g272, wI_ne _ _ _ (by decide)]
                have s279 : (h271.1 96 46).toInt = (h255.1 96 46).toInt := by rw [g272, wI_ne _ _ _ (by decide)]
                have s280 : (h271.1 96 44).toInt = (h255.1 96 44).toInt := by rw [g272, wI_ne _ _ _ (by decide)]
                have s281 : (h271.1 96 47).toInt = (h255.1 96 47).toInt := by rw [g272, wI_ne _ _ _ (by decide)]
                have s282 : (h271.1 96 48).toInt = (h255.1 96 48).toInt := by rw [g272, wI_ne _ _ _ (by decide)]
                have s283 : (h271.1 96 51).toInt = (h255.1 96 51).toInt := by rw [g272, wI_ne _ _ _ (by decide)]
                have hK : kyOf h271 = (upd ((zSpill (evOf h) x4 (kyOf h)).1) x239.toNatClampNeg (0), (zSpill (evOf h) x4 (kyOf h)).2.1, (zSpill (evOf h) x4 (kyOf h)).2.2.1, (zSpill (evOf h) x4 (kyOf h)).2.2.2) := by rw [g272, ky_107 (nlt ⟨by omega, by omega⟩), hK] <;> rfl
                have hE : evOf h271 = evOf h := by rw [g272, ev_o (by decide), hE]
                refine R_aload_n (k := 0) rfl rfl rfl ?_
                refine R_getf_r (j := 23) rfl ft_9_49 sh_96 rfl ?_
                refine R_iload (k := 4) rfl rfl ?_
                refine R_aload_n (k := 0) rfl rfl rfl ?_
                refine R_getf_r (j := 23) rfl ft_9_49 sh_96 rfl ?_
                refine R_iload_n (k := 3) rfl rfl rfl ?_
                refine R_iald rfl sh_108 ⟨by omega, by omega⟩ ?_
                refine N_eq (fun x284 e285 => ?_)
                have e286 : x284 = ((zSpill (evOf h) x4 (kyOf h)).2.1) x4.toNatClampNeg := by rw [e285]; exact (ky_at108 (nlt ⟨by omega, by omega⟩)).trans (congrFun (congrArg (fun q : KY => q.2.1) hK) _)
                refine K_iast (a := x239.toInt) (lo := (-2147483648)) (hi' := 2147483647) rfl sh_108 rfl ⟨by omega, by omega⟩ hI (by decide) rfl (i_rng _) fr (by decide) (fun h287 g288 hI fr => ?_)
                have s289 : (h287.1 96 18).toInt = (h271.1 96 18).toInt := by rw [g288, wI_ne _ _ _ (by decide)]
                have s290 : (h287.1 96 34).toInt = (h271.1 96 34).toInt := by rw [g288, wI_ne _ _ _ (by decide)]
                have s291 : (h287.1 96 41).toInt = (h271.1 96 41).toInt := by rw [g288, wI_ne _ _ _ (by decide)]
                have s292 : (h287.1 96 42).toInt = (h271.1 96 42).toInt := by rw [g288, wI_ne _ _ _ (by decide)]
                have s293 : (h287.1 96 19).toInt = (h271.1 96 19).toInt := by rw [g288, wI_ne _ _ _ (by decide)]
                have s294 : (h287.1 96 20).toInt = (h271.1 96 20).toInt := by rw [g288, wI_ne _ _ _ (by decide)]
                have s295 : (h287.1 96 46).toInt = (h271.1 96 46).toInt := by rw [g288, wI_ne _ _ _ (by decide)]
                have s296 : (h287.1 96 44).toInt = (h271.1 96 44).toInt := by rw [g288, wI_ne _ _ _ (by decide)]
                have s297 : (h287.1 96 47).toInt = (h271.1 96 47).toInt := by rw [g288, wI_ne _ _ _ (by decide)]
                have s298 : (h287.1 96 48).toInt = (h271.1 96 48).toInt := by rw [g288, wI_ne _ _ _ (by decide)]
                have s299 : (h287.1 96 51).toInt = (h271.1 96 51).toInt := by rw [g288, wI_ne _ _ _ (by decide)]
                have hK : kyOf h287 = (upd ((zSpill (evOf h) x4 (kyOf h)).1) x239.toNatClampNeg (0), upd ((zSpill (evOf h) x4 (kyOf h)).2.1) x239.toNatClampNeg x284, (zSpill (evOf h) x4 (kyOf h)).2.2.1, (zSpill (evOf h) x4 (kyOf h)).2.2.2) := by rw [g288, ky_108 (nlt ⟨by omega, by omega⟩), hK] <;> rfl
                have hE : evOf h287 = evOf h := by rw [g288, ev_o (by decide), hE]
                refine R_aload_n (k := 0) rfl rfl rfl ?_
                refine R_getf_r (j := 22) rfl ft_9_46 sh_96 rfl ?_
                refine R_iload_n (k := 3) rfl rfl rfl ?_
                refine R_iconst (-1) rfl rfl ?_
                refine K_iast (a := x4.toInt) (lo := (-2147483648)) (hi' := 2147483647) rfl sh_107 rfl ⟨by omega, by omega⟩ hI (by decide) rfl (by decide) fr (by decide) (fun h300 g301 hI fr => ?_)
                have s302 : (h300.1 96 18).toInt = (h287.1 96 18).toInt := by rw [g301, wI_ne _ _ _ (by decide)]
                have s303 : (h300.1 96 34).toInt = (h287.1 96 34).toInt := by rw [g301, wI_ne _ _ _ (by decide)]
                have s304 : (h300.1 96 41).toInt = (h287.1 96 41).toInt := by rw [g301, wI_ne _ _ _ (by decide)]
                have s305 : (h300.1 96 42).toInt = (h287.1 96 42).toInt := by rw [g301, wI_ne _ _ _ (by decide)]
                have s306 : (h300.1 96 19).toInt = (h287.1 96 19).toInt := by rw [g301, wI_ne _ _ _ (by decide)]
                have s307 : (h300.1 96 20).toInt = (h287.1 96 20).toInt := by rw [g301, wI_ne _ _ _ (by decide)]
                have s308 : (h300.1 96 46).toInt = (h287.1 96 46).toInt := by rw [g301, wI_ne _ _ _ (by decide)]
                have s309 : (h300.1 96 44).toInt = (h287.1 96 44).toInt := by rw [g301, wI_ne _ _ _ (by decide)]
                have s310 : (h300.1 96 47).toInt = (h287.1 96 47).toInt := by rw [g301, wI_ne _ _ _ (by decide)]
                have s311 : (h300.1 96 48).toInt = (h287.1 96 48).toInt := by rw [g301, wI_ne _ _ _ (by decide)]
                have s312 : (h300.1 96 51).toInt = (h287.1 96 51).toInt := by rw [g301, wI_ne _ _ _ (by decide)]
                have hK : kyOf h300 = (upd (upd ((zSpill (evOf h) x4 (kyOf h)).1) x239.toNatClampNeg (0)) x4.toNatClampNeg ((-1)), upd ((zSpill (evOf h) x4 (kyOf h)).2.1) x239.toNatClampNeg x284, (zSpill (evOf h) x4 (kyOf h)).2.2.1, (zSpill (evOf h) x4 (kyOf h)).2.2.2) := by rw [g301, ky_107 (nlt ⟨by omega, by omega⟩), hK] <;> rfl
                have hE : evOf h300 = evOf h := by rw [g301, ev_o (by decide), hE]
                refine R_aload_n (k := 0) rfl rfl rfl ?_
                refine R_getf_r (j := 23) rfl ft_9_49 sh_96 rfl ?_
                refine R_iload_n (k := 3) rfl rfl rfl ?_
                refine R_iconst 0 rfl rfl ?_
                refine K_iast (a := x4.toInt) (lo := (-2147483648)) (hi' := 2147483647) rfl sh_108 rfl ⟨by omega, by omega⟩ hI (by decide) rfl (by decide) fr (by decide) (fun h313 g314 hI fr => ?_)
                have s315 : (h313.1 96 18).toInt = (h300.1 96 18).toInt := by rw [g314, wI_ne _ _ _ (by decide)]
                have s316 : (h313.1 96 34).toInt = (h300.1 96 34).toInt := by rw [g314, wI_ne _ _ _ (by decide)]
                have s317 : (h313.1 96 41).toInt = (h300.1 96 41).toInt := by rw [g314, wI_ne _ _ _ (by decide)]
                have s318 : (h313.1 96 42).toInt = (h300.1 96 42).toInt := by rw [g314, wI_ne _ _ _ (by decide)]
                have s319 : (h313.1 96 19).toInt = (h300.1 96 19).toInt := by rw [g314, wI_ne _ _ _ (by decide)]
                have s320 : (h313.1 96 20).toInt = (h300.1 96 20).toInt := by rw [g314, wI_ne _ _ _ (by decide)]
                have s321 : (h313.1 96 46).toInt = (h300.1 96 46).toInt := by rw [g314, wI_ne _ _ _ (by decide)]
                have s322 : (h313.1 96 44).toInt = (h300.1 96 44).toInt := by rw [g314, wI_ne _ _ _ (by decide)]
                have s323 : (h313.1 96 47).toInt = (h300.1 96 47).toInt := by rw [g314, wI_ne _ _ _ (by decide)]
                have s324 : (h313.1 96 48).toInt = (h300.1 96 48).toInt := by rw [g314, wI_ne _ _ _ (by decide)]
                have s325 : (h313.1 96 51).toInt = (h300.1 96 51).toInt := by rw [g314, wI_ne _ _ _ (by decide)]
                have hK : kyOf h313 = (upd (upd ((zSpill (evOf h) x4 (kyOf h)).1) x239.toNatClampNeg (0)) x4.toNatClampNeg ((-1)), upd (upd ((zSpill (evOf h) x4 (kyOf h)).2.1) x239.toNatClampNeg x284) x4.toNatClampNeg (0), (zSpill (evOf h) x4 (kyOf h)).2.2.1, (zSpill (evOf h) x4 (kyOf h)).2.2.2) := by rw [g314, ky_108 (nlt ⟨by omega, by omega⟩), hK] <;> rfl
                have hE : evOf h313 = evOf h := by rw [g314, ev_o (by decide), hE]
                have hF : kyOf h313 = zPlace (evOf h) a0 a1 (kyOf h) := by
                  refine hK.trans ?_
                  subst e286 e245 e242 e237 e233 e13 e10 e7
                  simp only [zPlace, zPlace1, zThrow, zGive, ePace, eLine, eMany, eWorld] <;> (repeat' split) <;> first | (exfalso; omega) | rfl
                exact R_vret rfl rfl ⟨hI, fr, ⟨by omega, by omega, by omega, by omega, by omega, by omega, by omega, by omega, by omega, by omega, hF, hE, trivial⟩, rfl⟩
              · exfalso; omega
            · rw [hE] at zq250
              show RUN d_X9_goPlace 132 [(4, .inl x239), (3, .inl x4), (0, .inr (.inr (.inl 96))), (1, .inl a0), (2, .inl a1)] [.inl x251] h _
              refine N_if_eq (a := x251.toInt) 136 rfl rfl rfl (fun c326 => ?_) (fun c326 => ?_)
              · exfalso; omega
              · have hF : kyOf h = zPlace (evOf h) a0 a1 (kyOf h) := by
                  refine hK.trans ?_
                  subst e245 e242 e237 e233 e13 e10 e7
                  simp only [zPlace, zPlace1, zThrow, zGive, ePace, eLine, eMany, eWorld] <;> (repeat' split) <;> first | (exfalso; omega) | rfl
                exact R_vret rfl rfl ⟨hI, fr, ⟨by omega, by omega, by omega, by omega, by omega, by omega, by omega, by omega, by omega, by omega, hF, hE, trivial⟩, rfl⟩
        · refine R_aload_n (k := 0) rfl rfl rfl ?_
          refine R_iload_n (k := 3) rfl rfl rfl ?_
          refine R_callV (v := .inr (.inr (.inl 96))) (As := [.inl x4]) (rest := []) rfl mt_9_i275 pp_X9_spill (by decide) rfl rfl rfl (Nat.le_of_ble_eq_true rfl) (Nat.le_of_ble_eq_true rfl) ((g_X9_spill h hI x4 (by omega)).mono (fun r327 h328 p329 => ?_))
          obtain ⟨hJ, fj, ⟨kp330, kp331, kp332, kp333, kp334, kp335, kp336, kp337, kp338, kp339, kp340, xq341, xq342, -⟩, rfl⟩ := p329
          have f343 := fj
          have fr := fr.trans fj (by decide)
          have hI := hJ
          have hK : kyOf h328 = zSpill (evOf h) x4 (kyOf h) := by rw [xq341, hE, hK]
          have hE : evOf h328 = evOf h := xq342.trans hE
          show RUN d_X9_goPlace 47 [(3, .inl x4), (0, .inr (.inr (.inl 96))), (1, .inl a0), (2, .inl a1)] [] h328 _
          refine R_aload_n (k := 0) rfl rfl rfl ?_
          refine R_dup_r rfl ?_
          refine R_getf_i (j := 35) rfl ft_9_265 sh_96 rfl ?_
          refine N_eq (fun x344 e345 => ?_)
          have e346 : x344 = (zSpill (evOf h) x4 (kyOf h)).2.2.2 := by rw [e345]; exact congrArg (fun q : KY => q.2.2.2) hK
          refine R_aload_n (k := 0) rfl rfl rfl ?_
          refine R_getf_r (j := 23) rfl ft_9_49 sh_96 rfl ?_
          refine R_iload_n (k := 3) rfl rfl rfl ?_
          refine R_iald rfl sh_108 ⟨by omega, by omega⟩ ?_
          refine N_eq (fun x347 e348 => ?_)
          have e349 : x347 = ((zSpill (evOf h) x4 (kyOf h)).2.1) x4.toNatClampNeg := by rw [e348]; exact (ky_at108 (nlt ⟨by omega, by omega⟩)).trans (congrFun (congrArg (fun q : KY => q.2.1) hK) _)
          have b350 := i_rng x344
          have b351 := i_rng x347
          refine R_iadd rfl ?_
          refine N_eq (fun x352 e353 => ?_)
          refine K_putf (j := 35) (lo := (-2147483648)) (hi' := 2147483647) rfl ft_9_265 sh_96 rfl hI (by decide) rfl (i_rng _) fr (by decide) (fun h354 g355 hI fr => ?_)
          have s356 : (h354.1 96 18).toInt = (h328.1 96 18).toInt := by rw [g355, wI_at (by decide)]
          have s357 : (h354.1 96 34).toInt = (h328.1 96 34).toInt := by rw [g355, wI_at (by decide)]
          have s358 : (h354.1 96 41).toInt = (h328.1 96 41).toInt := by rw [g355, wI_at (by decide)]
          have s359 : (h354.1 96 42).toInt = (h328.1 96 42).toInt := by rw [g355, wI_at (by decide)]
          have s360 : (h354.1 96 19).toInt = (h328.1 96 19).toInt := by rw [g355, wI_at (by decide)]
          have s361 : (h354.1 96 20).toInt = (h328.1 96 20).toInt := by rw [g355, wI_at (by decide)]
          have s362 : (h354.1 96 46).toInt = (h328.1 96 46).toInt := by rw [g355, wI_at (by decide)]
          have s363 : (h354.1 96 44).toInt = (h328.1 96 44).toInt := by rw [g355, wI_at (by decide)]
          have s364 : (h354.1 96 47).toInt = (h328.1 96 47).toInt := by rw [g355, wI_at (by decide)]
          have s365 : (h354.1 96 48).toInt = (h328.1 96 48).toInt := by rw [g355, wI_at (by decide)]
          have s366 : (h354.1 96 51).toInt = (h328.1 96 51).toInt := by rw [g355, wI_at (by decide)]
          have hK : kyOf h354 = ((zSpill (evOf h) x4 (kyOf h)).1, (zSpill (evOf h) x4 (kyOf h)).2.1, (zSpill (evOf h) x4 (kyOf h)).2.2.1, x352) := by rw [g355, ky_35, hK] <;> rfl
          have hE : evOf h354 = evOf h := by rw [g355, ev_s (by decide), hE]
          have s367 : (h354.1 96 35).toInt = x352.toInt := by rw [g355, wI_is]
          refine R_aload_n (k := 0) rfl rfl rfl ?_
          refine R_dup_r rfl ?_
          refine R_getf_i (j := 34) rfl ft_9_262 sh_96 rfl ?_
          refine R_iconst 1 rfl rfl ?_
          have b368 := i_rng (h354.1 96 34)
          refine R_iadd rfl ?_
          refine N_eq (fun x369 e370 => ?_)
          refine K_putf (j := 34) (lo := (-2147483648)) (hi' := 2147483647) rfl ft_9_262 sh_96 rfl hI (by decide) rfl (i_rng _) fr (by decide) (fun h371 g372 hI fr => ?_)
          have s373 : (h371.1 96 18).toInt = (h354.1 96 18).toInt := by rw [g372, wI_at (by decide)]
          have s374 : (h371.1 96 41).toInt = (h354.1 96 41).toInt := by rw [g372, wI_at (by decide)]
          have s375 : (h371.1 96 42).toInt = (h354.1 96 42).toInt := by rw [g372, wI_at (by decide)]
          have s376 : (h371.1 96 19).toInt = (h354.1 96 19).toInt := by rw [g372, wI_at (by decide)]
          have s377 : (h371.1 96 20).toInt = (h354.1 96 20).toInt := by rw [g372, wI_at (by decide)]
          have s378 : (h371.1 96 46).toInt = (h354.1 96 46).toInt := by rw [g372, wI_at (by decide)]
          have s379 : (h371.1 96 44).toInt = (h354.1 96 44).toInt := by rw [g372, wI_at (by decide)]
          have s380 : (h371.1 96 47).toInt = (h354.1 96 47).toInt := by rw [g372, wI_at (by decide)]
          have s381 : (h371.1 96 48).toInt = (h354.1 96 48).toInt := by rw [g372, wI_at (by decide)]
          have s382 : (h371.1 96 51).toInt = (h354.1 96 51).toInt := by rw [g372, wI_at (by decide)]
          have s383 : (h371.1 96 35).toInt = (h354.1 96 35).toInt := by rw [g372, wI_at (by decide)]
          have hK : kyOf h371 = ((zSpill (evOf h) x4 (kyOf h)).1, (zSpill (evOf h) x4 (kyOf h)).2.1, (zSpill (evOf h) x4 (kyOf h)).2.2.1, x352) := by rw [g372, ky_s (by decide), hK]
          have hE : evOf h371 = evOf h := by rw [g372, ev_s (by decide), hE]
          have s384 : (h371.1 96 34).toInt = x369.toInt := by rw [g372, wI_is]
          refine R_aload_n (k := 0) rfl rfl rfl ?_
          refine R_getf_r (j := 24) rfl ft_9_52 sh_96 rfl ?_
          refine R_aload_n (k := 0) rfl rfl rfl ?_
          refine R_getf_r (j := 1) rfl ft_9_9 sh_96 rfl ?_
          refine R_iconst 3 rfl rfl ?_
          refine R_iald rfl sh_97 (by decide) ?_
          refine N_eq (fun x385 e386 => ?_)
          have q387 : 0 ≤ x385.toInt ∧ x385.toInt ≤ 20 := by rw [e386]; exact hI.1 97 _
          have e388 : x385 = (evOf h).1 (3 : Int32).toNatClampNeg := by rw [e386]; exact congrFun (congrArg (fun q : EV => q.1) hE) _
          refine R_iconst 1 rfl rfl ?_
          refine R_iadd rfl ?_
          refine N_eq (fun x389 e390 => ?_)
          have q391 : x389.toInt = x385.toInt + 1 := by rw [e390]; exact i_add rfl (by decide) (by omega)
          refine R_dup2 rfl ?_
          refine R_iald rfl sh_109 ⟨by omega, by omega⟩ ?_
          refine N_eq (fun x392 e393 => ?_)
          have e394 : x392 = ((zSpill (evOf h) x4 (kyOf h)).2.2.1) x389.toNatClampNeg := by rw [e393]; exact (ky_at109 (nlt ⟨by omega, by omega⟩)).trans (congrFun (congrArg (fun q : KY => q.2.2.1) hK) _)
          refine R_iconst 1 rfl rfl ?_
          have b395 := i_rng x392
          refine R_iadd rfl ?_
          refine N_eq (fun x396 e397 => ?_)
          refine K_iast (a := x389.toInt) (lo := (-2147483648)) (hi' := 2147483647) rfl sh_109 rfl ⟨by omega, by omega⟩ hI (by decide) rfl (i_rng _) fr (by decide) (fun h398 g399 hI fr => ?_)
          have s400 : (h398.1 96 18).toInt = (h371.1 96 18).toInt := by rw [g399, wI_ne _ _ _ (by decide)]
          have s401 : (h398.1 96 41).toInt = (h371.1 96 41).toInt := by rw [g399, wI_ne _ _ _ (by decide)]
          have s402 : (h398.1 96 42).toInt = (h371.1 96 42).toInt := by rw [g399, wI_ne _ _ _ (by decide)]
          have s403 : (h398.1 96 19).toInt = (h371.1 96 19).toInt := by rw [g399, wI_ne _ _ _ (by decide)]
          have s404 : (h398.1 96 20).toInt = (h371.1 96 20).toInt := by rw [g399, wI_ne _ _ _ (by decide)]
          have s405 : (h398.1 96 46).toInt = (h371.1 96 46).toInt := by rw [g399, wI_ne _ _ _ (by decide)]
          have s406 : (h398.1 96 44).toInt = (h371.1 96 44).toInt := by rw [g399, wI_ne _ _ _ (by decide)]
          have s407 : (h398.1 96 47).toInt = (h371.1 96 47).toInt := by rw [g399, wI_ne _ _ _ (by decide)]
          have s408 : (h398.1 96 48).toInt = (h371.1 96 48).toInt := by rw [g399, wI_ne _ _ _ (by decide)]
          have s409 : (h398.1 96 51).toInt = (h371.1 96 51).toInt := by rw [g399, wI_ne _ _ _ (by decide)]
          have s410 : (h398.1 96 35).toInt = (h371.1 96 35).toInt := by rw [g399, wI_ne _ _ _ (by decide)]
          have s411 : (h398.1 96 34).toInt = (h371.1 96 34).toInt := by rw [g399, wI_ne _ _ _ (by decide)]
          have hK : kyOf h398 = ((zSpill (evOf h) x4 (kyOf h)).1, (zSpill (evOf h) x4 (kyOf h)).2.1, upd ((zSpill (evOf h) x4 (kyOf h)).2.2.1) x389.toNatClampNeg x396, x352) := by rw [g399, ky_109 (nlt ⟨by omega, by omega⟩), hK] <;> rfl
          have hE : evOf h398 = evOf h := by rw [g399, ev_o (by decide), hE]
          refine R_aload_n (k := 0) rfl rfl rfl ?_
          refine R_getf_r (j := 22) rfl ft_9_46 sh_96 rfl ?_
          refine R_iload_n (k := 3) rfl rfl rfl ?_
          refine R_iconst (-1) rfl rfl ?_
          refine K_iast (a := x4.toInt) (lo := (-2147483648)) (hi' := 2147483647) rfl sh_107 rfl ⟨by omega, by omega⟩ hI (by decide) rfl (by decide) fr (by decide) (fun h412 g413 hI fr => ?_)
          have s414 : (h412.1 96 18).toInt = (h398.1 96 18).toInt := by rw [g413, wI_ne _ _ _ (by decide)]
          have s415 : (h412.1 96 41).toInt = (h398.1 96 41).toInt := by rw [g413, wI_ne _ _ _ (by decide)]
          have s416 : (h412.1 96 42).toInt = (h398.1 96 42).toInt := by rw [g413, wI_ne _ _ _ (by decide)]
          have s417 : (h412.1 96 19).toInt = (h398.1 96 19).toInt := by rw [g413, wI_ne _ _ _ (by decide)]
          have s418 : (h412.1 96 20).toInt = (h398.1 96 20).toInt := by rw [g413, wI_ne _ _ _ (by decide)]
          have s419 : (h412.1 96 46).toInt = (h398.1 96 46).toInt := by rw [g413, wI_ne _ _ _ (by decide)]
          have s420 : (h412.1 96 44).toInt = (h398.1 96 44).toInt := by rw [g413, wI_ne _ _ _ (by decide)]
          have s421 : (h412.1 96 47).toInt = (h398.1 96 47).toInt := by rw [g413, wI_ne _ _ _ (by decide)]
          have s422 : (h412.1 96 48).toInt = (h398.1 96 48).toInt := by rw [g413, wI_ne _ _ _ (by decide)]
          have s423 : (h412.1 96 51).toInt = (h398.1 96 51).toInt := by rw [g413, wI_ne _ _ _ (by decide)]
          have s424 : (h412.1 96 35).toInt = (h398.1 96 35).toInt := by rw [g413, wI_ne _ _ _ (by decide)]
          have s425 : (h412.1 96 34).toInt = (h398.1 96 34).toInt := by rw [g413, wI_ne _ _ _ (by decide)]
          have hK : kyOf h412 = (upd ((zSpill (evOf h) x4 (kyOf h)).1) x4.toNatClampNeg ((-1)), (zSpill (evOf h) x4 (kyOf h)).2.1, upd ((zSpill (evOf h) x4 (kyOf h)).2.2.1) x389.toNatClampNeg x396, x352) := by rw [g413, ky_107 (nlt ⟨by omega, by omega⟩), hK] <;> rfl
          have hE : evOf h412 = evOf h := by rw [g413, ev_o (by decide), hE]
          refine R_aload_n (k := 0) rfl rfl rfl ?_
          refine R_getf_r (j := 23) rfl ft_9_49 sh_96 rfl ?_
          refine R_iload_n (k := 3) rfl rfl rfl ?_
          refine R_iconst 0 rfl rfl ?_
          refine K_iast (a := x4.toInt) (lo := (-2147483648)) (hi' := 2147483647) rfl sh_108 rfl ⟨by omega, by omega⟩ hI (by decide) rfl (by decide) fr (by decide) (fun h426 g427 hI fr => ?_)
          have s428 : (h426.1 96 18).toInt = (h412.1 96 18).toInt := by rw [g427, wI_ne _ _ _ (by decide)]
          have s429 : (h426.1 96 41).toInt = (h412.1 96 41).toInt := by rw [g427, wI_ne _ _ _ (by decide)]
          have s430 : (h426.1 96 42).toInt = (h412.1 96 42).toInt := by rw [g427, wI_ne _ _ _ (by decide)]
          have s431 : (h426.1 96 19).toInt = (h412.1 96 19).toInt := by rw [g427, wI_ne _ _ _ (by decide)]
          have s432 : (h426.1 96 20).toInt = (h412.1 96 20).toInt := by rw [g427, wI_ne _ _ _ (by decide)]
          have s433 : (h426.1 96 46).toInt = (h412.1 96 46).toInt := by rw [g427, wI_ne _ _ _ (by decide)]
          have s434 : (h426.1 96 44).toInt = (h412.1 96 44).toInt := by rw [g427, wI_ne _ _ _ (by decide)]
          have s435 : (h426.1 96 47).toInt = (h412.1 96 47).toInt := by rw [g427, wI_ne _ _ _ (by decide)]
          have s436 : (h426.1 96 48).toInt = (h412.1 96 48).toInt := by rw [g427, wI_ne _ _ _ (by decide)]
          have s437 : (h426.1 96 51).toInt = (h412.1 96 51).toInt := by rw [g427, wI_ne _ _ _ (by decide)]
          have s438 : (h426.1 96 35).toInt = (h412.1 96 35).toInt := by rw [g427, wI_ne _ _ _ (by decide)]
          have s439 : (h426.1 96 34).toInt = (h412.1 96 34).toInt := by rw [g427, wI_ne _ _ _ (by decide)]
          have hK : kyOf h426 = (upd ((zSpill (evOf h) x4 (kyOf h)).1) x4.toNatClampNeg ((-1)), upd ((zSpill (evOf h) x4 (kyOf h)).2.1) x4.toNatClampNeg (0), upd ((zSpill (evOf h) x4 (kyOf h)).2.2.1) x389.toNatClampNeg x396, x352) := by rw [g427, ky_108 (nlt ⟨by omega, by omega⟩), hK] <;> rfl
          have hE : evOf h426 = evOf h := by rw [g427, ev_o (by decide), hE]
          have hF : kyOf h426 = zPlace (evOf h) a0 a1 (kyOf h) := by
            refine hK.trans ?_
            subst e397 e394 e390 e388 e370 e353 e349 e346 e233 e13 e10 e7
            simp only [zPlace, zPlace1, zThrow, zGive, ePace, eLine, eMany, eWorld] <;> (repeat' split) <;> first | (exfalso; omega) | rfl
          exact R_vret rfl rfl ⟨hI, fr, ⟨by omega, by omega, by omega, by omega, by omega, by omega, by omega, by omega, by omega, by omega, hF, hE, trivial⟩, rfl⟩
      · exfalso; omega
    · rw [hE] at zq19
      show RUN d_X9_goPlace 28 [(3, .inl x4), (0, .inr (.inr (.inl 96))), (1, .inl a0), (2, .inl a1)] [.inl x20] h _
      refine N_if_eq (a := x20.toInt) 32 rfl rfl rfl (fun c440 => ?_) (fun c440 => ?_)
      · exfalso; omega
      · have hF : kyOf h = zPlace (evOf h) a0 a1 (kyOf h) := by
          refine hK.trans ?_
          subst e13 e10 e7
          simp only [zPlace, zPlace1, zThrow, zGive, ePace, eLine, eMany, eWorld] <;> (repeat' split) <;> first | (exfalso; omega) | rfl
        exact R_vret rfl rfl ⟨hI, fr, ⟨by omega, by omega, by omega, by omega, by omega, by omega, by omega, by omega, by omega, by omega, hF, hE, trivial⟩, rfl⟩
