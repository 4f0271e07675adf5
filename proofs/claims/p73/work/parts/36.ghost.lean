abbrev q_X9_doesRest (h : PH) (a0 : Int32) (a1 : Int32) : Option PV → PH → Prop := fun r h' => h = h' ∧ ∃ z : Int32, r = some (.inl z) ∧ (((z.toInt = 0 ∧ 60 ≤ a1.toInt) ∨ (z.toInt = 0 ∧ 0 ≤ a1.toInt ∧ a1.toInt ≤ 59) ∨ (z.toInt = 1 ∧ 0 ≤ a1.toInt ∧ a1.toInt ≤ 59)) ∧ (z.toInt = zRest (evOf h) a0 a1) ∧ True)
set_option maxHeartbeats 4000000 in
set_option maxRecDepth 100000 in
theorem g_X9_doesRest (h : PH) (hI : INV h) (a0 : Int32) (a1 : Int32) (h0a : 0 ≤ a0.toInt ∧ a0.toInt ≤ 5) (h1a : 0 ≤ a1.toInt ∧ a1.toInt ≤ 2147483647) : CALL d_X9_doesRest [.inr (.inr (.inl 96)), .inl a0, .inl a1] h (q_X9_doesRest h a0 a1) := by
  show RUN d_X9_doesRest 0 [(0, .inr (.inr (.inl 96))), (1, .inl a0), (2, .inl a1)] [] h _
  have hK : kyOf h = kyOf h := rfl
  have hE : evOf h = evOf h := rfl
  refine R_iload_n (k := 2) rfl rfl rfl ?_
  refine R_bipush 60 rfl rfl ?_
  refine N_icmp_ge (a := a1.toInt) (b := 60) 24 rfl rfl rfl (by decide) (fun c1 => ?_) (fun c1 => ?_)
  · refine R_iconst 0 rfl rfl ?_
    have k2 : (0 : Int32).toInt = 0 := by decide
    exact R_iret rfl rfl rfl ⟨rfl, _, rfl, ⟨by rw [show (0 : Int32).toInt = 0 from rfl] <;> omega, (by simp only [zRest, eRest]; rw [show (0 : Int32).toInt = 0 from rfl]; (repeat' split) <;> first | rfl | (exfalso; omega)), trivial⟩⟩
  · refine R_aload_n (k := 0) rfl rfl rfl ?_
    refine R_getf_r (j := 16) rfl ft_9_37 sh_96 rfl ?_
    refine R_bipush 6 rfl rfl ?_
    refine R_iload_n (k := 2) rfl rfl rfl ?_
    refine R_imul rfl ?_
    refine N_eq (fun x3 e4 => ?_)
    have q5 : x3.toInt = 6 * a1.toInt := by rw [e4]; exact i_mul (by decide) rfl (by omega)
    refine R_iload_n (k := 1) rfl rfl rfl ?_
    refine R_iadd rfl ?_
    refine N_eq (fun x6 e7 => ?_)
    have q8 : x6.toInt = x3.toInt + a0.toInt := by rw [e7]; exact i_add rfl rfl (by omega)
    refine R_zald rfl sh_104 ⟨by omega, by omega⟩ ?_
    refine N_eq (fun x9 e10 => ?_)
    have e11 : x9 = (evOf h).2.2.1 x6.toNatClampNeg := by rw [e10]; exact congrFun (congrArg (fun q : EV => q.2.2.1) hE) _
    refine N_if_eq (a := x9.toInt) 24 rfl rfl rfl (fun c12 => ?_) (fun c12 => ?_)
    · refine R_iconst 0 rfl rfl ?_
      have k13 : (0 : Int32).toInt = 0 := by decide
      exact R_iret rfl rfl rfl ⟨rfl, _, rfl, ⟨by rw [show (0 : Int32).toInt = 0 from rfl] <;> omega, (by subst e11 e7 e4; simp only [zRest, eRest]; rw [show (0 : Int32).toInt = 0 from rfl]; (repeat' split) <;> first | rfl | (exfalso; omega)), trivial⟩⟩
    · refine R_iconst 1 rfl rfl ?_
      refine R_goto 25 rfl rfl ?_
      have k14 : (1 : Int32).toInt = 1 := by decide
      exact R_iret rfl rfl rfl ⟨rfl, _, rfl, ⟨by rw [show (1 : Int32).toInt = 1 from rfl] <;> omega, (by subst e11 e7 e4; simp only [zRest, eRest]; rw [show (1 : Int32).toInt = 1 from rfl]; (repeat' split) <;> first | rfl | (exfalso; omega)), trivial⟩⟩
abbrev q_X9_spill (h : PH) (a0 : Int32) : Option PV → PH → Prop := fun r h' => INV h' ∧ FR [96, 108, 117, 118] h h' ∧ ((h'.1 96 18).toInt = (h.1 96 18).toInt ∧ (h'.1 96 34).toInt = (h.1 96 34).toInt ∧ (h'.1 96 41).toInt = (h.1 96 41).toInt ∧ (h'.1 96 42).toInt = (h.1 96 42).toInt ∧ (h'.1 96 19).toInt = (h.1 96 19).toInt ∧ (h'.1 96 20).toInt = (h.1 96 20).toInt ∧ (h'.1 96 46).toInt = (h.1 96 46).toInt ∧ (h'.1 96 44).toInt = (h.1 96 44).toInt ∧ (h'.1 96 47).toInt = (h.1 96 47).toInt ∧ (h'.1 96 48).toInt = (h.1 96 48).toInt ∧ (h'.1 96 51).toInt = (h.1 96 51).toInt ∧ (kyOf h' = zSpill (evOf h) a0 (kyOf h)) ∧ (evOf h' = evOf h) ∧ True) ∧ r = none
set_option maxHeartbeats 4000000 in
set_option maxRecDepth 100000 in
theorem g_X9_spill (h : PH) (hI : INV h) (a0 : Int32) (h0a : 0 ≤ a0.toInt ∧ a0.toInt ≤ 5) : CALL d_X9_spill [.inr (.inr (.inl 96)), .inl a0] h (q_X9_spill h a0) := by
  show RUN d_X9_spill 0 [(0, .inr (.inr (.inl 96))), (1, .inl a0)] [] h _
  have fr : FR [96, 108, 117, 118] h h := FR.rf _ _
  have hK : kyOf h = kyOf h := rfl
  have hE : evOf h = evOf h := rfl
  have b1 : (0 : Int) ≤ (h.1 96 18).toInt ∧ (h.1 96 18).toInt ≤ 6 := hI.1 96 18
  have b2 : (h.1 96 18).toInt = ((evOf h).2.2.2.2.1).toInt := congrArg (fun q : EV => (q.2.2.2.2.1).toInt) hE
  have b3 : (0 : Int) ≤ (h.1 96 51).toInt ∧ (h.1 96 51).toInt ≤ 720 := hI.1 96 51
  refine R_aload_n (k := 0) rfl rfl rfl ?_
  refine R_getf_r (j := 23) rfl ft_9_49 sh_96 rfl ?_
  refine R_iload_n (k := 1) rfl rfl rfl ?_
  refine R_iald rfl sh_108 ⟨by omega, by omega⟩ ?_
  refine N_eq (fun x4 e5 => ?_)
  have e6 : x4 = ((kyOf h).2.1) a0.toNatClampNeg := by rw [e5]; exact (ky_at108 (nlt ⟨by omega, by omega⟩)).trans (congrFun (congrArg (fun q : KY => q.2.1) hK) _)
  refine R_aload_n (k := 0) rfl rfl rfl ?_
  refine R_getf_r (j := 1) rfl ft_9_9 sh_96 rfl ?_
  refine R_bipush 11 rfl rfl ?_
  refine R_iconst 2 rfl rfl ?_
  refine R_iload_n (k := 1) rfl rfl rfl ?_
  refine R_imul rfl ?_
  refine N_eq (fun x7 e8 => ?_)
  have q9 : x7.toInt = 2 * a0.toInt := by rw [e8]; exact i_mul (by decide) rfl (by omega)
  refine R_iadd rfl ?_
  refine N_eq (fun x10 e11 => ?_)
  have q12 : x10.toInt = 11 + x7.toInt := by rw [e11]; exact i_add (by decide) rfl (by omega)
  refine R_iconst 1 rfl rfl ?_
  refine R_iadd rfl ?_
  refine N_eq (fun x13 e14 => ?_)
  have q15 : x13.toInt = x10.toInt + 1 := by rw [e14]; exact i_add rfl (by decide) (by omega)
  refine R_iald rfl sh_97 ⟨by omega, by omega⟩ ?_
  refine N_eq (fun x16 e17 => ?_)
  have e18 : x16 = (evOf h).1 x13.toNatClampNeg := by rw [e17]; exact congrFun (congrArg (fun q : EV => q.1) hE) _
  refine R_nat (b := 1) rfl mt_9_i167 rfl ⟨by decide, by decide, Nat.le_of_ble_eq_true rfl⟩ ?_
  refine N_eq (fun x19 e20 => ?_)
  refine R_istore_n (k := 2) rfl [(2, .inl x19), (0, .inr (.inr (.inl 96))), (1, .inl a0)] rfl rfl (by decide) ?_
  refine R_aload_n (k := 0) rfl rfl rfl ?_
  refine R_getf_r (j := 23) rfl ft_9_49 sh_96 rfl ?_
  refine R_iload_n (k := 1) rfl rfl rfl ?_
  refine R_dup2 rfl ?_
  refine R_iald rfl sh_108 ⟨by omega, by omega⟩ ?_
  refine N_eq (fun x21 e22 => ?_)
  have e23 : x21 = ((kyOf h).2.1) a0.toNatClampNeg := by rw [e22]; exact (ky_at108 (nlt ⟨by omega, by omega⟩)).trans (congrFun (congrArg (fun q : KY => q.2.1) hK) _)
  refine R_iload_n (k := 2) rfl rfl rfl ?_
  have b24 := i_rng x21
  have b25 := i_rng x19
  refine R_isub rfl ?_
  refine N_eq (fun x26 e27 => ?_)
  refine K_iast (a := a0.toInt) (lo := (-2147483648)) (hi' := 2147483647) rfl sh_108 rfl ⟨by omega, by omega⟩ hI (by decide) rfl (i_rng _) fr (by decide) (fun h28 g29 hI fr => ?_)
  have s30 : (h28.1 96 18).toInt = (h.1 96 18).toInt := by rw [g29, wI_ne _ _ _ (by decide)]
  have s31 : (h28.1 96 34).toInt = (h.1 96 34).toInt := by rw [g29, wI_ne _ _ _ (by decide)]
  have s32 : (h28.1 96 36).toInt = (h.1 96 36).toInt := by rw [g29, wI_ne _ _ _ (by decide)]
  have s33 : (h28.1 96 41).toInt = (h.1 96 41).toInt := by rw [g29, wI_ne _ _ _ (by decide)]
  have s34 : (h28.1 96 42).toInt = (h.1 96 42).toInt := by rw [g29, wI_ne _ _ _ (by decide)]
  have s35 : (h28.1 96 19).toInt = (h.1 96 19).toInt := by rw [g29, wI_ne _ _ _ (by decide)]
  have s36 : (h28.1 96 20).toInt = (h.1 96 20).toInt := by rw [g29, wI_ne _ _ _ (by decide)]
  have s37 : (h28.1 96 46).toInt = (h.1 96 46).toInt := by rw [g29, wI_ne _ _ _ (by decide)]
  have s38 : (h28.1 96 44).toInt = (h.1 96 44).toInt := by rw [g29, wI_ne _ _ _ (by decide)]
  have s39 : (h28.1 96 47).toInt = (h.1 96 47).toInt := by rw [g29, wI_ne _ _ _ (by decide)]
  have s40 : (h28.1 96 48).toInt = (h.1 96 48).toInt := by rw [g29, wI_ne _ _ _ (by decide)]
  have s41 : (h28.1 96 51).toInt = (h.1 96 51).toInt := by rw [g29, wI_ne _ _ _ (by decide)]
  have hK : kyOf h28 = ((kyOf h).1, upd ((kyOf h).2.1) a0.toNatClampNeg x26, (kyOf h).2.2.1, (kyOf h).2.2.2) := by rw [g29, ky_108 (nlt ⟨by omega, by omega⟩), hK] <;> rfl
  have hE : evOf h28 = evOf h := by rw [g29, ev_o (by decide), hE]
  refine R_aload_n (k := 0) rfl rfl rfl ?_
  refine R_getf_r (j := 33) rfl ft_9_79 sh_96 rfl ?_
  refine R_iload_n (k := 1) rfl rfl rfl ?_
  refine R_dup2 rfl ?_
  refine R_iald rfl sh_118 ⟨by omega, by omega⟩ ?_
  refine N_eq (fun x42 e43 => ?_)
  refine R_iload_n (k := 2) rfl rfl rfl ?_
  have b44 := i_rng x42
  have b45 := i_rng x19
  refine R_iadd rfl ?_
  refine N_eq (fun x46 e47 => ?_)
  refine K_iast (a := a0.toInt) (lo := (-2147483648)) (hi' := 2147483647) rfl sh_118 rfl ⟨by omega, by omega⟩ hI (by decide) rfl (i_rng _) fr (by decide) (fun h48 g49 hI fr => ?_)
  have s50 : (h48.1 96 18).toInt = (h28.1 96 18).toInt := by rw [g49, wI_ne _ _ _ (by decide)]
  have s51 : (h48.1 96 34).toInt = (h28.1 96 34).toInt := by rw [g49, wI_ne _ _ _ (by decide)]
  have s52 : (h48.1 96 36).toInt = (h28.1 96 36).toInt := by rw [g49, wI_ne _ _ _ (by decide)]
  have s53 : (h48.1 96 41).toInt = (h28.1 96 41).toInt := by rw [g49, wI_ne _ _ _ (by decide)]
  have s54 : (h48.1 96 42).toInt = (h28.1 96 42).toInt := by rw [g49, wI_ne _ _ _ (by decide)]
  have s55 : (h48.1 96 19).toInt = (h28.1 96 19).toInt := by rw [g49, wI_ne _ _ _ (by decide)]
  have s56 : (h48.1 96 20).toInt = (h28.1 96 20).toInt := by rw [g49, wI_ne _ _ _ (by decide)]
  have s57 : (h48.1 96 46).toInt = (h28.1 96 46).toInt := by rw [g49, wI_ne _ _ _ (by decide)]
  have s58 : (h48.1 96 44).toInt = (h28.1 96 44).toInt := by rw [g49, wI_ne _ _ _ (by decide)]
  have s59 : (h48.1 96 47).toInt = (h28.1 96 47).toInt := by rw [g49, wI_ne _ _ _ (by decide)]
  have s60 : (h48.1 96 48).toInt = (h28.1 96 48).toInt := by rw [g49, wI_ne _ _ _ (by decide)]
  have s61 : (h48.1 96 51).toInt = (h28.1 96 51).toInt := by rw [g49, wI_ne _ _ _ (by decide)]
  have hK : kyOf h48 = ((kyOf h).1, upd ((kyOf h).2.1) a0.toNatClampNeg x26, (kyOf h).2.2.1, (kyOf h).2.2.2) := by rw [g49, ky_o (by decide), hK]
  have hE : evOf h48 = evOf h := by rw [g49, ev_o (by decide), hE]
  refine R_aload_n (k := 0) rfl rfl rfl ?_
  refine R_dup_r rfl ?_
  refine R_getf_i (j := 36) rfl ft_9_268 sh_96 rfl ?_
  refine R_iload_n (k := 2) rfl rfl rfl ?_
  have b62 := i_rng (h48.1 96 36)
  have b63 := i_rng x19
  refine R_iadd rfl ?_
  refine N_eq (fun x64 e65 => ?_)
  refine K_putf (j := 36) (lo := (-2147483648)) (hi' := 2147483647) rfl ft_9_268 sh_96 rfl hI (by decide) rfl (i_rng _) fr (by decide) (fun h66 g67 hI fr => ?_)
  have s68 : (h66.1 96 18).toInt = (h48.1 96 18).toInt := by rw [g67, wI_at (by decide)]
  have s69 : (h66.1 96 34).toInt = (h48.1 96 34).toInt := by rw [g67, wI_at (by decide)]
  have s70 : (h66.1 96 41).toInt = (h48.1 96 41).toInt := by rw [g67, wI_at (by decide)]
  have s71 : (h66.1 96 42).toInt = (h48.1 96 42).toInt := by rw [g67, wI_at (by decide)]
  have s72 : (h66.1 96 19).toInt = (h48.1 96 19).toInt := by rw [g67, wI_at (by decide)]
  have s73 : (h66.1 96 20).toInt = (h48.1 96 20).toInt := by rw [g67, wI_at (by decide)]
  have s74 : (h66.1 96 46).toInt = (h48.1 96 46).toInt := by rw [g67, wI_at (by decide)]
  have s75 : (h66.1 96 44).toInt = (h48.1 96 44).toInt := by rw [g67, wI_at (by decide)]
  have s76 : (h66.1 96 47).toInt = (h48.1 96 47).toInt := by rw [g67, wI_at (by decide)]
  have s77 : (h66.1 96 48).toInt = (h48.1 96 48).toInt := by rw [g67, wI_at (by decide)]
  have s78 : (h66.1 96 51).toInt = (h48.1 96 51).toInt := by rw [g67, wI_at (by decide)]
  have hK : kyOf h66 = ((kyOf h).1, upd ((kyOf h).2.1) a0.toNatClampNeg x26, (kyOf h).2.2.1, (kyOf h).2.2.2) := by rw [g67, ky_s (by decide), hK]
  have hE : evOf h66 = evOf h := by rw [g67, ev_s (by decide), hE]
  have s79 : (h66.1 96 36).toInt = x64.toInt := by rw [g67, wI_is]
  refine R_aload_n (k := 0) rfl rfl rfl ?_
  refine R_getf_r (j := 32) rfl ft_9_76 sh_96 rfl ?_
  refine R_iload_n (k := 1) rfl rfl rfl ?_
  refine R_dup2 rfl ?_
  refine R_iald rfl sh_117 ⟨by omega, by omega⟩ ?_
  refine N_eq (fun x80 e81 => ?_)
  refine R_iconst 1 rfl rfl ?_
  have b82 := i_rng x80
  refine R_iadd rfl ?_
  refine N_eq (fun x83 e84 => ?_)
  refine K_iast (a := a0.toInt) (lo := (-2147483648)) (hi' := 2147483647) rfl sh_117 rfl ⟨by omega, by omega⟩ hI (by decide) rfl (i_rng _) fr (by decide) (fun h85 g86 hI fr => ?_)
  have s87 : (h85.1 96 18).toInt = (h66.1 96 18).toInt := by rw [g86, wI_ne _ _ _ (by decide)]
  have s88 : (h85.1 96 34).toInt = (h66.1 96 34).toInt := by rw [g86, wI_ne _ _ _ (by decide)]
  have s89 : (h85.1 96 41).toInt = (h66.1 96 41).toInt := by rw [g86, wI_ne _ _ _ (by decide)]
  have s90 : (h85.1 96 42).toInt = (h66.1 96 42).toInt := by rw [g86, wI_ne _ _ _ (by decide)]
  have s91 : (h85.1 96 19).toInt = (h66.1 96 19).toInt := by rw [g86, wI_ne _ _ _ (by decide)]
  have s92 : (h85.1 96 20).toInt = (h66.1 96 20).toInt := by rw [g86, wI_ne _ _ _ (by decide)]
  have s93 : (h85.1 96 46).toInt = (h66.1 96 46).toInt := by rw [g86, wI_ne _ _ _ (by decide)]
  have s94 : (h85.1 96 44).toInt = (h66.1 96 44).toInt := by rw [g86, wI_ne _ _ _ (by decide)]
  have s95 : (h85.1 96 47).toInt = (h66.1 96 47).toInt := by rw [g86, wI_ne _ _ _ (by decide)]
  have s96 : (h85.1 96 48).toInt = (h66.1 96 48).toInt := by rw [g86, wI_ne _ _ _ (by decide)]
  have s97 : (h85.1 96 51).toInt = (h66.1 96 51).toInt := by rw [g86, wI_ne _ _ _ (by decide)]
  have s98 : (h85.1 96 36).toInt = (h66.1 96 36).toInt := by rw [g86, wI_ne _ _ _ (by decide)]
  have hK : kyOf h85 = ((kyOf h).1, upd ((kyOf h).2.1) a0.toNatClampNeg x26, (kyOf h).2.2.1, (kyOf h).2.2.2) := by rw [g86, ky_o (by decide), hK]
  have hE : evOf h85 = evOf h := by rw [g86, ev_o (by decide), hE]
  have hF : kyOf h85 = zSpill (evOf h) a0 (kyOf h) := by
    refine hK.trans ?_
    subst e84 e81 e65 e47 e43 e27 e23 e20 e18 e14 e11 e8 e6
    simp only [zSpill, zMin, eWorld]
    (repeat' split) <;> first | rfl | (exfalso; omega)
  exact R_vret rfl rfl ⟨hI, fr, ⟨by omega, by omega, by omega, by omega, by omega, by omega, by omega, by omega, by omega, by omega, by omega, hF, hE, trivial⟩, rfl⟩
abbrev q_X9_goPlace (h : PH) (a0 : Int32) (a1 : Int32) : Option PV → PH → Prop := fun r h' => INV h' ∧ FR [96, 107, 108, 109, 117, 118] h h' ∧ ((h'.1 96 18).toInt = (h.1 96 18).toInt ∧ (h'.1 96 41).toInt = (h.1 96 41).toInt ∧ (h'.1 96 42).toInt = (h.1 96 42).toInt ∧ (h'.1 96 19).toInt = (h.1 96 19).toInt ∧ (h'.1 96 20).toInt = (h.1 96 20).toInt ∧ (h'.1 96 46).toInt = (h.1 96 46).toInt ∧ (h'.1 96 44).toInt = (h.1 96 44).toInt ∧ (h'.1 96 47).toInt = (h.1 96 47).toInt ∧ (h'.1 96 48).toInt = (h.1 96 48).toInt ∧ (h'.1 96 51).toInt = (h.1 96 51).toInt ∧ (kyOf h' = zPlace (evOf h) a0 a1 (kyOf h)) ∧ (evOf h' = evOf h) ∧ True) ∧ r = none
set_option maxHeartbeats 4000000 in
set_option maxRecDepth 100000 in
theorem g_X9_goPlace (h : PH) (hI : INV h) (a0 : Int32) (a1 : Int32) (h0a : 0 ≤ a0.toInt ∧ a0.toInt ≤ 5) (h1a : 0 ≤ a1.toInt ∧ a1.toInt ≤ 2147483647) (pr0 : a0.toInt ≤ (h.1 96 18).toInt + (-1)) : CALL d_X9_goPlace [.inr (.inr (.inl 96)), .inl a0, .inl a1] h (q_X9_goPlace h a0 a1) := by
  show RUN d_X9_goPlace 0 [(0, .inr (.inr (.inl 96))), (1, .inl a0), (2, .inl a1)] [] h _
  have fr : FR [96, 107, 108, 109, 117, 118] h h := FR.rf _ _
  have hK : kyOf h = kyOf h := rfl
  have hE : evOf h = evOf h := rfl
  have b1 : (0 : Int) ≤ (h.1 96 18).toInt ∧ (h.1 96 18).toInt ≤ 6 := hI.1 96 18
  have b2 : (h.1 96 18).toInt = ((evOf h).2.2.2.2.1).toInt := congrArg (fun q : EV => (q.2.2.2.2.1).toInt) hE
  have b3 : (0 : Int) ≤ (h.1 96 51).toInt ∧ (h.1 96 51).toInt ≤ 720 := hI.1 96 51
  refine R_aload_n (k := 0) rfl rfl rfl ?_
  refine R_getf_r (j := 17) rfl ft_9_40 sh_96 rfl ?_
  refine R_iload_n (k := 1) rfl rfl rfl ?_
  refine R_iald rfl sh_105 ⟨by omega, by omega⟩ ?_
  refine N_eq (fun x4 e5 => ?_)
  have q6 : 0 ≤ x4.toInt ∧ x4.toInt ≤ 5 := by rw [e5]; exact hI.1 105 _
  have e7 : x4 = (evOf h).2.2.2.1 a0.toNatClampNeg := by rw [e5]; exact congrFun (congrArg (fun q : EV => q.2.2.2.1) hE) _
  refine R_istore_n (k := 3) rfl [(3, .inl x4), (0, .inr (.inr (.inl 96))), (1, .inl a0), (2, .inl a1)] rfl rfl (by decide) ?_
  refine R_aload_n (k := 0) rfl rfl rfl ?_
  refine R_getf_r (j := 22) rfl ft_9_46 sh_96 rfl ?_
  refine R_iload_n (k := 3) rfl rfl rfl ?_
  refine R_iald rfl sh_107 ⟨by omega, by omega⟩ ?_
  refine N_eq (fun x8 e9 => ?_)
  have e10 : x8 = ((kyOf h).1) x4.toNatClampNeg := by rw [e9]; exact (ky_at107 (nlt ⟨by omega, by omega⟩)).trans (congrFun (congrArg (fun q : KY => q.1) hK) _)
  refine R_aload_n (k := 0) rfl rfl rfl ?_
  refine R_getf_r (j := 15) rfl ft_9_34 sh_96 rfl ?_
  refine R_iload_n (k := 3) rfl rfl rfl ?_
  refine R_iald rfl sh_103 ⟨by omega, by omega⟩ ?_
  refine N_eq (fun x11 e12 => ?_)
  have e13 : x11 = (evOf h).2.1 x4.toNatClampNeg := by rw [e12]; exact congrFun (congrArg (fun q : EV => q.2.1) hE) _
  refine N_icmp_lt (a := x8.toInt) (b := x11.toInt) 31 rfl rfl rfl rfl (fun c14 => ?_) (fun c14 => ?_)
  · have hF : kyOf h = zPlace (evOf h) a0 a1 (kyOf h) := by
      refine hK.trans ?_
      subst e13 e10 e7
      simp only [zPlace, zPlace1, zThrow, zGive, ePace, eLine, eMany, eWorld]
      (repeat' split) <;> first | rfl | (exfalso; omega)
    exact R_vret rfl rfl ⟨hI, fr, ⟨by omega, by omega, by omega, by omega, by omega, by omega, by omega, by omega, by omega, by omega, hF, hE, trivial⟩, rfl⟩
  · refine R_aload_n (k := 0) rfl rfl rfl ?_
    refine R_iload_n (k := 3) rfl rfl rfl ?_
    refine R_iload_n (k := 2) rfl rfl rfl ?_
    have b15 := i_rng a1
    refine R_callV (v := .inr (.inr (.inl 96))) (As := [.inl x4, .inl a1]) (rest := []) rfl mt_9_i271 pp_X9_doesRest (by decide) rfl rfl rfl (Nat.le_of_ble_eq_true rfl) (Nat.le_of_ble_eq_true rfl) ((g_X9_doesRest h hI x4 a1 (by omega) (by omega)).mono (fun r16 h17 p18 => ?_))
    obtain ⟨rfl, x20, rfl, (q21 | q21 | q21), zq19, -⟩ := p18
    · rw [hE] at zq19
      show RUN d_X9_goPlace 28 [(3, .inl x4), (0, .inr (.inr (.inl 96))), (1, .inl a0), (2, .inl a1)] [.inl x20] h _
      refine N_if_eq (a := x20.toInt) 32 rfl rfl rfl (fun c22 => ?_) (fun c22 => ?_)
      · refine R_iload_n (k := 1) rfl rfl rfl ?_
        refine R_aload_n (k := 0) rfl rfl rfl ?_
        refine R_getf_i (j := 18) rfl ft_9_253 sh_96 rfl ?_
        refine R_iconst 1 rfl rfl ?_
        refine R_isub rfl ?_
        refine N_eq (fun x23 e24 => ?_)
        have q25 : x23.toInt = (h.1 96 18).toInt - 1 := by rw [e24]; exact i_sub rfl (by decide) (by omega)
        refine N_icmp_ne (a := a0.toInt) (b := x23.toInt) 104 rfl rfl rfl rfl (fun c26 => ?_) (fun c26 => ?_)
        · refine R_aload_n (k := 0) rfl rfl rfl ?_
          refine R_getf_r (j := 17) rfl ft_9_40 sh_96 rfl ?_
          refine R_iload_n (k := 1) rfl rfl rfl ?_
          refine R_iconst 1 rfl rfl ?_
          refine R_iadd rfl ?_
          refine N_eq (fun x27 e28 => ?_)
          have q29 : x27.toInt = a0.toInt + 1 := by rw [e28]; exact i_add rfl (by decide) (by omega)
          refine R_iald rfl sh_105 ⟨by omega, by omega⟩ ?_
          refine N_eq (fun x30 e31 => ?_)
          have q32 : 0 ≤ x30.toInt ∧ x30.toInt ≤ 5 := by rw [e31]; exact hI.1 105 _
          have e33 : x30 = (evOf h).2.2.2.1 x27.toNatClampNeg := by rw [e31]; exact congrFun (congrArg (fun q : EV => q.2.2.2.1) hE) _
          refine R_istore (k := 4) [(4, .inl x30), (3, .inl x4), (0, .inr (.inr (.inl 96))), (1, .inl a0), (2, .inl a1)] rfl rfl (by decide) ?_
          refine R_aload_n (k := 0) rfl rfl rfl ?_
          refine R_getf_r (j := 22) rfl ft_9_46 sh_96 rfl ?_
          refine R_iload (k := 4) rfl rfl ?_
          refine R_iald rfl sh_107 ⟨by omega, by omega⟩ ?_
          refine N_eq (fun x34 e35 => ?_)
          have e36 : x34 = ((kyOf h).1) x30.toNatClampNeg := by rw [e35]; exact (ky_at107 (nlt ⟨by omega, by omega⟩)).trans (congrFun (congrArg (fun q : KY => q.1) hK) _)
          refine R_iconst (-1) rfl rfl ?_
          refine N_icmp_ne (a := x34.toInt) (b := (-1)) 135 rfl rfl rfl (by decide) (fun c37 => ?_) (fun c37 => ?_)
          · have hF : kyOf h = zPlace (evOf h) a0 a1 (kyOf h) := by
              refine hK.trans ?_
              subst e36 e33 e28 e24 e13 e10 e7
              simp only [zPlace, zPlace1, zThrow, zGive, ePace, eLine, eMany, eWorld]
              (repeat' split) <;> first | rfl | (exfalso; omega)
            exact R_vret rfl rfl ⟨hI, fr, ⟨by omega, by omega, by omega, by omega, by omega, by omega, by omega, by omega, by omega, by omega, hF, hE, trivial⟩, rfl⟩
          · refine R_aload_n (k := 0) rfl rfl rfl ?_
            refine R_iload (k := 4) rfl rfl ?_
            refine R_iload_n (k := 2) rfl rfl rfl ?_
            have b38 := i_rng a1
            refine R_callV (v := .inr (.inr (.inl 96))) (As := [.inl x30, .inl a1]) (rest := []) rfl mt_9_i271 pp_X9_doesRest (by decide) rfl rfl rfl (Nat.le_of_ble_eq_true rfl) (Nat.le_of_ble_eq_true rfl) ((g_X9_doesRest h hI x30 a1 (by omega) (by omega)).mono (fun r39 h40 p41 => ?_))
            obtain ⟨rfl, x43, rfl, (q44 | q44 | q44), zq42, -⟩ := p41
            · rw [hE] at zq42
              show RUN d_X9_goPlace 132 [(4, .inl x30), (3, .inl x4), (0, .inr (.inr (.inl 96))), (1, .inl a0), (2, .inl a1)] [.inl x43] h _
              refine N_if_eq (a := x43.toInt) 136 rfl rfl rfl (fun c45 => ?_) (fun c45 => ?_)
              · refine R_aload_n (k := 0) rfl rfl rfl ?_
                refine R_iload_n (k := 3) rfl rfl rfl ?_
                refine R_callV (v := .inr (.inr (.inl 96))) (As := [.inl x4]) (rest := []) rfl mt_9_i275 pp_X9_spill (by decide) rfl rfl rfl (Nat.le_of_ble_eq_true rfl) (Nat.le_of_ble_eq_true rfl) ((g_X9_spill h hI x4 (by omega)).mono (fun r46 h47 p48 => ?_))
                obtain ⟨hJ, fj, ⟨kp49, kp50, kp51, kp52, kp53, kp54, kp55, kp56, kp57, kp58, kp59, xq60, xq61, -⟩, rfl⟩ := p48
                have f62 := fj
                have fr := fr.trans fj (by decide)
                have hI := hJ
                have hK : kyOf h47 = zSpill (evOf h) x4 (kyOf h) := by rw [xq60, hE, hK]
                have hE : evOf h47 = evOf h := xq61.trans hE
                show RUN d_X9_goPlace 141 [(4, .inl x30), (3, .inl x4), (0, .inr (.inr (.inl 96))), (1, .inl a0), (2, .inl a1)] [] h47 _
                refine R_aload_n (k := 0) rfl rfl rfl ?_
                refine R_getf_r (j := 22) rfl ft_9_46 sh_96 rfl ?_
                refine R_iload (k := 4) rfl rfl ?_
                refine R_iconst 0 rfl rfl ?_
                refine K_iast (a := x30.toInt) (lo := (-2147483648)) (hi' := 2147483647) rfl sh_107 rfl ⟨by omega, by omega⟩ hI (by decide) rfl (by decide) fr (by decide) (fun h63 g64 hI fr => ?_)
                have s65 : (h63.1 96 18).toInt = (h47.1 96 18).toInt := by rw [g64, wI_ne _ _ _ (by decide)]
                have s66 : (h63.1 96 34).toInt = (h47.1 96 34).toInt := by rw [g64, wI_ne _ _ _ (by decide)]
                have s67 : (h63.1 96 41).toInt = (h47.1 96 41).toInt := by rw [g64, wI_ne _ _ _ (by decide)]
                have s68 : (h63.1 96 42).toInt = (h47.1 96 42).toInt := by rw [g64, wI_ne _ _ _ (by decide)]
                have s69 : (h63.1 96 19).toInt = (h47.1 96 19).toInt := by rw [g64, wI_ne _ _ _ (by decide)]
                have s70 : (h63.1 96 20).toInt = (h47.1 96 20).toInt := by rw [g64, wI_ne _ _ _ (by decide)]
                have s71 : (h63.1 96 46).toInt = (h47.1 96 46).toInt := by rw [g64, wI_ne _ _ _ (by decide)]
                have s72 : (h63.1 96 44).toInt = (h47.1 96 44).toInt := by rw [g64, wI_ne _ _ _ (by decide)]
                have s73 : (h63.1 96 47).toInt = (h47.1 96 47).toInt := by rw [g64, wI_ne _ _ _ (by decide)]
                have s74 : (h63.1 96 48).toInt = (h47.1 96 48).toInt := by rw [g64, wI_ne _ _ _ (by decide)]
                have s75 : (h63.1 96 51).toInt = (h47.1 96 51).toInt := by rw [g64, wI_ne _ _ _ (by decide)]
                have hK : kyOf h63 = (upd ((zSpill (evOf h) x4 (kyOf h)).1) x30.toNatClampNeg (0), (zSpill (evOf h) x4 (kyOf h)).2.1, (zSpill (evOf h) x4 (kyOf h)).2.2.1, (zSpill (evOf h) x4 (kyOf h)).2.2.2) := by rw [g64, ky_107 (nlt ⟨by omega, by omega⟩), hK] <;> rfl
                have hE : evOf h63 = evOf h := by rw [g64, ev_o (by decide), hE]
                refine R_aload_n (k := 0) rfl rfl rfl ?_
                refine R_getf_r (j := 23) rfl ft_9_49 sh_96 rfl ?_
                refine R_iload (k := 4) rfl rfl ?_
                refine R_aload_n (k := 0) rfl rfl rfl ?_
                refine R_getf_r (j := 23) rfl ft_9_49 sh_96 rfl ?_
                refine R_iload_n (k := 3) rfl rfl rfl ?_
                refine R_iald rfl sh_108 ⟨by omega, by omega⟩ ?_
                refine N_eq (fun x76 e77 => ?_)
                have e78 : x76 = ((zSpill (evOf h) x4 (kyOf h)).2.1) x4.toNatClampNeg := by rw [e77]; exact (ky_at108 (nlt ⟨by omega, by omega⟩)).trans (congrFun (congrArg (fun q : KY => q.2.1) hK) _)
                refine K_iast (a := x30.toInt) (lo := (-2147483648)) (hi' := 2147483647) rfl sh_108 rfl ⟨by omega, by omega⟩ hI (by decide) rfl (i_rng _) fr (by decide) (fun h79 g80 hI fr => ?_)
                have s81 : (h79.1 96 18).toInt = (h63.1 96 18).toInt := by rw [g80, wI_ne _ _ _ (by decide)]
                have s82 : (h79.1 96 34).toInt = (h63.1 96 34).toInt := by rw [g80, wI_ne _ _ _ (by decide)]
                have s83 : (h79.1 96 41).toInt = (h63.1 96 41).toInt := by rw [g80, wI_ne _ _ _ (by decide)]
                have s84 : (h79.1 96 42).toInt = (h63.1 96 42).toInt := by rw [g80, wI_ne _ _ _ (by decide)]
                have s85 : (h79.1 96 19).toInt = (h63.1 96 19).toInt := by rw [g80, wI_ne _ _ _ (by decide)]
                have s86 : (h79.1 96 20).toInt = (h63.1 96 20).toInt := by rw [g80, wI_ne _ _ _ (by decide)]
                have s87 : (h79.1 96 46).toInt = (h63.1 96 46).toInt := by rw [g80, wI_ne _ _ _ (by decide)]
                have s88 : (h79.1 96 44).toInt = (h63.1 96 44).toInt := by rw [g80, wI_ne _ _ _ (by decide)]
                have s89 : (h79.1 96 47).toInt = (h63.1 96 47).toInt := by rw [g80, wI_ne _ _ _ (by decide)]
                have s90 : (h79.1 96 48).toInt = (h63.1 96 48).toInt := by rw [g80, wI_ne _ _ _ (by decide)]
                have s91 : (h79.1 96 51).toInt = (h63.1 96 51).toInt := by rw [g80, wI_ne _ _ _ (by decide)]
                have hK : kyOf h79 = (upd ((zSpill (evOf h) x4 (kyOf h)).1) x30.toNatClampNeg (0), upd ((zSpill (evOf h) x4 (kyOf h)).2.1) x30.toNatClampNeg x76, (zSpill (evOf h) x4 (kyOf h)).2.2.1, (zSpill (evOf h) x4 (kyOf h)).2.2.2) := by rw [g80, ky_108 (nlt ⟨by omega, by omega⟩), hK] <;> rfl
                have hE : evOf h79 = evOf h := by rw [g80, ev_o (by decide), hE]
                refine R_aload_n (k := 0) rfl rfl rfl ?_
                refine R_getf_r (j := 22) rfl ft_9_46 sh_96 rfl ?_
                refine R_iload_n (k := 3) rfl rfl rfl ?_
                refine R_iconst (-1) rfl rfl ?_
                refine K_iast (a := x4.toInt) (lo := (-2147483648)) (hi' := 2147483647) rfl sh_107 rfl ⟨by omega, by omega⟩ hI (by decide) rfl (by decide) fr (by decide) (fun h92 g93 hI fr => ?_)
                have s94 : (h92.1 96 18).toInt = (h79.1 96 18).toInt := by rw [g93, wI_ne _ _ _ (by decide)]
                have s95 : (h92.1 96 34).toInt = (h79.1 96 34).toInt := by rw [g93, wI_ne _ _ _ (by decide)]
                have s96 : (h92.1 96 41).toInt = (h79.1 96 41).toInt := by rw [g93, wI_ne _ _ _ (by decide)]
                have s97 : (h92.1 96 42).toInt = (h79.1 96 42).toInt := by rw [g93, wI_ne _ _ _ (by decide)]
                have s98 : (h92.1 96 19).toInt = (h79.1 96 19).toInt := by rw [g93, wI_ne _ _ _ (by decide)]
                have s99 : (h92.1 96 20).toInt = (h79.1 96 20).toInt := by rw [g93, wI_ne _ _ _ (by decide)]
                have s100 : (h92.1 96 46).toInt = (h79.1 96 46).toInt := by rw [g93, wI_ne _ _ _ (by decide)]
                have s101 : (h92.1 96 44).toInt = (h79.1 96 44).toInt := by rw [g93, wI_ne _ _ _ (by decide)]
                have s102 : (h92.1 96 47).toInt = (h79.1 96 47).toInt := by rw [g93, wI_ne _ _ _ (by decide)]
                have s103 : (h92.1 96 48).toInt = (h79.1 96 48).toInt := by rw [g93, wI_ne _ _ _ (by decide)]
                have s104 : (h92.1 96 51).toInt = (h79.1 96 51).toInt := by rw [g93, wI_ne _ _ _ (by decide)]
                have hK : kyOf h92 = (upd (upd ((zSpill (evOf h) x4 (kyOf h)).1) x30.toNatClampNeg (0)) x4.toNatClampNeg ((-1)), upd ((zSpill (evOf h) x4 (kyOf h)).2.1) x30.toNatClampNeg x76, (zSpill (evOf h) x4 (kyOf h)).2.2.1, (zSpill (evOf h) x4 (kyOf h)).2.2.2) := by rw [g93, ky_107 (nlt ⟨by omega, by omega⟩), hK] <;> rfl
                have hE : evOf h92 = evOf h := by rw [g93, ev_o (by decide), hE]
                refine R_aload_n (k := 0) rfl rfl rfl ?_
                refine R_getf_r (j := 23) rfl ft_9_49 sh_96 rfl ?_
                refine R_iload_n (k := 3) rfl rfl rfl ?_
                refine R_iconst 0 rfl rfl ?_
                refine K_iast (a := x4.toInt) (lo := (-2147483648)) (hi' := 2147483647) rfl sh_108 rfl ⟨by omega, by omega⟩ hI (by decide) rfl (by decide) fr (by decide) (fun h105 g106 hI fr => ?_)
                have s107 : (h105.1 96 18).toInt = (h92.1 96 18).toInt := by rw [g106, wI_ne _ _ _ (by decide)]
                have s108 : (h105.1 96 34).toInt = (h92.1 96 34).toInt := by rw [g106, wI_ne _ _ _ (by decide)]
                have s109 : (h105.1 96 41).toInt = (h92.1 96 41).toInt := by rw [g106, wI_ne _ _ _ (by decide)]
                have s110 : (h105.1 96 42).toInt = (h92.1 96 42).toInt := by rw [g106, wI_ne _ _ _ (by decide)]
                have s111 : (h105.1 96 19).toInt = (h92.1 96 19).toInt := by rw [g106, wI_ne _ _ _ (by decide)]
                have s112 : (h105.1 96 20).toInt = (h92.1 96 20).toInt := by rw [g106, wI_ne _ _ _ (by decide)]
                have s113 : (h105.1 96 46).toInt = (h92.1 96 46).toInt := by rw [g106, wI_ne _ _ _ (by decide)]
                have s114 : (h105.1 96 44).toInt = (h92.1 96 44).toInt := by rw [g106, wI_ne _ _ _ (by decide)]
                have s115 : (h105.1 96 47).toInt = (h92.1 96 47).toInt := by rw [g106, wI_ne _ _ _ (by decide)]
                have s116 : (h105.1 96 48).toInt = (h92.1 96 48).toInt := by rw [g106, wI_ne _ _ _ (by decide)]
                have s117 : (h105.1 96 51).toInt = (h92.1 96 51).toInt := by rw [g106, wI_ne _ _ _ (by decide)]
                have hK : kyOf h105 = (upd (upd ((zSpill (evOf h) x4 (kyOf h)).1) x30.toNatClampNeg (0)) x4.toNatClampNeg ((-1)), upd (upd ((zSpill (evOf h) x4 (kyOf h)).2.1) x30.toNatClampNeg x76) x4.toNatClampNeg (0), (zSpill (evOf h) x4 (kyOf h)).2.2.1, (zSpill (evOf h) x4 (kyOf h)).2.2.2) := by rw [g106, ky_108 (nlt ⟨by omega, by omega⟩), hK] <;> rfl
                have hE : evOf h105 = evOf h := by rw [g106, ev_o (by decide), hE]
                have hF : kyOf h105 = zPlace (evOf h) a0 a1 (kyOf h) := by
                  refine hK.trans ?_
                  subst e78 e36 e33 e28 e24 e13 e10 e7
                  simp only [zPlace, zPlace1, zThrow, zGive, ePace, eLine, eMany, eWorld]
                  (repeat' split) <;> first | rfl | (exfalso; omega)
                exact R_vret rfl rfl ⟨hI, fr, ⟨by omega, by omega, by omega, by omega, by omega, by omega, by omega, by omega, by omega, by omega, hF, hE, trivial⟩, rfl⟩
              · exfalso; omega
              rw [hE] at zq42
            · exfalso; omega
              rw [hE] at zq42
            · exfalso; omega
        · refine R_aload_n (k := 0) rfl rfl rfl ?_
          refine R_iload_n (k := 3) rfl rfl rfl ?_
          refine R_callV (v := .inr (.inr (.inl 96))) (As := [.inl x4]) (rest := []) rfl mt_9_i275 pp_X9_spill (by decide) rfl rfl rfl (Nat.le_of_ble_eq_true rfl) (Nat.le_of_ble_eq_true rfl) ((g_X9_spill h hI x4 (by omega)).mono (fun r118 h119 p120 => ?_))
          obtain ⟨hJ, fj, ⟨kp121, kp122, kp123, kp124, kp125, kp126, kp127, kp128, kp129, kp130, kp131, xq132, xq133, -⟩, rfl⟩ := p120
          have f134 := fj
          have fr := fr.trans fj (by decide)
          have hI := hJ
          have hK : kyOf h119 = zSpill (evOf h) x4 (kyOf h) := by rw [xq132, hE, hK]
          have hE : evOf h119 = evOf h := xq133.trans hE
          show RUN d_X9_goPlace 47 [(3, .inl x4), (0, .inr (.inr (.inl 96))), (1, .inl a0), (2, .inl a1)] [] h119 _
          refine R_aload_n (k := 0) rfl rfl rfl ?_
          refine R_dup_r rfl ?_
          refine R_getf_i (j := 35) rfl ft_9_265 sh_96 rfl ?_
          refine N_eq (fun x135 e136 => ?_)
          have e137 : x135 = (zSpill (evOf h) x4 (kyOf h)).2.2.2 := by rw [e136]; exact congrArg (fun q : KY => q.2.2.2) hK
          refine R_aload_n (k := 0) rfl rfl rfl ?_
          refine R_getf_r (j := 23) rfl ft_9_49 sh_96 rfl ?_
          refine R_iload_n (k := 3) rfl rfl rfl ?_
          refine R_iald rfl sh_108 ⟨by omega, by omega⟩ ?_
          refine N_eq (fun x138 e139 => ?_)
          have e140 : x138 = ((zSpill (evOf h) x4 (kyOf h)).2.1) x4.toNatClampNeg := by rw [e139]; exact (ky_at108 (nlt ⟨by omega, by omega⟩)).trans (congrFun (congrArg (fun q : KY => q.2.1) hK) _)
          have b141 := i_rng x135
          have b142 := i_rng x138
          refine R_iadd rfl ?_
          refine N_eq (fun x143 e144 => ?_)
          refine K_putf (j := 35) (lo := (-2147483648)) (hi' := 2147483647) rfl ft_9_265 sh_96 rfl hI (by decide) rfl (i_rng _) fr (by decide) (fun h145 g146 hI fr => ?_)
          have s147 : (h145.1 96 18).toInt = (h119.1 96 18).toInt := by rw [g146, wI_at (by decide)]
          have s148 : (h145.1 96 34).toInt = (h119.1 96 34).toInt := by rw [g146, wI_at (by decide)]
          have s149 : (h145.1 96 41).toInt = (h119.1 96 41).toInt := by rw [g146, wI_at (by decide)]
          have s150 : (h145.1 96 42).toInt = (h119.1 96 42).toInt := by rw [g146, wI_at (by decide)]
          have s151 : (h145.1 96 19).toInt = (h119.1 96 19).toInt := by rw [g146, wI_at (by decide)]
          have s152 : (h145.1 96 20).toInt = (h119.1 96 20).toInt := by rw [g146, wI_at (by decide)]
          have s153 : (h145.1 96 46).toInt = (h119.1 96 46).toInt := by rw [g146, wI_at (by decide)]
          have s154 : (h145.1 96 44).toInt = (h119.1 96 44).toInt := by rw [g146, wI_at (by decide)]
          have s155 : (h145.1 96 47).toInt = (h119.1 96 47).toInt := by rw [g146, wI_at (by decide)]
          have s156 : (h145.1 96 48).toInt = (h119.1 96 48).toInt := by rw [g146, wI_at (by decide)]
          have s157 : (h145.1 96 51).toInt = (h119.1 96 51).toInt := by rw [g146, wI_at (by decide)]
          have hK : kyOf h145 = ((zSpill (evOf h) x4 (kyOf h)).1, (zSpill (evOf h) x4 (kyOf h)).2.1, (zSpill (evOf h) x4 (kyOf h)).2.2.1, x143) := by rw [g146, ky_35, hK] <;> rfl
          have hE : evOf h145 = evOf h := by rw [g146, ev_s (by decide), hE]
          have s158 : (h145.1 96 35).toInt = x143.toInt := by rw [g146, wI_is]
          refine R_aload_n (k := 0) rfl rfl rfl ?_
          refine R_dup_r rfl ?_
          refine R_getf_i (j := 34) rfl ft_9_262 sh_96 rfl ?_
          refine R_iconst 1 rfl rfl ?_
          have b159 := i_rng (h145.1 96 34)
          refine R_iadd rfl ?_
          refine N_eq (fun x160 e161 => ?_)
          refine K_putf (j := 34) (lo := (-2147483648)) (hi' := 2147483647) rfl ft_9_262 sh_96 rfl hI (by decide) rfl (i_rng _) fr (by decide) (fun h162 g163 hI fr => ?_)
          have s164 : (h162.1 96 18).toInt = (h145.1 96 18).toInt := by rw [g163, wI_at (by decide)]
          have s165 : (h162.1 96 41).toInt = (h145.1 96 41).toInt := by rw [g163, wI_at (by decide)]
          have s166 : (h162.1 96 42).toInt = (h145.1 96 42).toInt := by rw [g163, wI_at (by decide)]
          have s167 : (h162.1 96 19).toInt = (h145.1 96 19).toInt := by rw [g163, wI_at (by decide)]
          have s168 : (h162.1 96 20).toInt = (h145.1 96 20).toInt := by rw [g163, wI_at (by decide)]
          have s169 : (h162.1 96 46).toInt = (h145.1 96 46).toInt := by rw [g163, wI_at (by decide)]
          have s170 : (h162.1 96 44).toInt = (h145.1 96 44).toInt := by rw [g163, wI_at (by decide)]
          have s171 : (h162.1 96 47).toInt = (h145.1 96 47).toInt := by rw [g163, wI_at (by decide)]
          have s172 : (h162.1 96 48).toInt = (h145.1 96 48).toInt := by rw [g163, wI_at (by decide)]
          have s173 : (h162.1 96 51).toInt = (h145.1 96 51).toInt := by rw [g163, wI_at (by decide)]
          have s174 : (h162.1 96 35).toInt = (h145.1 96 35).toInt := by rw [g163, wI_at (by decide)]
          have hK : kyOf h162 = ((zSpill (evOf h) x4 (kyOf h)).1, (zSpill (evOf h) x4 (kyOf h)).2.1, (zSpill (evOf h) x4 (kyOf h)).2.2.1, x143) := by rw [g163, ky_s (by decide), hK]
          have hE : evOf h162 = evOf h := by rw [g163, ev_s (by decide), hE]
          have s175 : (h162.1 96 34).toInt = x160.toInt := by rw [g163, wI_is]
          refine R_aload_n (k := 0) rfl rfl rfl ?_
          refine R_getf_r (j := 24) rfl ft_9_52 sh_96 rfl ?_
          refine R_aload_n (k := 0) rfl rfl rfl ?_
          refine R_getf_r (j := 1) rfl ft_9_9 sh_96 rfl ?_
          refine R_iconst 3 rfl rfl ?_
          refine R_iald rfl sh_97 (by decide) ?_
          refine N_eq (fun x176 e177 => ?_)
          have q178 : 0 ≤ x176.toInt ∧ x176.toInt ≤ 20 := by rw [e177]; exact hI.1 97 _
          have e179 : x176 = (evOf h).1 (3 : Int32).toNatClampNeg := by rw [e177]; exact congrFun (congrArg (fun q : EV => q.1) hE) _
          refine R_iconst 1 rfl rfl ?_
          refine R_iadd rfl ?_
          refine N_eq (fun x180 e181 => ?_)
          have q182 : x180.toInt = x176.toInt + 1 := by rw [e181]; exact i_add rfl (by decide) (by omega)
          refine R_dup2 rfl ?_
          refine R_iald rfl sh_109 ⟨by omega, by omega⟩ ?_
          refine N_eq (fun x183 e184 => ?_)
          have e185 : x183 = ((zSpill (evOf h) x4 (kyOf h)).2.2.1) x180.toNatClampNeg := by rw [e184]; exact (ky_at109 (nlt ⟨by omega, by omega⟩)).trans (congrFun (congrArg (fun q : KY => q.2.2.1) hK) _)
          refine R_iconst 1 rfl rfl ?_
          have b186 := i_rng x183
          refine R_iadd rfl ?_
          refine N_eq (fun x187 e188 => ?_)
          refine K_iast (a := x180.toInt) (lo := (-2147483648)) (hi' := 2147483647) rfl sh_109 rfl ⟨by omega, by omega⟩ hI (by decide) rfl (i_rng _) fr (by decide) (fun h189 g190 hI fr => ?_)
          have s191 : (h189.1 96 18).toInt = (h162.1 96 18).toInt := by rw [g190, wI_ne _ _ _ (by decide)]
          have s192 : (h189.1 96 41).toInt = (h162.1 96 41).toInt := by rw [g190, wI_ne _ _ _ (by decide)]
          have s193 : (h189.1 96 42).toInt = (h162.1 96 42).toInt := by rw [g190, wI_ne _ _ _ (by decide)]
          have s194 : (h189.1 96 19).toInt = (h162.1 96 19).toInt := by rw [g190, wI_ne _ _ _ (by decide)]
          have s195 : (h189.1 96 20).toInt = (h162.1 96 20).toInt := by rw [g190, wI_ne _ _ _ (by decide)]
          have s196 : (h189.1 96 46).toInt = (h162.1 96 46).toInt := by rw [g190, wI_ne _ _ _ (by decide)]
          have s197 : (h189.1 96 44).toInt = (h162.1 96 44).toInt := by rw [g190, wI_ne _ _ _ (by decide)]
          have s198 : (h189.1 96 47).toInt = (h162.1 96 47).toInt := by rw [g190, wI_ne _ _ _ (by decide)]
          have s199 : (h189.1 96 48).toInt = (h162.1 96 48).toInt := by rw [g190, wI_ne _ _ _ (by decide)]
          have s200 : (h189.1 96 51).toInt = (h162.1 96 51).toInt := by rw [g190, wI_ne _ _ _ (by decide)]
          have s201 : (h189.1 96 35).toInt = (h162.1 96 35).toInt := by rw [g190, wI_ne _ _ _ (by decide)]
          have s202 : (h189.1 96 34).toInt = (h162.1 96 34).toInt := by rw [g190, wI_ne _ _ _ (by decide)]
          have hK : kyOf h189 = ((zSpill (evOf h) x4 (kyOf h)).1, (zSpill (evOf h) x4 (kyOf h)).2.1, upd ((zSpill (evOf h) x4 (kyOf h)).2.2.1) x180.toNatClampNeg x187, x143) := by rw [g190, ky_109 (nlt ⟨by omega, by omega⟩), hK] <;> rfl
          have hE : evOf h189 = evOf h := by rw [g190, ev_o (by decide), hE]
          refine R_aload_n (k := 0) rfl rfl rfl ?_
          refine R_getf_r (j := 22) rfl ft_9_46 sh_96 rfl ?_
          refine R_iload_n (k := 3) rfl rfl rfl ?_
          refine R_iconst (-1) rfl rfl ?_
          refine K_iast (a := x4.toInt) (lo := (-2147483648)) (hi' := 2147483647) rfl sh_107 rfl ⟨by omega, by omega⟩ hI (by decide) rfl (by decide) fr (by decide) (fun h203 g204 hI fr => ?_)
          have s205 : (h203.1 96 18).toInt = (h189.1 96 18).toInt := by rw [g204, wI_ne _ _ _ (by decide)]
          have s206 : (h203.1 96 41).toInt = (h189.1 96 41).toInt := by rw [g204, wI_ne _ _ _ (by decide)]
          have s207 : (h203.1 96 42).toInt = (h189.1 96 42).toInt := by rw [g204, wI_ne _ _ _ (by decide)]
          have s208 : (h203.1 96 19).toInt = (h189.1 96 19).toInt := by rw [g204, wI_ne _ _ _ (by decide)]
          have s209 : (h203.1 96 20).toInt = (h189.1 96 20).toInt := by rw [g204, wI_ne _ _ _ (by decide)]
          have s210 : (h203.1 96 46).toInt = (h189.1 96 46).toInt := by rw [g204, wI_ne _ _ _ (by decide)]
          have s211 : (h203.1 96 44).toInt = (h189.1 96 44).toInt := by rw [g204, wI_ne _ _ _ (by decide)]
          have s212 : (h203.1 96 47).toInt = (h189.1 96 47).toInt := by rw [g204, wI_ne _ _ _ (by decide)]
          have s213 : (h203.1 96 48).toInt = (h189.1 96 48).toInt := by rw [g204, wI_ne _ _ _ (by decide)]
          have s214 : (h203.1 96 51).toInt = (h189.1 96 51).toInt := by rw [g204, wI_ne _ _ _ (by decide)]
          have s215 : (h203.1 96 35).toInt = (h189.1 96 35).toInt := by rw [g204, wI_ne _ _ _ (by decide)]
          have s216 : (h203.1 96 34).toInt = (h189.1 96 34).toInt := by rw [g204, wI_ne _ _ _ (by decide)]
          have hK : kyOf h203 = (upd ((zSpill (evOf h) x4 (kyOf h)).1) x4.toNatClampNeg ((-1)), (zSpill (evOf h) x4 (kyOf h)).2.1, upd ((zSpill (evOf h) x4 (kyOf h)).2.2.1) x180.toNatClampNeg x187, x143) := by rw [g204, ky_107 (nlt ⟨by omega, by omega⟩), hK] <;> rfl
          have hE : evOf h203 = evOf h := by rw [g204, ev_o (by decide), hE]
          refine R_aload_n (k := 0) rfl rfl rfl ?_
          refine R_getf_r (j := 23) rfl ft_9_49 sh_96 rfl ?_
          refine R_iload_n (k := 3) rfl rfl rfl ?_
          refine R_iconst 0 rfl rfl ?_
          refine K_iast (a := x4.toInt) (lo := (-2147483648)) (hi' := 2147483647) rfl sh_108 rfl ⟨by omega, by omega⟩ hI (by decide) rfl (by decide) fr (by decide) (fun h217 g218 hI fr => ?_)
          have s219 : (h217.1 96 18).toInt = (h203.1 96 18).toInt := by rw [g218, wI_ne _ _ _ (by decide)]
          have s220 : (h217.1 96 41).toInt = (h203.1 96 41).toInt := by rw [g218, wI_ne _ _ _ (by decide)]
          have s221 : (h217.1 96 42).toInt = (h203.1 96 42).toInt := by rw [g218, wI_ne _ _ _ (by decide)]
          have s222 : (h217.1 96 19).toInt = (h203.1 96 19).toInt := by rw [g218, wI_ne _ _ _ (by decide)]
          have s223 : (h217.1 96 20).toInt = (h203.1 96 20).toInt := by rw [g218, wI_ne _ _ _ (by decide)]
          have s224 : (h217.1 96 46).toInt = (h203.1 96 46).toInt := by rw [g218, wI_ne _ _ _ (by decide)]
          have s225 : (h217.1 96 44).toInt = (h203.1 96 44).toInt := by rw [g218, wI_ne _ _ _ (by decide)]
          have s226 : (h217.1 96 47).toInt = (h203.1 96 47).toInt := by rw [g218, wI_ne _ _ _ (by decide)]
          have s227 : (h217.1 96 48).toInt = (h203.1 96 48).toInt := by rw [g218, wI_ne _ _ _ (by decide)]
          have s228 : (h217.1 96 51).toInt = (h203.1 96 51).toInt := by rw [g218, wI_ne _ _ _ (by decide)]
          have s229 : (h217.1 96 35).toInt = (h203.1 96 35).toInt := by rw [g218, wI_ne _ _ _ (by decide)]
          have s230 : (h217.1 96 34).toInt = (h203.1 96 34).toInt := by rw [g218, wI_ne _ _ _ (by decide)]
          have hK : kyOf h217 = (upd ((zSpill (evOf h) x4 (kyOf h)).1) x4.toNatClampNeg ((-1)), upd ((zSpill (evOf h) x4 (kyOf h)).2.1) x4.toNatClampNeg (0), upd ((zSpill (evOf h) x4 (kyOf h)).2.2.1) x180.toNatClampNeg x187, x143) := by rw [g218, ky_108 (nlt ⟨by omega, by omega⟩), hK] <;> rfl
          have hE : evOf h217 = evOf h := by rw [g218, ev_o (by decide), hE]
          have hF : kyOf h217 = zPlace (evOf h) a0 a1 (kyOf h) := by
            refine hK.trans ?_
            subst e188 e185 e181 e179 e161 e144 e140 e137 e24 e13 e10 e7
            simp only [zPlace, zPlace1, zThrow, zGive, ePace, eLine, eMany, eWorld]
            (repeat' split) <;> first | rfl | (exfalso; omega)
          exact R_vret rfl rfl ⟨hI, fr, ⟨by omega, by omega, by omega, by omega, by omega, by omega, by omega, by omega, by omega, by omega, hF, hE, trivial⟩, rfl⟩
      · exfalso; omega
    · rw [hE] at zq19
      show RUN d_X9_goPlace 28 [(3, .inl x4), (0, .inr (.inr (.inl 96))), (1, .inl a0), (2, .inl a1)] [.inl x20] h _
      refine N_if_eq (a := x20.toInt) 32 rfl rfl rfl (fun c231 => ?_) (fun c231 => ?_)
      · refine R_iload_n (k := 1) rfl rfl rfl ?_
        refine R_aload_n (k := 0) rfl rfl rfl ?_
        refine R_getf_i (j := 18) rfl ft_9_253 sh_96 rfl ?_
        refine R_iconst 1 rfl rfl ?_
        refine R_isub rfl ?_
        refine N_eq (fun x232 e233 => ?_)
        have q234 : x232.toInt = (h.1 96 18).toInt - 1 := by rw [e233]; exact i_sub rfl (by decide) (by omega)
        refine N_icmp_ne (a := a0.toInt) (b := x232.toInt) 104 rfl rfl rfl rfl (fun c235 => ?_) (fun c235 => ?_)
        · refine R_aload_n (k := 0) rfl rfl rfl ?_
          refine R_getf_r (j := 17) rfl ft_9_40 sh_96 rfl ?_
          refine R_iload_n (k := 1) rfl rfl rfl ?_
          refine R_iconst 1 rfl rfl ?_
          refine R_iadd rfl ?_
          refine N_eq (fun x236 e237 => ?_)
          have q238 : x236.toInt = a0.toInt + 1 := by rw [e237]; exact i_add rfl (by decide) (by omega)
          refine R_iald rfl sh_105 ⟨by omega, by omega⟩ ?_
          refine N_eq (fun x239 e240 => ?_)
          have q241 : 0 ≤ x239.toInt ∧ x239.toInt ≤ 5 := by rw [e240]; exact hI.1 105 _
          have e242 : x239 = (evOf h).2.2.2.1 x236.toNatClampNeg := by rw [e240]; exact congrFun (congrArg (fun q : EV => q.2.2.2.1) hE) _
          refine R_istore (k := 4) [(4, .inl x239), (3, .inl x4), (0, .inr (.inr (.inl 96))), (1, .inl a0), (2, .inl a1)] rfl rfl (by decide) ?_
          refine R_aload_n (k := 0) rfl rfl rfl ?_
          refine R_getf_r (j := 22) rfl ft_9_46 sh_96 rfl ?_
          refine R_iload (k := 4) rfl rfl ?_
          refine R_iald rfl sh_107 ⟨by omega, by omega⟩ ?_
          refine N_eq (fun x243 e244 => ?_)
          have e245 : x243 = ((kyOf h).1) x239.toNatClampNeg := by rw [e244]; exact (ky_at107 (nlt ⟨by omega, by omega⟩)).trans (congrFun (congrArg (fun q : KY => q.1) hK) _)
          refine R_iconst (-1) rfl rfl ?_
          refine N_icmp_ne (a := x243.toInt) (b := (-1)) 135 rfl rfl rfl (by decide) (fun c246 => ?_) (fun c246 => ?_)
          · have hF : kyOf h = zPlace (evOf h) a0 a1 (kyOf h) := by
              refine hK.trans ?_
              subst e245 e242 e237 e233 e13 e10 e7
              simp only [zPlace, zPlace1, zThrow, zGive, ePace, eLine, eMany, eWorld]
              (repeat' split) <;> first | rfl | (exfalso; omega)
            exact R_vret rfl rfl ⟨hI, fr, ⟨by omega, by omega, by omega, by omega, by omega, by omega, by omega, by omega, by omega, by omega, hF, hE, trivial⟩, rfl⟩
          · refine R_aload_n (k := 0) rfl rfl rfl ?_
            refine R_iload (k := 4) rfl rfl ?_
            refine R_iload_n (k := 2) rfl rfl rfl ?_
            refine R_callV (v := .inr (.inr (.inl 96))) (As := [.inl x239, .inl a1]) (rest := []) rfl mt_9_i271 pp_X9_doesRest (by decide) rfl rfl rfl (Nat.le_of_ble_eq_true rfl) (Nat.le_of_ble_eq_true rfl) ((g_X9_doesRest h hI x239 a1 (by omega) (by omega)).mono (fun r247 h248 p249 => ?_))
            obtain ⟨rfl, x251, rfl, (q252 | q252 | q252), zq250, -⟩ := p249
              rw [hE] at zq250
            · exfalso; omega
            · rw [hE] at zq250
              show RUN d_X9_goPlace 132 [(4, .inl x239), (3, .inl x4), (0, .inr (.inr (.inl 96))), (1, .inl a0), (2, .inl a1)] [.inl x251] h _
              refine N_if_eq (a := x251.toInt) 136 rfl rfl rfl (fun c253 => ?_) (fun c253 => ?_)
              · refine R_aload_n (k := 0) rfl rfl rfl ?_
                refine R_iload_n (k := 3) rfl rfl rfl ?_
                refine R_callV (v := .inr (.inr (.inl 96))) (As := [.inl x4]) (rest := []) rfl mt_9_i275 pp_X9_spill (by decide) rfl rfl rfl (Nat.le_of_ble_eq_true rfl) (Nat.le_of_ble_eq_true rfl) ((g_X9_spill h hI x4 (by omega)).mono (fun r254 h255 p256 => ?_))
                obtain ⟨hJ, fj, ⟨kp257, kp258, kp259, kp260, kp261, kp262, kp263, kp264, kp265, kp266, kp267, xq268, xq269, -⟩, rfl⟩ := p256
                have f270 := fj
                have fr := fr.trans fj (by decide)
                have hI := hJ
                have hK : kyOf h255 = zSpill (evOf h) x4 (kyOf h) := by rw [xq268, hE, hK]
                have hE : evOf h255 = evOf h := xq269.trans hE
                show RUN d_X9_goPlace 141 [(4, .inl x239), (3, .inl x4), (0, .inr (.inr (.inl 96))), (1, .inl a0), (2, .inl a1)] [] h255 _
                refine R_aload_n (k := 0) rfl rfl rfl ?_
                refine R_getf_r (j := 22) rfl ft_9_46 sh_96 rfl ?_
                refine R_iload (k := 4) rfl rfl ?_
                refine R_iconst 0 rfl rfl ?_
                refine K_iast (a := x239.toInt) (lo := (-2147483648)) (hi' := 2147483647) rfl sh_107 rfl ⟨by omega, by omega⟩ hI (by decide) rfl (by decide) fr (by decide) (fun h271 g272 hI fr => ?_)
                have s273 : (h271.1 96 18).toInt = (h255.1 96 18).toInt := by rw [g272, wI_ne _ _ _ (by decide)]
                have s274 : (h271.1 96 34).toInt = (h255.1 96 34).toInt := by rw [g272, wI_ne _ _ _ (by decide)]
                have s275 : (h271.1 96 41).toInt = (h255.1 96 41).toInt := by rw [g272, wI_ne _ _ _ (by decide)]
                have s276 : (h271.1 96 42).toInt = (h255.1 96 42).toInt := by rw [g272, wI_ne _ _ _ (by decide)]
                have s277 : (h271.1 96 19).toInt = (h255.1 96 19).toInt := by rw [g272, wI_ne _ _ _ (by decide)]
                have s278 : (h271.1 96 20).toInt = (h255.1 96 20).toInt := by rw [g272, wI_ne _ _ _ (by decide)]
                have s279 : (h271.1 96 46).toInt = (h255.1 96 46).toInt := by rw [g272, wI_ne _ _ _ (by decide)]
                have s280 : (h271.1 96 44).toInt = (h255.1 96 44).toInt := by rw [g272, wI_ne _ _ _ (by decide)]
                have s281 : (h271.1 96 47).toInt = (h255.1 96 47).toInt := by rw [g272, wI_ne _ _ _ (by decide)]
                have s282 : (h271.1 96 48).toInt = (h255.1 96 48).toInt := by rw [g272, wI_ne _ _ _ (by decide)]
                have s283 : (h271.1 96 51).toInt = (h255.1 96 51).toInt := by rw [g272, wI_ne _ _ _ (by decide)]
                have hK : kyOf h271 = (upd ((zSpill (evOf h) x4 (kyOf h)).1) x239.toNatClampNeg (0), (zSpill (evOf h) x4 (kyOf h)).2.1, (zSpill (evOf h) x4 (kyOf h)).2.2.1, (zSpill (evOf h) x4 (kyOf h)).2.2.2) := by rw [g272, ky_107 (nlt ⟨by omega, by omega⟩), hK] <;> rfl
                have hE : evOf h271 = evOf h := by rw [g272, ev_o (by decide), hE]
                refine R_aload_n (k := 0) rfl rfl rfl ?_
                refine R_getf_r (j := 23) rfl ft_9_49 sh_96 rfl ?_
                refine R_iload (k := 4) rfl rfl ?_
                refine R_aload_n (k := 0) rfl rfl rfl ?_
                refine R_getf_r (j := 23) rfl ft_9_49 sh_96 rfl ?_
                refine R_iload_n (k := 3) rfl rfl rfl ?_
                refine R_iald rfl sh_108 ⟨by omega, by omega⟩ ?_
                refine N_eq (fun x284 e285 => ?_)
                have e286 : x284 = ((zSpill (evOf h) x4 (kyOf h)).2.1) x4.toNatClampNeg := by rw [e285]; exact (ky_at108 (nlt ⟨by omega, by omega⟩)).trans (congrFun (congrArg (fun q : KY => q.2.1) hK) _)
                refine K_iast (a := x239.toInt) (lo := (-2147483648)) (hi' := 2147483647) rfl sh_108 rfl ⟨by omega, by omega⟩ hI (by decide) rfl (i_rng _) fr (by decide) (fun h287 g288 hI fr => ?_)
                have s289 : (h287.1 96 18).toInt = (h271.1 96 18).toInt := by rw [g288, wI_ne _ _ _ (by decide)]
                have s290 : (h287.1 96 34).toInt = (h271.1 96 34).toInt := by rw [g288, wI_ne _ _ _ (by decide)]
                have s291 : (h287.1 96 41).toInt = (h271.1 96 41).toInt := by rw [g288, wI_ne _ _ _ (by decide)]
                have s292 : (h287.1 96 42).toInt = (h271.1 96 42).toInt := by rw [g288, wI_ne _ _ _ (by decide)]
                have s293 : (h287.1 96 19).toInt = (h271.1 96 19).toInt := by rw [g288, wI_ne _ _ _ (by decide)]
                have s294 : (h287.1 96 20).toInt = (h271.1 96 20).toInt := by rw [g288, wI_ne _ _ _ (by decide)]
                have s295 : (h287.1 96 46).toInt = (h271.1 96 46).toInt := by rw [g288, wI_ne _ _ _ (by decide)]
                have s296 : (h287.1 96 44).toInt = (h271.1 96 44).toInt := by rw [g288, wI_ne _ _ _ (by decide)]
                have s297 : (h287.1 96 47).toInt = (h271.1 96 47).toInt := by rw [g288, wI_ne _ _ _ (by decide)]
                have s298 : (h287.1 96 48).toInt = (h271.1 96 48).toInt := by rw [g288, wI_ne _ _ _ (by decide)]
                have s299 : (h287.1 96 51).toInt = (h271.1 96 51).toInt := by rw [g288, wI_ne _ _ _ (by decide)]
                have hK : kyOf h287 = (upd ((zSpill (evOf h) x4 (kyOf h)).1) x239.toNatClampNeg (0), upd ((zSpill (evOf h) x4 (kyOf h)).2.1) x239.toNatClampNeg x284, (zSpill (evOf h) x4 (kyOf h)).2.2.1, (zSpill (evOf h) x4 (kyOf h)).2.2.2) := by rw [g288, ky_108 (nlt ⟨by omega, by omega⟩), hK] <;> rfl
                have hE : evOf h287 = evOf h := by rw [g288, ev_o (by decide), hE]
                refine R_aload_n (k := 0) rfl rfl rfl ?_
                refine R_getf_r (j := 22) rfl ft_9_46 sh_96 rfl ?_
                refine R_iload_n (k := 3) rfl rfl rfl ?_
                refine R_iconst (-1) rfl rfl ?_
                refine K_iast (a := x4.toInt) (lo := (-2147483648)) (hi' := 2147483647) rfl sh_107 rfl ⟨by omega, by omega⟩ hI (by decide) rfl (by decide) fr (by decide) (fun h300 g301 hI fr => ?_)
                have s302 : (h300.1 96 18).toInt = (h287.1 96 18).toInt := by rw [g301, wI_ne _ _ _ (by decide)]
                have s303 : (h300.1 96 34).toInt = (h287.1 96 34).toInt := by rw [g301, wI_ne _ _ _ (by decide)]
                have s304 : (h300.1 96 41).toInt = (h287.1 96 41).toInt := by rw [g301, wI_ne _ _ _ (by decide)]
                have s305 : (h300.1 96 42).toInt = (h287.1 96 42).toInt := by rw [g301, wI_ne _ _ _ (by decide)]
                have s306 : (h300.1 96 19).toInt = (h287.1 96 19).toInt := by rw [g301, wI_ne _ _ _ (by decide)]
                have s307 : (h300.1 96 20).toInt = (h287.1 96 20).toInt := by rw [g301, wI_ne _ _ _ (by decide)]
                have s308 : (h300.1 96 46).toInt = (h287.1 96 46).toInt := by rw [g301, wI_ne _ _ _ (by decide)]
                have s309 : (h300.1 96 44).toInt = (h287.1 96 44).toInt := by rw [g301, wI_ne _ _ _ (by decide)]
                have s310 : (h300.1 96 47).toInt = (h287.1 96 47).toInt := by rw [g301, wI_ne _ _ _ (by decide)]
                have s311 : (h300.1 96 48).toInt = (h287.1 96 48).toInt := by rw [g301, wI_ne _ _ _ (by decide)]
                have s312 : (h300.1 96 51).toInt = (h287.1 96 51).toInt := by rw [g301, wI_ne _ _ _ (by decide)]
                have hK : kyOf h300 = (upd (upd ((zSpill (evOf h) x4 (kyOf h)).1) x239.toNatClampNeg (0)) x4.toNatClampNeg ((-1)), upd ((zSpill (evOf h) x4 (kyOf h)).2.1) x239.toNatClampNeg x284, (zSpill (evOf h) x4 (kyOf h)).2.2.1, (zSpill (evOf h) x4 (kyOf h)).2.2.2) := by rw [g301, ky_107 (nlt ⟨by omega, by omega⟩), hK] <;> rfl
                have hE : evOf h300 = evOf h := by rw [g301, ev_o (by decide), hE]
                refine R_aload_n (k := 0) rfl rfl rfl ?_
                refine R_getf_r (j := 23) rfl ft_9_49 sh_96 rfl ?_
                refine R_iload_n (k := 3) rfl rfl rfl ?_
                refine R_iconst 0 rfl rfl ?_
                refine K_iast (a := x4.toInt) (lo := (-2147483648)) (hi' := 2147483647) rfl sh_108 rfl ⟨by omega, by omega⟩ hI (by decide) rfl (by decide) fr (by decide) (fun h313 g314 hI fr => ?_)
                have s315 : (h313.1 96 18).toInt = (h300.1 96 18).toInt := by rw [g314, wI_ne _ _ _ (by decide)]
                have s316 : (h313.1 96 34).toInt = (h300.1 96 34).toInt := by rw [g314, wI_ne _ _ _ (by decide)]
                have s317 : (h313.1 96 41).toInt = (h300.1 96 41).toInt := by rw [g314, wI_ne _ _ _ (by decide)]
                have s318 : (h313.1 96 42).toInt = (h300.1 96 42).toInt := by rw [g314, wI_ne _ _ _ (by decide)]
                have s319 : (h313.1 96 19).toInt = (h300.1 96 19).toInt := by rw [g314, wI_ne _ _ _ (by decide)]
                have s320 : (h313.1 96 20).toInt = (h300.1 96 20).toInt := by rw [g314, wI_ne _ _ _ (by decide)]
                have s321 : (h313.1 96 46).toInt = (h300.1 96 46).toInt := by rw [g314, wI_ne _ _ _ (by decide)]
                have s322 : (h313.1 96 44).toInt = (h300.1 96 44).toInt := by rw [g314, wI_ne _ _ _ (by decide)]
                have s323 : (h313.1 96 47).toInt = (h300.1 96 47).toInt := by rw [g314, wI_ne _ _ _ (by decide)]
                have s324 : (h313.1 96 48).toInt = (h300.1 96 48).toInt := by rw [g314, wI_ne _ _ _ (by decide)]
                have s325 : (h313.1 96 51).toInt = (h300.1 96 51).toInt := by rw [g314, wI_ne _ _ _ (by decide)]
                have hK : kyOf h313 = (upd (upd ((zSpill (evOf h) x4 (kyOf h)).1) x239.toNatClampNeg (0)) x4.toNatClampNeg ((-1)), upd (upd ((zSpill (evOf h) x4 (kyOf h)).2.1) x239.toNatClampNeg x284) x4.toNatClampNeg (0), (zSpill (evOf h) x4 (kyOf h)).2.2.1, (zSpill (evOf h) x4 (kyOf h)).2.2.2) := by rw [g314, ky_108 (nlt ⟨by omega, by omega⟩), hK] <;> rfl
                have hE : evOf h313 = evOf h := by rw [g314, ev_o (by decide), hE]
                have hF : kyOf h313 = zPlace (evOf h) a0 a1 (kyOf h) := by
                  refine hK.trans ?_
                  subst e286 e245 e242 e237 e233 e13 e10 e7
                  simp only [zPlace, zPlace1, zThrow, zGive, ePace, eLine, eMany, eWorld]
                  (repeat' split) <;> first | rfl | (exfalso; omega)
                exact R_vret rfl rfl ⟨hI, fr, ⟨by omega, by omega, by omega, by omega, by omega, by omega, by omega, by omega, by omega, by omega, hF, hE, trivial⟩, rfl⟩
              · exfalso; omega
            · rw [hE] at zq250
              show RUN d_X9_goPlace 132 [(4, .inl x239), (3, .inl x4), (0, .inr (.inr (.inl 96))), (1, .inl a0), (2, .inl a1)] [.inl x251] h _
              refine N_if_eq (a := x251.toInt) 136 rfl rfl rfl (fun c326 => ?_) (fun c326 => ?_)
              · exfalso; omega
              · have hF : kyOf h = zPlace (evOf h) a0 a1 (kyOf h) := by
                  refine hK.trans ?_
                  subst e245 e242 e237 e233 e13 e10 e7
                  simp only [zPlace, zPlace1, zThrow, zGive, ePace, eLine, eMany, eWorld]
                  (repeat' split) <;> first | rfl | (exfalso; omega)
                exact R_vret rfl rfl ⟨hI, fr, ⟨by omega, by omega, by omega, by omega, by omega, by omega, by omega, by omega, by omega, by omega, hF, hE, trivial⟩, rfl⟩
        · refine R_aload_n (k := 0) rfl rfl rfl ?_
          refine R_iload_n (k := 3) rfl rfl rfl ?_
          refine R_callV (v := .inr (.inr (.inl 96))) (As := [.inl x4]) (rest := []) rfl mt_9_i275 pp_X9_spill (by decide) rfl rfl rfl (Nat.le_of_ble_eq_true rfl) (Nat.le_of_ble_eq_true rfl) ((g_X9_spill h hI x4 (by omega)).mono (fun r327 h328 p329 => ?_))
          obtain ⟨hJ, fj, ⟨kp330, kp331, kp332, kp333, kp334, kp335, kp336, kp337, kp338, kp339, kp340, xq341, xq342, -⟩, rfl⟩ := p329
          have f343 := fj
          have fr := fr.trans fj (by decide)
          have hI := hJ
          have hK : kyOf h328 = zSpill (evOf h) x4 (kyOf h) := by rw [xq341, hE, hK]
          have hE : evOf h328 = evOf h := xq342.trans hE
          show RUN d_X9_goPlace 47 [(3, .inl x4), (0, .inr (.inr (.inl 96))), (1, .inl a0), (2, .inl a1)] [] h328 _
          refine R_aload_n (k := 0) rfl rfl rfl ?_
          refine R_dup_r rfl ?_
          refine R_getf_i (j := 35) rfl ft_9_265 sh_96 rfl ?_
          refine N_eq (fun x344 e345 => ?_)
          have e346 : x344 = (zSpill (evOf h) x4 (kyOf h)).2.2.2 := by rw [e345]; exact congrArg (fun q : KY => q.2.2.2) hK
          refine R_aload_n (k := 0) rfl rfl rfl ?_
          refine R_getf_r (j := 23) rfl ft_9_49 sh_96 rfl ?_
          refine R_iload_n (k := 3) rfl rfl rfl ?_
          refine R_iald rfl sh_108 ⟨by omega, by omega⟩ ?_
          refine N_eq (fun x347 e348 => ?_)
          have e349 : x347 = ((zSpill (evOf h) x4 (kyOf h)).2.1) x4.toNatClampNeg := by rw [e348]; exact (ky_at108 (nlt ⟨by omega, by omega⟩)).trans (congrFun (congrArg (fun q : KY => q.2.1) hK) _)
          have b350 := i_rng x344
          have b351 := i_rng x347
          refine R_iadd rfl ?_
          refine N_eq (fun x352 e353 => ?_)
          refine K_putf (j := 35) (lo := (-2147483648)) (hi' := 2147483647) rfl ft_9_265 sh_96 rfl hI (by decide) rfl (i_rng _) fr (by decide) (fun h354 g355 hI fr => ?_)
          have s356 : (h354.1 96 18).toInt = (h328.1 96 18).toInt := by rw [g355, wI_at (by decide)]
          have s357 : (h354.1 96 34).toInt = (h328.1 96 34).toInt := by rw [g355, wI_at (by decide)]
          have s358 : (h354.1 96 41).toInt = (h328.1 96 41).toInt := by rw [g355, wI_at (by decide)]
          have s359 : (h354.1 96 42).toInt = (h328.1 96 42).toInt := by rw [g355, wI_at (by decide)]
          have s360 : (h354.1 96 19).toInt = (h328.1 96 19).toInt := by rw [g355, wI_at (by decide)]
          have s361 : (h354.1 96 20).toInt = (h328.1 96 20).toInt := by rw [g355, wI_at (by decide)]
          have s362 : (h354.1 96 46).toInt = (h328.1 96 46).toInt := by rw [g355, wI_at (by decide)]
          have s363 : (h354.1 96 44).toInt = (h328.1 96 44).toInt := by rw [g355, wI_at (by decide)]
          have s364 : (h354.1 96 47).toInt = (h328.1 96 47).toInt := by rw [g355, wI_at (by decide)]
          have s365 : (h354.1 96 48).toInt = (h328.1 96 48).toInt := by rw [g355, wI_at (by decide)]
          have s366 : (h354.1 96 51).toInt = (h328.1 96 51).toInt := by rw [g355, wI_at (by decide)]
          have hK : kyOf h354 = ((zSpill (evOf h) x4 (kyOf h)).1, (zSpill (evOf h) x4 (kyOf h)).2.1, (zSpill (evOf h) x4 (kyOf h)).2.2.1, x352) := by rw [g355, ky_35, hK] <;> rfl
          have hE : evOf h354 = evOf h := by rw [g355, ev_s (by decide), hE]
          have s367 : (h354.1 96 35).toInt = x352.toInt := by rw [g355, wI_is]
          refine R_aload_n (k := 0) rfl rfl rfl ?_
          refine R_dup_r rfl ?_
          refine R_getf_i (j := 34) rfl ft_9_262 sh_96 rfl ?_
          refine R_iconst 1 rfl rfl ?_
          have b368 := i_rng (h354.1 96 34)
          refine R_iadd rfl ?_
          refine N_eq (fun x369 e370 => ?_)
          refine K_putf (j := 34) (lo := (-2147483648)) (hi' := 2147483647) rfl ft_9_262 sh_96 rfl hI (by decide) rfl (i_rng _) fr (by decide) (fun h371 g372 hI fr => ?_)
          have s373 : (h371.1 96 18).toInt = (h354.1 96 18).toInt := by rw [g372, wI_at (by decide)]
          have s374 : (h371.1 96 41).toInt = (h354.1 96 41).toInt := by rw [g372, wI_at (by decide)]
          have s375 : (h371.1 96 42).toInt = (h354.1 96 42).toInt := by rw [g372, wI_at (by decide)]
          have s376 : (h371.1 96 19).toInt = (h354.1 96 19).toInt := by rw [g372, wI_at (by decide)]
          have s377 : (h371.1 96 20).toInt = (h354.1 96 20).toInt := by rw [g372, wI_at (by decide)]
          have s378 : (h371.1 96 46).toInt = (h354.1 96 46).toInt := by rw [g372, wI_at (by decide)]
          have s379 : (h371.1 96 44).toInt = (h354.1 96 44).toInt := by rw [g372, wI_at (by decide)]
          have s380 : (h371.1 96 47).toInt = (h354.1 96 47).toInt := by rw [g372, wI_at (by decide)]
          have s381 : (h371.1 96 48).toInt = (h354.1 96 48).toInt := by rw [g372, wI_at (by decide)]
          have s382 : (h371.1 96 51).toInt = (h354.1 96 51).toInt := by rw [g372, wI_at (by decide)]
          have s383 : (h371.1 96 35).toInt = (h354.1 96 35).toInt := by rw [g372, wI_at (by decide)]
          have hK : kyOf h371 = ((zSpill (evOf h) x4 (kyOf h)).1, (zSpill (evOf h) x4 (kyOf h)).2.1, (zSpill (evOf h) x4 (kyOf h)).2.2.1, x352) := by rw [g372, ky_s (by decide), hK]
          have hE : evOf h371 = evOf h := by rw [g372, ev_s (by decide), hE]
          have s384 : (h371.1 96 34).toInt = x369.toInt := by rw [g372, wI_is]
          refine R_aload_n (k := 0) rfl rfl rfl ?_
          refine R_getf_r (j := 24) rfl ft_9_52 sh_96 rfl ?_
          refine R_aload_n (k := 0) rfl rfl rfl ?_
          refine R_getf_r (j := 1) rfl ft_9_9 sh_96 rfl ?_
          refine R_iconst 3 rfl rfl ?_
          refine R_iald rfl sh_97 (by decide) ?_
          refine N_eq (fun x385 e386 => ?_)
          have q387 : 0 ≤ x385.toInt ∧ x385.toInt ≤ 20 := by rw [e386]; exact hI.1 97 _
          have e388 : x385 = (evOf h).1 (3 : Int32).toNatClampNeg := by rw [e386]; exact congrFun (congrArg (fun q : EV => q.1) hE) _
          refine R_iconst 1 rfl rfl ?_
          refine R_iadd rfl ?_
          refine N_eq (fun x389 e390 => ?_)
          have q391 : x389.toInt = x385.toInt + 1 := by rw [e390]; exact i_add rfl (by decide) (by omega)
          refine R_dup2 rfl ?_
          refine R_iald rfl sh_109 ⟨by omega, by omega⟩ ?_
          refine N_eq (fun x392 e393 => ?_)
          have e394 : x392 = ((zSpill (evOf h) x4 (kyOf h)).2.2.1) x389.toNatClampNeg := by rw [e393]; exact (ky_at109 (nlt ⟨by omega, by omega⟩)).trans (congrFun (congrArg (fun q : KY => q.2.2.1) hK) _)
          refine R_iconst 1 rfl rfl ?_
          have b395 := i_rng x392
          refine R_iadd rfl ?_
          refine N_eq (fun x396 e397 => ?_)
          refine K_iast (a := x389.toInt) (lo := (-2147483648)) (hi' := 2147483647) rfl sh_109 rfl ⟨by omega, by omega⟩ hI (by decide) rfl (i_rng _) fr (by decide) (fun h398 g399 hI fr => ?_)
          have s400 : (h398.1 96 18).toInt = (h371.1 96 18).toInt := by rw [g399, wI_ne _ _ _ (by decide)]
          have s401 : (h398.1 96 41).toInt = (h371.1 96 41).toInt := by rw [g399, wI_ne _ _ _ (by decide)]
          have s402 : (h398.1 96 42).toInt = (h371.1 96 42).toInt := by rw [g399, wI_ne _ _ _ (by decide)]
          have s403 : (h398.1 96 19).toInt = (h371.1 96 19).toInt := by rw [g399, wI_ne _ _ _ (by decide)]
          have s404 : (h398.1 96 20).toInt = (h371.1 96 20).toInt := by rw [g399, wI_ne _ _ _ (by decide)]
          have s405 : (h398.1 96 46).toInt = (h371.1 96 46).toInt := by rw [g399, wI_ne _ _ _ (by decide)]
          have s406 : (h398.1 96 44).toInt = (h371.1 96 44).toInt := by rw [g399, wI_ne _ _ _ (by decide)]
          have s407 : (h398.1 96 47).toInt = (h371.1 96 47).toInt := by rw [g399, wI_ne _ _ _ (by decide)]
          have s408 : (h398.1 96 48).toInt = (h371.1 96 48).toInt := by rw [g399, wI_ne _ _ _ (by decide)]
          have s409 : (h398.1 96 51).toInt = (h371.1 96 51).toInt := by rw [g399, wI_ne _ _ _ (by decide)]
          have s410 : (h398.1 96 35).toInt = (h371.1 96 35).toInt := by rw [g399, wI_ne _ _ _ (by decide)]
          have s411 : (h398.1 96 34).toInt = (h371.1 96 34).toInt := by rw [g399, wI_ne _ _ _ (by decide)]
          have hK : kyOf h398 = ((zSpill (evOf h) x4 (kyOf h)).1, (zSpill (evOf h) x4 (kyOf h)).2.1, upd ((zSpill (evOf h) x4 (kyOf h)).2.2.1) x389.toNatClampNeg x396, x352) := by rw [g399, ky_109 (nlt ⟨by omega, by omega⟩), hK] <;> rfl
          have hE : evOf h398 = evOf h := by rw [g399, ev_o (by decide), hE]
          refine R_aload_n (k := 0) rfl rfl rfl ?_
          refine R_getf_r (j := 22) rfl ft_9_46 sh_96 rfl ?_
          refine R_iload_n (k := 3) rfl rfl rfl ?_
          refine R_iconst (-1) rfl rfl ?_
          refine K_iast (a := x4.toInt) (lo := (-2147483648)) (hi' := 2147483647) rfl sh_107 rfl ⟨by omega, by omega⟩ hI (by decide) rfl (by decide) fr (by decide) (fun h412 g413 hI fr => ?_)
          have s414 : (h412.1 96 18).toInt = (h398.1 96 18).toInt := by rw [g413, wI_ne _ _ _ (by decide)]
          have s415 : (h412.1 96 41).toInt = (h398.1 96 41).toInt := by rw [g413, wI_ne _ _ _ (by decide)]
          have s416 : (h412.1 96 42).toInt = (h398.1 96 42).toInt := by rw [g413, wI_ne _ _ _ (by decide)]
          have s417 : (h412.1 96 19).toInt = (h398.1 96 19).toInt := by rw [g413, wI_ne _ _ _ (by decide)]
          have s418 : (h412.1 96 20).toInt = (h398.1 96 20).toInt := by rw [g413, wI_ne _ _ _ (by decide)]
          have s419 : (h412.1 96 46).toInt = (h398.1 96 46).toInt := by rw [g413, wI_ne _ _ _ (by decide)]
          have s420 : (h412.1 96 44).toInt = (h398.1 96 44).toInt := by rw [g413, wI_ne _ _ _ (by decide)]
          have s421 : (h412.1 96 47).toInt = (h398.1 96 47).toInt := by rw [g413, wI_ne _ _ _ (by decide)]
          have s422 : (h412.1 96 48).toInt = (h398.1 96 48).toInt := by rw [g413, wI_ne _ _ _ (by decide)]
          have s423 : (h412.1 96 51).toInt = (h398.1 96 51).toInt := by rw [g413, wI_ne _ _ _ (by decide)]
          have s424 : (h412.1 96 35).toInt = (h398.1 96 35).toInt := by rw [g413, wI_ne _ _ _ (by decide)]
          have s425 : (h412.1 96 34).toInt = (h398.1 96 34).toInt := by rw [g413, wI_ne _ _ _ (by decide)]
          have hK : kyOf h412 = (upd ((zSpill (evOf h) x4 (kyOf h)).1) x4.toNatClampNeg ((-1)), (zSpill (evOf h) x4 (kyOf h)).2.1, upd ((zSpill (evOf h) x4 (kyOf h)).2.2.1) x389.toNatClampNeg x396, x352) := by rw [g413, ky_107 (nlt ⟨by omega, by omega⟩), hK] <;> rfl
          have hE : evOf h412 = evOf h := by rw [g413, ev_o (by decide), hE]
          refine R_aload_n (k := 0) rfl rfl rfl ?_
          refine R_getf_r (j := 23) rfl ft_9_49 sh_96 rfl ?_
          refine R_iload_n (k := 3) rfl rfl rfl ?_
          refine R_iconst 0 rfl rfl ?_
          refine K_iast (a := x4.toInt) (lo := (-2147483648)) (hi' := 2147483647) rfl sh_108 rfl ⟨by omega, by omega⟩ hI (by decide) rfl (by decide) fr (by decide) (fun h426 g427 hI fr => ?_)
          have s428 : (h426.1 96 18).toInt = (h412.1 96 18).toInt := by rw [g427, wI_ne _ _ _ (by decide)]
          have s429 : (h426.1 96 41).toInt = (h412.1 96 41).toInt := by rw [g427, wI_ne _ _ _ (by decide)]
          have s430 : (h426.1 96 42).toInt = (h412.1 96 42).toInt := by rw [g427, wI_ne _ _ _ (by decide)]
          have s431 : (h426.1 96 19).toInt = (h412.1 96 19).toInt := by rw [g427, wI_ne _ _ _ (by decide)]
          have s432 : (h426.1 96 20).toInt = (h412.1 96 20).toInt := by rw [g427, wI_ne _ _ _ (by decide)]
          have s433 : (h426.1 96 46).toInt = (h412.1 96 46).toInt := by rw [g427, wI_ne _ _ _ (by decide)]
          have s434 : (h426.1 96 44).toInt = (h412.1 96 44).toInt := by rw [g427, wI_ne _ _ _ (by decide)]
          have s435 : (h426.1 96 47).toInt = (h412.1 96 47).toInt := by rw [g427, wI_ne _ _ _ (by decide)]
          have s436 : (h426.1 96 48).toInt = (h412.1 96 48).toInt := by rw [g427, wI_ne _ _ _ (by decide)]
          have s437 : (h426.1 96 51).toInt = (h412.1 96 51).toInt := by rw [g427, wI_ne _ _ _ (by decide)]
          have s438 : (h426.1 96 35).toInt = (h412.1 96 35).toInt := by rw [g427, wI_ne _ _ _ (by decide)]
          have s439 : (h426.1 96 34).toInt = (h412.1 96 34).toInt := by rw [g427, wI_ne _ _ _ (by decide)]
          have hK : kyOf h426 = (upd ((zSpill (evOf h) x4 (kyOf h)).1) x4.toNatClampNeg ((-1)), upd ((zSpill (evOf h) x4 (kyOf h)).2.1) x4.toNatClampNeg (0), upd ((zSpill (evOf h) x4 (kyOf h)).2.2.1) x389.toNatClampNeg x396, x352) := by rw [g427, ky_108 (nlt ⟨by omega, by omega⟩), hK] <;> rfl
          have hE : evOf h426 = evOf h := by rw [g427, ev_o (by decide), hE]
          have hF : kyOf h426 = zPlace (evOf h) a0 a1 (kyOf h) := by
            refine hK.trans ?_
            subst e397 e394 e390 e388 e370 e353 e349 e346 e233 e13 e10 e7
            simp only [zPlace, zPlace1, zThrow, zGive, ePace, eLine, eMany, eWorld]
            (repeat' split) <;> first | rfl | (exfalso; omega)
          exact R_vret rfl rfl ⟨hI, fr, ⟨by omega, by omega, by omega, by omega, by omega, by omega, by omega, by omega, by omega, by omega, hF, hE, trivial⟩, rfl⟩
      · exfalso; omega
    · rw [hE] at zq19
      show RUN d_X9_goPlace 28 [(3, .inl x4), (0, .inr (.inr (.inl 96))), (1, .inl a0), (2, .inl a1)] [.inl x20] h _
      refine N_if_eq (a := x20.toInt) 32 rfl rfl rfl (fun c440 => ?_) (fun c440 => ?_)
      · exfalso; omega
      · have hF : kyOf h = zPlace (evOf h) a0 a1 (kyOf h) := by
          refine hK.trans ?_
          subst e13 e10 e7
          simp only [zPlace, zPlace1, zThrow, zGive, ePace, eLine, eMany, eWorld]
          (repeat' split) <;> first | rfl | (exfalso; omega)
        exact R_vret rfl rfl ⟨hI, fr, ⟨by omega, by omega, by omega, by omega, by omega, by omega, by omega, by omega, by omega, by omega, hF, hE, trivial⟩, rfl⟩
abbrev q_X9_goSecond (h : PH) (a0 : Int32) (a1 : Int32) : Option PV → PH → Prop := fun r h' => INV h' ∧ FR [96, 107, 108, 109, 117, 118] h h' ∧ ((h'.1 96 41).toInt = (h.1 96 41).toInt ∧ (h'.1 96 42).toInt = (h.1 96 42).toInt ∧ (h'.1 96 19).toInt = (h.1 96 19).toInt ∧ (h'.1 96 18).toInt = (h.1 96 18).toInt ∧ (h'.1 96 20).toInt = (h.1 96 20).toInt ∧ (h'.1 96 46).toInt = (h.1 96 46).toInt ∧ (h'.1 96 44).toInt = (h.1 96 44).toInt ∧ (h'.1 96 47).toInt = (h.1 96 47).toInt ∧ (h'.1 96 48).toInt = (h.1 96 48).toInt ∧ (h'.1 96 51).toInt = (h.1 96 51).toInt ∧ (kyOf h' = zSecond (evOf h) a0 a1 (kyOf h)) ∧ (evOf h' = evOf h) ∧ True) ∧ r = none
set_option maxHeartbeats 4000000 in
set_option maxRecDepth 100000 in
theorem g_X9_goSecond (h : PH) (hI : INV h) (a0 : Int32) (a1 : Int32) (h0a : 0 ≤ a0.toInt ∧ a0.toInt ≤ 2147483647) : CALL d_X9_goSecond [.inr (.inr (.inl 96)), .inl a0, .inl a1] h (q_X9_goSecond h a0 a1) := by
  show RUN d_X9_goSecond 0 [(0, .inr (.inr (.inl 96))), (1, .inl a0), (2, .inl a1)] [] h _
  have b1 := i_rng a1
  have fr : FR [96, 107, 108, 109, 117, 118] h h := FR.rf _ _
  have hK : kyOf h = kyOf h := rfl
  have hE : evOf h = evOf h := rfl
  have b2 : (0 : Int) ≤ (h.1 96 18).toInt ∧ (h.1 96 18).toInt ≤ 6 := hI.1 96 18
  have b3 : (h.1 96 18).toInt = ((evOf h).2.2.2.2.1).toInt := congrArg (fun q : EV => (q.2.2.2.2.1).toInt) hE
  have b4 : (0 : Int) ≤ (h.1 96 51).toInt ∧ (h.1 96 51).toInt ≤ 720 := hI.1 96 51
  refine R_iload_n (k := 1) rfl rfl rfl ?_
  refine N_if_le (a := a0.toInt) 55 rfl rfl rfl (fun c5 => ?_) (fun c5 => ?_)
  · have hK : kyOf h = zPre a0 (kyOf h) := by unfold zPre; rw [if_neg (by omega)]
    refine R_aload_n (k := 0) rfl rfl rfl ?_
    refine R_getf_i (j := 18) rfl ft_9_253 sh_96 rfl ?_
    refine R_iconst 1 rfl rfl ?_
    refine R_isub rfl ?_
    refine N_eq (fun x6 e7 => ?_)
    have q8 : x6.toInt = (h.1 96 18).toInt - 1 := by rw [e7]; exact i_sub rfl (by decide) (by omega)
    refine R_istore_n (k := 3) rfl [(3, .inl x6), (0, .inr (.inr (.inl 96))), (1, .inl a0), (2, .inl a1)] rfl rfl (by decide) ?_
    have lp10 : ∀ (n9 : Nat) (h11 : PH) (x13 : Int32), INV h11 → FR [96, 107, 108, 109, 117, 118] h h11 → FR [96, 107, 108, 109, 117, 118] h h11 → (-1) ≤ x13.toInt ∧ x13.toInt ≤ 5 → (h11.1 96 41).toInt = (h.1 96 41).toInt → (h11.1 96 42).toInt = (h.1 96 42).toInt → (h11.1 96 19).toInt = (h.1 96 19).toInt → (h11.1 96 18).toInt = (h.1 96 18).toInt → (h11.1 96 20).toInt = (h.1 96 20).toInt → (h11.1 96 46).toInt = (h.1 96 46).toInt → (h11.1 96 44).toInt = (h.1 96 44).toInt → (h11.1 96 47).toInt = (h.1 96 47).toInt → (h11.1 96 48).toInt = (h.1 96 48).toInt → (h11.1 96 51).toInt = (h.1 96 51).toInt → x13.toInt ≤ (h.1 96 18).toInt + (-1) → (zPlaces (evOf h) a0 (x13.toInt + 1).toNat (kyOf h11) = zPlaces (evOf h) a0 (eMany (evOf h)).toNatClampNeg (zPre a0 (kyOf h))) → (¬ a1.toInt = 0 → kyOf h11 = zPre a0 (kyOf h)) → (evOf h11 = evOf h) → (x13.toInt - (-1)).toNat < n9 → RUN d_X9_goSecond 62 [(3, .inl x13), (0, .inr (.inr (.inl 96))), (1, .inl a0), (2, .inl a1)] [] h11 (q_X9_goSecond h a0 a1) := by
      intro n9
      induction n9 with
      | zero => intro h11 x13 m15 m16 m17 m18 m19 m20 m21 m22 m23 m24 m25 m26 m27 m28 m29 m30 m31 m32 hz; exact absurd hz (Nat.not_lt_zero _)
      | succ n9 ih14 =>
        intro h11 x13 hI fr fl12 m18 m19 m20 m21 m22 m23 m24 m25 m26 m27 m28 m29 m30 m31 m32 hz
        have hE := m32
        have hK : kyOf h11 = kyOf h11 := rfl
        refine R_iload_n (k := 3) rfl rfl rfl ?_
        refine N_if_lt (a := x13.toInt) 82 rfl rfl rfl (fun c33 => ?_) (fun c33 => ?_)
        · have hK : kyOf h11 = zMid (evOf h) a0 a1 (kyOf h) := by
            unfold zMid
            split
            · first | (exfalso; omega) | (have hA := m30; rw [show (x13.toInt + 1).toNat = 0 by omega] at hA; exact hA)
            · exact m31 (by omega)
          refine R_aload_n (k := 0) rfl rfl rfl ?_
          refine R_getf_i (j := 18) rfl ft_9_253 sh_96 rfl ?_
          refine N_if_le (a := (h11.1 96 18).toInt) 164 rfl rfl rfl (fun c34 => ?_) (fun c34 => ?_)
          · have hK : kyOf h11 = zTake (evOf h) a0 (zMid (evOf h) a0 a1 (kyOf h)) := by
              refine hK.trans ?_
              simp only [zTake, zTake1, eMany, eLine, eFull]
              (repeat' split) <;> first | rfl | (exfalso; omega)
            refine R_iconst 0 rfl rfl ?_
            refine R_istore_n (k := 3) rfl [(3, .inl 0), (0, .inr (.inr (.inl 96))), (1, .inl a0), (2, .inl a1)] rfl rfl (by decide) ?_
            have lp36 : ∀ (n35 : Nat) (x37 : Int32), 0 ≤ x37.toInt ∧ x37.toInt ≤ 0 → (kyOf h11 = zHolds (evOf h) a0 x37.toNatClampNeg (zTake (evOf h) a0 (zMid (evOf h) a0 a1 (kyOf h)))) → 0 < n35 → RUN d_X9_goSecond 166 [(3, .inl x37), (0, .inr (.inr (.inl 96))), (1, .inl a0), (2, .inl a1)] [] h11 (q_X9_goSecond h a0 a1) := by
              intro n35
              induction n35 with
              | zero => intro x37 m39 m40 hz; exact absurd hz (Nat.not_lt_zero _)
              | succ n35 ih38 =>
                intro x37 m39 m40 hz
                refine R_iload_n (k := 3) rfl rfl rfl ?_
                refine R_aload_n (k := 0) rfl rfl rfl ?_
                refine R_getf_i (j := 18) rfl ft_9_253 sh_96 rfl ?_
                refine N_icmp_ge (a := x37.toInt) (b := (h11.1 96 18).toInt) 224 rfl rfl rfl rfl (fun c41 => ?_) (fun c41 => ?_)
                · have hF : kyOf h11 = zSecond (evOf h) a0 a1 (kyOf h) := m40.trans (by rw [show x37 = eMany (evOf h) from i_of _ (by omega)]; rfl)
                  exact R_vret rfl rfl ⟨hI, fr, ⟨by omega, by omega, by omega, by omega, by omega, by omega, by omega, by omega, by omega, by omega, hF, hE, trivial⟩, rfl⟩
                · exfalso; omega
            have k42 : (0 : Int32).toInt = 0 := by decide
            exact lp36 _ (0 : Int32) (by decide) (by rw [hK]; rfl) (Nat.lt_succ_self _)
          · refine R_aload_n (k := 0) rfl rfl rfl ?_
            refine R_getf_r (j := 22) rfl ft_9_46 sh_96 rfl ?_
            refine R_aload_n (k := 0) rfl rfl rfl ?_
            refine R_getf_r (j := 17) rfl ft_9_40 sh_96 rfl ?_
            refine R_iconst 0 rfl rfl ?_
            refine R_iald rfl sh_105 (by decide) ?_
            refine N_eq (fun x43 e44 => ?_)
            have q45 : 0 ≤ x43.toInt ∧ x43.toInt ≤ 5 := by rw [e44]; exact hI.1 105 _
            have e46 : x43 = (evOf h).2.2.2.1 (0 : Int32).toNatClampNeg := by rw [e44]; exact congrFun (congrArg (fun q : EV => q.2.2.2.1) hE) _
            refine R_iald rfl sh_107 ⟨by omega, by omega⟩ ?_
            refine N_eq (fun x47 e48 => ?_)
            have e49 : x47 = ((zMid (evOf h) a0 a1 (kyOf h)).1) x43.toNatClampNeg := by rw [e48]; exact (ky_at107 (nlt ⟨by omega, by omega⟩)).trans (congrFun (congrArg (fun q : KY => q.1) hK) _)
            refine R_iconst (-1) rfl rfl ?_
            refine N_icmp_ne (a := x47.toInt) (b := (-1)) 164 rfl rfl rfl (by decide) (fun c50 => ?_) (fun c50 => ?_)
            · have hK : kyOf h11 = zTake (evOf h) a0 (zMid (evOf h) a0 a1 (kyOf h)) := by
                refine hK.trans ?_
                subst e49 e46
                simp only [zTake, zTake1, eMany, eLine, eFull]
                (repeat' split) <;> first | rfl | (exfalso; omega)
              refine R_iconst 0 rfl rfl ?_
              refine R_istore_n (k := 3) rfl [(3, .inl 0), (0, .inr (.inr (.inl 96))), (1, .inl a0), (2, .inl a1)] rfl rfl (by decide) ?_
              have lp52 : ∀ (n51 : Nat) (h53 : PH) (x55 : Int32), INV h53 → FR [96, 107, 108, 109, 117, 118] h h53 → FR [107] h11 h53 → 0 ≤ x55.toInt ∧ x55.toInt ≤ 6 → (kyOf h53 = zHolds (evOf h) a0 x55.toNatClampNeg (zTake (evOf h) a0 (zMid (evOf h) a0 a1 (kyOf h)))) → (evOf h53 = evOf h) → (6 - x55.toInt).toNat < n51 → RUN d_X9_goSecond 166 [(3, .inl x55), (0, .inr (.inr (.inl 96))), (1, .inl a0), (2, .inl a1)] [] h53 (q_X9_goSecond h a0 a1) := by
                intro n51
                induction n51 with
                | zero => intro h53 x55 m57 m58 m59 m60 m61 m62 hz; exact absurd hz (Nat.not_lt_zero _)
                | succ n51 ih56 =>
                  intro h53 x55 hI fr fl54 m60 m61 m62 hz
                  have s63 : (h53.1 96 41).toInt = (h11.1 96 41).toInt := by rw [(fl54 96 (by decide)).1]
                  have s64 : (h53.1 96 42).toInt = (h11.1 96 42).toInt := by rw [(fl54 96 (by decide)).1]
                  have s65 : (h53.1 96 19).toInt = (h11.1 96 19).toInt := by rw [(fl54 96 (by decide)).1]
                  have s66 : (h53.1 96 18).toInt = (h11.1 96 18).toInt := by rw [(fl54 96 (by decide)).1]
                  have s67 : (h53.1 96 20).toInt = (h11.1 96 20).toInt := by rw [(fl54 96 (by decide)).1]
                  have s68 : (h53.1 96 46).toInt = (h11.1 96 46).toInt := by rw [(fl54 96 (by decide)).1]
                  have s69 : (h53.1 96 44).toInt = (h11.1 96 44).toInt := by rw [(fl54 96 (by decide)).1]
                  have s70 : (h53.1 96 47).toInt = (h11.1 96 47).toInt := by rw [(fl54 96 (by decide)).1]
                  have s71 : (h53.1 96 48).toInt = (h11.1 96 48).toInt := by rw [(fl54 96 (by decide)).1]
                  have s72 : (h53.1 96 51).toInt = (h11.1 96 51).toInt := by rw [(fl54 96 (by decide)).1]
                  have fl12 : FR [96, 107, 108, 109, 117, 118] h h53 := fl12.trans fl54 (by decide)
                  have hE := m62
                  have hK : kyOf h53 = kyOf h53 := rfl
                  refine R_iload_n (k := 3) rfl rfl rfl ?_
                  refine R_aload_n (k := 0) rfl rfl rfl ?_
                  refine R_getf_i (j := 18) rfl ft_9_253 sh_96 rfl ?_
                  refine N_icmp_ge (a := x55.toInt) (b := (h53.1 96 18).toInt) 224 rfl rfl rfl rfl (fun c73 => ?_) (fun c73 => ?_)
                  · have hF : kyOf h53 = zSecond (evOf h) a0 a1 (kyOf h) := m61.trans (by rw [show x55 = eMany (evOf h) from i_of _ (by omega)]; rfl)
                    exact R_vret rfl rfl ⟨hI, fr, ⟨by omega, by omega, by omega, by omega, by omega, by omega, by omega, by omega, by omega, by omega, hF, hE, trivial⟩, rfl⟩
                  · refine R_aload_n (k := 0) rfl rfl rfl ?_
                    refine R_getf_r (j := 22) rfl ft_9_46 sh_96 rfl ?_
                    refine R_aload_n (k := 0) rfl rfl rfl ?_
                    refine R_getf_r (j := 17) rfl ft_9_40 sh_96 rfl ?_
                    refine R_iload_n (k := 3) rfl rfl rfl ?_
                    refine R_iald rfl sh_105 ⟨by omega, by omega⟩ ?_
                    refine N_eq (fun x74 e75 => ?_)
                    have q76 : 0 ≤ x74.toInt ∧ x74.toInt ≤ 5 := by rw [e75]; exact hI.1 105 _
                    have e77 : x74 = (evOf h).2.2.2.1 x55.toNatClampNeg := by rw [e75]; exact congrFun (congrArg (fun q : EV => q.2.2.2.1) hE) _
                    refine R_iald rfl sh_107 ⟨by omega, by omega⟩ ?_
                    refine N_eq (fun x78 e79 => ?_)
                    have e80 : x78 = ((kyOf h53).1) x74.toNatClampNeg := by rw [e79]; exact (ky_at107 (nlt ⟨by omega, by omega⟩)).trans (congrFun (congrArg (fun q : KY => q.1) hK) _)
                    refine R_iconst (-1) rfl rfl ?_
                    refine N_icmp_eq (a := x78.toInt) (b := (-1)) 218 rfl rfl rfl (by decide) (fun c81 => ?_) (fun c81 => ?_)
                    · refine N_iinc (a := x55.toInt) (c := 1) (fun w => [(3, .inl w), (0, .inr (.inr (.inl 96))), (1, .inl a0), (2, .inl a1)]) rfl rfl (fun _ => rfl) (by decide) rfl (by decide) (by omega) (fun x82 q83 => ?_)
                      refine R_goto 166 rfl rfl ?_
                      exact RUN_weak (psub_cons rfl (psub_cons rfl (psub_cons rfl (psub_cons rfl (psub_nil _))))) (ih56 h53 x82 hI fr fl54 (by omega) (by rw [zHolds_s (x := x55) (x' := x82) (by omega) (by omega), ← m61]; refine hK.trans ?_; subst e80 e77; simp only [zHold1, eLine]; (repeat' split) <;> first | rfl | (exfalso; omega)) (hE) (by omega))
                    · refine R_aload_n (k := 0) rfl rfl rfl ?_
                      refine R_aload_n (k := 0) rfl rfl rfl ?_
                      refine R_getf_r (j := 17) rfl ft_9_40 sh_96 rfl ?_
                      refine R_iload_n (k := 3) rfl rfl rfl ?_
                      refine R_iald rfl sh_105 ⟨by omega, by omega⟩ ?_
                      refine N_eq (fun x84 e85 => ?_)
                      have q86 : 0 ≤ x84.toInt ∧ x84.toInt ≤ 5 := by rw [e85]; exact hI.1 105 _
                      have e87 : x84 = (evOf h).2.2.2.1 x55.toNatClampNeg := by rw [e85]; exact congrFun (congrArg (fun q : EV => q.2.2.2.1) hE) _
                      refine R_iload_n (k := 1) rfl rfl rfl ?_
                      refine R_callV (v := .inr (.inr (.inl 96))) (As := [.inl x84, .inl a0]) (rest := []) rfl mt_9_i271 pp_X9_doesRest (by decide) rfl rfl rfl (Nat.le_of_ble_eq_true rfl) (Nat.le_of_ble_eq_true rfl) ((g_X9_doesRest h53 hI x84 a0 (by omega) (by omega)).mono (fun r88 h89 p90 => ?_))
                      obtain ⟨rfl, x92, rfl, (q93 | q93 | q93), zq91, -⟩ := p90
                        rw [hE] at zq91
                      · exfalso; omega
                      · rw [hE] at zq91
                        show RUN d_X9_goSecond 200 [(3, .inl x55), (0, .inr (.inr (.inl 96))), (1, .inl a0), (2, .inl a1)] [.inl x92] h53 _
                        refine N_if_ne (a := x92.toInt) 218 rfl rfl rfl (fun c94 => ?_) (fun c94 => ?_)
                        · exfalso; omega
                        · refine R_aload_n (k := 0) rfl rfl rfl ?_
                          refine R_getf_r (j := 22) rfl ft_9_46 sh_96 rfl ?_
                          refine R_aload_n (k := 0) rfl rfl rfl ?_
                          refine R_getf_r (j := 17) rfl ft_9_40 sh_96 rfl ?_
                          refine R_iload_n (k := 3) rfl rfl rfl ?_
                          refine R_iald rfl sh_105 ⟨by omega, by omega⟩ ?_
                          refine N_eq (fun x95 e96 => ?_)
                          have q97 : 0 ≤ x95.toInt ∧ x95.toInt ≤ 5 := by rw [e96]; exact hI.1 105 _
                          have e98 : x95 = (evOf h).2.2.2.1 x55.toNatClampNeg := by rw [e96]; exact congrFun (congrArg (fun q : EV => q.2.2.2.1) hE) _
                          refine R_dup2 rfl ?_
                          refine R_iald rfl sh_107 ⟨by omega, by omega⟩ ?_
                          refine N_eq (fun x99 e100 => ?_)
                          have e101 : x99 = ((kyOf h53).1) x95.toNatClampNeg := by rw [e100]; exact (ky_at107 (nlt ⟨by omega, by omega⟩)).trans (congrFun (congrArg (fun q : KY => q.1) hK) _)
                          refine R_iconst 1 rfl rfl ?_
                          have b102 := i_rng x99
                          refine R_iadd rfl ?_
                          refine N_eq (fun x103 e104 => ?_)
                          refine K_iast (a := x95.toInt) (lo := (-2147483648)) (hi' := 2147483647) rfl sh_107 rfl ⟨by omega, by omega⟩ hI (by decide) rfl (i_rng _) fr (by decide) (fun h105 g106 hI fr => ?_)
                          have fl54 : FR [107] h11 h105 := by rw [g106]; exact FR_wI _ _ fl54 (by decide)
                          have fl12 : FR [96, 107, 108, 109, 117, 118] h h105 := by rw [g106]; exact FR_wI _ _ fl12 (by decide)
                          have s107 : (h105.1 96 41).toInt = (h53.1 96 41).toInt := by rw [g106, wI_ne _ _ _ (by decide)]
                          have s108 : (h105.1 96 42).toInt = (h53.1 96 42).toInt := by rw [g106, wI_ne _ _ _ (by decide)]
                          have s109 : (h105.1 96 19).toInt = (h53.1 96 19).toInt := by rw [g106, wI_ne _ _ _ (by decide)]
                          have s110 : (h105.1 96 18).toInt = (h53.1 96 18).toInt := by rw [g106, wI_ne _ _ _ (by decide)]
                          have s111 : (h105.1 96 20).toInt = (h53.1 96 20).toInt := by rw [g106, wI_ne _ _ _ (by decide)]
                          have s112 : (h105.1 96 46).toInt = (h53.1 96 46).toInt := by rw [g106, wI_ne _ _ _ (by decide)]
                          have s113 : (h105.1 96 44).toInt = (h53.1 96 44).toInt := by rw [g106, wI_ne _ _ _ (by decide)]
                          have s114 : (h105.1 96 47).toInt = (h53.1 96 47).toInt := by rw [g106, wI_ne _ _ _ (by decide)]
                          have s115 : (h105.1 96 48).toInt = (h53.1 96 48).toInt := by rw [g106, wI_ne _ _ _ (by decide)]
                          have s116 : (h105.1 96 51).toInt = (h53.1 96 51).toInt := by rw [g106, wI_ne _ _ _ (by decide)]
                          have hK : kyOf h105 = (upd ((kyOf h53).1) x95.toNatClampNeg x103, (kyOf h53).2.1, (kyOf h53).2.2.1, (kyOf h53).2.2.2) := by rw [g106, ky_107 (nlt ⟨by omega, by omega⟩), hK] <;> rfl
                          have hE : evOf h105 = evOf h := by rw [g106, ev_o (by decide), hE]
                          refine N_iinc (a := x55.toInt) (c := 1) (fun w => [(3, .inl w), (0, .inr (.inr (.inl 96))), (1, .inl a0), (2, .inl a1)]) rfl rfl (fun _ => rfl) (by decide) rfl (by decide) (by omega) (fun x117 q118 => ?_)
                          refine R_goto 166 rfl rfl ?_
                          exact RUN_weak (psub_cons rfl (psub_cons rfl (psub_cons rfl (psub_cons rfl (psub_nil _))))) (ih56 h105 x117 hI fr fl54 (by omega) (by rw [zHolds_s (x := x55) (x' := x117) (by omega) (by omega), ← m61]; refine hK.trans ?_; subst e104 e101 e98 e87 e80 e77; simp only [zHold1, eLine]; (repeat' split) <;> first | rfl | (exfalso; omega)) (hE) (by omega))
                      · rw [hE] at zq91
                        show RUN d_X9_goSecond 200 [(3, .inl x55), (0, .inr (.inr (.inl 96))), (1, .inl a0), (2, .inl a1)] [.inl x92] h53 _
                        refine N_if_ne (a := x92.toInt) 218 rfl rfl rfl (fun c119 => ?_) (fun c119 => ?_)
                        · refine N_iinc (a := x55.toInt) (c := 1) (fun w => [(3, .inl w), (0, .inr (.inr (.inl 96))), (1, .inl a0), (2, .inl a1)]) rfl rfl (fun _ => rfl) (by decide) rfl (by decide) (by omega) (fun x120 q121 => ?_)
                          refine R_goto 166 rfl rfl ?_
                          exact RUN_weak (psub_cons rfl (psub_cons rfl (psub_cons rfl (psub_cons rfl (psub_nil _))))) (ih56 h53 x120 hI fr fl54 (by omega) (by rw [zHolds_s (x := x55) (x' := x120) (by omega) (by omega), ← m61]; refine hK.trans ?_; subst e87 e80 e77; simp only [zHold1, eLine]; (repeat' split) <;> first | rfl | (exfalso; omega)) (hE) (by omega))
                        · exfalso; omega
              have k122 : (0 : Int32).toInt = 0 := by decide
              exact lp52 _ h11 (0 : Int32) hI fr (FR.rf _ _) (by decide) (by rw [hK]; rfl) (hE) (Nat.lt_succ_self _)
            · refine R_aload_n (k := 0) rfl rfl rfl ?_
              refine R_aload_n (k := 0) rfl rfl rfl ?_
              refine R_getf_r (j := 17) rfl ft_9_40 sh_96 rfl ?_
              refine R_iconst 0 rfl rfl ?_
              refine R_iald rfl sh_105 (by decide) ?_
              refine N_eq (fun x123 e124 => ?_)
              have q125 : 0 ≤ x123.toInt ∧ x123.toInt ≤ 5 := by rw [e124]; exact hI.1 105 _
              have e126 : x123 = (evOf h).2.2.2.1 (0 : Int32).toNatClampNeg := by rw [e124]; exact congrFun (congrArg (fun q : EV => q.2.2.2.1) hE) _
              refine R_iload_n (k := 1) rfl rfl rfl ?_
              refine R_callV (v := .inr (.inr (.inl 96))) (As := [.inl x123, .inl a0]) (rest := []) rfl mt_9_i271 pp_X9_doesRest (by decide) rfl rfl rfl (Nat.le_of_ble_eq_true rfl) (Nat.le_of_ble_eq_true rfl) ((g_X9_doesRest h11 hI x123 a0 (by omega) (by omega)).mono (fun r127 h128 p129 => ?_))
              obtain ⟨rfl, x131, rfl, (q132 | q132 | q132), zq130, -⟩ := p129
                rw [hE] at zq130
              · exfalso; omega
              · rw [hE] at zq130
                show RUN d_X9_goSecond 115 [(3, .inl x13), (0, .inr (.inr (.inl 96))), (1, .inl a0), (2, .inl a1)] [.inl x131] h11 _
                refine N_if_ne (a := x131.toInt) 164 rfl rfl rfl (fun c133 => ?_) (fun c133 => ?_)
                · exfalso; omega
                · refine R_aload_n (k := 0) rfl rfl rfl ?_
                  refine R_getf_r (j := 24) rfl ft_9_52 sh_96 rfl ?_
                  refine R_iconst 0 rfl rfl ?_
                  refine R_iald rfl sh_109 (by decide) ?_
                  refine N_eq (fun x134 e135 => ?_)
                  have e136 : x134 = ((zMid (evOf h) a0 a1 (kyOf h)).2.2.1) (0 : Int32).toNatClampNeg := by rw [e135]; exact (ky_at109 (by decide)).trans (congrFun (congrArg (fun q : KY => q.2.2.1) hK) _)
                  refine N_if_le (a := x134.toInt) 164 rfl rfl rfl (fun c137 => ?_) (fun c137 => ?_)
                  · have hK : kyOf h11 = zTake (evOf h) a0 (zMid (evOf h) a0 a1 (kyOf h)) := by
                      refine hK.trans ?_
                      subst e136 e126 e49 e46
                      simp only [zTake, zTake1, eMany, eLine, eFull]
                      (repeat' split) <;> first | rfl | (exfalso; omega)
                    refine R_iconst 0 rfl rfl ?_
                    refine R_istore_n (k := 3) rfl [(3, .inl 0), (0, .inr (.inr (.inl 96))), (1, .inl a0), (2, .inl a1)] rfl rfl (by decide) ?_
                    have lp139 : ∀ (n138 : Nat) (h140 : PH) (x142 : Int32), INV h140 → FR [96, 107, 108, 109, 117, 118] h h140 → FR [107] h11 h140 → 0 ≤ x142.toInt ∧ x142.toInt ≤ 6 → (kyOf h140 = zHolds (evOf h) a0 x142.toNatClampNeg (zTake (evOf h) a0 (zMid (evOf h) a0 a1 (kyOf h)))) → (evOf h140 = evOf h) → (6 - x142.toInt).toNat < n138 → RUN d_X9_goSecond 166 [(3, .inl x142), (0, .inr (.inr (.inl 96))), (1, .inl a0), (2, .inl a1)] [] h140 (q_X9_goSecond h a0 a1) := by
                      intro n138
                      induction n138 with
                      | zero => intro h140 x142 m144 m145 m146 m147 m148 m149 hz; exact absurd hz (Nat.not_lt_zero _)
                      | succ n138 ih143 =>
                        intro h140 x142 hI fr fl141 m147 m148 m149 hz
                        have s150 : (h140.1 96 41).toInt = (h11.1 96 41).toInt := by rw [(fl141 96 (by decide)).1]
                        have s151 : (h140.1 96 42).toInt = (h11.1 96 42).toInt := by rw [(fl141 96 (by decide)).1]
                        have s152 : (h140.1 96 19).toInt = (h11.1 96 19).toInt := by rw [(fl141 96 (by decide)).1]
                        have s153 : (h140.1 96 18).toInt = (h11.1 96 18).toInt := by rw [(fl141 96 (by decide)).1]
                        have s154 : (h140.1 96 20).toInt = (h11.1 96 20).toInt := by rw [(fl141 96 (by decide)).1]
                        have s155 : (h140.1 96 46).toInt = (h11.1 96 46).toInt := by rw [(fl141 96 (by decide)).1]
                        have s156 : (h140.1 96 44).toInt = (h11.1 96 44).toInt := by rw [(fl141 96 (by decide)).1]
                        have s157 : (h140.1 96 47).toInt = (h11.1 96 47).toInt := by rw [(fl141 96 (by decide)).1]
                        have s158 : (h140.1 96 48).toInt = (h11.1 96 48).toInt := by rw [(fl141 96 (by decide)).1]
                        have s159 : (h140.1 96 51).toInt = (h11.1 96 51).toInt := by rw [(fl141 96 (by decide)).1]
                        have fl12 : FR [96, 107, 108, 109, 117, 118] h h140 := fl12.trans fl141 (by decide)
                        have hE := m149
                        have hK : kyOf h140 = kyOf h140 := rfl
                        refine R_iload_n (k := 3) rfl rfl rfl ?_
                        refine R_aload_n (k := 0) rfl rfl rfl ?_
                        refine R_getf_i (j := 18) rfl ft_9_253 sh_96 rfl ?_
                        refine N_icmp_ge (a := x142.toInt) (b := (h140.1 96 18).toInt) 224 rfl rfl rfl rfl (fun c160 => ?_) (fun c160 => ?_)
                        · have hF : kyOf h140 = zSecond (evOf h) a0 a1 (kyOf h) := m148.trans (by rw [show x142 = eMany (evOf h) from i_of _ (by omega)]; rfl)
                          exact R_vret rfl rfl ⟨hI, fr, ⟨by omega, by omega, by omega, by omega, by omega, by omega, by omega, by omega, by omega, by omega, hF, hE, trivial⟩, rfl⟩
                        · refine R_aload_n (k := 0) rfl rfl rfl ?_
                          refine R_getf_r (j := 22) rfl ft_9_46 sh_96 rfl ?_
                          refine R_aload_n (k := 0) rfl rfl rfl ?_
                          refine R_getf_r (j := 17) rfl ft_9_40 sh_96 rfl ?_
                          refine R_iload_n (k := 3) rfl rfl rfl ?_
                          refine R_iald rfl sh_105 ⟨by omega, by omega⟩ ?_
                          refine N_eq (fun x161 e162 => ?_)
                          have q163 : 0 ≤ x161.toInt ∧ x161.toInt ≤ 5 := by rw [e162]; exact hI.1 105 _
                          have e164 : x161 = (evOf h).2.2.2.1 x142.toNatClampNeg := by rw [e162]; exact congrFun (congrArg (fun q : EV => q.2.2.2.1) hE) _
                          refine R_iald rfl sh_107 ⟨by omega, by omega⟩ ?_
                          refine N_eq (fun x165 e166 => ?_)
                          have e167 : x165 = ((kyOf h140).1) x161.toNatClampNeg := by rw [e166]; exact (ky_at107 (nlt ⟨by omega, by omega⟩)).trans (congrFun (congrArg (fun q : KY => q.1) hK) _)
                          refine R_iconst (-1) rfl rfl ?_
                          refine N_icmp_eq (a := x165.toInt) (b := (-1)) 218 rfl rfl rfl (by decide) (fun c168 => ?_) (fun c168 => ?_)
                          · refine N_iinc (a := x142.toInt) (c := 1) (fun w => [(3, .inl w), (0, .inr (.inr (.inl 96))), (1, .inl a0), (2, .inl a1)]) rfl rfl (fun _ => rfl) (by decide) rfl (by decide) (by omega) (fun x169 q170 => ?_)
                            refine R_goto 166 rfl rfl ?_
                            exact RUN_weak (psub_cons rfl (psub_cons rfl (psub_cons rfl (psub_cons rfl (psub_nil _))))) (ih143 h140 x169 hI fr fl141 (by omega) (by rw [zHolds_s (x := x142) (x' := x169) (by omega) (by omega), ← m148]; refine hK.trans ?_; subst e167 e164; simp only [zHold1, eLine]; (repeat' split) <;> first | rfl | (exfalso; omega)) (hE) (by omega))
                          · refine R_aload_n (k := 0) rfl rfl rfl ?_
                            refine R_aload_n (k := 0) rfl rfl rfl ?_
                            refine R_getf_r (j := 17) rfl ft_9_40 sh_96 rfl ?_
                            refine R_iload_n (k := 3) rfl rfl rfl ?_
                            refine R_iald rfl sh_105 ⟨by omega, by omega⟩ ?_
                            refine N_eq (fun x171 e172 => ?_)
                            have q173 : 0 ≤ x171.toInt ∧ x171.toInt ≤ 5 := by rw [e172]; exact hI.1 105 _
                            have e174 : x171 = (evOf h).2.2.2.1 x142.toNatClampNeg := by rw [e172]; exact congrFun (congrArg (fun q : EV => q.2.2.2.1) hE) _
                            refine R_iload_n (k := 1) rfl rfl rfl ?_
                            refine R_callV (v := .inr (.inr (.inl 96))) (As := [.inl x171, .inl a0]) (rest := []) rfl mt_9_i271 pp_X9_doesRest (by decide) rfl rfl rfl (Nat.le_of_ble_eq_true rfl) (Nat.le_of_ble_eq_true rfl) ((g_X9_doesRest h140 hI x171 a0 (by omega) (by omega)).mono (fun r175 h176 p177 => ?_))
                            obtain ⟨rfl, x179, rfl, (q180 | q180 | q180), zq178, -⟩ := p177
                              rw [hE] at zq178
                            · exfalso; omega
                            · rw [hE] at zq178
                              show RUN d_X9_goSecond 200 [(3, .inl x142), (0, .inr (.inr (.inl 96))), (1, .inl a0), (2, .inl a1)] [.inl x179] h140 _
                              refine N_if_ne (a := x179.toInt) 218 rfl rfl rfl (fun c181 => ?_) (fun c181 => ?_)
                              · exfalso; omega
                              · refine R_aload_n (k := 0) rfl rfl rfl ?_
                                refine R_getf_r (j := 22) rfl ft_9_46 sh_96 rfl ?_
                                refine R_aload_n (k := 0) rfl rfl rfl ?_
                                refine R_getf_r (j := 17) rfl ft_9_40 sh_96 rfl ?_
                                refine R_iload_n (k := 3) rfl rfl rfl ?_
                                refine R_iald rfl sh_105 ⟨by omega, by omega⟩ ?_
                                refine N_eq (fun x182 e183 => ?_)
                                have q184 : 0 ≤ x182.toInt ∧ x182.toInt ≤ 5 := by rw [e183]; exact hI.1 105 _
                                have e185 : x182 = (evOf h).2.2.2.1 x142.toNatClampNeg := by rw [e183]; exact congrFun (congrArg (fun q : EV => q.2.2.2.1) hE) _
                                refine R_dup2 rfl ?_
                                refine R_iald rfl sh_107 ⟨by omega, by omega⟩ ?_
                                refine N_eq (fun x186 e187 => ?_)
                                have e188 : x186 = ((kyOf h140).1) x182.toNatClampNeg := by rw [e187]; exact (ky_at107 (nlt ⟨by omega, by omega⟩)).trans (congrFun (congrArg (fun q : KY => q.1) hK) _)
                                refine R_iconst 1 rfl rfl ?_
                                have b189 := i_rng x186
                                refine R_iadd rfl ?_
                                refine N_eq (fun x190 e191 => ?_)
                                refine K_iast (a := x182.toInt) (lo := (-2147483648)) (hi' := 2147483647) rfl sh_107 rfl ⟨by omega, by omega⟩ hI (by decide) rfl (i_rng _) fr (by decide) (fun h192 g193 hI fr => ?_)
                                have fl141 : FR [107] h11 h192 := by rw [g193]; exact FR_wI _ _ fl141 (by decide)
                                have fl12 : FR [96, 107, 108, 109, 117, 118] h h192 := by rw [g193]; exact FR_wI _ _ fl12 (by decide)
                                have s194 : (h192.1 96 41).toInt = (h140.1 96 41).toInt := by rw [g193, wI_ne _ _ _ (by decide)]
                                have s195 : (h192.1 96 42).toInt = (h140.1 96 42).toInt := by rw [g193, wI_ne _ _ _ (by decide)]
                                have s196 : (h192.1 96 19).toInt = (h140.1 96 19).toInt := by rw [g193, wI_ne _ _ _ (by decide)]
                                have s197 : (h192.1 96 18).toInt = (h140.1 96 18).toInt := by rw [g193, wI_ne _ _ _ (by decide)]
                                have s198 : (h192.1 96 20).toInt = (h140.1 96 20).toInt := by rw [g193, wI_ne _ _ _ (by decide)]
                                have s199 : (h192.1 96 46).toInt = (h140.1 96 46).toInt := by rw [g193, wI_ne _ _ _ (by decide)]
                                have s200 : (h192.1 96 44).toInt = (h140.1 96 44).toInt := by rw [g193, wI_ne _ _ _ (by decide)]
                                have s201 : (h192.1 96 47).toInt = (h140.1 96 47).toInt := by rw [g193, wI_ne _ _ _ (by decide)]
                                have s202 : (h192.1 96 48).toInt = (h140.1 96 48).toInt := by rw [g193, wI_ne _ _ _ (by decide)]
                                have s203 : (h192.1 96 51).toInt = (h140.1 96 51).toInt := by rw [g193, wI_ne _ _ _ (by decide)]
                                have hK : kyOf h192 = (upd ((kyOf h140).1) x182.toNatClampNeg x190, (kyOf h140).2.1, (kyOf h140).2.2.1, (kyOf h140).2.2.2) := by rw [g193, ky_107 (nlt ⟨by omega, by omega⟩), hK] <;> rfl
                                have hE : evOf h192 = evOf h := by rw [g193, ev_o (by decide), hE]
                                refine N_iinc (a := x142.toInt) (c := 1) (fun w => [(3, .inl w), (0, .inr (.inr (.inl 96))), (1, .inl a0), (2, .inl a1)]) rfl rfl (fun _ => rfl) (by decide) rfl (by decide) (by omega) (fun x204 q205 => ?_)
                                refine R_goto 166 rfl rfl ?_
                                exact RUN_weak (psub_cons rfl (psub_cons rfl (psub_cons rfl (psub_cons rfl (psub_nil _))))) (ih143 h192 x204 hI fr fl141 (by omega) (by rw [zHolds_s (x := x142) (x' := x204) (by omega) (by omega), ← m148]; refine hK.trans ?_; subst e191 e188 e185 e174 e167 e164; simp only [zHold1, eLine]; (repeat' split) <;> first | rfl | (exfalso; omega)) (hE) (by omega))
                            · rw [hE] at zq178
                              show RUN d_X9_goSecond 200 [(3, .inl x142), (0, .inr (.inr (.inl 96))), (1, .inl a0), (2, .inl a1)] [.inl x179] h140 _
                              refine N_if_ne (a := x179.toInt) 218 rfl rfl rfl (fun c206 => ?_) (fun c206 => ?_)
                              · refine N_iinc (a := x142.toInt) (c := 1) (fun w => [(3, .inl w), (0, .inr (.inr (.inl 96))), (1, .inl a0), (2, .inl a1)]) rfl rfl (fun _ => rfl) (by decide) rfl (by decide) (by omega) (fun x207 q208 => ?_)
                                refine R_goto 166 rfl rfl ?_
                                exact RUN_weak (psub_cons rfl (psub_cons rfl (psub_cons rfl (psub_cons rfl (psub_nil _))))) (ih143 h140 x207 hI fr fl141 (by omega) (by rw [zHolds_s (x := x142) (x' := x207) (by omega) (by omega), ← m148]; refine hK.trans ?_; subst e174 e167 e164; simp only [zHold1, eLine]; (repeat' split) <;> first | rfl | (exfalso; omega)) (hE) (by omega))
                              · exfalso; omega
                    have k209 : (0 : Int32).toInt = 0 := by decide
                    exact lp139 _ h11 (0 : Int32) hI fr (FR.rf _ _) (by decide) (by rw [hK]; rfl) (hE) (Nat.lt_succ_self _)
                  · refine R_aload_n (k := 0) rfl rfl rfl ?_
                    refine R_getf_r (j := 24) rfl ft_9_52 sh_96 rfl ?_
                    refine R_iconst 0 rfl rfl ?_
                    refine R_dup2 rfl ?_
                    refine R_iald rfl sh_109 (by decide) ?_
                    refine N_eq (fun x210 e211 => ?_)
                    have e212 : x210 = ((zMid (evOf h) a0 a1 (kyOf h)).2.2.1) (0 : Int32).toNatClampNeg := by rw [e211]; exact (ky_at109 (by decide)).trans (congrFun (congrArg (fun q : KY => q.2.2.1) hK) _)
                    refine R_iconst 1 rfl rfl ?_
                    have b213 := i_rng x210
                    refine R_isub rfl ?_
                    refine N_eq (fun x214 e215 => ?_)
                    refine K_iast (a := 0) (lo := (-2147483648)) (hi' := 2147483647) rfl sh_109 (by decide) (by decide) hI (by decide) rfl (i_rng _) fr (by decide) (fun h216 g217 hI fr => ?_)
                    have fl12 : FR [96, 107, 108, 109, 117, 118] h h216 := by rw [g217]; exact FR_wI _ _ fl12 (by decide)
                    have s218 : (h216.1 96 41).toInt = (h11.1 96 41).toInt := by rw [g217, wI_ne _ _ _ (by decide)]
                    have s219 : (h216.1 96 42).toInt = (h11.1 96 42).toInt := by rw [g217, wI_ne _ _ _ (by decide)]
                    have s220 : (h216.1 96 19).toInt = (h11.1 96 19).toInt := by rw [g217, wI_ne _ _ _ (by decide)]
                    have s221 : (h216.1 96 18).toInt = (h11.1 96 18).toInt := by rw [g217, wI_ne _ _ _ (by decide)]
                    have s222 : (h216.1 96 20).toInt = (h11.1 96 20).toInt := by rw [g217, wI_ne _ _ _ (by decide)]
                    have s223 : (h216.1 96 46).toInt = (h11.1 96 46).toInt := by rw [g217, wI_ne _ _ _ (by decide)]
                    have s224 : (h216.1 96 44).toInt = (h11.1 96 44).toInt := by rw [g217, wI_ne _ _ _ (by decide)]
                    have s225 : (h216.1 96 47).toInt = (h11.1 96 47).toInt := by rw [g217, wI_ne _ _ _ (by decide)]
                    have s226 : (h216.1 96 48).toInt = (h11.1 96 48).toInt := by rw [g217, wI_ne _ _ _ (by decide)]
                    have s227 : (h216.1 96 51).toInt = (h11.1 96 51).toInt := by rw [g217, wI_ne _ _ _ (by decide)]
                    have hK : kyOf h216 = ((zMid (evOf h) a0 a1 (kyOf h)).1, (zMid (evOf h) a0 a1 (kyOf h)).2.1, upd ((zMid (evOf h) a0 a1 (kyOf h)).2.2.1) (0 : Int32).toNatClampNeg x214, (zMid (evOf h) a0 a1 (kyOf h)).2.2.2) := by rw [g217, ky_109 (by decide), hK] <;> rfl
                    have hE : evOf h216 = evOf h := by rw [g217, ev_o (by decide), hE]
                    refine R_aload_n (k := 0) rfl rfl rfl ?_
                    refine R_getf_r (j := 22) rfl ft_9_46 sh_96 rfl ?_
                    refine R_aload_n (k := 0) rfl rfl rfl ?_
                    refine R_getf_r (j := 17) rfl ft_9_40 sh_96 rfl ?_
                    refine R_iconst 0 rfl rfl ?_
                    refine R_iald rfl sh_105 (by decide) ?_
                    refine N_eq (fun x228 e229 => ?_)
                    have q230 : 0 ≤ x228.toInt ∧ x228.toInt ≤ 5 := by rw [e229]; exact hI.1 105 _
                    have e231 : x228 = (evOf h).2.2.2.1 (0 : Int32).toNatClampNeg := by rw [e229]; exact congrFun (congrArg (fun q : EV => q.2.2.2.1) hE) _
                    refine R_iconst 0 rfl rfl ?_
                    refine K_iast (a := x228.toInt) (lo := (-2147483648)) (hi' := 2147483647) rfl sh_107 rfl ⟨by omega, by omega⟩ hI (by decide) rfl (by decide) fr (by decide) (fun h232 g233 hI fr => ?_)
                    have fl12 : FR [96, 107, 108, 109, 117, 118] h h232 := by rw [g233]; exact FR_wI _ _ fl12 (by decide)
                    have s234 : (h232.1 96 41).toInt = (h216.1 96 41).toInt := by rw [g233, wI_ne _ _ _ (by decide)]
                    have s235 : (h232.1 96 42).toInt = (h216.1 96 42).toInt := by rw [g233, wI_ne _ _ _ (by decide)]
                    have s236 : (h232.1 96 19).toInt = (h216.1 96 19).toInt := by rw [g233, wI_ne _ _ _ (by decide)]
                    have s237 : (h232.1 96 18).toInt = (h216.1 96 18).toInt := by rw [g233, wI_ne _ _ _ (by decide)]
                    have s238 : (h232.1 96 20).toInt = (h216.1 96 20).toInt := by rw [g233, wI_ne _ _ _ (by decide)]
                    have s239 : (h232.1 96 46).toInt = (h216.1 96 46).toInt := by rw [g233, wI_ne _ _ _ (by decide)]
                    have s240 : (h232.1 96 44).toInt = (h216.1 96 44).toInt := by rw [g233, wI_ne _ _ _ (by decide)]
                    have s241 : (h232.1 96 47).toInt = (h216.1 96 47).toInt := by rw [g233, wI_ne _ _ _ (by decide)]
                    have s242 : (h232.1 96 48).toInt = (h216.1 96 48).toInt := by rw [g233, wI_ne _ _ _ (by decide)]
                    have s243 : (h232.1 96 51).toInt = (h216.1 96 51).toInt := by rw [g233, wI_ne _ _ _ (by decide)]
                    have hK : kyOf h232 = (upd ((zMid (evOf h) a0 a1 (kyOf h)).1) x228.toNatClampNeg (0), (zMid (evOf h) a0 a1 (kyOf h)).2.1, upd ((zMid (evOf h) a0 a1 (kyOf h)).2.2.1) (0 : Int32).toNatClampNeg x214, (zMid (evOf h) a0 a1 (kyOf h)).2.2.2) := by rw [g233, ky_107 (nlt ⟨by omega, by omega⟩), hK] <;> rfl
                    have hE : evOf h232 = evOf h := by rw [g233, ev_o (by decide), hE]
                    refine R_aload_n (k := 0) rfl rfl rfl ?_
                    refine R_getf_r (j := 23) rfl ft_9_49 sh_96 rfl ?_
                    refine R_aload_n (k := 0) rfl rfl rfl ?_
                    refine R_getf_r (j := 17) rfl ft_9_40 sh_96 rfl ?_
                    refine R_iconst 0 rfl rfl ?_
                    refine R_iald rfl sh_105 (by decide) ?_
                    refine N_eq (fun x244 e245 => ?_)
                    have q246 : 0 ≤ x244.toInt ∧ x244.toInt ≤ 5 := by rw [e245]; exact hI.1 105 _
                    have e247 : x244 = (evOf h).2.2.2.1 (0 : Int32).toNatClampNeg := by rw [e245]; exact congrFun (congrArg (fun q : EV => q.2.2.2.1) hE) _
                    refine R_aload_n (k := 0) rfl rfl rfl ?_
                    refine R_getf_i (j := 20) rfl ft_9_259 sh_96 rfl ?_
                    refine N_eq (fun x248 e249 => ?_)
                    have e250 : x248 = (evOf h).2.2.2.2.2.1 := by rw [e249]; exact congrArg (fun q : EV => q.2.2.2.2.2.1) hE
                    refine K_iast (a := x244.toInt) (lo := (-2147483648)) (hi' := 2147483647) rfl sh_108 rfl ⟨by omega, by omega⟩ hI (by decide) rfl (i_rng _) fr (by decide) (fun h251 g252 hI fr => ?_)
                    have fl12 : FR [96, 107, 108, 109, 117, 118] h h251 := by rw [g252]; exact FR_wI _ _ fl12 (by decide)
                    have s253 : (h251.1 96 41).toInt = (h232.1 96 41).toInt := by rw [g252, wI_ne _ _ _ (by decide)]
                    have s254 : (h251.1 96 42).toInt = (h232.1 96 42).toInt := by rw [g252, wI_ne _ _ _ (by decide)]
                    have s255 : (h251.1 96 19).toInt = (h232.1 96 19).toInt := by rw [g252, wI_ne _ _ _ (by decide)]
                    have s256 : (h251.1 96 18).toInt = (h232.1 96 18).toInt := by rw [g252, wI_ne _ _ _ (by decide)]
                    have s257 : (h251.1 96 20).toInt = (h232.1 96 20).toInt := by rw [g252, wI_ne _ _ _ (by decide)]
                    have s258 : (h251.1 96 46).toInt = (h232.1 96 46).toInt := by rw [g252, wI_ne _ _ _ (by decide)]
                    have s259 : (h251.1 96 44).toInt = (h232.1 96 44).toInt := by rw [g252, wI_ne _ _ _ (by decide)]
                    have s260 : (h251.1 96 47).toInt = (h232.1 96 47).toInt := by rw [g252, wI_ne _ _ _ (by decide)]
                    have s261 : (h251.1 96 48).toInt = (h232.1 96 48).toInt := by rw [g252, wI_ne _ _ _ (by decide)]
                    have s262 : (h251.1 96 51).toInt = (h232.1 96 51).toInt := by rw [g252, wI_ne _ _ _ (by decide)]
                    have hK : kyOf h251 = (upd ((zMid (evOf h) a0 a1 (kyOf h)).1) x228.toNatClampNeg (0), upd ((zMid (evOf h) a0 a1 (kyOf h)).2.1) x244.toNatClampNeg x248, upd ((zMid (evOf h) a0 a1 (kyOf h)).2.2.1) (0 : Int32).toNatClampNeg x214, (zMid (evOf h) a0 a1 (kyOf h)).2.2.2) := by rw [g252, ky_108 (nlt ⟨by omega, by omega⟩), hK] <;> rfl
                    have hE : evOf h251 = evOf h := by rw [g252, ev_o (by decide), hE]
                    have hK : kyOf h251 = zTake (evOf h) a0 (zMid (evOf h) a0 a1 (kyOf h)) := by
                      refine hK.trans ?_
                      subst e250 e247 e231 e215 e212 e136 e126 e49 e46
                      simp only [zTake, zTake1, eMany, eLine, eFull]
                      (repeat' split) <;> first | rfl | (exfalso; omega)
                    refine R_iconst 0 rfl rfl ?_
                    refine R_istore_n (k := 3) rfl [(3, .inl 0), (0, .inr (.inr (.inl 96))), (1, .inl a0), (2, .inl a1)] rfl rfl (by decide) ?_
                    have lp264 : ∀ (n263 : Nat) (h265 : PH) (x267 : Int32), INV h265 → FR [96, 107, 108, 109, 117, 118] h h265 → FR [107] h251 h265 → 0 ≤ x267.toInt ∧ x267.toInt ≤ 6 → (kyOf h265 = zHolds (evOf h) a0 x267.toNatClampNeg (zTake (evOf h) a0 (zMid (evOf h) a0 a1 (kyOf h)))) → (evOf h265 = evOf h) → (6 - x267.toInt).toNat < n263 → RUN d_X9_goSecond 166 [(3, .inl x267), (0, .inr (.inr (.inl 96))), (1, .inl a0), (2, .inl a1)] [] h265 (q_X9_goSecond h a0 a1) := by
                      intro n263
                      induction n263 with
                      | zero => intro h265 x267 m269 m270 m271 m272 m273 m274 hz; exact absurd hz (Nat.not_lt_zero _)
                      | succ n263 ih268 =>
                        intro h265 x267 hI fr fl266 m272 m273 m274 hz
                        have s275 : (h265.1 96 41).toInt = (h251.1 96 41).toInt := by rw [(fl266 96 (by decide)).1]
                        have s276 : (h265.1 96 42).toInt = (h251.1 96 42).toInt := by rw [(fl266 96 (by decide)).1]
                        have s277 : (h265.1 96 19).toInt = (h251.1 96 19).toInt := by rw [(fl266 96 (by decide)).1]
                        have s278 : (h265.1 96 18).toInt = (h251.1 96 18).toInt := by rw [(fl266 96 (by decide)).1]
                        have s279 : (h265.1 96 20).toInt = (h251.1 96 20).toInt := by rw [(fl266 96 (by decide)).1]
                        have s280 : (h265.1 96 46).toInt = (h251.1 96 46).toInt := by rw [(fl266 96 (by decide)).1]
                        have s281 : (h265.1 96 44).toInt = (h251.1 96 44).toInt := by rw [(fl266 96 (by decide)).1]
                        have s282 : (h265.1 96 47).toInt = (h251.1 96 47).toInt := by rw [(fl266 96 (by decide)).1]
                        have s283 : (h265.1 96 48).toInt = (h251.1 96 48).toInt := by rw [(fl266 96 (by decide)).1]
                        have s284 : (h265.1 96 51).toInt = (h251.1 96 51).toInt := by rw [(fl266 96 (by decide)).1]
                        have fl12 : FR [96, 107, 108, 109, 117, 118] h h265 := fl12.trans fl266 (by decide)
                        have hE := m274
                        have hK : kyOf h265 = kyOf h265 := rfl
                        refine R_iload_n (k := 3) rfl rfl rfl ?_
                        refine R_aload_n (k := 0) rfl rfl rfl ?_
                        refine R_getf_i (j := 18) rfl ft_9_253 sh_96 rfl ?_
                        refine N_icmp_ge (a := x267.toInt) (b := (h265.1 96 18).toInt) 224 rfl rfl rfl rfl (fun c285 => ?_) (fun c285 => ?_)
                        · have hF : kyOf h265 = zSecond (evOf h) a0 a1 (kyOf h) := m273.trans (by rw [show x267 = eMany (evOf h) from i_of _ (by omega)]; rfl)
                          exact R_vret rfl rfl ⟨hI, fr, ⟨by omega, by omega, by omega, by omega, by omega, by omega, by omega, by omega, by omega, by omega, hF, hE, trivial⟩, rfl⟩
                        · refine R_aload_n (k := 0) rfl rfl rfl ?_
                          refine R_getf_r (j := 22) rfl ft_9_46 sh_96 rfl ?_
                          refine R_aload_n (k := 0) rfl rfl rfl ?_
                          refine R_getf_r (j := 17) rfl ft_9_40 sh_96 rfl ?_
                          refine R_iload_n (k := 3) rfl rfl rfl ?_
                          refine R_iald rfl sh_105 ⟨by omega, by omega⟩ ?_
                          refine N_eq (fun x286 e287 => ?_)
                          have q288 : 0 ≤ x286.toInt ∧ x286.toInt ≤ 5 := by rw [e287]; exact hI.1 105 _
                          have e289 : x286 = (evOf h).2.2.2.1 x267.toNatClampNeg := by rw [e287]; exact congrFun (congrArg (fun q : EV => q.2.2.2.1) hE) _
                          refine R_iald rfl sh_107 ⟨by omega, by omega⟩ ?_
                          refine N_eq (fun x290 e291 => ?_)
                          have e292 : x290 = ((kyOf h265).1) x286.toNatClampNeg := by rw [e291]; exact (ky_at107 (nlt ⟨by omega, by omega⟩)).trans (congrFun (congrArg (fun q : KY => q.1) hK) _)
                          refine R_iconst (-1) rfl rfl ?_
                          refine N_icmp_eq (a := x290.toInt) (b := (-1)) 218 rfl rfl rfl (by decide) (fun c293 => ?_) (fun c293 => ?_)
                          · refine N_iinc (a := x267.toInt) (c := 1) (fun w => [(3, .inl w), (0, .inr (.inr (.inl 96))), (1, .inl a0), (2, .inl a1)]) rfl rfl (fun _ => rfl) (by decide) rfl (by decide) (by omega) (fun x294 q295 => ?_)
                            refine R_goto 166 rfl rfl ?_
                            exact RUN_weak (psub_cons rfl (psub_cons rfl (psub_cons rfl (psub_cons rfl (psub_nil _))))) (ih268 h265 x294 hI fr fl266 (by omega) (by rw [zHolds_s (x := x267) (x' := x294) (by omega) (by omega), ← m273]; refine hK.trans ?_; subst e292 e289; simp only [zHold1, eLine]; (repeat' split) <;> first | rfl | (exfalso; omega)) (hE) (by omega))
                          · refine R_aload_n (k := 0) rfl rfl rfl ?_
                            refine R_aload_n (k := 0) rfl rfl rfl ?_
                            refine R_getf_r (j := 17) rfl ft_9_40 sh_96 rfl ?_
                            refine R_iload_n (k := 3) rfl rfl rfl ?_
                            refine R_iald rfl sh_105 ⟨by omega, by omega⟩ ?_
                            refine N_eq (fun x296 e297 => ?_)
                            have q298 : 0 ≤ x296.toInt ∧ x296.toInt ≤ 5 := by rw [e297]; exact hI.1 105 _
                            have e299 : x296 = (evOf h).2.2.2.1 x267.toNatClampNeg := by rw [e297]; exact congrFun (congrArg (fun q : EV => q.2.2.2.1) hE) _
                            refine R_iload_n (k := 1) rfl rfl rfl ?_
                            refine R_callV (v := .inr (.inr (.inl 96))) (As := [.inl x296, .inl a0]) (rest := []) rfl mt_9_i271 pp_X9_doesRest (by decide) rfl rfl rfl (Nat.le_of_ble_eq_true rfl) (Nat.le_of_ble_eq_true rfl) ((g_X9_doesRest h265 hI x296 a0 (by omega) (by omega)).mono (fun r300 h301 p302 => ?_))
                            obtain ⟨rfl, x304, rfl, (q305 | q305 | q305), zq303, -⟩ := p302
                              rw [hE] at zq303
                            · exfalso; omega
                            · rw [hE] at zq303
                              show RUN d_X9_goSecond 200 [(3, .inl x267), (0, .inr (.inr (.inl 96))), (1, .inl a0), (2, .inl a1)] [.inl x304] h265 _
                              refine N_if_ne (a := x304.toInt) 218 rfl rfl rfl (fun c306 => ?_) (fun c306 => ?_)
                              · exfalso; omega
                              · refine R_aload_n (k := 0) rfl rfl rfl ?_
                                refine R_getf_r (j := 22) rfl ft_9_46 sh_96 rfl ?_
                                refine R_aload_n (k := 0) rfl rfl rfl ?_
                                refine R_getf_r (j := 17) rfl ft_9_40 sh_96 rfl ?_
                                refine R_iload_n (k := 3) rfl rfl rfl ?_
                                refine R_iald rfl sh_105 ⟨by omega, by omega⟩ ?_
                                refine N_eq (fun x307 e308 => ?_)
                                have q309 : 0 ≤ x307.toInt ∧ x307.toInt ≤ 5 := by rw [e308]; exact hI.1 105 _
                                have e310 : x307 = (evOf h).2.2.2.1 x267.toNatClampNeg := by rw [e308]; exact congrFun (congrArg (fun q : EV => q.2.2.2.1) hE) _
                                refine R_dup2 rfl ?_
                                refine R_iald rfl sh_107 ⟨by omega, by omega⟩ ?_
                                refine N_eq (fun x311 e312 => ?_)
                                have e313 : x311 = ((kyOf h265).1) x307.toNatClampNeg := by rw [e312]; exact (ky_at107 (nlt ⟨by omega, by omega⟩)).trans (congrFun (congrArg (fun q : KY => q.1) hK) _)
                                refine R_iconst 1 rfl rfl ?_
                                have b314 := i_rng x311
                                refine R_iadd rfl ?_
                                refine N_eq (fun x315 e316 => ?_)
                                refine K_iast (a := x307.toInt) (lo := (-2147483648)) (hi' := 2147483647) rfl sh_107 rfl ⟨by omega, by omega⟩ hI (by decide) rfl (i_rng _) fr (by decide) (fun h317 g318 hI fr => ?_)
                                have fl266 : FR [107] h251 h317 := by rw [g318]; exact FR_wI _ _ fl266 (by decide)
                                have fl12 : FR [96, 107, 108, 109, 117, 118] h h317 := by rw [g318]; exact FR_wI _ _ fl12 (by decide)
                                have s319 : (h317.1 96 41).toInt = (h265.1 96 41).toInt := by rw [g318, wI_ne _ _ _ (by decide)]
                                have s320 : (h317.1 96 42).toInt = (h265.1 96 42).toInt := by rw [g318, wI_ne _ _ _ (by decide)]
                                have s321 : (h317.1 96 19).toInt = (h265.1 96 19).toInt := by rw [g318, wI_ne _ _ _ (by decide)]
                                have s322 : (h317.1 96 18).toInt = (h265.1 96 18).toInt := by rw [g318, wI_ne _ _ _ (by decide)]
                                have s323 : (h317.1 96 20).toInt = (h265.1 96 20).toInt := by rw [g318, wI_ne _ _ _ (by decide)]
                                have s324 : (h317.1 96 46).toInt = (h265.1 96 46).toInt := by rw [g318, wI_ne _ _ _ (by decide)]
                                have s325 : (h317.1 96 44).toInt = (h265.1 96 44).toInt := by rw [g318, wI_ne _ _ _ (by decide)]
                                have s326 : (h317.1 96 47).toInt = (h265.1 96 47).toInt := by rw [g318, wI_ne _ _ _ (by decide)]
                                have s327 : (h317.1 96 48).toInt = (h265.1 96 48).toInt := by rw [g318, wI_ne _ _ _ (by decide)]
                                have s328 : (h317.1 96 51).toInt = (h265.1 96 51).toInt := by rw [g318, wI_ne _ _ _ (by decide)]
                                have hK : kyOf h317 = (upd ((kyOf h265).1) x307.toNatClampNeg x315, (kyOf h265).2.1, (kyOf h265).2.2.1, (kyOf h265).2.2.2) := by rw [g318, ky_107 (nlt ⟨by omega, by omega⟩), hK] <;> rfl
                                have hE : evOf h317 = evOf h := by rw [g318, ev_o (by decide), hE]
                                refine N_iinc (a := x267.toInt) (c := 1) (fun w => [(3, .inl w), (0, .inr (.inr (.inl 96))), (1, .inl a0), (2, .inl a1)]) rfl rfl (fun _ => rfl) (by decide) rfl (by decide) (by omega) (fun x329 q330 => ?_)
                                refine R_goto 166 rfl rfl ?_
                                exact RUN_weak (psub_cons rfl (psub_cons rfl (psub_cons rfl (psub_cons rfl (psub_nil _))))) (ih268 h317 x329 hI fr fl266 (by omega) (by rw [zHolds_s (x := x267) (x' := x329) (by omega) (by omega), ← m273]; refine hK.trans ?_; subst e316 e313 e310 e299 e292 e289; simp only [zHold1, eLine]; (repeat' split) <;> first | rfl | (exfalso; omega)) (hE) (by omega))
                            · rw [hE] at zq303
                              show RUN d_X9_goSecond 200 [(3, .inl x267), (0, .inr (.inr (.inl 96))), (1, .inl a0), (2, .inl a1)] [.inl x304] h265 _
                              refine N_if_ne (a := x304.toInt) 218 rfl rfl rfl (fun c331 => ?_) (fun c331 => ?_)
                              · refine N_iinc (a := x267.toInt) (c := 1) (fun w => [(3, .inl w), (0, .inr (.inr (.inl 96))), (1, .inl a0), (2, .inl a1)]) rfl rfl (fun _ => rfl) (by decide) rfl (by decide) (by omega) (fun x332 q333 => ?_)
                                refine R_goto 166 rfl rfl ?_
                                exact RUN_weak (psub_cons rfl (psub_cons rfl (psub_cons rfl (psub_cons rfl (psub_nil _))))) (ih268 h265 x332 hI fr fl266 (by omega) (by rw [zHolds_s (x := x267) (x' := x332) (by omega) (by omega), ← m273]; refine hK.trans ?_; subst e299 e292 e289; simp only [zHold1, eLine]; (repeat' split) <;> first | rfl | (exfalso; omega)) (hE) (by omega))
                              · exfalso; omega
                    have k334 : (0 : Int32).toInt = 0 := by decide
                    exact lp264 _ h251 (0 : Int32) hI fr (FR.rf _ _) (by decide) (by rw [hK]; rfl) (hE) (Nat.lt_succ_self _)
              · rw [hE] at zq130
                show RUN d_X9_goSecond 115 [(3, .inl x13), (0, .inr (.inr (.inl 96))), (1, .inl a0), (2, .inl a1)] [.inl x131] h11 _
                refine N_if_ne (a := x131.toInt) 164 rfl rfl rfl (fun c335 => ?_) (fun c335 => ?_)
                · have hK : kyOf h11 = zTake (evOf h) a0 (zMid (evOf h) a0 a1 (kyOf h)) := by
                    refine hK.trans ?_
                    subst e126 e49 e46
                    simp only [zTake, zTake1, eMany, eLine, eFull]
                    (repeat' split) <;> first | rfl | (exfalso; omega)
                  refine R_iconst 0 rfl rfl ?_
                  refine R_istore_n (k := 3) rfl [(3, .inl 0), (0, .inr (.inr (.inl 96))), (1, .inl a0), (2, .inl a1)] rfl rfl (by decide) ?_
                  have lp337 : ∀ (n336 : Nat) (h338 : PH) (x340 : Int32), INV h338 → FR [96, 107, 108, 109, 117, 118] h h338 → FR [107] h11 h338 → 0 ≤ x340.toInt ∧ x340.toInt ≤ 6 → (kyOf h338 = zHolds (evOf h) a0 x340.toNatClampNeg (zTake (evOf h) a0 (zMid (evOf h) a0 a1 (kyOf h)))) → (evOf h338 = evOf h) → (6 - x340.toInt).toNat < n336 → RUN d_X9_goSecond 166 [(3, .inl x340), (0, .inr (.inr (.inl 96))), (1, .inl a0), (2, .inl a1)] [] h338 (q_X9_goSecond h a0 a1) := by
                    intro n336
                    induction n336 with
                    | zero => intro h338 x340 m342 m343 m344 m345 m346 m347 hz; exact absurd hz (Nat.not_lt_zero _)
                    | succ n336 ih341 =>
                      intro h338 x340 hI fr fl339 m345 m346 m347 hz
                      have s348 : (h338.1 96 41).toInt = (h11.1 96 41).toInt := by rw [(fl339 96 (by decide)).1]
                      have s349 : (h338.1 96 42).toInt = (h11.1 96 42).toInt := by rw [(fl339 96 (by decide)).1]
                      have s350 : (h338.1 96 19).toInt = (h11.1 96 19).toInt := by rw [(fl339 96 (by decide)).1]
                      have s351 : (h338.1 96 18).toInt = (h11.1 96 18).toInt := by rw [(fl339 96 (by decide)).1]
                      have s352 : (h338.1 96 20).toInt = (h11.1 96 20).toInt := by rw [(fl339 96 (by decide)).1]
                      have s353 : (h338.1 96 46).toInt = (h11.1 96 46).toInt := by rw [(fl339 96 (by decide)).1]
                      have s354 : (h338.1 96 44).toInt = (h11.1 96 44).toInt := by rw [(fl339 96 (by decide)).1]
                      have s355 : (h338.1 96 47).toInt = (h11.1 96 47).toInt := by rw [(fl339 96 (by decide)).1]
                      have s356 : (h338.1 96 48).toInt = (h11.1 96 48).toInt := by rw [(fl339 96 (by decide)).1]
                      have s357 : (h338.1 96 51).toInt = (h11.1 96 51).toInt := by rw [(fl339 96 (by decide)).1]
                      have fl12 : FR [96, 107, 108, 109, 117, 118] h h338 := fl12.trans fl339 (by decide)
                      have hE := m347
                      have hK : kyOf h338 = kyOf h338 := rfl
                      refine R_iload_n (k := 3) rfl rfl rfl ?_
                      refine R_aload_n (k := 0) rfl rfl rfl ?_
                      refine R_getf_i (j := 18) rfl ft_9_253 sh_96 rfl ?_
                      refine N_icmp_ge (a := x340.toInt) (b := (h338.1 96 18).toInt) 224 rfl rfl rfl rfl (fun c358 => ?_) (fun c358 => ?_)
                      · have hF : kyOf h338 = zSecond (evOf h) a0 a1 (kyOf h) := m346.trans (by rw [show x340 = eMany (evOf h) from i_of _ (by omega)]; rfl)
                        exact R_vret rfl rfl ⟨hI, fr, ⟨by omega, by omega, by omega, by omega, by omega, by omega, by omega, by omega, by omega, by omega, hF, hE, trivial⟩, rfl⟩
                      · refine R_aload_n (k := 0) rfl rfl rfl ?_
                        refine R_getf_r (j := 22) rfl ft_9_46 sh_96 rfl ?_
                        refine R_aload_n (k := 0) rfl rfl rfl ?_
                        refine R_getf_r (j := 17) rfl ft_9_40 sh_96 rfl ?_
                        refine R_iload_n (k := 3) rfl rfl rfl ?_
                        refine R_iald rfl sh_105 ⟨by omega, by omega⟩ ?_
                        refine N_eq (fun x359 e360 => ?_)
                        have q361 : 0 ≤ x359.toInt ∧ x359.toInt ≤ 5 := by rw [e360]; exact hI.1 105 _
                        have e362 : x359 = (evOf h).2.2.2.1 x340.toNatClampNeg := by rw [e360]; exact congrFun (congrArg (fun q : EV => q.2.2.2.1) hE) _
                        refine R_iald rfl sh_107 ⟨by omega, by omega⟩ ?_
                        refine N_eq (fun x363 e364 => ?_)
                        have e365 : x363 = ((kyOf h338).1) x359.toNatClampNeg := by rw [e364]; exact (ky_at107 (nlt ⟨by omega, by omega⟩)).trans (congrFun (congrArg (fun q : KY => q.1) hK) _)
                        refine R_iconst (-1) rfl rfl ?_
                        refine N_icmp_eq (a := x363.toInt) (b := (-1)) 218 rfl rfl rfl (by decide) (fun c366 => ?_) (fun c366 => ?_)
                        · refine N_iinc (a := x340.toInt) (c := 1) (fun w => [(3, .inl w), (0, .inr (.inr (.inl 96))), (1, .inl a0), (2, .inl a1)]) rfl rfl (fun _ => rfl) (by decide) rfl (by decide) (by omega) (fun x367 q368 => ?_)
                          refine R_goto 166 rfl rfl ?_
                          exact RUN_weak (psub_cons rfl (psub_cons rfl (psub_cons rfl (psub_cons rfl (psub_nil _))))) (ih341 h338 x367 hI fr fl339 (by omega) (by rw [zHolds_s (x := x340) (x' := x367) (by omega) (by omega), ← m346]; refine hK.trans ?_; subst e365 e362; simp only [zHold1, eLine]; (repeat' split) <;> first | rfl | (exfalso; omega)) (hE) (by omega))
                        · refine R_aload_n (k := 0) rfl rfl rfl ?_
                          refine R_aload_n (k := 0) rfl rfl rfl ?_
                          refine R_getf_r (j := 17) rfl ft_9_40 sh_96 rfl ?_
                          refine R_iload_n (k := 3) rfl rfl rfl ?_
                          refine R_iald rfl sh_105 ⟨by omega, by omega⟩ ?_
                          refine N_eq (fun x369 e370 => ?_)
                          have q371 : 0 ≤ x369.toInt ∧ x369.toInt ≤ 5 := by rw [e370]; exact hI.1 105 _
                          have e372 : x369 = (evOf h).2.2.2.1 x340.toNatClampNeg := by rw [e370]; exact congrFun (congrArg (fun q : EV => q.2.2.2.1) hE) _
                          refine R_iload_n (k := 1) rfl rfl rfl ?_
                          refine R_callV (v := .inr (.inr (.inl 96))) (As := [.inl x369, .inl a0]) (rest := []) rfl mt_9_i271 pp_X9_doesRest (by decide) rfl rfl rfl (Nat.le_of_ble_eq_true rfl) (Nat.le_of_ble_eq_true rfl) ((g_X9_doesRest h338 hI x369 a0 (by omega) (by omega)).mono (fun r373 h374 p375 => ?_))
                          obtain ⟨rfl, x377, rfl, (q378 | q378 | q378), zq376, -⟩ := p375
                            rw [hE] at zq376
                          · exfalso; omega
                          · rw [hE] at zq376
                            show RUN d_X9_goSecond 200 [(3, .inl x340), (0, .inr (.inr (.inl 96))), (1, .inl a0), (2, .inl a1)] [.inl x377] h338 _
                            refine N_if_ne (a := x377.toInt) 218 rfl rfl rfl (fun c379 => ?_) (fun c379 => ?_)
                            · exfalso; omega
                            · refine R_aload_n (k := 0) rfl rfl rfl ?_
                              refine R_getf_r (j := 22) rfl ft_9_46 sh_96 rfl ?_
                              refine R_aload_n (k := 0) rfl rfl rfl ?_
                              refine R_getf_r (j := 17) rfl ft_9_40 sh_96 rfl ?_
                              refine R_iload_n (k := 3) rfl rfl rfl ?_
                              refine R_iald rfl sh_105 ⟨by omega, by omega⟩ ?_
                              refine N_eq (fun x380 e381 => ?_)
                              have q382 : 0 ≤ x380.toInt ∧ x380.toInt ≤ 5 := by rw [e381]; exact hI.1 105 _
                              have e383 : x380 = (evOf h).2.2.2.1 x340.toNatClampNeg := by rw [e381]; exact congrFun (congrArg (fun q : EV => q.2.2.2.1) hE) _
                              refine R_dup2 rfl ?_
                              refine R_iald rfl sh_107 ⟨by omega, by omega⟩ ?_
                              refine N_eq (fun x384 e385 => ?_)
                              have e386 : x384 = ((kyOf h338).1) x380.toNatClampNeg := by rw [e385]; exact (ky_at107 (nlt ⟨by omega, by omega⟩)).trans (congrFun (congrArg (fun q : KY => q.1) hK) _)
                              refine R_iconst 1 rfl rfl ?_
                              have b387 := i_rng x384
                              refine R_iadd rfl ?_
                              refine N_eq (fun x388 e389 => ?_)
                              refine K_iast (a := x380.toInt) (lo := (-2147483648)) (hi' := 2147483647) rfl sh_107 rfl ⟨by omega, by omega⟩ hI (by decide) rfl (i_rng _) fr (by decide) (fun h390 g391 hI fr => ?_)
                              have fl339 : FR [107] h11 h390 := by rw [g391]; exact FR_wI _ _ fl339 (by decide)
                              have fl12 : FR [96, 107, 108, 109, 117, 118] h h390 := by rw [g391]; exact FR_wI _ _ fl12 (by decide)
                              have s392 : (h390.1 96 41).toInt = (h338.1 96 41).toInt := by rw [g391, wI_ne _ _ _ (by decide)]
                              have s393 : (h390.1 96 42).toInt = (h338.1 96 42).toInt := by rw [g391, wI_ne _ _ _ (by decide)]
                              have s394 : (h390.1 96 19).toInt = (h338.1 96 19).toInt := by rw [g391, wI_ne _ _ _ (by decide)]
                              have s395 : (h390.1 96 18).toInt = (h338.1 96 18).toInt := by rw [g391, wI_ne _ _ _ (by decide)]
                              have s396 : (h390.1 96 20).toInt = (h338.1 96 20).toInt := by rw [g391, wI_ne _ _ _ (by decide)]
                              have s397 : (h390.1 96 46).toInt = (h338.1 96 46).toInt := by rw [g391, wI_ne _ _ _ (by decide)]
                              have s398 : (h390.1 96 44).toInt = (h338.1 96 44).toInt := by rw [g391, wI_ne _ _ _ (by decide)]
                              have s399 : (h390.1 96 47).toInt = (h338.1 96 47).toInt := by rw [g391, wI_ne _ _ _ (by decide)]
                              have s400 : (h390.1 96 48).toInt = (h338.1 96 48).toInt := by rw [g391, wI_ne _ _ _ (by decide)]
                              have s401 : (h390.1 96 51).toInt = (h338.1 96 51).toInt := by rw [g391, wI_ne _ _ _ (by decide)]
                              have hK : kyOf h390 = (upd ((kyOf h338).1) x380.toNatClampNeg x388, (kyOf h338).2.1, (kyOf h338).2.2.1, (kyOf h338).2.2.2) := by rw [g391, ky_107 (nlt ⟨by omega, by omega⟩), hK] <;> rfl
                              have hE : evOf h390 = evOf h := by rw [g391, ev_o (by decide), hE]
                              refine N_iinc (a := x340.toInt) (c := 1) (fun w => [(3, .inl w), (0, .inr (.inr (.inl 96))), (1, .inl a0), (2, .inl a1)]) rfl rfl (fun _ => rfl) (by decide) rfl (by decide) (by omega) (fun x402 q403 => ?_)
                              refine R_goto 166 rfl rfl ?_
                              exact RUN_weak (psub_cons rfl (psub_cons rfl (psub_cons rfl (psub_cons rfl (psub_nil _))))) (ih341 h390 x402 hI fr fl339 (by omega) (by rw [zHolds_s (x := x340) (x' := x402) (by omega) (by omega), ← m346]; refine hK.trans ?_; subst e389 e386 e383 e372 e365 e362; simp only [zHold1, eLine]; (repeat' split) <;> first | rfl | (exfalso; omega)) (hE) (by omega))
                          · rw [hE] at zq376
                            show RUN d_X9_goSecond 200 [(3, .inl x340), (0, .inr (.inr (.inl 96))), (1, .inl a0), (2, .inl a1)] [.inl x377] h338 _
                            refine N_if_ne (a := x377.toInt) 218 rfl rfl rfl (fun c404 => ?_) (fun c404 => ?_)
                            · refine N_iinc (a := x340.toInt) (c := 1) (fun w => [(3, .inl w), (0, .inr (.inr (.inl 96))), (1, .inl a0), (2, .inl a1)]) rfl rfl (fun _ => rfl) (by decide) rfl (by decide) (by omega) (fun x405 q406 => ?_)
                              refine R_goto 166 rfl rfl ?_
                              exact RUN_weak (psub_cons rfl (psub_cons rfl (psub_cons rfl (psub_cons rfl (psub_nil _))))) (ih341 h338 x405 hI fr fl339 (by omega) (by rw [zHolds_s (x := x340) (x' := x405) (by omega) (by omega), ← m346]; refine hK.trans ?_; subst e372 e365 e362; simp only [zHold1, eLine]; (repeat' split) <;> first | rfl | (exfalso; omega)) (hE) (by omega))
                            · exfalso; omega
                  have k407 : (0 : Int32).toInt = 0 := by decide
                  exact lp337 _ h11 (0 : Int32) hI fr (FR.rf _ _) (by decide) (by rw [hK]; rfl) (hE) (Nat.lt_succ_self _)
                · exfalso; omega
        · refine R_iload_n (k := 2) rfl rfl rfl ?_
          refine N_if_ne (a := a1.toInt) 82 rfl rfl rfl (fun c408 => ?_) (fun c408 => ?_)
          · have hK : kyOf h11 = zMid (evOf h) a0 a1 (kyOf h) := by
              unfold zMid
              split
              · first | (exfalso; omega) | (have hA := m30; rw [show (x13.toInt + 1).toNat = 0 by omega] at hA; exact hA)
              · exact m31 (by omega)
            refine R_aload_n (k := 0) rfl rfl rfl ?_
            refine R_getf_i (j := 18) rfl ft_9_253 sh_96 rfl ?_
            refine N_if_le (a := (h11.1 96 18).toInt) 164 rfl rfl rfl (fun c409 => ?_) (fun c409 => ?_)
            · exfalso; omega
            · refine R_aload_n (k := 0) rfl rfl rfl ?_
              refine R_getf_r (j := 22) rfl ft_9_46 sh_96 rfl ?_
              refine R_aload_n (k := 0) rfl rfl rfl ?_
              refine R_getf_r (j := 17) rfl ft_9_40 sh_96 rfl ?_
              refine R_iconst 0 rfl rfl ?_
              refine R_iald rfl sh_105 (by decide) ?_
              refine N_eq (fun x410 e411 => ?_)
              have q412 : 0 ≤ x410.toInt ∧ x410.toInt ≤ 5 := by rw [e411]; exact hI.1 105 _
              have e413 : x410 = (evOf h).2.2.2.1 (0 : Int32).toNatClampNeg := by rw [e411]; exact congrFun (congrArg (fun q : EV => q.2.2.2.1) hE) _
              refine R_iald rfl sh_107 ⟨by omega, by omega⟩ ?_
              refine N_eq (fun x414 e415 => ?_)
              have e416 : x414 = ((zMid (evOf h) a0 a1 (kyOf h)).1) x410.toNatClampNeg := by rw [e415]; exact (ky_at107 (nlt ⟨by omega, by omega⟩)).trans (congrFun (congrArg (fun q : KY => q.1) hK) _)
              refine R_iconst (-1) rfl rfl ?_
              refine N_icmp_ne (a := x414.toInt) (b := (-1)) 164 rfl rfl rfl (by decide) (fun c417 => ?_) (fun c417 => ?_)
              · have hK : kyOf h11 = zTake (evOf h) a0 (zMid (evOf h) a0 a1 (kyOf h)) := by
                  refine hK.trans ?_
                  subst e416 e413
                  simp only [zTake, zTake1, eMany, eLine, eFull]
                  (repeat' split) <;> first | rfl | (exfalso; omega)
                refine R_iconst 0 rfl rfl ?_
                refine R_istore_n (k := 3) rfl [(3, .inl 0), (0, .inr (.inr (.inl 96))), (1, .inl a0), (2, .inl a1)] rfl rfl (by decide) ?_
                have lp419 : ∀ (n418 : Nat) (h420 : PH) (x422 : Int32), INV h420 → FR [96, 107, 108, 109, 117, 118] h h420 → FR [107] h11 h420 → 0 ≤ x422.toInt ∧ x422.toInt ≤ 6 → (kyOf h420 = zHolds (evOf h) a0 x422.toNatClampNeg (zTake (evOf h) a0 (zMid (evOf h) a0 a1 (kyOf h)))) → (evOf h420 = evOf h) → (6 - x422.toInt).toNat < n418 → RUN d_X9_goSecond 166 [(3, .inl x422), (0, .inr (.inr (.inl 96))), (1, .inl a0), (2, .inl a1)] [] h420 (q_X9_goSecond h a0 a1) := by
                  intro n418
                  induction n418 with
                  | zero => intro h420 x422 m424 m425 m426 m427 m428 m429 hz; exact absurd hz (Nat.not_lt_zero _)
                  | succ n418 ih423 =>
                    intro h420 x422 hI fr fl421 m427 m428 m429 hz
                    have s430 : (h420.1 96 41).toInt = (h11.1 96 41).toInt := by rw [(fl421 96 (by decide)).1]
                    have s431 : (h420.1 96 42).toInt = (h11.1 96 42).toInt := by rw [(fl421 96 (by decide)).1]
                    have s432 : (h420.1 96 19).toInt = (h11.1 96 19).toInt := by rw [(fl421 96 (by decide)).1]
                    have s433 : (h420.1 96 18).toInt = (h11.1 96 18).toInt := by rw [(fl421 96 (by decide)).1]
                    have s434 : (h420.1 96 20).toInt = (h11.1 96 20).toInt := by rw [(fl421 96 (by decide)).1]
                    have s435 : (h420.1 96 46).toInt = (h11.1 96 46).toInt := by rw [(fl421 96 (by decide)).1]
                    have s436 : (h420.1 96 44).toInt = (h11.1 96 44).toInt := by rw [(fl421 96 (by decide)).1]
                    have s437 : (h420.1 96 47).toInt = (h11.1 96 47).toInt := by rw [(fl421 96 (by decide)).1]
                    have s438 : (h420.1 96 48).toInt = (h11.1 96 48).toInt := by rw [(fl421 96 (by decide)).1]
                    have s439 : (h420.1 96 51).toInt = (h11.1 96 51).toInt := by rw [(fl421 96 (by decide)).1]
                    have fl12 : FR [96, 107, 108, 109, 117, 118] h h420 := fl12.trans fl421 (by decide)
                    have hE := m429
                    have hK : kyOf h420 = kyOf h420 := rfl
                    refine R_iload_n (k := 3) rfl rfl rfl ?_
                    refine R_aload_n (k := 0) rfl rfl rfl ?_
                    refine R_getf_i (j := 18) rfl ft_9_253 sh_96 rfl ?_
                    refine N_icmp_ge (a := x422.toInt) (b := (h420.1 96 18).toInt) 224 rfl rfl rfl rfl (fun c440 => ?_) (fun c440 => ?_)
                    · have hF : kyOf h420 = zSecond (evOf h) a0 a1 (kyOf h) := m428.trans (by rw [show x422 = eMany (evOf h) from i_of _ (by omega)]; rfl)
                      exact R_vret rfl rfl ⟨hI, fr, ⟨by omega, by omega, by omega, by omega, by omega, by omega, by omega, by omega, by omega, by omega, hF, hE, trivial⟩, rfl⟩
                    · refine R_aload_n (k := 0) rfl rfl rfl ?_
                      refine R_getf_r (j := 22) rfl ft_9_46 sh_96 rfl ?_
                      refine R_aload_n (k := 0) rfl rfl rfl ?_
                      refine R_getf_r (j := 17) rfl ft_9_40 sh_96 rfl ?_
                      refine R_iload_n (k := 3) rfl rfl rfl ?_
                      refine R_iald rfl sh_105 ⟨by omega, by omega⟩ ?_
                      refine N_eq (fun x441 e442 => ?_)
                      have q443 : 0 ≤ x441.toInt ∧ x441.toInt ≤ 5 := by rw [e442]; exact hI.1 105 _
                      have e444 : x441 = (evOf h).2.2.2.1 x422.toNatClampNeg := by rw [e442]; exact congrFun (congrArg (fun q : EV => q.2.2.2.1) hE) _
                      refine R_iald rfl sh_107 ⟨by omega, by omega⟩ ?_
                      refine N_eq (fun x445 e446 => ?_)
                      have e447 : x445 = ((kyOf h420).1) x441.toNatClampNeg := by rw [e446]; exact (ky_at107 (nlt ⟨by omega, by omega⟩)).trans (congrFun (congrArg (fun q : KY => q.1) hK) _)
                      refine R_iconst (-1) rfl rfl ?_
                      refine N_icmp_eq (a := x445.toInt) (b := (-1)) 218 rfl rfl rfl (by decide) (fun c448 => ?_) (fun c448 => ?_)
                      · refine N_iinc (a := x422.toInt) (c := 1) (fun w => [(3, .inl w), (0, .inr (.inr (.inl 96))), (1, .inl a0), (2, .inl a1)]) rfl rfl (fun _ => rfl) (by decide) rfl (by decide) (by omega) (fun x449 q450 => ?_)
                        refine R_goto 166 rfl rfl ?_
                        exact RUN_weak (psub_cons rfl (psub_cons rfl (psub_cons rfl (psub_cons rfl (psub_nil _))))) (ih423 h420 x449 hI fr fl421 (by omega) (by rw [zHolds_s (x := x422) (x' := x449) (by omega) (by omega), ← m428]; refine hK.trans ?_; subst e447 e444; simp only [zHold1, eLine]; (repeat' split) <;> first | rfl | (exfalso; omega)) (hE) (by omega))
                      · refine R_aload_n (k := 0) rfl rfl rfl ?_
                        refine R_aload_n (k := 0) rfl rfl rfl ?_
                        refine R_getf_r (j := 17) rfl ft_9_40 sh_96 rfl ?_
                        refine R_iload_n (k := 3) rfl rfl rfl ?_
                        refine R_iald rfl sh_105 ⟨by omega, by omega⟩ ?_
                        refine N_eq (fun x451 e452 => ?_)
                        have q453 : 0 ≤ x451.toInt ∧ x451.toInt ≤ 5 := by rw [e452]; exact hI.1 105 _
                        have e454 : x451 = (evOf h).2.2.2.1 x422.toNatClampNeg := by rw [e452]; exact congrFun (congrArg (fun q : EV => q.2.2.2.1) hE) _
                        refine R_iload_n (k := 1) rfl rfl rfl ?_
                        refine R_callV (v := .inr (.inr (.inl 96))) (As := [.inl x451, .inl a0]) (rest := []) rfl mt_9_i271 pp_X9_doesRest (by decide) rfl rfl rfl (Nat.le_of_ble_eq_true rfl) (Nat.le_of_ble_eq_true rfl) ((g_X9_doesRest h420 hI x451 a0 (by omega) (by omega)).mono (fun r455 h456 p457 => ?_))
                        obtain ⟨rfl, x459, rfl, (q460 | q460 | q460), zq458, -⟩ := p457
                          rw [hE] at zq458
                        · exfalso; omega
                        · rw [hE] at zq458
                          show RUN d_X9_goSecond 200 [(3, .inl x422), (0, .inr (.inr (.inl 96))), (1, .inl a0), (2, .inl a1)] [.inl x459] h420 _
                          refine N_if_ne (a := x459.toInt) 218 rfl rfl rfl (fun c461 => ?_) (fun c461 => ?_)
                          · exfalso; omega
                          · refine R_aload_n (k := 0) rfl rfl rfl ?_
                            refine R_getf_r (j := 22) rfl ft_9_46 sh_96 rfl ?_
                            refine R_aload_n (k := 0) rfl rfl rfl ?_
                            refine R_getf_r (j := 17) rfl ft_9_40 sh_96 rfl ?_
                            refine R_iload_n (k := 3) rfl rfl rfl ?_
                            refine R_iald rfl sh_105 ⟨by omega, by omega⟩ ?_
                            refine N_eq (fun x462 e463 => ?_)
                            have q464 : 0 ≤ x462.toInt ∧ x462.toInt ≤ 5 := by rw [e463]; exact hI.1 105 _
                            have e465 : x462 = (evOf h).2.2.2.1 x422.toNatClampNeg := by rw [e463]; exact congrFun (congrArg (fun q : EV => q.2.2.2.1) hE) _
                            refine R_dup2 rfl ?_
                            refine R_iald rfl sh_107 ⟨by omega, by omega⟩ ?_
                            refine N_eq (fun x466 e467 => ?_)
                            have e468 : x466 = ((kyOf h420).1) x462.toNatClampNeg := by rw [e467]; exact (ky_at107 (nlt ⟨by omega, by omega⟩)).trans (congrFun (congrArg (fun q : KY => q.1) hK) _)
                            refine R_iconst 1 rfl rfl ?_
                            have b469 := i_rng x466
                            refine R_iadd rfl ?_
                            refine N_eq (fun x470 e471 => ?_)
                            refine K_iast (a := x462.toInt) (lo := (-2147483648)) (hi' := 2147483647) rfl sh_107 rfl ⟨by omega, by omega⟩ hI (by decide) rfl (i_rng _) fr (by decide) (fun h472 g473 hI fr => ?_)
                            have fl421 : FR [107] h11 h472 := by rw [g473]; exact FR_wI _ _ fl421 (by decide)
                            have fl12 : FR [96, 107, 108, 109, 117, 118] h h472 := by rw [g473]; exact FR_wI _ _ fl12 (by decide)
                            have s474 : (h472.1 96 41).toInt = (h420.1 96 41).toInt := by rw [g473, wI_ne _ _ _ (by decide)]
                            have s475 : (h472.1 96 42).toInt = (h420.1 96 42).toInt := by rw [g473, wI_ne _ _ _ (by decide)]
                            have s476 : (h472.1 96 19).toInt = (h420.1 96 19).toInt := by rw [g473, wI_ne _ _ _ (by decide)]
                            have s477 : (h472.1 96 18).toInt = (h420.1 96 18).toInt := by rw [g473, wI_ne _ _ _ (by decide)]
                            have s478 : (h472.1 96 20).toInt = (h420.1 96 20).toInt := by rw [g473, wI_ne _ _ _ (by decide)]
                            have s479 : (h472.1 96 46).toInt = (h420.1 96 46).toInt := by rw [g473, wI_ne _ _ _ (by decide)]
                            have s480 : (h472.1 96 44).toInt = (h420.1 96 44).toInt := by rw [g473, wI_ne _ _ _ (by decide)]
                            have s481 : (h472.1 96 47).toInt = (h420.1 96 47).toInt := by rw [g473, wI_ne _ _ _ (by decide)]
                            have s482 : (h472.1 96 48).toInt = (h420.1 96 48).toInt := by rw [g473, wI_ne _ _ _ (by decide)]
                            have s483 : (h472.1 96 51).toInt = (h420.1 96 51).toInt := by rw [g473, wI_ne _ _ _ (by decide)]
                            have hK : kyOf h472 = (upd ((kyOf h420).1) x462.toNatClampNeg x470, (kyOf h420).2.1, (kyOf h420).2.2.1, (kyOf h420).2.2.2) := by rw [g473, ky_107 (nlt ⟨by omega, by omega⟩), hK] <;> rfl
                            have hE : evOf h472 = evOf h := by rw [g473, ev_o (by decide), hE]
                            refine N_iinc (a := x422.toInt) (c := 1) (fun w => [(3, .inl w), (0, .inr (.inr (.inl 96))), (1, .inl a0), (2, .inl a1)]) rfl rfl (fun _ => rfl) (by decide) rfl (by decide) (by omega) (fun x484 q485 => ?_)
                            refine R_goto 166 rfl rfl ?_
                            exact RUN_weak (psub_cons rfl (psub_cons rfl (psub_cons rfl (psub_cons rfl (psub_nil _))))) (ih423 h472 x484 hI fr fl421 (by omega) (by rw [zHolds_s (x := x422) (x' := x484) (by omega) (by omega), ← m428]; refine hK.trans ?_; subst e471 e468 e465 e454 e447 e444; simp only [zHold1, eLine]; (repeat' split) <;> first | rfl | (exfalso; omega)) (hE) (by omega))
                        · rw [hE] at zq458
                          show RUN d_X9_goSecond 200 [(3, .inl x422), (0, .inr (.inr (.inl 96))), (1, .inl a0), (2, .inl a1)] [.inl x459] h420 _
                          refine N_if_ne (a := x459.toInt) 218 rfl rfl rfl (fun c486 => ?_) (fun c486 => ?_)
                          · refine N_iinc (a := x422.toInt) (c := 1) (fun w => [(3, .inl w), (0, .inr (.inr (.inl 96))), (1, .inl a0), (2, .inl a1)]) rfl rfl (fun _ => rfl) (by decide) rfl (by decide) (by omega) (fun x487 q488 => ?_)
                            refine R_goto 166 rfl rfl ?_
                            exact RUN_weak (psub_cons rfl (psub_cons rfl (psub_cons rfl (psub_cons rfl (psub_nil _))))) (ih423 h420 x487 hI fr fl421 (by omega) (by rw [zHolds_s (x := x422) (x' := x487) (by omega) (by omega), ← m428]; refine hK.trans ?_; subst e454 e447 e444; simp only [zHold1, eLine]; (repeat' split) <;> first | rfl | (exfalso; omega)) (hE) (by omega))
                          · exfalso; omega
                have k489 : (0 : Int32).toInt = 0 := by decide
                exact lp419 _ h11 (0 : Int32) hI fr (FR.rf _ _) (by decide) (by rw [hK]; rfl) (hE) (Nat.lt_succ_self _)
              · refine R_aload_n (k := 0) rfl rfl rfl ?_
                refine R_aload_n (k := 0) rfl rfl rfl ?_
                refine R_getf_r (j := 17) rfl ft_9_40 sh_96 rfl ?_
                refine R_iconst 0 rfl rfl ?_
                refine R_iald rfl sh_105 (by decide) ?_
                refine N_eq (fun x490 e491 => ?_)
                have q492 : 0 ≤ x490.toInt ∧ x490.toInt ≤ 5 := by rw [e491]; exact hI.1 105 _
                have e493 : x490 = (evOf h).2.2.2.1 (0 : Int32).toNatClampNeg := by rw [e491]; exact congrFun (congrArg (fun q : EV => q.2.2.2.1) hE) _
                refine R_iload_n (k := 1) rfl rfl rfl ?_
                refine R_callV (v := .inr (.inr (.inl 96))) (As := [.inl x490, .inl a0]) (rest := []) rfl mt_9_i271 pp_X9_doesRest (by decide) rfl rfl rfl (Nat.le_of_ble_eq_true rfl) (Nat.le_of_ble_eq_true rfl) ((g_X9_doesRest h11 hI x490 a0 (by omega) (by omega)).mono (fun r494 h495 p496 => ?_))
                obtain ⟨rfl, x498, rfl, (q499 | q499 | q499), zq497, -⟩ := p496
                  rw [hE] at zq497
                · exfalso; omega
                · rw [hE] at zq497
                  show RUN d_X9_goSecond 115 [(3, .inl x13), (0, .inr (.inr (.inl 96))), (1, .inl a0), (2, .inl a1)] [.inl x498] h11 _
                  refine N_if_ne (a := x498.toInt) 164 rfl rfl rfl (fun c500 => ?_) (fun c500 => ?_)
                  · exfalso; omega
                  · refine R_aload_n (k := 0) rfl rfl rfl ?_
                    refine R_getf_r (j := 24) rfl ft_9_52 sh_96 rfl ?_
                    refine R_iconst 0 rfl rfl ?_
                    refine R_iald rfl sh_109 (by decide) ?_
                    refine N_eq (fun x501 e502 => ?_)
                    have e503 : x501 = ((zMid (evOf h) a0 a1 (kyOf h)).2.2.1) (0 : Int32).toNatClampNeg := by rw [e502]; exact (ky_at109 (by decide)).trans (congrFun (congrArg (fun q : KY => q.2.2.1) hK) _)
                    refine N_if_le (a := x501.toInt) 164 rfl rfl rfl (fun c504 => ?_) (fun c504 => ?_)
                    · have hK : kyOf h11 = zTake (evOf h) a0 (zMid (evOf h) a0 a1 (kyOf h)) := by
                        refine hK.trans ?_
                        subst e503 e493 e416 e413
                        simp only [zTake, zTake1, eMany, eLine, eFull]
                        (repeat' split) <;> first | rfl | (exfalso; omega)
                      refine R_iconst 0 rfl rfl ?_
                      refine R_istore_n (k := 3) rfl [(3, .inl 0), (0, .inr (.inr (.inl 96))), (1, .inl a0), (2, .inl a1)] rfl rfl (by decide) ?_
                      have lp506 : ∀ (n505 : Nat) (h507 : PH) (x509 : Int32), INV h507 → FR [96, 107, 108, 109, 117, 118] h h507 → FR [107] h11 h507 → 0 ≤ x509.toInt ∧ x509.toInt ≤ 6 → (kyOf h507 = zHolds (evOf h) a0 x509.toNatClampNeg (zTake (evOf h) a0 (zMid (evOf h) a0 a1 (kyOf h)))) → (evOf h507 = evOf h) → (6 - x509.toInt).toNat < n505 → RUN d_X9_goSecond 166 [(3, .inl x509), (0, .inr (.inr (.inl 96))), (1, .inl a0), (2, .inl a1)] [] h507 (q_X9_goSecond h a0 a1) := by
                        intro n505
                        induction n505 with
                        | zero => intro h507 x509 m511 m512 m513 m514 m515 m516 hz; exact absurd hz (Nat.not_lt_zero _)
                        | succ n505 ih510 =>
                          intro h507 x509 hI fr fl508 m514 m515 m516 hz
                          have s517 : (h507.1 96 41).toInt = (h11.1 96 41).toInt := by rw [(fl508 96 (by decide)).1]
                          have s518 : (h507.1 96 42).toInt = (h11.1 96 42).toInt := by rw [(fl508 96 (by decide)).1]
                          have s519 : (h507.1 96 19).toInt = (h11.1 96 19).toInt := by rw [(fl508 96 (by decide)).1]
                          have s520 : (h507.1 96 18).toInt = (h11.1 96 18).toInt := by rw [(fl508 96 (by decide)).1]
                          have s521 : (h507.1 96 20).toInt = (h11.1 96 20).toInt := by rw [(fl508 96 (by decide)).1]
                          have s522 : (h507.1 96 46).toInt = (h11.1 96 46).toInt := by rw [(fl508 96 (by decide)).1]
                          have s523 : (h507.1 96 44).toInt = (h11.1 96 44).toInt := by rw [(fl508 96 (by decide)).1]
                          have s524 : (h507.1 96 47).toInt = (h11.1 96 47).toInt := by rw [(fl508 96 (by decide)).1]
                          have s525 : (h507.1 96 48).toInt = (h11.1 96 48).toInt := by rw [(fl508 96 (by decide)).1]
                          have s526 : (h507.1 96 51).toInt = (h11.1 96 51).toInt := by rw [(fl508 96 (by decide)).1]
                          have fl12 : FR [96, 107, 108, 109, 117, 118] h h507 := fl12.trans fl508 (by decide)
                          have hE := m516
                          have hK : kyOf h507 = kyOf h507 := rfl
                          refine R_iload_n (k := 3) rfl rfl rfl ?_
                          refine R_aload_n (k := 0) rfl rfl rfl ?_
                          refine R_getf_i (j := 18) rfl ft_9_253 sh_96 rfl ?_
                          refine N_icmp_ge (a := x509.toInt) (b := (h507.1 96 18).toInt) 224 rfl rfl rfl rfl (fun c527 => ?_) (fun c527 => ?_)
                          · have hF : kyOf h507 = zSecond (evOf h) a0 a1 (kyOf h) := m515.trans (by rw [show x509 = eMany (evOf h) from i_of _ (by omega)]; rfl)
                            exact R_vret rfl rfl ⟨hI, fr, ⟨by omega, by omega, by omega, by omega, by omega, by omega, by omega, by omega, by omega, by omega, hF, hE, trivial⟩, rfl⟩
                          · refine R_aload_n (k := 0) rfl rfl rfl ?_
                            refine R_getf_r (j := 22) rfl ft_9_46 sh_96 rfl ?_
                            refine R_aload_n (k := 0) rfl rfl rfl ?_
                            refine R_getf_r (j := 17) rfl ft_9_40 sh_96 rfl ?_
                            refine R_iload_n (k := 3) rfl rfl rfl ?_
                            refine R_iald rfl sh_105 ⟨by omega, by omega⟩ ?_
                            refine N_eq (fun x528 e529 => ?_)
                            have q530 : 0 ≤ x528.toInt ∧ x528.toInt ≤ 5 := by rw [e529]; exact hI.1 105 _
                            have e531 : x528 = (evOf h).2.2.2.1 x509.toNatClampNeg := by rw [e529]; exact congrFun (congrArg (fun q : EV => q.2.2.2.1) hE) _
                            refine R_iald rfl sh_107 ⟨by omega, by omega⟩ ?_
                            refine N_eq (fun x532 e533 => ?_)
                            have e534 : x532 = ((kyOf h507).1) x528.toNatClampNeg := by rw [e533]; exact (ky_at107 (nlt ⟨by omega, by omega⟩)).trans (congrFun (congrArg (fun q : KY => q.1) hK) _)
                            refine R_iconst (-1) rfl rfl ?_
                            refine N_icmp_eq (a := x532.toInt) (b := (-1)) 218 rfl rfl rfl (by decide) (fun c535 => ?_) (fun c535 => ?_)
                            · refine N_iinc (a := x509.toInt) (c := 1) (fun w => [(3, .inl w), (0, .inr (.inr (.inl 96))), (1, .inl a0), (2, .inl a1)]) rfl rfl (fun _ => rfl) (by decide) rfl (by decide) (by omega) (fun x536 q537 => ?_)
                              refine R_goto 166 rfl rfl ?_
                              exact RUN_weak (psub_cons rfl (psub_cons rfl (psub_cons rfl (psub_cons rfl (psub_nil _))))) (ih510 h507 x536 hI fr fl508 (by omega) (by rw [zHolds_s (x := x509) (x' := x536) (by omega) (by omega), ← m515]; refine hK.trans ?_; subst e534 e531; simp only [zHold1, eLine]; (repeat' split) <;> first | rfl | (exfalso; omega)) (hE) (by omega))
                            · refine R_aload_n (k := 0) rfl rfl rfl ?_
                              refine R_aload_n (k := 0) rfl rfl rfl ?_
                              refine R_getf_r (j := 17) rfl ft_9_40 sh_96 rfl ?_
                              refine R_iload_n (k := 3) rfl rfl rfl ?_
                              refine R_iald rfl sh_105 ⟨by omega, by omega⟩ ?_
                              refine N_eq (fun x538 e539 => ?_)
                              have q540 : 0 ≤ x538.toInt ∧ x538.toInt ≤ 5 := by rw [e539]; exact hI.1 105 _
                              have e541 : x538 = (evOf h).2.2.2.1 x509.toNatClampNeg := by rw [e539]; exact congrFun (congrArg (fun q : EV => q.2.2.2.1) hE) _
                              refine R_iload_n (k := 1) rfl rfl rfl ?_
                              refine R_callV (v := .inr (.inr (.inl 96))) (As := [.inl x538, .inl a0]) (rest := []) rfl mt_9_i271 pp_X9_doesRest (by decide) rfl rfl rfl (Nat.le_of_ble_eq_true rfl) (Nat.le_of_ble_eq_true rfl) ((g_X9_doesRest h507 hI x538 a0 (by omega) (by omega)).mono (fun r542 h543 p544 => ?_))
                              obtain ⟨rfl, x546, rfl, (q547 | q547 | q547), zq545, -⟩ := p544
                                rw [hE] at zq545
                              · exfalso; omega
                              · rw [hE] at zq545
                                show RUN d_X9_goSecond 200 [(3, .inl x509), (0, .inr (.inr (.inl 96))), (1, .inl a0), (2, .inl a1)] [.inl x546] h507 _
                                refine N_if_ne (a := x546.toInt) 218 rfl rfl rfl (fun c548 => ?_) (fun c548 => ?_)
                                · exfalso; omega
                                · refine R_aload_n (k := 0) rfl rfl rfl ?_
                                  refine R_getf_r (j := 22) rfl ft_9_46 sh_96 rfl ?_
                                  refine R_aload_n (k := 0) rfl rfl rfl ?_
                                  refine R_getf_r (j := 17) rfl ft_9_40 sh_96 rfl ?_
                                  refine R_iload_n (k := 3) rfl rfl rfl ?_
                                  refine R_iald rfl sh_105 ⟨by omega, by omega⟩ ?_
                                  refine N_eq (fun x549 e550 => ?_)
                                  have q551 : 0 ≤ x549.toInt ∧ x549.toInt ≤ 5 := by rw [e550]; exact hI.1 105 _
                                  have e552 : x549 = (evOf h).2.2.2.1 x509.toNatClampNeg := by rw [e550]; exact congrFun (congrArg (fun q : EV => q.2.2.2.1) hE) _
                                  refine R_dup2 rfl ?_
                                  refine R_iald rfl sh_107 ⟨by omega, by omega⟩ ?_
                                  refine N_eq (fun x553 e554 => ?_)
                                  have e555 : x553 = ((kyOf h507).1) x549.toNatClampNeg := by rw [e554]; exact (ky_at107 (nlt ⟨by omega, by omega⟩)).trans (congrFun (congrArg (fun q : KY => q.1) hK) _)
                                  refine R_iconst 1 rfl rfl ?_
                                  have b556 := i_rng x553
                                  refine R_iadd rfl ?_
                                  refine N_eq (fun x557 e558 => ?_)
                                  refine K_iast (a := x549.toInt) (lo := (-2147483648)) (hi' := 2147483647) rfl sh_107 rfl ⟨by omega, by omega⟩ hI (by decide) rfl (i_rng _) fr (by decide) (fun h559 g560 hI fr => ?_)
                                  have fl508 : FR [107] h11 h559 := by rw [g560]; exact FR_wI _ _ fl508 (by decide)
                                  have fl12 : FR [96, 107, 108, 109, 117, 118] h h559 := by rw [g560]; exact FR_wI _ _ fl12 (by decide)
                                  have s561 : (h559.1 96 41).toInt = (h507.1 96 41).toInt := by rw [g560, wI_ne _ _ _ (by decide)]
                                  have s562 : (h559.1 96 42).toInt = (h507.1 96 42).toInt := by rw [g560, wI_ne _ _ _ (by decide)]
                                  have s563 : (h559.1 96 19).toInt = (h507.1 96 19).toInt := by rw [g560, wI_ne _ _ _ (by decide)]
                                  have s564 : (h559.1 96 18).toInt = (h507.1 96 18).toInt := by rw [g560, wI_ne _ _ _ (by decide)]
                                  have s565 : (h559.1 96 20).toInt = (h507.1 96 20).toInt := by rw [g560, wI_ne _ _ _ (by decide)]
                                  have s566 : (h559.1 96 46).toInt = (h507.1 96 46).toInt := by rw [g560, wI_ne _ _ _ (by decide)]
                                  have s567 : (h559.1 96 44).toInt = (h507.1 96 44).toInt := by rw [g560, wI_ne _ _ _ (by decide)]
                                  have s568 : (h559.1 96 47).toInt = (h507.1 96 47).toInt := by rw [g560, wI_ne _ _ _ (by decide)]
                                  have s569 : (h559.1 96 48).toInt = (h507.1 96 48).toInt := by rw [g560, wI_ne _ _ _ (by decide)]
                                  have s570 : (h559.1 96 51).toInt = (h507.1 96 51).toInt := by rw [g560, wI_ne _ _ _ (by decide)]
                                  have hK : kyOf h559 = (upd ((kyOf h507).1) x549.toNatClampNeg x557, (kyOf h507).2.1, (kyOf h507).2.2.1, (kyOf h507).2.2.2) := by rw [g560, ky_107 (nlt ⟨by omega, by omega⟩), hK] <;> rfl
                                  have hE : evOf h559 = evOf h := by rw [g560, ev_o (by decide), hE]
                                  refine N_iinc (a := x509.toInt) (c := 1) (fun w => [(3, .inl w), (0, .inr (.inr (.inl 96))), (1, .inl a0), (2, .inl a1)]) rfl rfl (fun _ => rfl) (by decide) rfl (by decide) (by omega) (fun x571 q572 => ?_)
                                  refine R_goto 166 rfl rfl ?_
                                  exact RUN_weak (psub_cons rfl (psub_cons rfl (psub_cons rfl (psub_cons rfl (psub_nil _))))) (ih510 h559 x571 hI fr fl508 (by omega) (by rw [zHolds_s (x := x509) (x' := x571) (by omega) (by omega), ← m515]; refine hK.trans ?_; subst e558 e555 e552 e541 e534 e531; simp only [zHold1, eLine]; (repeat' split) <;> first | rfl | (exfalso; omega)) (hE) (by omega))
                              · rw [hE] at zq545
                                show RUN d_X9_goSecond 200 [(3, .inl x509), (0, .inr (.inr (.inl 96))), (1, .inl a0), (2, .inl a1)] [.inl x546] h507 _
                                refine N_if_ne (a := x546.toInt) 218 rfl rfl rfl (fun c573 => ?_) (fun c573 => ?_)
                                · refine N_iinc (a := x509.toInt) (c := 1) (fun w => [(3, .inl w), (0, .inr (.inr (.inl 96))), (1, .inl a0), (2, .inl a1)]) rfl rfl (fun _ => rfl) (by decide) rfl (by decide) (by omega) (fun x574 q575 => ?_)
                                  refine R_goto 166 rfl rfl ?_
                                  exact RUN_weak (psub_cons rfl (psub_cons rfl (psub_cons rfl (psub_cons rfl (psub_nil _))))) (ih510 h507 x574 hI fr fl508 (by omega) (by rw [zHolds_s (x := x509) (x' := x574) (by omega) (by omega), ← m515]; refine hK.trans ?_; subst e541 e534 e531; simp only [zHold1, eLine]; (repeat' split) <;> first | rfl | (exfalso; omega)) (hE) (by omega))
                                · exfalso; omega
                      have k576 : (0 : Int32).toInt = 0 := by decide
                      exact lp506 _ h11 (0 : Int32) hI fr (FR.rf _ _) (by decide) (by rw [hK]; rfl) (hE) (Nat.lt_succ_self _)
                    · refine R_aload_n (k := 0) rfl rfl rfl ?_
                      refine R_getf_r (j := 24) rfl ft_9_52 sh_96 rfl ?_
                      refine R_iconst 0 rfl rfl ?_
                      refine R_dup2 rfl ?_
                      refine R_iald rfl sh_109 (by decide) ?_
                      refine N_eq (fun x577 e578 => ?_)
                      have e579 : x577 = ((zMid (evOf h) a0 a1 (kyOf h)).2.2.1) (0 : Int32).toNatClampNeg := by rw [e578]; exact (ky_at109 (by decide)).trans (congrFun (congrArg (fun q : KY => q.2.2.1) hK) _)
                      refine R_iconst 1 rfl rfl ?_
                      have b580 := i_rng x577
                      refine R_isub rfl ?_
                      refine N_eq (fun x581 e582 => ?_)
                      refine K_iast (a := 0) (lo := (-2147483648)) (hi' := 2147483647) rfl sh_109 (by decide) (by decide) hI (by decide) rfl (i_rng _) fr (by decide) (fun h583 g584 hI fr => ?_)
                      have fl12 : FR [96, 107, 108, 109, 117, 118] h h583 := by rw [g584]; exact FR_wI _ _ fl12 (by decide)
                      have s585 : (h583.1 96 41).toInt = (h11.1 96 41).toInt := by rw [g584, wI_ne _ _ _ (by decide)]
                      have s586 : (h583.1 96 42).toInt = (h11.1 96 42).toInt := by rw [g584, wI_ne _ _ _ (by decide)]
                      have s587 : (h583.1 96 19).toInt = (h11.1 96 19).toInt := by rw [g584, wI_ne _ _ _ (by decide)]
                      have s588 : (h583.1 96 18).toInt = (h11.1 96 18).toInt := by rw [g584, wI_ne _ _ _ (by decide)]
                      have s589 : (h583.1 96 20).toInt = (h11.1 96 20).toInt := by rw [g584, wI_ne _ _ _ (by decide)]
                      have s590 : (h583.1 96 46).toInt = (h11.1 96 46).toInt := by rw [g584, wI_ne _ _ _ (by decide)]
                      have s591 : (h583.1 96 44).toInt = (h11.1 96 44).toInt := by rw [g584, wI_ne _ _ _ (by decide)]
                      have s592 : (h583.1 96 47).toInt = (h11.1 96 47).toInt := by rw [g584, wI_ne _ _ _ (by decide)]
                      have s593 : (h583.1 96 48).toInt = (h11.1 96 48).toInt := by rw [g584, wI_ne _ _ _ (by decide)]
                      have s594 : (h583.1 96 51).toInt = (h11.1 96 51).toInt := by rw [g584, wI_ne _ _ _ (by decide)]
                      have hK : kyOf h583 = ((zMid (evOf h) a0 a1 (kyOf h)).1, (zMid (evOf h) a0 a1 (kyOf h)).2.1, upd ((zMid (evOf h) a0 a1 (kyOf h)).2.2.1) (0 : Int32).toNatClampNeg x581, (zMid (evOf h) a0 a1 (kyOf h)).2.2.2) := by rw [g584, ky_109 (by decide), hK] <;> rfl
                      have hE : evOf h583 = evOf h := by rw [g584, ev_o (by decide), hE]
                      refine R_aload_n (k := 0) rfl rfl rfl ?_
                      refine R_getf_r (j := 22) rfl ft_9_46 sh_96 rfl ?_
                      refine R_aload_n (k := 0) rfl rfl rfl ?_
                      refine R_getf_r (j := 17) rfl ft_9_40 sh_96 rfl ?_
                      refine R_iconst 0 rfl rfl ?_
                      refine R_iald rfl sh_105 (by decide) ?_
                      refine N_eq (fun x595 e596 => ?_)
                      have q597 : 0 ≤ x595.toInt ∧ x595.toInt ≤ 5 := by rw [e596]; exact hI.1 105 _
                      have e598 : x595 = (evOf h).2.2.2.1 (0 : Int32).toNatClampNeg := by rw [e596]; exact congrFun (congrArg (fun q : EV => q.2.2.2.1) hE) _
                      refine R_iconst 0 rfl rfl ?_
                      refine K_iast (a := x595.toInt) (lo := (-2147483648)) (hi' := 2147483647) rfl sh_107 rfl ⟨by omega, by omega⟩ hI (by decide) rfl (by decide) fr (by decide) (fun h599 g600 hI fr => ?_)
                      have fl12 : FR [96, 107, 108, 109, 117, 118] h h599 := by rw [g600]; exact FR_wI _ _ fl12 (by decide)
                      have s601 : (h599.1 96 41).toInt = (h583.1 96 41).toInt := by rw [g600, wI_ne _ _ _ (by decide)]
                      have s602 : (h599.1 96 42).toInt = (h583.1 96 42).toInt := by rw [g600, wI_ne _ _ _ (by decide)]
                      have s603 : (h599.1 96 19).toInt = (h583.1 96 19).toInt := by rw [g600, wI_ne _ _ _ (by decide)]
                      have s604 : (h599.1 96 18).toInt = (h583.1 96 18).toInt := by rw [g600, wI_ne _ _ _ (by decide)]
                      have s605 : (h599.1 96 20).toInt = (h583.1 96 20).toInt := by rw [g600, wI_ne _ _ _ (by decide)]
                      have s606 : (h599.1 96 46).toInt = (h583.1 96 46).toInt := by rw [g600, wI_ne _ _ _ (by decide)]
                      have s607 : (h599.1 96 44).toInt = (h583.1 96 44).toInt := by rw [g600, wI_ne _ _ _ (by decide)]
                      have s608 : (h599.1 96 47).toInt = (h583.1 96 47).toInt := by rw [g600, wI_ne _ _ _ (by decide)]
                      have s609 : (h599.1 96 48).toInt = (h583.1 96 48).toInt := by rw [g600, wI_ne _ _ _ (by decide)]
                      have s610 : (h599.1 96 51).toInt = (h583.1 96 51).toInt := by rw [g600, wI_ne _ _ _ (by decide)]
                      have hK : kyOf h599 = (upd ((zMid (evOf h) a0 a1 (kyOf h)).1) x595.toNatClampNeg (0), (zMid (evOf h) a0 a1 (kyOf h)).2.1, upd ((zMid (evOf h) a0 a1 (kyOf h)).2.2.1) (0 : Int32).toNatClampNeg x581, (zMid (evOf h) a0 a1 (kyOf h)).2.2.2) := by rw [g600, ky_107 (nlt ⟨by omega, by omega⟩), hK] <;> rfl
                      have hE : evOf h599 = evOf h := by rw [g600, ev_o (by decide), hE]
                      refine R_aload_n (k := 0) rfl rfl rfl ?_
                      refine R_getf_r (j := 23) rfl ft_9_49 sh_96 rfl ?_
                      refine R_aload_n (k := 0) rfl rfl rfl ?_
                      refine R_getf_r (j := 17) rfl ft_9_40 sh_96 rfl ?_
                      refine R_iconst 0 rfl rfl ?_
                      refine R_iald rfl sh_105 (by decide) ?_
                      refine N_eq (fun x611 e612 => ?_)
                      have q613 : 0 ≤ x611.toInt ∧ x611.toInt ≤ 5 := by rw [e612]; exact hI.1 105 _
                      have e614 : x611 = (evOf h).2.2.2.1 (0 : Int32).toNatClampNeg := by rw [e612]; exact congrFun (congrArg (fun q : EV => q.2.2.2.1) hE) _
                      refine R_aload_n (k := 0) rfl rfl rfl ?_
                      refine R_getf_i (j := 20) rfl ft_9_259 sh_96 rfl ?_
                      refine N_eq (fun x615 e616 => ?_)
                      have e617 : x615 = (evOf h).2.2.2.2.2.1 := by rw [e616]; exact congrArg (fun q : EV => q.2.2.2.2.2.1) hE
                      refine K_iast (a := x611.toInt) (lo := (-2147483648)) (hi' := 2147483647) rfl sh_108 rfl ⟨by omega, by omega⟩ hI (by decide) rfl (i_rng _) fr (by decide) (fun h618 g619 hI fr => ?_)
                      have fl12 : FR [96, 107, 108, 109, 117, 118] h h618 := by rw [g619]; exact FR_wI _ _ fl12 (by decide)
                      have s620 : (h618.1 96 41).toInt = (h599.1 96 41).toInt := by rw [g619, wI_ne _ _ _ (by decide)]
                      have s621 : (h618.1 96 42).toInt = (h599.1 96 42).toInt := by rw [g619, wI_ne _ _ _ (by decide)]
                      have s622 : (h618.1 96 19).toInt = (h599.1 96 19).toInt := by rw [g619, wI_ne _ _ _ (by decide)]
                      have s623 : (h618.1 96 18).toInt = (h599.1 96 18).toInt := by rw [g619, wI_ne _ _ _ (by decide)]
                      have s624 : (h618.1 96 20).toInt = (h599.1 96 20).toInt := by rw [g619, wI_ne _ _ _ (by decide)]
                      have s625 : (h618.1 96 46).toInt = (h599.1 96 46).toInt := by rw [g619, wI_ne _ _ _ (by decide)]
                      have s626 : (h618.1 96 44).toInt = (h599.1 96 44).toInt := by rw [g619, wI_ne _ _ _ (by decide)]
                      have s627 : (h618.1 96 47).toInt = (h599.1 96 47).toInt := by rw [g619, wI_ne _ _ _ (by decide)]
                      have s628 : (h618.1 96 48).toInt = (h599.1 96 48).toInt := by rw [g619, wI_ne _ _ _ (by decide)]
                      have s629 : (h618.1 96 51).toInt = (h599.1 96 51).toInt := by rw [g619, wI_ne _ _ _ (by decide)]
                      have hK : kyOf h618 = (upd ((zMid (evOf h) a0 a1 (kyOf h)).1) x595.toNatClampNeg (0), upd ((zMid (evOf h) a0 a1 (kyOf h)).2.1) x611.toNatClampNeg x615, upd ((zMid (evOf h) a0 a1 (kyOf h)).2.2.1) (0 : Int32).toNatClampNeg x581, (zMid (evOf h) a0 a1 (kyOf h)).2.2.2) := by rw [g619, ky_108 (nlt ⟨by omega, by omega⟩), hK] <;> rfl
                      have hE : evOf h618 = evOf h := by rw [g619, ev_o (by decide), hE]
                      have hK : kyOf h618 = zTake (evOf h) a0 (zMid (evOf h) a0 a1 (kyOf h)) := by
                        refine hK.trans ?_
                        subst e617 e614 e598 e582 e579 e503 e493 e416 e413
                        simp only [zTake, zTake1, eMany, eLine, eFull]
                        (repeat' split) <;> first | rfl | (exfalso; omega)
                      refine R_iconst 0 rfl rfl ?_
                      refine R_istore_n (k := 3) rfl [(3, .inl 0), (0, .inr (.inr (.inl 96))), (1, .inl a0), (2, .inl a1)] rfl rfl (by decide) ?_
                      have lp631 : ∀ (n630 : Nat) (h632 : PH) (x634 : Int32), INV h632 → FR [96, 107, 108, 109, 117, 118] h h632 → FR [107] h618 h632 → 0 ≤ x634.toInt ∧ x634.toInt ≤ 6 → (kyOf h632 = zHolds (evOf h) a0 x634.toNatClampNeg (zTake (evOf h) a0 (zMid (evOf h) a0 a1 (kyOf h)))) → (evOf h632 = evOf h) → (6 - x634.toInt).toNat < n630 → RUN d_X9_goSecond 166 [(3, .inl x634), (0, .inr (.inr (.inl 96))), (1, .inl a0), (2, .inl a1)] [] h632 (q_X9_goSecond h a0 a1) := by
                        intro n630
                        induction n630 with
                        | zero => intro h632 x634 m636 m637 m638 m639 m640 m641 hz; exact absurd hz (Nat.not_lt_zero _)
                        | succ n630 ih635 =>
                          intro h632 x634 hI fr fl633 m639 m640 m641 hz
                          have s642 : (h632.1 96 41).toInt = (h618.1 96 41).toInt := by rw [(fl633 96 (by decide)).1]
                          have s643 : (h632.1 96 42).toInt = (h618.1 96 42).toInt := by rw [(fl633 96 (by decide)).1]
                          have s644 : (h632.1 96 19).toInt = (h618.1 96 19).toInt := by rw [(fl633 96 (by decide)).1]
                          have s645 : (h632.1 96 18).toInt = (h618.1 96 18).toInt := by rw [(fl633 96 (by decide)).1]
                          have s646 : (h632.1 96 20).toInt = (h618.1 96 20).toInt := by rw [(fl633 96 (by decide)).1]
                          have s647 : (h632.1 96 46).toInt = (h618.1 96 46).toInt := by rw [(fl633 96 (by decide)).1]
                          have s648 : (h632.1 96 44).toInt = (h618.1 96 44).toInt := by rw [(fl633 96 (by decide)).1]
                          have s649 : (h632.1 96 47).toInt = (h618.1 96 47).toInt := by rw [(fl633 96 (by decide)).1]
                          have s650 : (h632.1 96 48).toInt = (h618.1 96 48).toInt := by rw [(fl633 96 (by decide)).1]
                          have s651 : (h632.1 96 51).toInt = (h618.1 96 51).toInt := by rw [(fl633 96 (by decide)).1]
                          have fl12 : FR [96, 107, 108, 109, 117, 118] h h632 := fl12.trans fl633 (by decide)
                          have hE := m641
                          have hK : kyOf h632 = kyOf h632 := rfl
                          refine R_iload_n (k := 3) rfl rfl rfl ?_
                          refine R_aload_n (k := 0) rfl rfl rfl ?_
                          refine R_getf_i (j := 18) rfl ft_9_253 sh_96 rfl ?_
                          refine N_icmp_ge (a := x634.toInt) (b := (h632.1 96 18).toInt) 224 rfl rfl rfl rfl (fun c652 => ?_) (fun c652 => ?_)
                          · have hF : kyOf h632 = zSecond (evOf h) a0 a1 (kyOf h) := m640.trans (by rw [show x634 = eMany (evOf h) from i_of _ (by omega)]; rfl)
                            exact R_vret rfl rfl ⟨hI, fr, ⟨by omega, by omega, by omega, by omega, by omega, by omega, by omega, by omega, by omega, by omega, hF, hE, trivial⟩, rfl⟩
                          · refine R_aload_n (k := 0) rfl rfl rfl ?_
                            refine R_getf_r (j := 22) rfl ft_9_46 sh_96 rfl ?_
                            refine R_aload_n (k := 0) rfl rfl rfl ?_
                            refine R_getf_r (j := 17) rfl ft_9_40 sh_96 rfl ?_
                            refine R_iload_n (k := 3) rfl rfl rfl ?_
                            refine R_iald rfl sh_105 ⟨by omega, by omega⟩ ?_
                            refine N_eq (fun x653 e654 => ?_)
                            have q655 : 0 ≤ x653.toInt ∧ x653.toInt ≤ 5 := by rw [e654]; exact hI.1 105 _
                            have e656 : x653 = (evOf h).2.2.2.1 x634.toNatClampNeg := by rw [e654]; exact congrFun (congrArg (fun q : EV => q.2.2.2.1) hE) _
                            refine R_iald rfl sh_107 ⟨by omega, by omega⟩ ?_
                            refine N_eq (fun x657 e658 => ?_)
                            have e659 : x657 = ((kyOf h632).1) x653.toNatClampNeg := by rw [e658]; exact (ky_at107 (nlt ⟨by omega, by omega⟩)).trans (congrFun (congrArg (fun q : KY => q.1) hK) _)
                            refine R_iconst (-1) rfl rfl ?_
                            refine N_icmp_eq (a := x657.toInt) (b := (-1)) 218 rfl rfl rfl (by decide) (fun c660 => ?_) (fun c660 => ?_)
                            · refine N_iinc (a := x634.toInt) (c := 1) (fun w => [(3, .inl w), (0, .inr (.inr (.inl 96))), (1, .inl a0), (2, .inl a1)]) rfl rfl (fun _ => rfl) (by decide) rfl (by decide) (by omega) (fun x661 q662 => ?_)
                              refine R_goto 166 rfl rfl ?_
                              exact RUN_weak (psub_cons rfl (psub_cons rfl (psub_cons rfl (psub_cons rfl (psub_nil _))))) (ih635 h632 x661 hI fr fl633 (by omega) (by rw [zHolds_s (x := x634) (x' := x661) (by omega) (by omega), ← m640]; refine hK.trans ?_; subst e659 e656; simp only [zHold1, eLine]; (repeat' split) <;> first | rfl | (exfalso; omega)) (hE) (by omega))
                            · refine R_aload_n (k := 0) rfl rfl rfl ?_
                              refine R_aload_n (k := 0) rfl rfl rfl ?_
                              refine R_getf_r (j := 17) rfl ft_9_40 sh_96 rfl ?_
                              refine R_iload_n (k := 3) rfl rfl rfl ?_
                              refine R_iald rfl sh_105 ⟨by omega, by omega⟩ ?_
                              refine N_eq (fun x663 e664 => ?_)
                              have q665 : 0 ≤ x663.toInt ∧ x663.toInt ≤ 5 := by rw [e664]; exact hI.1 105 _
                              have e666 : x663 = (evOf h).2.2.2.1 x634.toNatClampNeg := by rw [e664]; exact congrFun (congrArg (fun q : EV => q.2.2.2.1) hE) _
                              refine R_iload_n (k := 1) rfl rfl rfl ?_
                              refine R_callV (v := .inr (.inr (.inl 96))) (As := [.inl x663, .inl a0]) (rest := []) rfl mt_9_i271 pp_X9_doesRest (by decide) rfl rfl rfl (Nat.le_of_ble_eq_true rfl) (Nat.le_of_ble_eq_true rfl) ((g_X9_doesRest h632 hI x663 a0 (by omega) (by omega)).mono (fun r667 h668 p669 => ?_))
                              obtain ⟨rfl, x671, rfl, (q672 | q672 | q672), zq670, -⟩ := p669
                                rw [hE] at zq670
                              · exfalso; omega
                              · rw [hE] at zq670
                                show RUN d_X9_goSecond 200 [(3, .inl x634), (0, .inr (.inr (.inl 96))), (1, .inl a0), (2, .inl a1)] [.inl x671] h632 _
                                refine N_if_ne (a := x671.toInt) 218 rfl rfl rfl (fun c673 => ?_) (fun c673 => ?_)
                                · exfalso; omega
                                · refine R_aload_n (k := 0) rfl rfl rfl ?_
                                  refine R_getf_r (j := 22) rfl ft_9_46 sh_96 rfl ?_
                                  refine R_aload_n (k := 0) rfl rfl rfl ?_
                                  refine R_getf_r (j := 17) rfl ft_9_40 sh_96 rfl ?_
                                  refine R_iload_n (k := 3) rfl rfl rfl ?_
                                  refine R_iald rfl sh_105 ⟨by omega, by omega⟩ ?_
                                  refine N_eq (fun x674 e675 => ?_)
                                  have q676 : 0 ≤ x674.toInt ∧ x674.toInt ≤ 5 := by rw [e675]; exact hI.1 105 _
                                  have e677 : x674 = (evOf h).2.2.2.1 x634.toNatClampNeg := by rw [e675]; exact congrFun (congrArg (fun q : EV => q.2.2.2.1) hE) _
                                  refine R_dup2 rfl ?_
                                  refine R_iald rfl sh_107 ⟨by omega, by omega⟩ ?_
                                  refine N_eq (fun x678 e679 => ?_)
                                  have e680 : x678 = ((kyOf h632).1) x674.toNatClampNeg := by rw [e679]; exact (ky_at107 (nlt ⟨by omega, by omega⟩)).trans (congrFun (congrArg (fun q : KY => q.1) hK) _)
                                  refine R_iconst 1 rfl rfl ?_
                                  have b681 := i_rng x678
                                  refine R_iadd rfl ?_
                                  refine N_eq (fun x682 e683 => ?_)
                                  refine K_iast (a := x674.toInt) (lo := (-2147483648)) (hi' := 2147483647) rfl sh_107 rfl ⟨by omega, by omega⟩ hI (by decide) rfl (i_rng _) fr (by decide) (fun h684 g685 hI fr => ?_)
                                  have fl633 : FR [107] h618 h684 := by rw [g685]; exact FR_wI _ _ fl633 (by decide)
                                  have fl12 : FR [96, 107, 108, 109, 117, 118] h h684 := by rw [g685]; exact FR_wI _ _ fl12 (by decide)
                                  have s686 : (h684.1 96 41).toInt = (h632.1 96 41).toInt := by rw [g685, wI_ne _ _ _ (by decide)]
                                  have s687 : (h684.1 96 42).toInt = (h632.1 96 42).toInt := by rw [g685, wI_ne _ _ _ (by decide)]
                                  have s688 : (h684.1 96 19).toInt = (h632.1 96 19).toInt := by rw [g685, wI_ne _ _ _ (by decide)]
                                  have s689 : (h684.1 96 18).toInt = (h632.1 96 18).toInt := by rw [g685, wI_ne _ _ _ (by decide)]
                                  have s690 : (h684.1 96 20).toInt = (h632.1 96 20).toInt := by rw [g685, wI_ne _ _ _ (by decide)]
                                  have s691 : (h684.1 96 46).toInt = (h632.1 96 46).toInt := by rw [g685, wI_ne _ _ _ (by decide)]
                                  have s692 : (h684.1 96 44).toInt = (h632.1 96 44).toInt := by rw [g685, wI_ne _ _ _ (by decide)]
                                  have s693 : (h684.1 96 47).toInt = (h632.1 96 47).toInt := by rw [g685, wI_ne _ _ _ (by decide)]
                                  have s694 : (h684.1 96 48).toInt = (h632.1 96 48).toInt := by rw [g685, wI_ne _ _ _ (by decide)]
                                  have s695 : (h684.1 96 51).toInt = (h632.1 96 51).toInt := by rw [g685, wI_ne _ _ _ (by decide)]
                                  have hK : kyOf h684 = (upd ((kyOf h632).1) x674.toNatClampNeg x682, (kyOf h632).2.1, (kyOf h632).2.2.1, (kyOf h632).2.2.2) := by rw [g685, ky_107 (nlt ⟨by omega, by omega⟩), hK] <;> rfl
                                  have hE : evOf h684 = evOf h := by rw [g685, ev_o (by decide), hE]
                                  refine N_iinc (a := x634.toInt) (c := 1) (fun w => [(3, .inl w), (0, .inr (.inr (.inl 96))), (1, .inl a0), (2, .inl a1)]) rfl rfl (fun _ => rfl) (by decide) rfl (by decide) (by omega) (fun x696 q697 => ?_)
                                  refine R_goto 166 rfl rfl ?_
                                  exact RUN_weak (psub_cons rfl (psub_cons rfl (psub_cons rfl (psub_cons rfl (psub_nil _))))) (ih635 h684 x696 hI fr fl633 (by omega) (by rw [zHolds_s (x := x634) (x' := x696) (by omega) (by omega), ← m640]; refine hK.trans ?_; subst e683 e680 e677 e666 e659 e656; simp only [zHold1, eLine]; (repeat' split) <;> first | rfl | (exfalso; omega)) (hE) (by omega))
                              · rw [hE] at zq670
                                show RUN d_X9_goSecond 200 [(3, .inl x634), (0, .inr (.inr (.inl 96))), (1, .inl a0), (2, .inl a1)] [.inl x671] h632 _
                                refine N_if_ne (a := x671.toInt) 218 rfl rfl rfl (fun c698 => ?_) (fun c698 => ?_)
                                · refine N_iinc (a := x634.toInt) (c := 1) (fun w => [(3, .inl w), (0, .inr (.inr (.inl 96))), (1, .inl a0), (2, .inl a1)]) rfl rfl (fun _ => rfl) (by decide) rfl (by decide) (by omega) (fun x699 q700 => ?_)
                                  refine R_goto 166 rfl rfl ?_
                                  exact RUN_weak (psub_cons rfl (psub_cons rfl (psub_cons rfl (psub_cons rfl (psub_nil _))))) (ih635 h632 x699 hI fr fl633 (by omega) (by rw [zHolds_s (x := x634) (x' := x699) (by omega) (by omega), ← m640]; refine hK.trans ?_; subst e666 e659 e656; simp only [zHold1, eLine]; (repeat' split) <;> first | rfl | (exfalso; omega)) (hE) (by omega))
                                · exfalso; omega
                      have k701 : (0 : Int32).toInt = 0 := by decide
                      exact lp631 _ h618 (0 : Int32) hI fr (FR.rf _ _) (by decide) (by rw [hK]; rfl) (hE) (Nat.lt_succ_self _)
                · rw [hE] at zq497
                  show RUN d_X9_goSecond 115 [(3, .inl x13), (0, .inr (.inr (.inl 96))), (1, .inl a0), (2, .inl a1)] [.inl x498] h11 _
                  refine N_if_ne (a := x498.toInt) 164 rfl rfl rfl (fun c702 => ?_) (fun c702 => ?_)
                  · have hK : kyOf h11 = zTake (evOf h) a0 (zMid (evOf h) a0 a1 (kyOf h)) := by
                      refine hK.trans ?_
                      subst e493 e416 e413
                      simp only [zTake, zTake1, eMany, eLine, eFull]
                      (repeat' split) <;> first | rfl | (exfalso; omega)
                    refine R_iconst 0 rfl rfl ?_
                    refine R_istore_n (k := 3) rfl [(3, .inl 0), (0, .inr (.inr (.inl 96))), (1, .inl a0), (2, .inl a1)] rfl rfl (by decide) ?_
                    have lp704 : ∀ (n703 : Nat) (h705 : PH) (x707 : Int32), INV h705 → FR [96, 107, 108, 109, 117, 118] h h705 → FR [107] h11 h705 → 0 ≤ x707.toInt ∧ x707.toInt ≤ 6 → (kyOf h705 = zHolds (evOf h) a0 x707.toNatClampNeg (zTake (evOf h) a0 (zMid (evOf h) a0 a1 (kyOf h)))) → (evOf h705 = evOf h) → (6 - x707.toInt).toNat < n703 → RUN d_X9_goSecond 166 [(3, .inl x707), (0, .inr (.inr (.inl 96))), (1, .inl a0), (2, .inl a1)] [] h705 (q_X9_goSecond h a0 a1) := by
                      intro n703
                      induction n703 with
                      | zero => intro h705 x707 m709 m710 m711 m712 m713 m714 hz; exact absurd hz (Nat.not_lt_zero _)
                      | succ n703 ih708 =>
                        intro h705 x707 hI fr fl706 m712 m713 m714 hz
                        have s715 : (h705.1 96 41).toInt = (h11.1 96 41).toInt := by rw [(fl706 96 (by decide)).1]
                        have s716 : (h705.1 96 42).toInt = (h11.1 96 42).toInt := by rw [(fl706 96 (by decide)).1]
                        have s717 : (h705.1 96 19).toInt = (h11.1 96 19).toInt := by rw [(fl706 96 (by decide)).1]
                        have s718 : (h705.1 96 18).toInt = (h11.1 96 18).toInt := by rw [(fl706 96 (by decide)).1]
                        have s719 : (h705.1 96 20).toInt = (h11.1 96 20).toInt := by rw [(fl706 96 (by decide)).1]
                        have s720 : (h705.1 96 46).toInt = (h11.1 96 46).toInt := by rw [(fl706 96 (by decide)).1]
                        have s721 : (h705.1 96 44).toInt = (h11.1 96 44).toInt := by rw [(fl706 96 (by decide)).1]
                        have s722 : (h705.1 96 47).toInt = (h11.1 96 47).toInt := by rw [(fl706 96 (by decide)).1]
                        have s723 : (h705.1 96 48).toInt = (h11.1 96 48).toInt := by rw [(fl706 96 (by decide)).1]
                        have s724 : (h705.1 96 51).toInt = (h11.1 96 51).toInt := by rw [(fl706 96 (by decide)).1]
                        have fl12 : FR [96, 107, 108, 109, 117, 118] h h705 := fl12.trans fl706 (by decide)
                        have hE := m714
                        have hK : kyOf h705 = kyOf h705 := rfl
                        refine R_iload_n (k := 3) rfl rfl rfl ?_
                        refine R_aload_n (k := 0) rfl rfl rfl ?_
                        refine R_getf_i (j := 18) rfl ft_9_253 sh_96 rfl ?_
                        refine N_icmp_ge (a := x707.toInt) (b := (h705.1 96 18).toInt) 224 rfl rfl rfl rfl (fun c725 => ?_) (fun c725 => ?_)
                        · have hF : kyOf h705 = zSecond (evOf h) a0 a1 (kyOf h) := m713.trans (by rw [show x707 = eMany (evOf h) from i_of _ (by omega)]; rfl)
                          exact R_vret rfl rfl ⟨hI, fr, ⟨by omega, by omega, by omega, by omega, by omega, by omega, by omega, by omega, by omega, by omega, hF, hE, trivial⟩, rfl⟩
                        · refine R_aload_n (k := 0) rfl rfl rfl ?_
                          refine R_getf_r (j := 22) rfl ft_9_46 sh_96 rfl ?_
                          refine R_aload_n (k := 0) rfl rfl rfl ?_
                          refine R_getf_r (j := 17) rfl ft_9_40 sh_96 rfl ?_
                          refine R_iload_n (k := 3) rfl rfl rfl ?_
                          refine R_iald rfl sh_105 ⟨by omega, by omega⟩ ?_
                          refine N_eq (fun x726 e727 => ?_)
                          have q728 : 0 ≤ x726.toInt ∧ x726.toInt ≤ 5 := by rw [e727]; exact hI.1 105 _
                          have e729 : x726 = (evOf h).2.2.2.1 x707.toNatClampNeg := by rw [e727]; exact congrFun (congrArg (fun q : EV => q.2.2.2.1) hE) _
                          refine R_iald rfl sh_107 ⟨by omega, by omega⟩ ?_
                          refine N_eq (fun x730 e731 => ?_)
                          have e732 : x730 = ((kyOf h705).1) x726.toNatClampNeg := by rw [e731]; exact (ky_at107 (nlt ⟨by omega, by omega⟩)).trans (congrFun (congrArg (fun q : KY => q.1) hK) _)
                          refine R_iconst (-1) rfl rfl ?_
                          refine N_icmp_eq (a := x730.toInt) (b := (-1)) 218 rfl rfl rfl (by decide) (fun c733 => ?_) (fun c733 => ?_)
                          · refine N_iinc (a := x707.toInt) (c := 1) (fun w => [(3, .inl w), (0, .inr (.inr (.inl 96))), (1, .inl a0), (2, .inl a1)]) rfl rfl (fun _ => rfl) (by decide) rfl (by decide) (by omega) (fun x734 q735 => ?_)
                            refine R_goto 166 rfl rfl ?_
                            exact RUN_weak (psub_cons rfl (psub_cons rfl (psub_cons rfl (psub_cons rfl (psub_nil _))))) (ih708 h705 x734 hI fr fl706 (by omega) (by rw [zHolds_s (x := x707) (x' := x734) (by omega) (by omega), ← m713]; refine hK.trans ?_; subst e732 e729; simp only [zHold1, eLine]; (repeat' split) <;> first | rfl | (exfalso; omega)) (hE) (by omega))
                          · refine R_aload_n (k := 0) rfl rfl rfl ?_
                            refine R_aload_n (k := 0) rfl rfl rfl ?_
                            refine R_getf_r (j := 17) rfl ft_9_40 sh_96 rfl ?_
                            refine R_iload_n (k := 3) rfl rfl rfl ?_
                            refine R_iald rfl sh_105 ⟨by omega, by omega⟩ ?_
                            refine N_eq (fun x736 e737 => ?_)
                            have q738 : 0 ≤ x736.toInt ∧ x736.toInt ≤ 5 := by rw [e737]; exact hI.1 105 _
                            have e739 : x736 = (evOf h).2.2.2.1 x707.toNatClampNeg := by rw [e737]; exact congrFun (congrArg (fun q : EV => q.2.2.2.1) hE) _
                            refine R_iload_n (k := 1) rfl rfl rfl ?_
                            refine R_callV (v := .inr (.inr (.inl 96))) (As := [.inl x736, .inl a0]) (rest := []) rfl mt_9_i271 pp_X9_doesRest (by decide) rfl rfl rfl (Nat.le_of_ble_eq_true rfl) (Nat.le_of_ble_eq_true rfl) ((g_X9_doesRest h705 hI x736 a0 (by omega) (by omega)).mono (fun r740 h741 p742 => ?_))
                            obtain ⟨rfl, x744, rfl, (q745 | q745 | q745), zq743, -⟩ := p742
                              rw [hE] at zq743
                            · exfalso; omega
                            · rw [hE] at zq743
                              show RUN d_X9_goSecond 200 [(3, .inl x707), (0, .inr (.inr (.inl 96))), (1, .inl a0), (2, .inl a1)] [.inl x744] h705 _
                              refine N_if_ne (a := x744.toInt) 218 rfl rfl rfl (fun c746 => ?_) (fun c746 => ?_)
                              · exfalso; omega
                              · refine R_aload_n (k := 0) rfl rfl rfl ?_
                                refine R_getf_r (j := 22) rfl ft_9_46 sh_96 rfl ?_
                                refine R_aload_n (k := 0) rfl rfl rfl ?_
                                refine R_getf_r (j := 17) rfl ft_9_40 sh_96 rfl ?_
                                refine R_iload_n (k := 3) rfl rfl rfl ?_
                                refine R_iald rfl sh_105 ⟨by omega, by omega⟩ ?_
                                refine N_eq (fun x747 e748 => ?_)
                                have q749 : 0 ≤ x747.toInt ∧ x747.toInt ≤ 5 := by rw [e748]; exact hI.1 105 _
                                have e750 : x747 = (evOf h).2.2.2.1 x707.toNatClampNeg := by rw [e748]; exact congrFun (congrArg (fun q : EV => q.2.2.2.1) hE) _
                                refine R_dup2 rfl ?_
                                refine R_iald rfl sh_107 ⟨by omega, by omega⟩ ?_
                                refine N_eq (fun x751 e752 => ?_)
                                have e753 : x751 = ((kyOf h705).1) x747.toNatClampNeg := by rw [e752]; exact (ky_at107 (nlt ⟨by omega, by omega⟩)).trans (congrFun (congrArg (fun q : KY => q.1) hK) _)
                                refine R_iconst 1 rfl rfl ?_
                                have b754 := i_rng x751
                                refine R_iadd rfl ?_
                                refine N_eq (fun x755 e756 => ?_)
                                refine K_iast (a := x747.toInt) (lo := (-2147483648)) (hi' := 2147483647) rfl sh_107 rfl ⟨by omega, by omega⟩ hI (by decide) rfl (i_rng _) fr (by decide) (fun h757 g758 hI fr => ?_)
                                have fl706 : FR [107] h11 h757 := by rw [g758]; exact FR_wI _ _ fl706 (by decide)
                                have fl12 : FR [96, 107, 108, 109, 117, 118] h h757 := by rw [g758]; exact FR_wI _ _ fl12 (by decide)
                                have s759 : (h757.1 96 41).toInt = (h705.1 96 41).toInt := by rw [g758, wI_ne _ _ _ (by decide)]
                                have s760 : (h757.1 96 42).toInt = (h705.1 96 42).toInt := by rw [g758, wI_ne _ _ _ (by decide)]
                                have s761 : (h757.1 96 19).toInt = (h705.1 96 19).toInt := by rw [g758, wI_ne _ _ _ (by decide)]
                                have s762 : (h757.1 96 18).toInt = (h705.1 96 18).toInt := by rw [g758, wI_ne _ _ _ (by decide)]
                                have s763 : (h757.1 96 20).toInt = (h705.1 96 20).toInt := by rw [g758, wI_ne _ _ _ (by decide)]
                                have s764 : (h757.1 96 46).toInt = (h705.1 96 46).toInt := by rw [g758, wI_ne _ _ _ (by decide)]
                                have s765 : (h757.1 96 44).toInt = (h705.1 96 44).toInt := by rw [g758, wI_ne _ _ _ (by decide)]
                                have s766 : (h757.1 96 47).toInt = (h705.1 96 47).toInt := by rw [g758, wI_ne _ _ _ (by decide)]
                                have s767 : (h757.1 96 48).toInt = (h705.1 96 48).toInt := by rw [g758, wI_ne _ _ _ (by decide)]
                                have s768 : (h757.1 96 51).toInt = (h705.1 96 51).toInt := by rw [g758, wI_ne _ _ _ (by decide)]
                                have hK : kyOf h757 = (upd ((kyOf h705).1) x747.toNatClampNeg x755, (kyOf h705).2.1, (kyOf h705).2.2.1, (kyOf h705).2.2.2) := by rw [g758, ky_107 (nlt ⟨by omega, by omega⟩), hK] <;> rfl
                                have hE : evOf h757 = evOf h := by rw [g758, ev_o (by decide), hE]
                                refine N_iinc (a := x707.toInt) (c := 1) (fun w => [(3, .inl w), (0, .inr (.inr (.inl 96))), (1, .inl a0), (2, .inl a1)]) rfl rfl (fun _ => rfl) (by decide) rfl (by decide) (by omega) (fun x769 q770 => ?_)
                                refine R_goto 166 rfl rfl ?_
                                exact RUN_weak (psub_cons rfl (psub_cons rfl (psub_cons rfl (psub_cons rfl (psub_nil _))))) (ih708 h757 x769 hI fr fl706 (by omega) (by rw [zHolds_s (x := x707) (x' := x769) (by omega) (by omega), ← m713]; refine hK.trans ?_; subst e756 e753 e750 e739 e732 e729; simp only [zHold1, eLine]; (repeat' split) <;> first | rfl | (exfalso; omega)) (hE) (by omega))
                            · rw [hE] at zq743
                              show RUN d_X9_goSecond 200 [(3, .inl x707), (0, .inr (.inr (.inl 96))), (1, .inl a0), (2, .inl a1)] [.inl x744] h705 _
                              refine N_if_ne (a := x744.toInt) 218 rfl rfl rfl (fun c771 => ?_) (fun c771 => ?_)
                              · refine N_iinc (a := x707.toInt) (c := 1) (fun w => [(3, .inl w), (0, .inr (.inr (.inl 96))), (1, .inl a0), (2, .inl a1)]) rfl rfl (fun _ => rfl) (by decide) rfl (by decide) (by omega) (fun x772 q773 => ?_)
                                refine R_goto 166 rfl rfl ?_
                                exact RUN_weak (psub_cons rfl (psub_cons rfl (psub_cons rfl (psub_cons rfl (psub_nil _))))) (ih708 h705 x772 hI fr fl706 (by omega) (by rw [zHolds_s (x := x707) (x' := x772) (by omega) (by omega), ← m713]; refine hK.trans ?_; subst e739 e732 e729; simp only [zHold1, eLine]; (repeat' split) <;> first | rfl | (exfalso; omega)) (hE) (by omega))
                              · exfalso; omega
                    have k774 : (0 : Int32).toInt = 0 := by decide
                    exact lp704 _ h11 (0 : Int32) hI fr (FR.rf _ _) (by decide) (by rw [hK]; rfl) (hE) (Nat.lt_succ_self _)
                  · exfalso; omega
          · refine R_aload_n (k := 0) rfl rfl rfl ?_
            refine R_iload_n (k := 3) rfl rfl rfl ?_
            refine R_iload_n (k := 1) rfl rfl rfl ?_
            refine R_callV (v := .inr (.inr (.inl 96))) (As := [.inl x13, .inl a0]) (rest := []) rfl mt_9_i278 pp_X9_goPlace (by decide) rfl rfl rfl (Nat.le_of_ble_eq_true rfl) (Nat.le_of_ble_eq_true rfl) ((g_X9_goPlace h11 hI x13 a0 (by omega) (by omega) (by omega)).mono (fun r775 h776 p777 => ?_))
            obtain ⟨hJ, fj, ⟨kp778, kp779, kp780, kp781, kp782, kp783, kp784, kp785, kp786, kp787, xq788, xq789, -⟩, rfl⟩ := p777
            have f790 := fj
            have fr := fr.trans fj (by decide)
            have hI := hJ
            have fl12 : FR [96, 107, 108, 109, 117, 118] h h776 := fl12.trans fj (by decide)
            have hK : kyOf h776 = zPlace (evOf h) x13 a0 (kyOf h11) := by rw [xq788, hE, hK]
            have hE : evOf h776 = evOf h := xq789.trans hE
            show RUN d_X9_goSecond 76 [(3, .inl x13), (0, .inr (.inr (.inl 96))), (1, .inl a0), (2, .inl a1)] [] h776 _
            refine N_iinc (a := x13.toInt) (c := (-1)) (fun w => [(3, .inl w), (0, .inr (.inr (.inl 96))), (1, .inl a0), (2, .inl a1)]) rfl rfl (fun _ => rfl) (by decide) rfl (by decide) (by omega) (fun x791 q792 => ?_)
            refine R_goto 62 rfl rfl ?_
            exact RUN_weak (psub_cons rfl (psub_cons rfl (psub_cons rfl (psub_cons rfl (psub_nil _))))) (ih14 h776 x791 hI fr fl12 (by omega) (by omega) (by omega) (by omega) (by omega) (by omega) (by omega) (by omega) (by omega) (by omega) (by omega) (by omega) (by rw [hK, ← zPlaces_s (x := x13) (x' := x791) (by omega) (by omega)]; exact m30) (fun hc => absurd (show a1.toInt = 0 by omega) hc) (hE) (by omega))
    exact lp10 _ h x6 hI fr (FR.rf _ _) (by omega) rfl rfl rfl rfl rfl rfl rfl rfl rfl rfl (by omega) (by rw [hK, tn1 (x := x6) (y := eMany (evOf h)) (by omega) (by omega)]) (fun _ => hK) (hE) (Nat.lt_succ_self _)
  · refine R_aload_n (k := 0) rfl rfl rfl ?_
    refine R_getf_r (j := 24) rfl ft_9_52 sh_96 rfl ?_
    refine R_iconst 0 rfl rfl ?_
    refine R_dup2 rfl ?_
    refine R_iald rfl sh_109 (by decide) ?_
    refine N_eq (fun x793 e794 => ?_)
    have e795 : x793 = ((kyOf h).2.2.1) (0 : Int32).toNatClampNeg := by rw [e794]; exact (ky_at109 (by decide)).trans (congrFun (congrArg (fun q : KY => q.2.2.1) hK) _)
    refine R_aload_n (k := 0) rfl rfl rfl ?_
    refine R_getf_r (j := 24) rfl ft_9_52 sh_96 rfl ?_
    refine R_iconst 1 rfl rfl ?_
    refine R_iald rfl sh_109 (by decide) ?_
    refine N_eq (fun x796 e797 => ?_)
    have e798 : x796 = ((kyOf h).2.2.1) (1 : Int32).toNatClampNeg := by rw [e797]; exact (ky_at109 (by decide)).trans (congrFun (congrArg (fun q : KY => q.2.2.1) hK) _)
    have b799 := i_rng x793
    have b800 := i_rng x796
    refine R_iadd rfl ?_
    refine N_eq (fun x801 e802 => ?_)
    refine K_iast (a := 0) (lo := (-2147483648)) (hi' := 2147483647) rfl sh_109 (by decide) (by decide) hI (by decide) rfl (i_rng _) fr (by decide) (fun h803 g804 hI fr => ?_)
    have s805 : (h803.1 96 34).toInt = (h.1 96 34).toInt := by rw [g804, wI_ne _ _ _ (by decide)]
    have s806 : (h803.1 96 36).toInt = (h.1 96 36).toInt := by rw [g804, wI_ne _ _ _ (by decide)]
    have s807 : (h803.1 96 41).toInt = (h.1 96 41).toInt := by rw [g804, wI_ne _ _ _ (by decide)]
    have s808 : (h803.1 96 42).toInt = (h.1 96 42).toInt := by rw [g804, wI_ne _ _ _ (by decide)]
    have s809 : (h803.1 96 19).toInt = (h.1 96 19).toInt := by rw [g804, wI_ne _ _ _ (by decide)]
    have s810 : (h803.1 96 18).toInt = (h.1 96 18).toInt := by rw [g804, wI_ne _ _ _ (by decide)]
    have s811 : (h803.1 96 20).toInt = (h.1 96 20).toInt := by rw [g804, wI_ne _ _ _ (by decide)]
    have s812 : (h803.1 96 46).toInt = (h.1 96 46).toInt := by rw [g804, wI_ne _ _ _ (by decide)]
    have s813 : (h803.1 96 44).toInt = (h.1 96 44).toInt := by rw [g804, wI_ne _ _ _ (by decide)]
    have s814 : (h803.1 96 47).toInt = (h.1 96 47).toInt := by rw [g804, wI_ne _ _ _ (by decide)]
    have s815 : (h803.1 96 48).toInt = (h.1 96 48).toInt := by rw [g804, wI_ne _ _ _ (by decide)]
    have s816 : (h803.1 96 51).toInt = (h.1 96 51).toInt := by rw [g804, wI_ne _ _ _ (by decide)]
    have hK : kyOf h803 = ((kyOf h).1, (kyOf h).2.1, upd ((kyOf h).2.2.1) (0 : Int32).toNatClampNeg x801, (kyOf h).2.2.2) := by rw [g804, ky_109 (by decide), hK] <;> rfl
    have hE : evOf h803 = evOf h := by rw [g804, ev_o (by decide), hE]
    refine R_iconst 1 rfl rfl ?_
    refine R_istore_n (k := 3) rfl [(3, .inl 1), (0, .inr (.inr (.inl 96))), (1, .inl a0), (2, .inl a1)] rfl rfl (by decide) ?_
    have lp818 : ∀ (n817 : Nat) (h819 : PH) (x821 : Int32), INV h819 → FR [96, 107, 108, 109, 117, 118] h h819 → FR [96, 107, 108, 109, 117, 118] h803 h819 → 1 ≤ x821.toInt ∧ x821.toInt ≤ 22 → (h819.1 96 41).toInt = (h803.1 96 41).toInt → (h819.1 96 42).toInt = (h803.1 96 42).toInt → (h819.1 96 19).toInt = (h803.1 96 19).toInt → (h819.1 96 18).toInt = (h803.1 96 18).toInt → (h819.1 96 20).toInt = (h803.1 96 20).toInt → (h819.1 96 46).toInt = (h803.1 96 46).toInt → (h819.1 96 44).toInt = (h803.1 96 44).toInt → (h819.1 96 47).toInt = (h803.1 96 47).toInt → (h819.1 96 48).toInt = (h803.1 96 48).toInt → (h819.1 96 51).toInt = (h803.1 96 51).toInt → True → True → (kyOf h819 = ((kyOf h).1, (kyOf h).2.1, zShN (kyOf h).2.2.1 x821.toNatClampNeg, (kyOf h).2.2.2)) → (evOf h819 = evOf h) → (22 - x821.toInt).toNat < n817 → RUN d_X9_goSecond 21 [(3, .inl x821), (0, .inr (.inr (.inl 96))), (1, .inl a0), (2, .inl a1)] [] h819 (q_X9_goSecond h a0 a1) := by
      intro n817
      induction n817 with
      | zero => intro h819 x821 m823 m824 m825 m826 m827 m828 m829 m830 m831 m832 m833 m834 m835 m836 m837 m838 m839 m840 hz; exact absurd hz (Nat.not_lt_zero _)
      | succ n817 ih822 =>
        intro h819 x821 hI fr fl820 m826 m827 m828 m829 m830 m831 m832 m833 m834 m835 m836 m837 m838 m839 m840 hz
        have hE := m840
        have hK : kyOf h819 = kyOf h819 := rfl
        refine R_iload_n (k := 3) rfl rfl rfl ?_
        refine R_bipush 22 rfl rfl ?_
        refine N_icmp_ge (a := x821.toInt) (b := 22) 47 rfl rfl rfl (by decide) (fun c841 => ?_) (fun c841 => ?_)
        · refine R_aload_n (k := 0) rfl rfl rfl ?_
          refine R_getf_r (j := 24) rfl ft_9_52 sh_96 rfl ?_
          refine R_bipush 22 rfl rfl ?_
          refine R_iconst 0 rfl rfl ?_
          refine K_iast (a := 22) (lo := (-2147483648)) (hi' := 2147483647) rfl sh_109 (by decide) (by decide) hI (by decide) rfl (by decide) fr (by decide) (fun h842 g843 hI fr => ?_)
          have fl820 : FR [96, 107, 108, 109, 117, 118] h803 h842 := by rw [g843]; exact FR_wI _ _ fl820 (by decide)
          have s844 : (h842.1 96 34).toInt = (h819.1 96 34).toInt := by rw [g843, wI_ne _ _ _ (by decide)]
          have s845 : (h842.1 96 36).toInt = (h819.1 96 36).toInt := by rw [g843, wI_ne _ _ _ (by decide)]
          have s846 : (h842.1 96 41).toInt = (h819.1 96 41).toInt := by rw [g843, wI_ne _ _ _ (by decide)]
          have s847 : (h842.1 96 42).toInt = (h819.1 96 42).toInt := by rw [g843, wI_ne _ _ _ (by decide)]
          have s848 : (h842.1 96 19).toInt = (h819.1 96 19).toInt := by rw [g843, wI_ne _ _ _ (by decide)]
          have s849 : (h842.1 96 18).toInt = (h819.1 96 18).toInt := by rw [g843, wI_ne _ _ _ (by decide)]
          have s850 : (h842.1 96 20).toInt = (h819.1 96 20).toInt := by rw [g843, wI_ne _ _ _ (by decide)]
          have s851 : (h842.1 96 46).toInt = (h819.1 96 46).toInt := by rw [g843, wI_ne _ _ _ (by decide)]
          have s852 : (h842.1 96 44).toInt = (h819.1 96 44).toInt := by rw [g843, wI_ne _ _ _ (by decide)]
          have s853 : (h842.1 96 47).toInt = (h819.1 96 47).toInt := by rw [g843, wI_ne _ _ _ (by decide)]
          have s854 : (h842.1 96 48).toInt = (h819.1 96 48).toInt := by rw [g843, wI_ne _ _ _ (by decide)]
          have s855 : (h842.1 96 51).toInt = (h819.1 96 51).toInt := by rw [g843, wI_ne _ _ _ (by decide)]
          have hK : kyOf h842 = ((kyOf h819).1, (kyOf h819).2.1, upd ((kyOf h819).2.2.1) (22 : Int32).toNatClampNeg (0), (kyOf h819).2.2.2) := by rw [g843, ky_109 (by decide), hK] <;> rfl
          have hE : evOf h842 = evOf h := by rw [g843, ev_o (by decide), hE]
          have hK : kyOf h842 = zPre a0 (kyOf h) := by refine hK.trans ?_; rw [m839, show x821 = 22 from i_of 22 (by rw [show (22 : Int32).toInt = 22 from rfl]; omega)]; unfold zPre; rw [if_pos (by omega)]; rfl
          refine R_aload_n (k := 0) rfl rfl rfl ?_
          refine R_getf_i (j := 18) rfl ft_9_253 sh_96 rfl ?_
          refine R_iconst 1 rfl rfl ?_
          refine R_isub rfl ?_
          refine N_eq (fun x856 e857 => ?_)
          have q858 : x856.toInt = (h842.1 96 18).toInt - 1 := by rw [e857]; exact i_sub rfl (by decide) (by omega)
          refine R_istore_n (k := 3) rfl [(3, .inl x856), (0, .inr (.inr (.inl 96))), (1, .inl a0), (2, .inl a1)] rfl rfl (by decide) ?_
          have lp860 : ∀ (n859 : Nat) (h861 : PH) (x863 : Int32), INV h861 → FR [96, 107, 108, 109, 117, 118] h h861 → FR [96, 107, 108, 109, 117, 118] h842 h861 → (-1) ≤ x863.toInt ∧ x863.toInt ≤ 5 → (h861.1 96 41).toInt = (h842.1 96 41).toInt → (h861.1 96 42).toInt = (h842.1 96 42).toInt → (h861.1 96 19).toInt = (h842.1 96 19).toInt → (h861.1 96 18).toInt = (h842.1 96 18).toInt → (h861.1 96 20).toInt = (h842.1 96 20).toInt → (h861.1 96 46).toInt = (h842.1 96 46).toInt → (h861.1 96 44).toInt = (h842.1 96 44).toInt → (h861.1 96 47).toInt = (h842.1 96 47).toInt → (h861.1 96 48).toInt = (h842.1 96 48).toInt → (h861.1 96 51).toInt = (h842.1 96 51).toInt → x863.toInt ≤ (h842.1 96 18).toInt + (-1) → (zPlaces (evOf h) a0 (x863.toInt + 1).toNat (kyOf h861) = zPlaces (evOf h) a0 (eMany (evOf h)).toNatClampNeg (zPre a0 (kyOf h))) → (¬ a1.toInt = 0 → kyOf h861 = zPre a0 (kyOf h)) → (evOf h861 = evOf h) → (x863.toInt - (-1)).toNat < n859 → RUN d_X9_goSecond 62 [(3, .inl x863), (0, .inr (.inr (.inl 96))), (1, .inl a0), (2, .inl a1)] [] h861 (q_X9_goSecond h a0 a1) := by
            intro n859
            induction n859 with
            | zero => intro h861 x863 m865 m866 m867 m868 m869 m870 m871 m872 m873 m874 m875 m876 m877 m878 m879 m880 m881 m882 hz; exact absurd hz (Nat.not_lt_zero _)
            | succ n859 ih864 =>
              intro h861 x863 hI fr fl862 m868 m869 m870 m871 m872 m873 m874 m875 m876 m877 m878 m879 m880 m881 m882 hz
              have fl820 : FR [96, 107, 108, 109, 117, 118] h803 h861 := fl820.trans fl862 (by decide)
              have hE := m882
              have hK : kyOf h861 = kyOf h861 := rfl
              refine R_iload_n (k := 3) rfl rfl rfl ?_
              refine N_if_lt (a := x863.toInt) 82 rfl rfl rfl (fun c883 => ?_) (fun c883 => ?_)
              · have hK : kyOf h861 = zMid (evOf h) a0 a1 (kyOf h) := by
                  unfold zMid
                  split
                  · first | (exfalso; omega) | (have hA := m880; rw [show (x863.toInt + 1).toNat = 0 by omega] at hA; exact hA)
                  · exact m881 (by omega)
                refine R_aload_n (k := 0) rfl rfl rfl ?_
                refine R_getf_i (j := 18) rfl ft_9_253 sh_96 rfl ?_
                refine N_if_le (a := (h861.1 96 18).toInt) 164 rfl rfl rfl (fun c884 => ?_) (fun c884 => ?_)
                · have hK : kyOf h861 = zTake (evOf h) a0 (zMid (evOf h) a0 a1 (kyOf h)) := by
                    refine hK.trans ?_
                    simp only [zTake, zTake1, eMany, eLine, eFull]
                    (repeat' split) <;> first | rfl | (exfalso; omega)
                  refine R_iconst 0 rfl rfl ?_
                  refine R_istore_n (k := 3) rfl [(3, .inl 0), (0, .inr (.inr (.inl 96))), (1, .inl a0), (2, .inl a1)] rfl rfl (by decide) ?_
                  have lp886 : ∀ (n885 : Nat) (x887 : Int32), 0 ≤ x887.toInt ∧ x887.toInt ≤ 0 → (kyOf h861 = zHolds (evOf h) a0 x887.toNatClampNeg (zTake (evOf h) a0 (zMid (evOf h) a0 a1 (kyOf h)))) → 0 < n885 → RUN d_X9_goSecond 166 [(3, .inl x887), (0, .inr (.inr (.inl 96))), (1, .inl a0), (2, .inl a1)] [] h861 (q_X9_goSecond h a0 a1) := by
                    intro n885
                    induction n885 with
                    | zero => intro x887 m889 m890 hz; exact absurd hz (Nat.not_lt_zero _)
                    | succ n885 ih888 =>
                      intro x887 m889 m890 hz
                      refine R_iload_n (k := 3) rfl rfl rfl ?_
                      refine R_aload_n (k := 0) rfl rfl rfl ?_
                      refine R_getf_i (j := 18) rfl ft_9_253 sh_96 rfl ?_
                      refine N_icmp_ge (a := x887.toInt) (b := (h861.1 96 18).toInt) 224 rfl rfl rfl rfl (fun c891 => ?_) (fun c891 => ?_)
                      · have hF : kyOf h861 = zSecond (evOf h) a0 a1 (kyOf h) := m890.trans (by rw [show x887 = eMany (evOf h) from i_of _ (by omega)]; rfl)
                        exact R_vret rfl rfl ⟨hI, fr, ⟨by omega, by omega, by omega, by omega, by omega, by omega, by omega, by omega, by omega, by omega, hF, hE, trivial⟩, rfl⟩
                      · exfalso; omega
                  have k892 : (0 : Int32).toInt = 0 := by decide
                  exact lp886 _ (0 : Int32) (by decide) (by rw [hK]; rfl) (Nat.lt_succ_self _)
                · refine R_aload_n (k := 0) rfl rfl rfl ?_
                  refine R_getf_r (j := 22) rfl ft_9_46 sh_96 rfl ?_
                  refine R_aload_n (k := 0) rfl rfl rfl ?_
                  refine R_getf_r (j := 17) rfl ft_9_40 sh_96 rfl ?_
                  refine R_iconst 0 rfl rfl ?_
                  refine R_iald rfl sh_105 (by decide) ?_
                  refine N_eq (fun x893 e894 => ?_)
                  have q895 : 0 ≤ x893.toInt ∧ x893.toInt ≤ 5 := by rw [e894]; exact hI.1 105 _
                  have e896 : x893 = (evOf h).2.2.2.1 (0 : Int32).toNatClampNeg := by rw [e894]; exact congrFun (congrArg (fun q : EV => q.2.2.2.1) hE) _
                  refine R_iald rfl sh_107 ⟨by omega, by omega⟩ ?_
                  refine N_eq (fun x897 e898 => ?_)
                  have e899 : x897 = ((zMid (evOf h) a0 a1 (kyOf h)).1) x893.toNatClampNeg := by rw [e898]; exact (ky_at107 (nlt ⟨by omega, by omega⟩)).trans (congrFun (congrArg (fun q : KY => q.1) hK) _)
                  refine R_iconst (-1) rfl rfl ?_
                  refine N_icmp_ne (a := x897.toInt) (b := (-1)) 164 rfl rfl rfl (by decide) (fun c900 => ?_) (fun c900 => ?_)
                  · have hK : kyOf h861 = zTake (evOf h) a0 (zMid (evOf h) a0 a1 (kyOf h)) := by
                      refine hK.trans ?_
                      subst e899 e896
                      simp only [zTake, zTake1, eMany, eLine, eFull]
                      (repeat' split) <;> first | rfl | (exfalso; omega)
                    refine R_iconst 0 rfl rfl ?_
                    refine R_istore_n (k := 3) rfl [(3, .inl 0), (0, .inr (.inr (.inl 96))), (1, .inl a0), (2, .inl a1)] rfl rfl (by decide) ?_
                    have lp902 : ∀ (n901 : Nat) (h903 : PH) (x905 : Int32), INV h903 → FR [96, 107, 108, 109, 117, 118] h h903 → FR [107] h861 h903 → 0 ≤ x905.toInt ∧ x905.toInt ≤ 6 → (kyOf h903 = zHolds (evOf h) a0 x905.toNatClampNeg (zTake (evOf h) a0 (zMid (evOf h) a0 a1 (kyOf h)))) → (evOf h903 = evOf h) → (6 - x905.toInt).toNat < n901 → RUN d_X9_goSecond 166 [(3, .inl x905), (0, .inr (.inr (.inl 96))), (1, .inl a0), (2, .inl a1)] [] h903 (q_X9_goSecond h a0 a1) := by
                      intro n901
                      induction n901 with
                      | zero => intro h903 x905 m907 m908 m909 m910 m911 m912 hz; exact absurd hz (Nat.not_lt_zero _)
                      | succ n901 ih906 =>
                        intro h903 x905 hI fr fl904 m910 m911 m912 hz
                        have s913 : (h903.1 96 41).toInt = (h861.1 96 41).toInt := by rw [(fl904 96 (by decide)).1]
                        have s914 : (h903.1 96 42).toInt = (h861.1 96 42).toInt := by rw [(fl904 96 (by decide)).1]
                        have s915 : (h903.1 96 19).toInt = (h861.1 96 19).toInt := by rw [(fl904 96 (by decide)).1]
                        have s916 : (h903.1 96 18).toInt = (h861.1 96 18).toInt := by rw [(fl904 96 (by decide)).1]
                        have s917 : (h903.1 96 20).toInt = (h861.1 96 20).toInt := by rw [(fl904 96 (by decide)).1]
                        have s918 : (h903.1 96 46).toInt = (h861.1 96 46).toInt := by rw [(fl904 96 (by decide)).1]
                        have s919 : (h903.1 96 44).toInt = (h861.1 96 44).toInt := by rw [(fl904 96 (by decide)).1]
                        have s920 : (h903.1 96 47).toInt = (h861.1 96 47).toInt := by rw [(fl904 96 (by decide)).1]
                        have s921 : (h903.1 96 48).toInt = (h861.1 96 48).toInt := by rw [(fl904 96 (by decide)).1]
                        have s922 : (h903.1 96 51).toInt = (h861.1 96 51).toInt := by rw [(fl904 96 (by decide)).1]
                        have fl862 : FR [96, 107, 108, 109, 117, 118] h842 h903 := fl862.trans fl904 (by decide)
                        have fl820 : FR [96, 107, 108, 109, 117, 118] h803 h903 := fl820.trans fl904 (by decide)
                        have hE := m912
                        have hK : kyOf h903 = kyOf h903 := rfl
                        refine R_iload_n (k := 3) rfl rfl rfl ?_
                        refine R_aload_n (k := 0) rfl rfl rfl ?_
                        refine R_getf_i (j := 18) rfl ft_9_253 sh_96 rfl ?_
                        refine N_icmp_ge (a := x905.toInt) (b := (h903.1 96 18).toInt) 224 rfl rfl rfl rfl (fun c923 => ?_) (fun c923 => ?_)
                        · have hF : kyOf h903 = zSecond (evOf h) a0 a1 (kyOf h) := m911.trans (by rw [show x905 = eMany (evOf h) from i_of _ (by omega)]; rfl)
                          exact R_vret rfl rfl ⟨hI, fr, ⟨by omega, by omega, by omega, by omega, by omega, by omega, by omega, by omega, by omega, by omega, hF, hE, trivial⟩, rfl⟩
                        · refine R_aload_n (k := 0) rfl rfl rfl ?_
                          refine R_getf_r (j := 22) rfl ft_9_46 sh_96 rfl ?_
                          refine R_aload_n (k := 0) rfl rfl rfl ?_
                          refine R_getf_r (j := 17) rfl ft_9_40 sh_96 rfl ?_
                          refine R_iload_n (k := 3) rfl rfl rfl ?_
                          refine R_iald rfl sh_105 ⟨by omega, by omega⟩ ?_
                          refine N_eq (fun x924 e925 => ?_)
                          have q926 : 0 ≤ x924.toInt ∧ x924.toInt ≤ 5 := by rw [e925]; exact hI.1 105 _
                          have e927 : x924 = (evOf h).2.2.2.1 x905.toNatClampNeg := by rw [e925]; exact congrFun (congrArg (fun q : EV => q.2.2.2.1) hE) _
                          refine R_iald rfl sh_107 ⟨by omega, by omega⟩ ?_
                          refine N_eq (fun x928 e929 => ?_)
                          have e930 : x928 = ((kyOf h903).1) x924.toNatClampNeg := by rw [e929]; exact (ky_at107 (nlt ⟨by omega, by omega⟩)).trans (congrFun (congrArg (fun q : KY => q.1) hK) _)
                          refine R_iconst (-1) rfl rfl ?_
                          refine N_icmp_eq (a := x928.toInt) (b := (-1)) 218 rfl rfl rfl (by decide) (fun c931 => ?_) (fun c931 => ?_)
                          · refine N_iinc (a := x905.toInt) (c := 1) (fun w => [(3, .inl w), (0, .inr (.inr (.inl 96))), (1, .inl a0), (2, .inl a1)]) rfl rfl (fun _ => rfl) (by decide) rfl (by decide) (by omega) (fun x932 q933 => ?_)
                            refine R_goto 166 rfl rfl ?_
                            exact RUN_weak (psub_cons rfl (psub_cons rfl (psub_cons rfl (psub_cons rfl (psub_nil _))))) (ih906 h903 x932 hI fr fl904 (by omega) (by rw [zHolds_s (x := x905) (x' := x932) (by omega) (by omega), ← m911]; refine hK.trans ?_; subst e930 e927; simp only [zHold1, eLine]; (repeat' split) <;> first | rfl | (exfalso; omega)) (hE) (by omega))
                          · refine R_aload_n (k := 0) rfl rfl rfl ?_
                            refine R_aload_n (k := 0) rfl rfl rfl ?_
                            refine R_getf_r (j := 17) rfl ft_9_40 sh_96 rfl ?_
                            refine R_iload_n (k := 3) rfl rfl rfl ?_
                            refine R_iald rfl sh_105 ⟨by omega, by omega⟩ ?_
                            refine N_eq (fun x934 e935 => ?_)
                            have q936 : 0 ≤ x934.toInt ∧ x934.toInt ≤ 5 := by rw [e935]; exact hI.1 105 _
                            have e937 : x934 = (evOf h).2.2.2.1 x905.toNatClampNeg := by rw [e935]; exact congrFun (congrArg (fun q : EV => q.2.2.2.1) hE) _
                            refine R_iload_n (k := 1) rfl rfl rfl ?_
                            have b938 := i_rng a0
                            refine R_callV (v := .inr (.inr (.inl 96))) (As := [.inl x934, .inl a0]) (rest := []) rfl mt_9_i271 pp_X9_doesRest (by decide) rfl rfl rfl (Nat.le_of_ble_eq_true rfl) (Nat.le_of_ble_eq_true rfl) ((g_X9_doesRest h903 hI x934 a0 (by omega) (by omega)).mono (fun r939 h940 p941 => ?_))
                            obtain ⟨rfl, x943, rfl, (q944 | q944 | q944), zq942, -⟩ := p941
                            · rw [hE] at zq942
                              show RUN d_X9_goSecond 200 [(3, .inl x905), (0, .inr (.inr (.inl 96))), (1, .inl a0), (2, .inl a1)] [.inl x943] h903 _
                              refine N_if_ne (a := x943.toInt) 218 rfl rfl rfl (fun c945 => ?_) (fun c945 => ?_)
                              · exfalso; omega
                              · refine R_aload_n (k := 0) rfl rfl rfl ?_
                                refine R_getf_r (j := 22) rfl ft_9_46 sh_96 rfl ?_
                                refine R_aload_n (k := 0) rfl rfl rfl ?_
                                refine R_getf_r (j := 17) rfl ft_9_40 sh_96 rfl ?_
                                refine R_iload_n (k := 3) rfl rfl rfl ?_
                                refine R_iald rfl sh_105 ⟨by omega, by omega⟩ ?_
                                refine N_eq (fun x946 e947 => ?_)
                                have q948 : 0 ≤ x946.toInt ∧ x946.toInt ≤ 5 := by rw [e947]; exact hI.1 105 _
                                have e949 : x946 = (evOf h).2.2.2.1 x905.toNatClampNeg := by rw [e947]; exact congrFun (congrArg (fun q : EV => q.2.2.2.1) hE) _
                                refine R_dup2 rfl ?_
                                refine R_iald rfl sh_107 ⟨by omega, by omega⟩ ?_
                                refine N_eq (fun x950 e951 => ?_)
                                have e952 : x950 = ((kyOf h903).1) x946.toNatClampNeg := by rw [e951]; exact (ky_at107 (nlt ⟨by omega, by omega⟩)).trans (congrFun (congrArg (fun q : KY => q.1) hK) _)
                                refine R_iconst 1 rfl rfl ?_
                                have b953 := i_rng x950
                                refine R_iadd rfl ?_
                                refine N_eq (fun x954 e955 => ?_)
                                refine K_iast (a := x946.toInt) (lo := (-2147483648)) (hi' := 2147483647) rfl sh_107 rfl ⟨by omega, by omega⟩ hI (by decide) rfl (i_rng _) fr (by decide) (fun h956 g957 hI fr => ?_)
                                have fl904 : FR [107] h861 h956 := by rw [g957]; exact FR_wI _ _ fl904 (by decide)
                                have fl862 : FR [96, 107, 108, 109, 117, 118] h842 h956 := by rw [g957]; exact FR_wI _ _ fl862 (by decide)
                                have fl820 : FR [96, 107, 108, 109, 117, 118] h803 h956 := by rw [g957]; exact FR_wI _ _ fl820 (by decide)
                                have s958 : (h956.1 96 41).toInt = (h903.1 96 41).toInt := by rw [g957, wI_ne _ _ _ (by decide)]
                                have s959 : (h956.1 96 42).toInt = (h903.1 96 42).toInt := by rw [g957, wI_ne _ _ _ (by decide)]
                                have s960 : (h956.1 96 19).toInt = (h903.1 96 19).toInt := by rw [g957, wI_ne _ _ _ (by decide)]
                                have s961 : (h956.1 96 18).toInt = (h903.1 96 18).toInt := by rw [g957, wI_ne _ _ _ (by decide)]
                                have s962 : (h956.1 96 20).toInt = (h903.1 96 20).toInt := by rw [g957, wI_ne _ _ _ (by decide)]
                                have s963 : (h956.1 96 46).toInt = (h903.1 96 46).toInt := by rw [g957, wI_ne _ _ _ (by decide)]
                                have s964 : (h956.1 96 44).toInt = (h903.1 96 44).toInt := by rw [g957, wI_ne _ _ _ (by decide)]
                                have s965 : (h956.1 96 47).toInt = (h903.1 96 47).toInt := by rw [g957, wI_ne _ _ _ (by decide)]
                                have s966 : (h956.1 96 48).toInt = (h903.1 96 48).toInt := by rw [g957, wI_ne _ _ _ (by decide)]
                                have s967 : (h956.1 96 51).toInt = (h903.1 96 51).toInt := by rw [g957, wI_ne _ _ _ (by decide)]
                                have hK : kyOf h956 = (upd ((kyOf h903).1) x946.toNatClampNeg x954, (kyOf h903).2.1, (kyOf h903).2.2.1, (kyOf h903).2.2.2) := by rw [g957, ky_107 (nlt ⟨by omega, by omega⟩), hK] <;> rfl
                                have hE : evOf h956 = evOf h := by rw [g957, ev_o (by decide), hE]
                                refine N_iinc (a := x905.toInt) (c := 1) (fun w => [(3, .inl w), (0, .inr (.inr (.inl 96))), (1, .inl a0), (2, .inl a1)]) rfl rfl (fun _ => rfl) (by decide) rfl (by decide) (by omega) (fun x968 q969 => ?_)
                                refine R_goto 166 rfl rfl ?_
                                exact RUN_weak (psub_cons rfl (psub_cons rfl (psub_cons rfl (psub_cons rfl (psub_nil _))))) (ih906 h956 x968 hI fr fl904 (by omega) (by rw [zHolds_s (x := x905) (x' := x968) (by omega) (by omega), ← m911]; refine hK.trans ?_; subst e955 e952 e949 e937 e930 e927; simp only [zHold1, eLine]; (repeat' split) <;> first | rfl | (exfalso; omega)) (hE) (by omega))
                            · rw [hE] at zq942
                              show RUN d_X9_goSecond 200 [(3, .inl x905), (0, .inr (.inr (.inl 96))), (1, .inl a0), (2, .inl a1)] [.inl x943] h903 _
                              refine N_if_ne (a := x943.toInt) 218 rfl rfl rfl (fun c970 => ?_) (fun c970 => ?_)
                              · exfalso; omega
                              · refine R_aload_n (k := 0) rfl rfl rfl ?_
                                refine R_getf_r (j := 22) rfl ft_9_46 sh_96 rfl ?_
                                refine R_aload_n (k := 0) rfl rfl rfl ?_
                                refine R_getf_r (j := 17) rfl ft_9_40 sh_96 rfl ?_
                                refine R_iload_n (k := 3) rfl rfl rfl ?_
                                refine R_iald rfl sh_105 ⟨by omega, by omega⟩ ?_
                                refine N_eq (fun x971 e972 => ?_)
                                have q973 : 0 ≤ x971.toInt ∧ x971.toInt ≤ 5 := by rw [e972]; exact hI.1 105 _
                                have e974 : x971 = (evOf h).2.2.2.1 x905.toNatClampNeg := by rw [e972]; exact congrFun (congrArg (fun q : EV => q.2.2.2.1) hE) _
                                refine R_dup2 rfl ?_
                                refine R_iald rfl sh_107 ⟨by omega, by omega⟩ ?_
                                refine N_eq (fun x975 e976 => ?_)
                                have e977 : x975 = ((kyOf h903).1) x971.toNatClampNeg := by rw [e976]; exact (ky_at107 (nlt ⟨by omega, by omega⟩)).trans (congrFun (congrArg (fun q : KY => q.1) hK) _)
                                refine R_iconst 1 rfl rfl ?_
                                have b978 := i_rng x975
                                refine R_iadd rfl ?_
                                refine N_eq (fun x979 e980 => ?_)
                                refine K_iast (a := x971.toInt) (lo := (-2147483648)) (hi' := 2147483647) rfl sh_107 rfl ⟨by omega, by omega⟩ hI (by decide) rfl (i_rng _) fr (by decide) (fun h981 g982 hI fr => ?_)
                                have fl904 : FR [107] h861 h981 := by rw [g982]; exact FR_wI _ _ fl904 (by decide)
                                have fl862 : FR [96, 107, 108, 109, 117, 118] h842 h981 := by rw [g982]; exact FR_wI _ _ fl862 (by decide)
                                have fl820 : FR [96, 107, 108, 109, 117, 118] h803 h981 := by rw [g982]; exact FR_wI _ _ fl820 (by decide)
                                have s983 : (h981.1 96 41).toInt = (h903.1 96 41).toInt := by rw [g982, wI_ne _ _ _ (by decide)]
                                have s984 : (h981.1 96 42).toInt = (h903.1 96 42).toInt := by rw [g982, wI_ne _ _ _ (by decide)]
                                have s985 : (h981.1 96 19).toInt = (h903.1 96 19).toInt := by rw [g982, wI_ne _ _ _ (by decide)]
                                have s986 : (h981.1 96 18).toInt = (h903.1 96 18).toInt := by rw [g982, wI_ne _ _ _ (by decide)]
                                have s987 : (h981.1 96 20).toInt = (h903.1 96 20).toInt := by rw [g982, wI_ne _ _ _ (by decide)]
                                have s988 : (h981.1 96 46).toInt = (h903.1 96 46).toInt := by rw [g982, wI_ne _ _ _ (by decide)]
                                have s989 : (h981.1 96 44).toInt = (h903.1 96 44).toInt := by rw [g982, wI_ne _ _ _ (by decide)]
                                have s990 : (h981.1 96 47).toInt = (h903.1 96 47).toInt := by rw [g982, wI_ne _ _ _ (by decide)]
                                have s991 : (h981.1 96 48).toInt = (h903.1 96 48).toInt := by rw [g982, wI_ne _ _ _ (by decide)]
                                have s992 : (h981.1 96 51).toInt = (h903.1 96 51).toInt := by rw [g982, wI_ne _ _ _ (by decide)]
                                have hK : kyOf h981 = (upd ((kyOf h903).1) x971.toNatClampNeg x979, (kyOf h903).2.1, (kyOf h903).2.2.1, (kyOf h903).2.2.2) := by rw [g982, ky_107 (nlt ⟨by omega, by omega⟩), hK] <;> rfl
                                have hE : evOf h981 = evOf h := by rw [g982, ev_o (by decide), hE]
                                refine N_iinc (a := x905.toInt) (c := 1) (fun w => [(3, .inl w), (0, .inr (.inr (.inl 96))), (1, .inl a0), (2, .inl a1)]) rfl rfl (fun _ => rfl) (by decide) rfl (by decide) (by omega) (fun x993 q994 => ?_)
                                refine R_goto 166 rfl rfl ?_
                                exact RUN_weak (psub_cons rfl (psub_cons rfl (psub_cons rfl (psub_cons rfl (psub_nil _))))) (ih906 h981 x993 hI fr fl904 (by omega) (by rw [zHolds_s (x := x905) (x' := x993) (by omega) (by omega), ← m911]; refine hK.trans ?_; subst e980 e977 e974 e937 e930 e927; simp only [zHold1, eLine]; (repeat' split) <;> first | rfl | (exfalso; omega)) (hE) (by omega))
                            · rw [hE] at zq942
                              show RUN d_X9_goSecond 200 [(3, .inl x905), (0, .inr (.inr (.inl 96))), (1, .inl a0), (2, .inl a1)] [.inl x943] h903 _
                              refine N_if_ne (a := x943.toInt) 218 rfl rfl rfl (fun c995 => ?_) (fun c995 => ?_)
                              · refine N_iinc (a := x905.toInt) (c := 1) (fun w => [(3, .inl w), (0, .inr (.inr (.inl 96))), (1, .inl a0), (2, .inl a1)]) rfl rfl (fun _ => rfl) (by decide) rfl (by decide) (by omega) (fun x996 q997 => ?_)
                                refine R_goto 166 rfl rfl ?_
                                exact RUN_weak (psub_cons rfl (psub_cons rfl (psub_cons rfl (psub_cons rfl (psub_nil _))))) (ih906 h903 x996 hI fr fl904 (by omega) (by rw [zHolds_s (x := x905) (x' := x996) (by omega) (by omega), ← m911]; refine hK.trans ?_; subst e937 e930 e927; simp only [zHold1, eLine]; (repeat' split) <;> first | rfl | (exfalso; omega)) (hE) (by omega))
                              · exfalso; omega
                    have k998 : (0 : Int32).toInt = 0 := by decide
                    exact lp902 _ h861 (0 : Int32) hI fr (FR.rf _ _) (by decide) (by rw [hK]; rfl) (hE) (Nat.lt_succ_self _)
                  · refine R_aload_n (k := 0) rfl rfl rfl ?_
                    refine R_aload_n (k := 0) rfl rfl rfl ?_
                    refine R_getf_r (j := 17) rfl ft_9_40 sh_96 rfl ?_
                    refine R_iconst 0 rfl rfl ?_
                    refine R_iald rfl sh_105 (by decide) ?_
                    refine N_eq (fun x999 e1000 => ?_)
                    have q1001 : 0 ≤ x999.toInt ∧ x999.toInt ≤ 5 := by rw [e1000]; exact hI.1 105 _
                    have e1002 : x999 = (evOf h).2.2.2.1 (0 : Int32).toNatClampNeg := by rw [e1000]; exact congrFun (congrArg (fun q : EV => q.2.2.2.1) hE) _
                    refine R_iload_n (k := 1) rfl rfl rfl ?_
                    have b1003 := i_rng a0
                    refine R_callV (v := .inr (.inr (.inl 96))) (As := [.inl x999, .inl a0]) (rest := []) rfl mt_9_i271 pp_X9_doesRest (by decide) rfl rfl rfl (Nat.le_of_ble_eq_true rfl) (Nat.le_of_ble_eq_true rfl) ((g_X9_doesRest h861 hI x999 a0 (by omega) (by omega)).mono (fun r1004 h1005 p1006 => ?_))
                    obtain ⟨rfl, x1008, rfl, (q1009 | q1009 | q1009), zq1007, -⟩ := p1006
                    · rw [hE] at zq1007
                      show RUN d_X9_goSecond 115 [(3, .inl x863), (0, .inr (.inr (.inl 96))), (1, .inl a0), (2, .inl a1)] [.inl x1008] h861 _
                      refine N_if_ne (a := x1008.toInt) 164 rfl rfl rfl (fun c1010 => ?_) (fun c1010 => ?_)
                      · exfalso; omega
                      · refine R_aload_n (k := 0) rfl rfl rfl ?_
                        refine R_getf_r (j := 24) rfl ft_9_52 sh_96 rfl ?_
                        refine R_iconst 0 rfl rfl ?_
                        refine R_iald rfl sh_109 (by decide) ?_
                        refine N_eq (fun x1011 e1012 => ?_)
                        have e1013 : x1011 = ((zMid (evOf h) a0 a1 (kyOf h)).2.2.1) (0 : Int32).toNatClampNeg := by rw [e1012]; exact (ky_at109 (by decide)).trans (congrFun (congrArg (fun q : KY => q.2.2.1) hK) _)
                        refine N_if_le (a := x1011.toInt) 164 rfl rfl rfl (fun c1014 => ?_) (fun c1014 => ?_)
                        · have hK : kyOf h861 = zTake (evOf h) a0 (zMid (evOf h) a0 a1 (kyOf h)) := by
                            refine hK.trans ?_
                            subst e1013 e1002 e899 e896
                            simp only [zTake, zTake1, eMany, eLine, eFull]
                            (repeat' split) <;> first | rfl | (exfalso; omega)
                          refine R_iconst 0 rfl rfl ?_
                          refine R_istore_n (k := 3) rfl [(3, .inl 0), (0, .inr (.inr (.inl 96))), (1, .inl a0), (2, .inl a1)] rfl rfl (by decide) ?_
                          have lp1016 : ∀ (n1015 : Nat) (h1017 : PH) (x1019 : Int32), INV h1017 → FR [96, 107, 108, 109, 117, 118] h h1017 → FR [107] h861 h1017 → 0 ≤ x1019.toInt ∧ x1019.toInt ≤ 6 → (kyOf h1017 = zHolds (evOf h) a0 x1019.toNatClampNeg (zTake (evOf h) a0 (zMid (evOf h) a0 a1 (kyOf h)))) → (evOf h1017 = evOf h) → (6 - x1019.toInt).toNat < n1015 → RUN d_X9_goSecond 166 [(3, .inl x1019), (0, .inr (.inr (.inl 96))), (1, .inl a0), (2, .inl a1)] [] h1017 (q_X9_goSecond h a0 a1) := by
                            intro n1015
                            induction n1015 with
                            | zero => intro h1017 x1019 m1021 m1022 m1023 m1024 m1025 m1026 hz; exact absurd hz (Nat.not_lt_zero _)
                            | succ n1015 ih1020 =>
                              intro h1017 x1019 hI fr fl1018 m1024 m1025 m1026 hz
                              have s1027 : (h1017.1 96 41).toInt = (h861.1 96 41).toInt := by rw [(fl1018 96 (by decide)).1]
                              have s1028 : (h1017.1 96 42).toInt = (h861.1 96 42).toInt := by rw [(fl1018 96 (by decide)).1]
                              have s1029 : (h1017.1 96 19).toInt = (h861.1 96 19).toInt := by rw [(fl1018 96 (by decide)).1]
                              have s1030 : (h1017.1 96 18).toInt = (h861.1 96 18).toInt := by rw [(fl1018 96 (by decide)).1]
                              have s1031 : (h1017.1 96 20).toInt = (h861.1 96 20).toInt := by rw [(fl1018 96 (by decide)).1]
                              have s1032 : (h1017.1 96 46).toInt = (h861.1 96 46).toInt := by rw [(fl1018 96 (by decide)).1]
                              have s1033 : (h1017.1 96 44).toInt = (h861.1 96 44).toInt := by rw [(fl1018 96 (by decide)).1]
                              have s1034 : (h1017.1 96 47).toInt = (h861.1 96 47).toInt := by rw [(fl1018 96 (by decide)).1]
                              have s1035 : (h1017.1 96 48).toInt = (h861.1 96 48).toInt := by rw [(fl1018 96 (by decide)).1]
                              have s1036 : (h1017.1 96 51).toInt = (h861.1 96 51).toInt := by rw [(fl1018 96 (by decide)).1]
                              have fl862 : FR [96, 107, 108, 109, 117, 118] h842 h1017 := fl862.trans fl1018 (by decide)
                              have fl820 : FR [96, 107, 108, 109, 117, 118] h803 h1017 := fl820.trans fl1018 (by decide)
                              have hE := m1026
                              have hK : kyOf h1017 = kyOf h1017 := rfl
                              refine R_iload_n (k := 3) rfl rfl rfl ?_
                              refine R_aload_n (k := 0) rfl rfl rfl ?_
                              refine R_getf_i (j := 18) rfl ft_9_253 sh_96 rfl ?_
                              refine N_icmp_ge (a := x1019.toInt) (b := (h1017.1 96 18).toInt) 224 rfl rfl rfl rfl (fun c1037 => ?_) (fun c1037 => ?_)
                              · have hF : kyOf h1017 = zSecond (evOf h) a0 a1 (kyOf h) := m1025.trans (by rw [show x1019 = eMany (evOf h) from i_of _ (by omega)]; rfl)
                                exact R_vret rfl rfl ⟨hI, fr, ⟨by omega, by omega, by omega, by omega, by omega, by omega, by omega, by omega, by omega, by omega, hF, hE, trivial⟩, rfl⟩
                              · refine R_aload_n (k := 0) rfl rfl rfl ?_
                                refine R_getf_r (j := 22) rfl ft_9_46 sh_96 rfl ?_
                                refine R_aload_n (k := 0) rfl rfl rfl ?_
                                refine R_getf_r (j := 17) rfl ft_9_40 sh_96 rfl ?_
                                refine R_iload_n (k := 3) rfl rfl rfl ?_
                                refine R_iald rfl sh_105 ⟨by omega, by omega⟩ ?_
                                refine N_eq (fun x1038 e1039 => ?_)
                                have q1040 : 0 ≤ x1038.toInt ∧ x1038.toInt ≤ 5 := by rw [e1039]; exact hI.1 105 _
                                have e1041 : x1038 = (evOf h).2.2.2.1 x1019.toNatClampNeg := by rw [e1039]; exact congrFun (congrArg (fun q : EV => q.2.2.2.1) hE) _
                                refine R_iald rfl sh_107 ⟨by omega, by omega⟩ ?_
                                refine N_eq (fun x1042 e1043 => ?_)
                                have e1044 : x1042 = ((kyOf h1017).1) x1038.toNatClampNeg := by rw [e1043]; exact (ky_at107 (nlt ⟨by omega, by omega⟩)).trans (congrFun (congrArg (fun q : KY => q.1) hK) _)
                                refine R_iconst (-1) rfl rfl ?_
                                refine N_icmp_eq (a := x1042.toInt) (b := (-1)) 218 rfl rfl rfl (by decide) (fun c1045 => ?_) (fun c1045 => ?_)
                                · refine N_iinc (a := x1019.toInt) (c := 1) (fun w => [(3, .inl w), (0, .inr (.inr (.inl 96))), (1, .inl a0), (2, .inl a1)]) rfl rfl (fun _ => rfl) (by decide) rfl (by decide) (by omega) (fun x1046 q1047 => ?_)
                                  refine R_goto 166 rfl rfl ?_
                                  exact RUN_weak (psub_cons rfl (psub_cons rfl (psub_cons rfl (psub_cons rfl (psub_nil _))))) (ih1020 h1017 x1046 hI fr fl1018 (by omega) (by rw [zHolds_s (x := x1019) (x' := x1046) (by omega) (by omega), ← m1025]; refine hK.trans ?_; subst e1044 e1041; simp only [zHold1, eLine]; (repeat' split) <;> first | rfl | (exfalso; omega)) (hE) (by omega))
                                · refine R_aload_n (k := 0) rfl rfl rfl ?_
                                  refine R_aload_n (k := 0) rfl rfl rfl ?_
                                  refine R_getf_r (j := 17) rfl ft_9_40 sh_96 rfl ?_
                                  refine R_iload_n (k := 3) rfl rfl rfl ?_
                                  refine R_iald rfl sh_105 ⟨by omega, by omega⟩ ?_
                                  refine N_eq (fun x1048 e1049 => ?_)
                                  have q1050 : 0 ≤ x1048.toInt ∧ x1048.toInt ≤ 5 := by rw [e1049]; exact hI.1 105 _
                                  have e1051 : x1048 = (evOf h).2.2.2.1 x1019.toNatClampNeg := by rw [e1049]; exact congrFun (congrArg (fun q : EV => q.2.2.2.1) hE) _
                                  refine R_iload_n (k := 1) rfl rfl rfl ?_
                                  have b1052 := i_rng a0
                                  refine R_callV (v := .inr (.inr (.inl 96))) (As := [.inl x1048, .inl a0]) (rest := []) rfl mt_9_i271 pp_X9_doesRest (by decide) rfl rfl rfl (Nat.le_of_ble_eq_true rfl) (Nat.le_of_ble_eq_true rfl) ((g_X9_doesRest h1017 hI x1048 a0 (by omega) (by omega)).mono (fun r1053 h1054 p1055 => ?_))
                                  obtain ⟨rfl, x1057, rfl, (q1058 | q1058 | q1058), zq1056, -⟩ := p1055
                                  · rw [hE] at zq1056
                                    show RUN d_X9_goSecond 200 [(3, .inl x1019), (0, .inr (.inr (.inl 96))), (1, .inl a0), (2, .inl a1)] [.inl x1057] h1017 _
                                    refine N_if_ne (a := x1057.toInt) 218 rfl rfl rfl (fun c1059 => ?_) (fun c1059 => ?_)
                                    · exfalso; omega
                                    · refine R_aload_n (k := 0) rfl rfl rfl ?_
                                      refine R_getf_r (j := 22) rfl ft_9_46 sh_96 rfl ?_
                                      refine R_aload_n (k := 0) rfl rfl rfl ?_
                                      refine R_getf_r (j := 17) rfl ft_9_40 sh_96 rfl ?_
                                      refine R_iload_n (k := 3) rfl rfl rfl ?_
                                      refine R_iald rfl sh_105 ⟨by omega, by omega⟩ ?_
                                      refine N_eq (fun x1060 e1061 => ?_)
                                      have q1062 : 0 ≤ x1060.toInt ∧ x1060.toInt ≤ 5 := by rw [e1061]; exact hI.1 105 _
                                      have e1063 : x1060 = (evOf h).2.2.2.1 x1019.toNatClampNeg := by rw [e1061]; exact congrFun (congrArg (fun q : EV => q.2.2.2.1) hE) _
                                      refine R_dup2 rfl ?_
                                      refine R_iald rfl sh_107 ⟨by omega, by omega⟩ ?_
                                      refine N_eq (fun x1064 e1065 => ?_)
                                      have e1066 : x1064 = ((kyOf h1017).1) x1060.toNatClampNeg := by rw [e1065]; exact (ky_at107 (nlt ⟨by omega, by omega⟩)).trans (congrFun (congrArg (fun q : KY => q.1) hK) _)
                                      refine R_iconst 1 rfl rfl ?_
                                      have b1067 := i_rng x1064
                                      refine R_iadd rfl ?_
                                      refine N_eq (fun x1068 e1069 => ?_)
                                      refine K_iast (a := x1060.toInt) (lo := (-2147483648)) (hi' := 2147483647) rfl sh_107 rfl ⟨by omega, by omega⟩ hI (by decide) rfl (i_rng _) fr (by decide) (fun h1070 g1071 hI fr => ?_)
                                      have fl1018 : FR [107] h861 h1070 := by rw [g1071]; exact FR_wI _ _ fl1018 (by decide)
                                      have fl862 : FR [96, 107, 108, 109, 117, 118] h842 h1070 := by rw [g1071]; exact FR_wI _ _ fl862 (by decide)
                                      have fl820 : FR [96, 107, 108, 109, 117, 118] h803 h1070 := by rw [g1071]; exact FR_wI _ _ fl820 (by decide)
                                      have s1072 : (h1070.1 96 41).toInt = (h1017.1 96 41).toInt := by rw [g1071, wI_ne _ _ _ (by decide)]
                                      have s1073 : (h1070.1 96 42).toInt = (h1017.1 96 42).toInt := by rw [g1071, wI_ne _ _ _ (by decide)]
                                      have s1074 : (h1070.1 96 19).toInt = (h1017.1 96 19).toInt := by rw [g1071, wI_ne _ _ _ (by decide)]
                                      have s1075 : (h1070.1 96 18).toInt = (h1017.1 96 18).toInt := by rw [g1071, wI_ne _ _ _ (by decide)]
                                      have s1076 : (h1070.1 96 20).toInt = (h1017.1 96 20).toInt := by rw [g1071, wI_ne _ _ _ (by decide)]
                                      have s1077 : (h1070.1 96 46).toInt = (h1017.1 96 46).toInt := by rw [g1071, wI_ne _ _ _ (by decide)]
                                      have s1078 : (h1070.1 96 44).toInt = (h1017.1 96 44).toInt := by rw [g1071, wI_ne _ _ _ (by decide)]
                                      have s1079 : (h1070.1 96 47).toInt = (h1017.1 96 47).toInt := by rw [g1071, wI_ne _ _ _ (by decide)]
                                      have s1080 : (h1070.1 96 48).toInt = (h1017.1 96 48).toInt := by rw [g1071, wI_ne _ _ _ (by decide)]
                                      have s1081 : (h1070.1 96 51).toInt = (h1017.1 96 51).toInt := by rw [g1071, wI_ne _ _ _ (by decide)]
                                      have hK : kyOf h1070 = (upd ((kyOf h1017).1) x1060.toNatClampNeg x1068, (kyOf h1017).2.1, (kyOf h1017).2.2.1, (kyOf h1017).2.2.2) := by rw [g1071, ky_107 (nlt ⟨by omega, by omega⟩), hK] <;> rfl
                                      have hE : evOf h1070 = evOf h := by rw [g1071, ev_o (by decide), hE]
                                      refine N_iinc (a := x1019.toInt) (c := 1) (fun w => [(3, .inl w), (0, .inr (.inr (.inl 96))), (1, .inl a0), (2, .inl a1)]) rfl rfl (fun _ => rfl) (by decide) rfl (by decide) (by omega) (fun x1082 q1083 => ?_)
                                      refine R_goto 166 rfl rfl ?_
                                      exact RUN_weak (psub_cons rfl (psub_cons rfl (psub_cons rfl (psub_cons rfl (psub_nil _))))) (ih1020 h1070 x1082 hI fr fl1018 (by omega) (by rw [zHolds_s (x := x1019) (x' := x1082) (by omega) (by omega), ← m1025]; refine hK.trans ?_; subst e1069 e1066 e1063 e1051 e1044 e1041; simp only [zHold1, eLine]; (repeat' split) <;> first | rfl | (exfalso; omega)) (hE) (by omega))
                                    rw [hE] at zq1056
                                  · exfalso; omega
                                    rw [hE] at zq1056
                                  · exfalso; omega
                          have k1084 : (0 : Int32).toInt = 0 := by decide
                          exact lp1016 _ h861 (0 : Int32) hI fr (FR.rf _ _) (by decide) (by rw [hK]; rfl) (hE) (Nat.lt_succ_self _)
                        · refine R_aload_n (k := 0) rfl rfl rfl ?_
                          refine R_getf_r (j := 24) rfl ft_9_52 sh_96 rfl ?_
                          refine R_iconst 0 rfl rfl ?_
                          refine R_dup2 rfl ?_
                          refine R_iald rfl sh_109 (by decide) ?_
                          refine N_eq (fun x1085 e1086 => ?_)
                          have e1087 : x1085 = ((zMid (evOf h) a0 a1 (kyOf h)).2.2.1) (0 : Int32).toNatClampNeg := by rw [e1086]; exact (ky_at109 (by decide)).trans (congrFun (congrArg (fun q : KY => q.2.2.1) hK) _)
                          refine R_iconst 1 rfl rfl ?_
                          have b1088 := i_rng x1085
                          refine R_isub rfl ?_
                          refine N_eq (fun x1089 e1090 => ?_)
                          refine K_iast (a := 0) (lo := (-2147483648)) (hi' := 2147483647) rfl sh_109 (by decide) (by decide) hI (by decide) rfl (i_rng _) fr (by decide) (fun h1091 g1092 hI fr => ?_)
                          have fl862 : FR [96, 107, 108, 109, 117, 118] h842 h1091 := by rw [g1092]; exact FR_wI _ _ fl862 (by decide)
                          have fl820 : FR [96, 107, 108, 109, 117, 118] h803 h1091 := by rw [g1092]; exact FR_wI _ _ fl820 (by decide)
                          have s1093 : (h1091.1 96 41).toInt = (h861.1 96 41).toInt := by rw [g1092, wI_ne _ _ _ (by decide)]
                          have s1094 : (h1091.1 96 42).toInt = (h861.1 96 42).toInt := by rw [g1092, wI_ne _ _ _ (by decide)]
                          have s1095 : (h1091.1 96 19).toInt = (h861.1 96 19).toInt := by rw [g1092, wI_ne _ _ _ (by decide)]
                          have s1096 : (h1091.1 96 18).toInt = (h861.1 96 18).toInt := by rw [g1092, wI_ne _ _ _ (by decide)]
                          have s1097 : (h1091.1 96 20).toInt = (h861.1 96 20).toInt := by rw [g1092, wI_ne _ _ _ (by decide)]
                          have s1098 : (h1091.1 96 46).toInt = (h861.1 96 46).toInt := by rw [g1092, wI_ne _ _ _ (by decide)]
                          have s1099 : (h1091.1 96 44).toInt = (h861.1 96 44).toInt := by rw [g1092, wI_ne _ _ _ (by decide)]
                          have s1100 : (h1091.1 96 47).toInt = (h861.1 96 47).toInt := by rw [g1092, wI_ne _ _ _ (by decide)]
                          have s1101 : (h1091.1 96 48).toInt = (h861.1 96 48).toInt := by rw [g1092, wI_ne _ _ _ (by decide)]
                          have s1102 : (h1091.1 96 51).toInt = (h861.1 96 51).toInt := by rw [g1092, wI_ne _ _ _ (by decide)]
                          have hK : kyOf h1091 = ((zMid (evOf h) a0 a1 (kyOf h)).1, (zMid (evOf h) a0 a1 (kyOf h)).2.1, upd ((zMid (evOf h) a0 a1 (kyOf h)).2.2.1) (0 : Int32).toNatClampNeg x1089, (zMid (evOf h) a0 a1 (kyOf h)).2.2.2) := by rw [g1092, ky_109 (by decide), hK] <;> rfl
                          have hE : evOf h1091 = evOf h := by rw [g1092, ev_o (by decide), hE]
                          refine R_aload_n (k := 0) rfl rfl rfl ?_
                          refine R_getf_r (j := 22) rfl ft_9_46 sh_96 rfl ?_
                          refine R_aload_n (k := 0) rfl rfl rfl ?_
                          refine R_getf_r (j := 17) rfl ft_9_40 sh_96 rfl ?_
                          refine R_iconst 0 rfl rfl ?_
                          refine R_iald rfl sh_105 (by decide) ?_
                          refine N_eq (fun x1103 e1104 => ?_)
                          have q1105 : 0 ≤ x1103.toInt ∧ x1103.toInt ≤ 5 := by rw [e1104]; exact hI.1 105 _
                          have e1106 : x1103 = (evOf h).2.2.2.1 (0 : Int32).toNatClampNeg := by rw [e1104]; exact congrFun (congrArg (fun q : EV => q.2.2.2.1) hE) _
                          refine R_iconst 0 rfl rfl ?_
                          refine K_iast (a := x1103.toInt) (lo := (-2147483648)) (hi' := 2147483647) rfl sh_107 rfl ⟨by omega, by omega⟩ hI (by decide) rfl (by decide) fr (by decide) (fun h1107 g1108 hI fr => ?_)
                          have fl862 : FR [96, 107, 108, 109, 117, 118] h842 h1107 := by rw [g1108]; exact FR_wI _ _ fl862 (by decide)
                          have fl820 : FR [96, 107, 108, 109, 117, 118] h803 h1107 := by rw [g1108]; exact FR_wI _ _ fl820 (by decide)
                          have s1109 : (h1107.1 96 41).toInt = (h1091.1 96 41).toInt := by rw [g1108, wI_ne _ _ _ (by decide)]
                          have s1110 : (h1107.1 96 42).toInt = (h1091.1 96 42).toInt := by rw [g1108, wI_ne _ _ _ (by decide)]
                          have s1111 : (h1107.1 96 19).toInt = (h1091.1 96 19).toInt := by rw [g1108, wI_ne _ _ _ (by decide)]
                          have s1112 : (h1107.1 96 18).toInt = (h1091.1 96 18).toInt := by rw [g1108, wI_ne _ _ _ (by decide)]
                          have s1113 : (h1107.1 96 20).toInt = (h1091.1 96 20).toInt := by rw [g1108, wI_ne _ _ _ (by decide)]
                          have s1114 : (h1107.1 96 46).toInt = (h1091.1 96 46).toInt := by rw [g1108, wI_ne _ _ _ (by decide)]
                          have s1115 : (h1107.1 96 44).toInt = (h1091.1 96 44).toInt := by rw [g1108, wI_ne _ _ _ (by decide)]
                          have s1116 : (h1107.1 96 47).toInt = (h1091.1 96 47).toInt := by rw [g1108, wI_ne _ _ _ (by decide)]
                          have s1117 : (h1107.1 96 48).toInt = (h1091.1 96 48).toInt := by rw [g1108, wI_ne _ _ _ (by decide)]
                          have s1118 : (h1107.1 96 51).toInt = (h1091.1 96 51).toInt := by rw [g1108, wI_ne _ _ _ (by decide)]
                          have hK : kyOf h1107 = (upd ((zMid (evOf h) a0 a1 (kyOf h)).1) x1103.toNatClampNeg (0), (zMid (evOf h) a0 a1 (kyOf h)).2.1, upd ((zMid (evOf h) a0 a1 (kyOf h)).2.2.1) (0 : Int32).toNatClampNeg x1089, (zMid (evOf h) a0 a1 (kyOf h)).2.2.2) := by rw [g1108, ky_107 (nlt ⟨by omega, by omega⟩), hK] <;> rfl
                          have hE : evOf h1107 = evOf h := by rw [g1108, ev_o (by decide), hE]
                          refine R_aload_n (k := 0) rfl rfl rfl ?_
                          refine R_getf_r (j := 23) rfl ft_9_49 sh_96 rfl ?_
                          refine R_aload_n (k := 0) rfl rfl rfl ?_
                          refine R_getf_r (j := 17) rfl ft_9_40 sh_96 rfl ?_
                          refine R_iconst 0 rfl rfl ?_
                          refine R_iald rfl sh_105 (by decide) ?_
                          refine N_eq (fun x1119 e1120 => ?_)
                          have q1121 : 0 ≤ x1119.toInt ∧ x1119.toInt ≤ 5 := by rw [e1120]; exact hI.1 105 _
                          have e1122 : x1119 = (evOf h).2.2.2.1 (0 : Int32).toNatClampNeg := by rw [e1120]; exact congrFun (congrArg (fun q : EV => q.2.2.2.1) hE) _
                          refine R_aload_n (k := 0) rfl rfl rfl ?_
                          refine R_getf_i (j := 20) rfl ft_9_259 sh_96 rfl ?_
                          refine N_eq (fun x1123 e1124 => ?_)
                          have e1125 : x1123 = (evOf h).2.2.2.2.2.1 := by rw [e1124]; exact congrArg (fun q : EV => q.2.2.2.2.2.1) hE
                          refine K_iast (a := x1119.toInt) (lo := (-2147483648)) (hi' := 2147483647) rfl sh_108 rfl ⟨by omega, by omega⟩ hI (by decide) rfl (i_rng _) fr (by decide) (fun h1126 g1127 hI fr => ?_)
                          have fl862 : FR [96, 107, 108, 109, 117, 118] h842 h1126 := by rw [g1127]; exact FR_wI _ _ fl862 (by decide)
                          have fl820 : FR [96, 107, 108, 109, 117, 118] h803 h1126 := by rw [g1127]; exact FR_wI _ _ fl820 (by decide)
                          have s1128 : (h1126.1 96 41).toInt = (h1107.1 96 41).toInt := by rw [g1127, wI_ne _ _ _ (by decide)]
                          have s1129 : (h1126.1 96 42).toInt = (h1107.1 96 42).toInt := by rw [g1127, wI_ne _ _ _ (by decide)]
                          have s1130 : (h1126.1 96 19).toInt = (h1107.1 96 19).toInt := by rw [g1127, wI_ne _ _ _ (by decide)]
                          have s1131 : (h1126.1 96 18).toInt = (h1107.1 96 18).toInt := by rw [g1127, wI_ne _ _ _ (by decide)]
                          have s1132 : (h1126.1 96 20).toInt = (h1107.1 96 20).toInt := by rw [g1127, wI_ne _ _ _ (by decide)]
                          have s1133 : (h1126.1 96 46).toInt = (h1107.1 96 46).toInt := by rw [g1127, wI_ne _ _ _ (by decide)]
                          have s1134 : (h1126.1 96 44).toInt = (h1107.1 96 44).toInt := by rw [g1127, wI_ne _ _ _ (by decide)]
                          have s1135 : (h1126.1 96 47).toInt = (h1107.1 96 47).toInt := by rw [g1127, wI_ne _ _ _ (by decide)]
                          have s1136 : (h1126.1 96 48).toInt = (h1107.1 96 48).toInt := by rw [g1127, wI_ne _ _ _ (by decide)]
                          have s1137 : (h1126.1 96 51).toInt = (h1107.1 96 51).toInt := by rw [g1127, wI_ne _ _ _ (by decide)]
                          have hK : kyOf h1126 = (upd ((zMid (evOf h) a0 a1 (kyOf h)).1) x1103.toNatClampNeg (0), upd ((zMid (evOf h) a0 a1 (kyOf h)).2.1) x1119.toNatClampNeg x1123, upd ((zMid (evOf h) a0 a1 (kyOf h)).2.2.1) (0 : Int32).toNatClampNeg x1089, (zMid (evOf h) a0 a1 (kyOf h)).2.2.2) := by rw [g1127, ky_108 (nlt ⟨by omega, by omega⟩), hK] <;> rfl
                          have hE : evOf h1126 = evOf h := by rw [g1127, ev_o (by decide), hE]
                          have hK : kyOf h1126 = zTake (evOf h) a0 (zMid (evOf h) a0 a1 (kyOf h)) := by
                            refine hK.trans ?_
                            subst e1125 e1122 e1106 e1090 e1087 e1013 e1002 e899 e896
                            simp only [zTake, zTake1, eMany, eLine, eFull]
                            (repeat' split) <;> first | rfl | (exfalso; omega)
                          refine R_iconst 0 rfl rfl ?_
                          refine R_istore_n (k := 3) rfl [(3, .inl 0), (0, .inr (.inr (.inl 96))), (1, .inl a0), (2, .inl a1)] rfl rfl (by decide) ?_
                          have lp1139 : ∀ (n1138 : Nat) (h1140 : PH) (x1142 : Int32), INV h1140 → FR [96, 107, 108, 109, 117, 118] h h1140 → FR [107] h1126 h1140 → 0 ≤ x1142.toInt ∧ x1142.toInt ≤ 6 → (kyOf h1140 = zHolds (evOf h) a0 x1142.toNatClampNeg (zTake (evOf h) a0 (zMid (evOf h) a0 a1 (kyOf h)))) → (evOf h1140 = evOf h) → (6 - x1142.toInt).toNat < n1138 → RUN d_X9_goSecond 166 [(3, .inl x1142), (0, .inr (.inr (.inl 96))), (1, .inl a0), (2, .inl a1)] [] h1140 (q_X9_goSecond h a0 a1) := by
                            intro n1138
                            induction n1138 with
                            | zero => intro h1140 x1142 m1144 m1145 m1146 m1147 m1148 m1149 hz; exact absurd hz (Nat.not_lt_zero _)
                            | succ n1138 ih1143 =>
                              intro h1140 x1142 hI fr fl1141 m1147 m1148 m1149 hz
                              have s1150 : (h1140.1 96 41).toInt = (h1126.1 96 41).toInt := by rw [(fl1141 96 (by decide)).1]
                              have s1151 : (h1140.1 96 42).toInt = (h1126.1 96 42).toInt := by rw [(fl1141 96 (by decide)).1]
                              have s1152 : (h1140.1 96 19).toInt = (h1126.1 96 19).toInt := by rw [(fl1141 96 (by decide)).1]
                              have s1153 : (h1140.1 96 18).toInt = (h1126.1 96 18).toInt := by rw [(fl1141 96 (by decide)).1]
                              have s1154 : (h1140.1 96 20).toInt = (h1126.1 96 20).toInt := by rw [(fl1141 96 (by decide)).1]
                              have s1155 : (h1140.1 96 46).toInt = (h1126.1 96 46).toInt := by rw [(fl1141 96 (by decide)).1]
                              have s1156 : (h1140.1 96 44).toInt = (h1126.1 96 44).toInt := by rw [(fl1141 96 (by decide)).1]
                              have s1157 : (h1140.1 96 47).toInt = (h1126.1 96 47).toInt := by rw [(fl1141 96 (by decide)).1]
                              have s1158 : (h1140.1 96 48).toInt = (h1126.1 96 48).toInt := by rw [(fl1141 96 (by decide)).1]
                              have s1159 : (h1140.1 96 51).toInt = (h1126.1 96 51).toInt := by rw [(fl1141 96 (by decide)).1]
                              have fl862 : FR [96, 107, 108, 109, 117, 118] h842 h1140 := fl862.trans fl1141 (by decide)
                              have fl820 : FR [96, 107, 108, 109, 117, 118] h803 h1140 := fl820.trans fl1141 (by decide)
                              have hE := m1149
                              have hK : kyOf h1140 = kyOf h1140 := rfl
                              refine R_iload_n (k := 3) rfl rfl rfl ?_
                              refine R_aload_n (k := 0) rfl rfl rfl ?_
                              refine R_getf_i (j := 18) rfl ft_9_253 sh_96 rfl ?_
                              refine N_icmp_ge (a := x1142.toInt) (b := (h1140.1 96 18).toInt) 224 rfl rfl rfl rfl (fun c1160 => ?_) (fun c1160 => ?_)
                              · have hF : kyOf h1140 = zSecond (evOf h) a0 a1 (kyOf h) := m1148.trans (by rw [show x1142 = eMany (evOf h) from i_of _ (by omega)]; rfl)
                                exact R_vret rfl rfl ⟨hI, fr, ⟨by omega, by omega, by omega, by omega, by omega, by omega, by omega, by omega, by omega, by omega, hF, hE, trivial⟩, rfl⟩
                              · refine R_aload_n (k := 0) rfl rfl rfl ?_
                                refine R_getf_r (j := 22) rfl ft_9_46 sh_96 rfl ?_
                                refine R_aload_n (k := 0) rfl rfl rfl ?_
                                refine R_getf_r (j := 17) rfl ft_9_40 sh_96 rfl ?_
                                refine R_iload_n (k := 3) rfl rfl rfl ?_
                                refine R_iald rfl sh_105 ⟨by omega, by omega⟩ ?_
                                refine N_eq (fun x1161 e1162 => ?_)
                                have q1163 : 0 ≤ x1161.toInt ∧ x1161.toInt ≤ 5 := by rw [e1162]; exact hI.1 105 _
                                have e1164 : x1161 = (evOf h).2.2.2.1 x1142.toNatClampNeg := by rw [e1162]; exact congrFun (congrArg (fun q : EV => q.2.2.2.1) hE) _
                                refine R_iald rfl sh_107 ⟨by omega, by omega⟩ ?_
                                refine N_eq (fun x1165 e1166 => ?_)
                                have e1167 : x1165 = ((kyOf h1140).1) x1161.toNatClampNeg := by rw [e1166]; exact (ky_at107 (nlt ⟨by omega, by omega⟩)).trans (congrFun (congrArg (fun q : KY => q.1) hK) _)
                                refine R_iconst (-1) rfl rfl ?_
                                refine N_icmp_eq (a := x1165.toInt) (b := (-1)) 218 rfl rfl rfl (by decide) (fun c1168 => ?_) (fun c1168 => ?_)
                                · refine N_iinc (a := x1142.toInt) (c := 1) (fun w => [(3, .inl w), (0, .inr (.inr (.inl 96))), (1, .inl a0), (2, .inl a1)]) rfl rfl (fun _ => rfl) (by decide) rfl (by decide) (by omega) (fun x1169 q1170 => ?_)
                                  refine R_goto 166 rfl rfl ?_
                                  exact RUN_weak (psub_cons rfl (psub_cons rfl (psub_cons rfl (psub_cons rfl (psub_nil _))))) (ih1143 h1140 x1169 hI fr fl1141 (by omega) (by rw [zHolds_s (x := x1142) (x' := x1169) (by omega) (by omega), ← m1148]; refine hK.trans ?_; subst e1167 e1164; simp only [zHold1, eLine]; (repeat' split) <;> first | rfl | (exfalso; omega)) (hE) (by omega))
                                · refine R_aload_n (k := 0) rfl rfl rfl ?_
                                  refine R_aload_n (k := 0) rfl rfl rfl ?_
                                  refine R_getf_r (j := 17) rfl ft_9_40 sh_96 rfl ?_
                                  refine R_iload_n (k := 3) rfl rfl rfl ?_
                                  refine R_iald rfl sh_105 ⟨by omega, by omega⟩ ?_
                                  refine N_eq (fun x1171 e1172 => ?_)
                                  have q1173 : 0 ≤ x1171.toInt ∧ x1171.toInt ≤ 5 := by rw [e1172]; exact hI.1 105 _
                                  have e1174 : x1171 = (evOf h).2.2.2.1 x1142.toNatClampNeg := by rw [e1172]; exact congrFun (congrArg (fun q : EV => q.2.2.2.1) hE) _
                                  refine R_iload_n (k := 1) rfl rfl rfl ?_
                                  have b1175 := i_rng a0
                                  refine R_callV (v := .inr (.inr (.inl 96))) (As := [.inl x1171, .inl a0]) (rest := []) rfl mt_9_i271 pp_X9_doesRest (by decide) rfl rfl rfl (Nat.le_of_ble_eq_true rfl) (Nat.le_of_ble_eq_true rfl) ((g_X9_doesRest h1140 hI x1171 a0 (by omega) (by omega)).mono (fun r1176 h1177 p1178 => ?_))
                                  obtain ⟨rfl, x1180, rfl, (q1181 | q1181 | q1181), zq1179, -⟩ := p1178
                                  · rw [hE] at zq1179
                                    show RUN d_X9_goSecond 200 [(3, .inl x1142), (0, .inr (.inr (.inl 96))), (1, .inl a0), (2, .inl a1)] [.inl x1180] h1140 _
                                    refine N_if_ne (a := x1180.toInt) 218 rfl rfl rfl (fun c1182 => ?_) (fun c1182 => ?_)
                                    · exfalso; omega
                                    · refine R_aload_n (k := 0) rfl rfl rfl ?_
                                      refine R_getf_r (j := 22) rfl ft_9_46 sh_96 rfl ?_
                                      refine R_aload_n (k := 0) rfl rfl rfl ?_
                                      refine R_getf_r (j := 17) rfl ft_9_40 sh_96 rfl ?_
                                      refine R_iload_n (k := 3) rfl rfl rfl ?_
                                      refine R_iald rfl sh_105 ⟨by omega, by omega⟩ ?_
                                      refine N_eq (fun x1183 e1184 => ?_)
                                      have q1185 : 0 ≤ x1183.toInt ∧ x1183.toInt ≤ 5 := by rw [e1184]; exact hI.1 105 _
                                      have e1186 : x1183 = (evOf h).2.2.2.1 x1142.toNatClampNeg := by rw [e1184]; exact congrFun (congrArg (fun q : EV => q.2.2.2.1) hE) _
                                      refine R_dup2 rfl ?_
                                      refine R_iald rfl sh_107 ⟨by omega, by omega⟩ ?_
                                      refine N_eq (fun x1187 e1188 => ?_)
                                      have e1189 : x1187 = ((kyOf h1140).1) x1183.toNatClampNeg := by rw [e1188]; exact (ky_at107 (nlt ⟨by omega, by omega⟩)).trans (congrFun (congrArg (fun q : KY => q.1) hK) _)
                                      refine R_iconst 1 rfl rfl ?_
                                      have b1190 := i_rng x1187
                                      refine R_iadd rfl ?_
                                      refine N_eq (fun x1191 e1192 => ?_)
                                      refine K_iast (a := x1183.toInt) (lo := (-2147483648)) (hi' := 2147483647) rfl sh_107 rfl ⟨by omega, by omega⟩ hI (by decide) rfl (i_rng _) fr (by decide) (fun h1193 g1194 hI fr => ?_)
                                      have fl1141 : FR [107] h1126 h1193 := by rw [g1194]; exact FR_wI _ _ fl1141 (by decide)
                                      have fl862 : FR [96, 107, 108, 109, 117, 118] h842 h1193 := by rw [g1194]; exact FR_wI _ _ fl862 (by decide)
                                      have fl820 : FR [96, 107, 108, 109, 117, 118] h803 h1193 := by rw [g1194]; exact FR_wI _ _ fl820 (by decide)
                                      have s1195 : (h1193.1 96 41).toInt = (h1140.1 96 41).toInt := by rw [g1194, wI_ne _ _ _ (by decide)]
                                      have s1196 : (h1193.1 96 42).toInt = (h1140.1 96 42).toInt := by rw [g1194, wI_ne _ _ _ (by decide)]
                                      have s1197 : (h1193.1 96 19).toInt = (h1140.1 96 19).toInt := by rw [g1194, wI_ne _ _ _ (by decide)]
                                      have s1198 : (h1193.1 96 18).toInt = (h1140.1 96 18).toInt := by rw [g1194, wI_ne _ _ _ (by decide)]
                                      have s1199 : (h1193.1 96 20).toInt = (h1140.1 96 20).toInt := by rw [g1194, wI_ne _ _ _ (by decide)]
                                      have s1200 : (h1193.1 96 46).toInt = (h1140.1 96 46).toInt := by rw [g1194, wI_ne _ _ _ (by decide)]
                                      have s1201 : (h1193.1 96 44).toInt = (h1140.1 96 44).toInt := by rw [g1194, wI_ne _ _ _ (by decide)]
                                      have s1202 : (h1193.1 96 47).toInt = (h1140.1 96 47).toInt := by rw [g1194, wI_ne _ _ _ (by decide)]
                                      have s1203 : (h1193.1 96 48).toInt = (h1140.1 96 48).toInt := by rw [g1194, wI_ne _ _ _ (by decide)]
                                      have s1204 : (h1193.1 96 51).toInt = (h1140.1 96 51).toInt := by rw [g1194, wI_ne _ _ _ (by decide)]
                                      have hK : kyOf h1193 = (upd ((kyOf h1140).1) x1183.toNatClampNeg x1191, (kyOf h1140).2.1, (kyOf h1140).2.2.1, (kyOf h1140).2.2.2) := by rw [g1194, ky_107 (nlt ⟨by omega, by omega⟩), hK] <;> rfl
                                      have hE : evOf h1193 = evOf h := by rw [g1194, ev_o (by decide), hE]
                                      refine N_iinc (a := x1142.toInt) (c := 1) (fun w => [(3, .inl w), (0, .inr (.inr (.inl 96))), (1, .inl a0), (2, .inl a1)]) rfl rfl (fun _ => rfl) (by decide) rfl (by decide) (by omega) (fun x1205 q1206 => ?_)
                                      refine R_goto 166 rfl rfl ?_
                                      exact RUN_weak (psub_cons rfl (psub_cons rfl (psub_cons rfl (psub_cons rfl (psub_nil _))))) (ih1143 h1193 x1205 hI fr fl1141 (by omega) (by rw [zHolds_s (x := x1142) (x' := x1205) (by omega) (by omega), ← m1148]; refine hK.trans ?_; subst e1192 e1189 e1186 e1174 e1167 e1164; simp only [zHold1, eLine]; (repeat' split) <;> first | rfl | (exfalso; omega)) (hE) (by omega))
                                    rw [hE] at zq1179
                                  · exfalso; omega
                                    rw [hE] at zq1179
                                  · exfalso; omega
                          have k1207 : (0 : Int32).toInt = 0 := by decide
                          exact lp1139 _ h1126 (0 : Int32) hI fr (FR.rf _ _) (by decide) (by rw [hK]; rfl) (hE) (Nat.lt_succ_self _)
                    · rw [hE] at zq1007
                      show RUN d_X9_goSecond 115 [(3, .inl x863), (0, .inr (.inr (.inl 96))), (1, .inl a0), (2, .inl a1)] [.inl x1008] h861 _
                      refine N_if_ne (a := x1008.toInt) 164 rfl rfl rfl (fun c1208 => ?_) (fun c1208 => ?_)
                      · exfalso; omega
                      · refine R_aload_n (k := 0) rfl rfl rfl ?_
                        refine R_getf_r (j := 24) rfl ft_9_52 sh_96 rfl ?_
                        refine R_iconst 0 rfl rfl ?_
                        refine R_iald rfl sh_109 (by decide) ?_
                        refine N_eq (fun x1209 e1210 => ?_)
                        have e1211 : x1209 = ((zMid (evOf h) a0 a1 (kyOf h)).2.2.1) (0 : Int32).toNatClampNeg := by rw [e1210]; exact (ky_at109 (by decide)).trans (congrFun (congrArg (fun q : KY => q.2.2.1) hK) _)
                        refine N_if_le (a := x1209.toInt) 164 rfl rfl rfl (fun c1212 => ?_) (fun c1212 => ?_)
                        · have hK : kyOf h861 = zTake (evOf h) a0 (zMid (evOf h) a0 a1 (kyOf h)) := by
                            refine hK.trans ?_
                            subst e1211 e1002 e899 e896
                            simp only [zTake, zTake1, eMany, eLine, eFull]
                            (repeat' split) <;> first | rfl | (exfalso; omega)
                          refine R_iconst 0 rfl rfl ?_
                          refine R_istore_n (k := 3) rfl [(3, .inl 0), (0, .inr (.inr (.inl 96))), (1, .inl a0), (2, .inl a1)] rfl rfl (by decide) ?_
                          have lp1214 : ∀ (n1213 : Nat) (h1215 : PH) (x1217 : Int32), INV h1215 → FR [96, 107, 108, 109, 117, 118] h h1215 → FR [107] h861 h1215 → 0 ≤ x1217.toInt ∧ x1217.toInt ≤ 6 → (kyOf h1215 = zHolds (evOf h) a0 x1217.toNatClampNeg (zTake (evOf h) a0 (zMid (evOf h) a0 a1 (kyOf h)))) → (evOf h1215 = evOf h) → (6 - x1217.toInt).toNat < n1213 → RUN d_X9_goSecond 166 [(3, .inl x1217), (0, .inr (.inr (.inl 96))), (1, .inl a0), (2, .inl a1)] [] h1215 (q_X9_goSecond h a0 a1) := by
                            intro n1213
                            induction n1213 with
                            | zero => intro h1215 x1217 m1219 m1220 m1221 m1222 m1223 m1224 hz; exact absurd hz (Nat.not_lt_zero _)
                            | succ n1213 ih1218 =>
                              intro h1215 x1217 hI fr fl1216 m1222 m1223 m1224 hz
                              have s1225 : (h1215.1 96 41).toInt = (h861.1 96 41).toInt := by rw [(fl1216 96 (by decide)).1]
                              have s1226 : (h1215.1 96 42).toInt = (h861.1 96 42).toInt := by rw [(fl1216 96 (by decide)).1]
                              have s1227 : (h1215.1 96 19).toInt = (h861.1 96 19).toInt := by rw [(fl1216 96 (by decide)).1]
                              have s1228 : (h1215.1 96 18).toInt = (h861.1 96 18).toInt := by rw [(fl1216 96 (by decide)).1]
                              have s1229 : (h1215.1 96 20).toInt = (h861.1 96 20).toInt := by rw [(fl1216 96 (by decide)).1]
                              have s1230 : (h1215.1 96 46).toInt = (h861.1 96 46).toInt := by rw [(fl1216 96 (by decide)).1]
                              have s1231 : (h1215.1 96 44).toInt = (h861.1 96 44).toInt := by rw [(fl1216 96 (by decide)).1]
                              have s1232 : (h1215.1 96 47).toInt = (h861.1 96 47).toInt := by rw [(fl1216 96 (by decide)).1]
                              have s1233 : (h1215.1 96 48).toInt = (h861.1 96 48).toInt := by rw [(fl1216 96 (by decide)).1]
                              have s1234 : (h1215.1 96 51).toInt = (h861.1 96 51).toInt := by rw [(fl1216 96 (by decide)).1]
                              have fl862 : FR [96, 107, 108, 109, 117, 118] h842 h1215 := fl862.trans fl1216 (by decide)
                              have fl820 : FR [96, 107, 108, 109, 117, 118] h803 h1215 := fl820.trans fl1216 (by decide)
                              have hE := m1224
                              have hK : kyOf h1215 = kyOf h1215 := rfl
                              refine R_iload_n (k := 3) rfl rfl rfl ?_
                              refine R_aload_n (k := 0) rfl rfl rfl ?_
                              refine R_getf_i (j := 18) rfl ft_9_253 sh_96 rfl ?_
                              refine N_icmp_ge (a := x1217.toInt) (b := (h1215.1 96 18).toInt) 224 rfl rfl rfl rfl (fun c1235 => ?_) (fun c1235 => ?_)
                              · have hF : kyOf h1215 = zSecond (evOf h) a0 a1 (kyOf h) := m1223.trans (by rw [show x1217 = eMany (evOf h) from i_of _ (by omega)]; rfl)
                                exact R_vret rfl rfl ⟨hI, fr, ⟨by omega, by omega, by omega, by omega, by omega, by omega, by omega, by omega, by omega, by omega, hF, hE, trivial⟩, rfl⟩
                              · refine R_aload_n (k := 0) rfl rfl rfl ?_
                                refine R_getf_r (j := 22) rfl ft_9_46 sh_96 rfl ?_
                                refine R_aload_n (k := 0) rfl rfl rfl ?_
                                refine R_getf_r (j := 17) rfl ft_9_40 sh_96 rfl ?_
                                refine R_iload_n (k := 3) rfl rfl rfl ?_
                                refine R_iald rfl sh_105 ⟨by omega, by omega⟩ ?_
                                refine N_eq (fun x1236 e1237 => ?_)
                                have q1238 : 0 ≤ x1236.toInt ∧ x1236.toInt ≤ 5 := by rw [e1237]; exact hI.1 105 _
                                have e1239 : x1236 = (evOf h).2.2.2.1 x1217.toNatClampNeg := by rw [e1237]; exact congrFun (congrArg (fun q : EV => q.2.2.2.1) hE) _
                                refine R_iald rfl sh_107 ⟨by omega, by omega⟩ ?_
                                refine N_eq (fun x1240 e1241 => ?_)
                                have e1242 : x1240 = ((kyOf h1215).1) x1236.toNatClampNeg := by rw [e1241]; exact (ky_at107 (nlt ⟨by omega, by omega⟩)).trans (congrFun (congrArg (fun q : KY => q.1) hK) _)
                                refine R_iconst (-1) rfl rfl ?_
                                refine N_icmp_eq (a := x1240.toInt) (b := (-1)) 218 rfl rfl rfl (by decide) (fun c1243 => ?_) (fun c1243 => ?_)
                                · refine N_iinc (a := x1217.toInt) (c := 1) (fun w => [(3, .inl w), (0, .inr (.inr (.inl 96))), (1, .inl a0), (2, .inl a1)]) rfl rfl (fun _ => rfl) (by decide) rfl (by decide) (by omega) (fun x1244 q1245 => ?_)
                                  refine R_goto 166 rfl rfl ?_
                                  exact RUN_weak (psub_cons rfl (psub_cons rfl (psub_cons rfl (psub_cons rfl (psub_nil _))))) (ih1218 h1215 x1244 hI fr fl1216 (by omega) (by rw [zHolds_s (x := x1217) (x' := x1244) (by omega) (by omega), ← m1223]; refine hK.trans ?_; subst e1242 e1239; simp only [zHold1, eLine]; (repeat' split) <;> first | rfl | (exfalso; omega)) (hE) (by omega))
                                · refine R_aload_n (k := 0) rfl rfl rfl ?_
                                  refine R_aload_n (k := 0) rfl rfl rfl ?_
                                  refine R_getf_r (j := 17) rfl ft_9_40 sh_96 rfl ?_
                                  refine R_iload_n (k := 3) rfl rfl rfl ?_
                                  refine R_iald rfl sh_105 ⟨by omega, by omega⟩ ?_
                                  refine N_eq (fun x1246 e1247 => ?_)
                                  have q1248 : 0 ≤ x1246.toInt ∧ x1246.toInt ≤ 5 := by rw [e1247]; exact hI.1 105 _
                                  have e1249 : x1246 = (evOf h).2.2.2.1 x1217.toNatClampNeg := by rw [e1247]; exact congrFun (congrArg (fun q : EV => q.2.2.2.1) hE) _
                                  refine R_iload_n (k := 1) rfl rfl rfl ?_
                                  refine R_callV (v := .inr (.inr (.inl 96))) (As := [.inl x1246, .inl a0]) (rest := []) rfl mt_9_i271 pp_X9_doesRest (by decide) rfl rfl rfl (Nat.le_of_ble_eq_true rfl) (Nat.le_of_ble_eq_true rfl) ((g_X9_doesRest h1215 hI x1246 a0 (by omega) (by omega)).mono (fun r1250 h1251 p1252 => ?_))
                                  obtain ⟨rfl, x1254, rfl, (q1255 | q1255 | q1255), zq1253, -⟩ := p1252
                                    rw [hE] at zq1253
                                  · exfalso; omega
                                  · rw [hE] at zq1253
                                    show RUN d_X9_goSecond 200 [(3, .inl x1217), (0, .inr (.inr (.inl 96))), (1, .inl a0), (2, .inl a1)] [.inl x1254] h1215 _
                                    refine N_if_ne (a := x1254.toInt) 218 rfl rfl rfl (fun c1256 => ?_) (fun c1256 => ?_)
                                    · exfalso; omega
                                    · refine R_aload_n (k := 0) rfl rfl rfl ?_
                                      refine R_getf_r (j := 22) rfl ft_9_46 sh_96 rfl ?_
                                      refine R_aload_n (k := 0) rfl rfl rfl ?_
                                      refine R_getf_r (j := 17) rfl ft_9_40 sh_96 rfl ?_
                                      refine R_iload_n (k := 3) rfl rfl rfl ?_
                                      refine R_iald rfl sh_105 ⟨by omega, by omega⟩ ?_
                                      refine N_eq (fun x1257 e1258 => ?_)
                                      have q1259 : 0 ≤ x1257.toInt ∧ x1257.toInt ≤ 5 := by rw [e1258]; exact hI.1 105 _
                                      have e1260 : x1257 = (evOf h).2.2.2.1 x1217.toNatClampNeg := by rw [e1258]; exact congrFun (congrArg (fun q : EV => q.2.2.2.1) hE) _
                                      refine R_dup2 rfl ?_
                                      refine R_iald rfl sh_107 ⟨by omega, by omega⟩ ?_
                                      refine N_eq (fun x1261 e1262 => ?_)
                                      have e1263 : x1261 = ((kyOf h1215).1) x1257.toNatClampNeg := by rw [e1262]; exact (ky_at107 (nlt ⟨by omega, by omega⟩)).trans (congrFun (congrArg (fun q : KY => q.1) hK) _)
                                      refine R_iconst 1 rfl rfl ?_
                                      have b1264 := i_rng x1261
                                      refine R_iadd rfl ?_
                                      refine N_eq (fun x1265 e1266 => ?_)
                                      refine K_iast (a := x1257.toInt) (lo := (-2147483648)) (hi' := 2147483647) rfl sh_107 rfl ⟨by omega, by omega⟩ hI (by decide) rfl (i_rng _) fr (by decide) (fun h1267 g1268 hI fr => ?_)
                                      have fl1216 : FR [107] h861 h1267 := by rw [g1268]; exact FR_wI _ _ fl1216 (by decide)
                                      have fl862 : FR [96, 107, 108, 109, 117, 118] h842 h1267 := by rw [g1268]; exact FR_wI _ _ fl862 (by decide)
                                      have fl820 : FR [96, 107, 108, 109, 117, 118] h803 h1267 := by rw [g1268]; exact FR_wI _ _ fl820 (by decide)
                                      have s1269 : (h1267.1 96 41).toInt = (h1215.1 96 41).toInt := by rw [g1268, wI_ne _ _ _ (by decide)]
                                      have s1270 : (h1267.1 96 42).toInt = (h1215.1 96 42).toInt := by rw [g1268, wI_ne _ _ _ (by decide)]
                                      have s1271 : (h1267.1 96 19).toInt = (h1215.1 96 19).toInt := by rw [g1268, wI_ne _ _ _ (by decide)]
                                      have s1272 : (h1267.1 96 18).toInt = (h1215.1 96 18).toInt := by rw [g1268, wI_ne _ _ _ (by decide)]
                                      have s1273 : (h1267.1 96 20).toInt = (h1215.1 96 20).toInt := by rw [g1268, wI_ne _ _ _ (by decide)]
                                      have s1274 : (h1267.1 96 46).toInt = (h1215.1 96 46).toInt := by rw [g1268, wI_ne _ _ _ (by decide)]
                                      have s1275 : (h1267.1 96 44).toInt = (h1215.1 96 44).toInt := by rw [g1268, wI_ne _ _ _ (by decide)]
                                      have s1276 : (h1267.1 96 47).toInt = (h1215.1 96 47).toInt := by rw [g1268, wI_ne _ _ _ (by decide)]
                                      have s1277 : (h1267.1 96 48).toInt = (h1215.1 96 48).toInt := by rw [g1268, wI_ne _ _ _ (by decide)]
                                      have s1278 : (h1267.1 96 51).toInt = (h1215.1 96 51).toInt := by rw [g1268, wI_ne _ _ _ (by decide)]
                                      have hK : kyOf h1267 = (upd ((kyOf h1215).1) x1257.toNatClampNeg x1265, (kyOf h1215).2.1, (kyOf h1215).2.2.1, (kyOf h1215).2.2.2) := by rw [g1268, ky_107 (nlt ⟨by omega, by omega⟩), hK] <;> rfl
                                      have hE : evOf h1267 = evOf h := by rw [g1268, ev_o (by decide), hE]
                                      refine N_iinc (a := x1217.toInt) (c := 1) (fun w => [(3, .inl w), (0, .inr (.inr (.inl 96))), (1, .inl a0), (2, .inl a1)]) rfl rfl (fun _ => rfl) (by decide) rfl (by decide) (by omega) (fun x1279 q1280 => ?_)
                                      refine R_goto 166 rfl rfl ?_
                                      exact RUN_weak (psub_cons rfl (psub_cons rfl (psub_cons rfl (psub_cons rfl (psub_nil _))))) (ih1218 h1267 x1279 hI fr fl1216 (by omega) (by rw [zHolds_s (x := x1217) (x' := x1279) (by omega) (by omega), ← m1223]; refine hK.trans ?_; subst e1266 e1263 e1260 e1249 e1242 e1239; simp only [zHold1, eLine]; (repeat' split) <;> first | rfl | (exfalso; omega)) (hE) (by omega))
                                  · rw [hE] at zq1253
                                    show RUN d_X9_goSecond 200 [(3, .inl x1217), (0, .inr (.inr (.inl 96))), (1, .inl a0), (2, .inl a1)] [.inl x1254] h1215 _
                                    refine N_if_ne (a := x1254.toInt) 218 rfl rfl rfl (fun c1281 => ?_) (fun c1281 => ?_)
                                    · refine N_iinc (a := x1217.toInt) (c := 1) (fun w => [(3, .inl w), (0, .inr (.inr (.inl 96))), (1, .inl a0), (2, .inl a1)]) rfl rfl (fun _ => rfl) (by decide) rfl (by decide) (by omega) (fun x1282 q1283 => ?_)
                                      refine R_goto 166 rfl rfl ?_
                                      exact RUN_weak (psub_cons rfl (psub_cons rfl (psub_cons rfl (psub_cons rfl (psub_nil _))))) (ih1218 h1215 x1282 hI fr fl1216 (by omega) (by rw [zHolds_s (x := x1217) (x' := x1282) (by omega) (by omega), ← m1223]; refine hK.trans ?_; subst e1249 e1242 e1239; simp only [zHold1, eLine]; (repeat' split) <;> first | rfl | (exfalso; omega)) (hE) (by omega))
                                    · exfalso; omega
                          have k1284 : (0 : Int32).toInt = 0 := by decide
                          exact lp1214 _ h861 (0 : Int32) hI fr (FR.rf _ _) (by decide) (by rw [hK]; rfl) (hE) (Nat.lt_succ_self _)
                        · refine R_aload_n (k := 0) rfl rfl rfl ?_
                          refine R_getf_r (j := 24) rfl ft_9_52 sh_96 rfl ?_
                          refine R_iconst 0 rfl rfl ?_
                          refine R_dup2 rfl ?_
                          refine R_iald rfl sh_109 (by decide) ?_
                          refine N_eq (fun x1285 e1286 => ?_)
                          have e1287 : x1285 = ((zMid (evOf h) a0 a1 (kyOf h)).2.2.1) (0 : Int32).toNatClampNeg := by rw [e1286]; exact (ky_at109 (by decide)).trans (congrFun (congrArg (fun q : KY => q.2.2.1) hK) _)
                          refine R_iconst 1 rfl rfl ?_
                          have b1288 := i_rng x1285
                          refine R_isub rfl ?_
                          refine N_eq (fun x1289 e1290 => ?_)
                          refine K_iast (a := 0) (lo := (-2147483648)) (hi' := 2147483647) rfl sh_109 (by decide) (by decide) hI (by decide) rfl (i_rng _) fr (by decide) (fun h1291 g1292 hI fr => ?_)
                          have fl862 : FR [96, 107, 108, 109, 117, 118] h842 h1291 := by rw [g1292]; exact FR_wI _ _ fl862 (by decide)
                          have fl820 : FR [96, 107, 108, 109, 117, 118] h803 h1291 := by rw [g1292]; exact FR_wI _ _ fl820 (by decide)
                          have s1293 : (h1291.1 96 41).toInt = (h861.1 96 41).toInt := by rw [g1292, wI_ne _ _ _ (by decide)]
                          have s1294 : (h1291.1 96 42).toInt = (h861.1 96 42).toInt := by rw [g1292, wI_ne _ _ _ (by decide)]
                          have s1295 : (h1291.1 96 19).toInt = (h861.1 96 19).toInt := by rw [g1292, wI_ne _ _ _ (by decide)]
                          have s1296 : (h1291.1 96 18).toInt = (h861.1 96 18).toInt := by rw [g1292, wI_ne _ _ _ (by decide)]
                          have s1297 : (h1291.1 96 20).toInt = (h861.1 96 20).toInt := by rw [g1292, wI_ne _ _ _ (by decide)]
                          have s1298 : (h1291.1 96 46).toInt = (h861.1 96 46).toInt := by rw [g1292, wI_ne _ _ _ (by decide)]
                          have s1299 : (h1291.1 96 44).toInt = (h861.1 96 44).toInt := by rw [g1292, wI_ne _ _ _ (by decide)]
                          have s1300 : (h1291.1 96 47).toInt = (h861.1 96 47).toInt := by rw [g1292, wI_ne _ _ _ (by decide)]
                          have s1301 : (h1291.1 96 48).toInt = (h861.1 96 48).toInt := by rw [g1292, wI_ne _ _ _ (by decide)]
                          have s1302 : (h1291.1 96 51).toInt = (h861.1 96 51).toInt := by rw [g1292, wI_ne _ _ _ (by decide)]
                          have hK : kyOf h1291 = ((zMid (evOf h) a0 a1 (kyOf h)).1, (zMid (evOf h) a0 a1 (kyOf h)).2.1, upd ((zMid (evOf h) a0 a1 (kyOf h)).2.2.1) (0 : Int32).toNatClampNeg x1289, (zMid (evOf h) a0 a1 (kyOf h)).2.2.2) := by rw [g1292, ky_109 (by decide), hK] <;> rfl
                          have hE : evOf h1291 = evOf h := by rw [g1292, ev_o (by decide), hE]
                          refine R_aload_n (k := 0) rfl rfl rfl ?_
                          refine R_getf_r (j := 22) rfl ft_9_46 sh_96 rfl ?_
                          refine R_aload_n (k := 0) rfl rfl rfl ?_
                          refine R_getf_r (j := 17) rfl ft_9_40 sh_96 rfl ?_
                          refine R_iconst 0 rfl rfl ?_
                          refine R_iald rfl sh_105 (by decide) ?_
                          refine N_eq (fun x1303 e1304 => ?_)
                          have q1305 : 0 ≤ x1303.toInt ∧ x1303.toInt ≤ 5 := by rw [e1304]; exact hI.1 105 _
                          have e1306 : x1303 = (evOf h).2.2.2.1 (0 : Int32).toNatClampNeg := by rw [e1304]; exact congrFun (congrArg (fun q : EV => q.2.2.2.1) hE) _
                          refine R_iconst 0 rfl rfl ?_
                          refine K_iast (a := x1303.toInt) (lo := (-2147483648)) (hi' := 2147483647) rfl sh_107 rfl ⟨by omega, by omega⟩ hI (by decide) rfl (by decide) fr (by decide) (fun h1307 g1308 hI fr => ?_)
                          have fl862 : FR [96, 107, 108, 109, 117, 118] h842 h1307 := by rw [g1308]; exact FR_wI _ _ fl862 (by decide)
                          have fl820 : FR [96, 107, 108, 109, 117, 118] h803 h1307 := by rw [g1308]; exact FR_wI _ _ fl820 (by decide)
                          have s1309 : (h1307.1 96 41).toInt = (h1291.1 96 41).toInt := by rw [g1308, wI_ne _ _ _ (by decide)]
                          have s1310 : (h1307.1 96 42).toInt = (h1291.1 96 42).toInt := by rw [g1308, wI_ne _ _ _ (by decide)]
                          have s1311 : (h1307.1 96 19).toInt = (h1291.1 96 19).toInt := by rw [g1308, wI_ne _ _ _ (by decide)]
                          have s1312 : (h1307.1 96 18).toInt = (h1291.1 96 18).toInt := by rw [g1308, wI_ne _ _ _ (by decide)]
                          have s1313 : (h1307.1 96 20).toInt = (h1291.1 96 20).toInt := by rw [g1308, wI_ne _ _ _ (by decide)]
                          have s1314 : (h1307.1 96 46).toInt = (h1291.1 96 46).toInt := by rw [g1308, wI_ne _ _ _ (by decide)]
                          have s1315 : (h1307.1 96 44).toInt = (h1291.1 96 44).toInt := by rw [g1308, wI_ne _ _ _ (by decide)]
                          have s1316 : (h1307.1 96 47).toInt = (h1291.1 96 47).toInt := by rw [g1308, wI_ne _ _ _ (by decide)]
                          have s1317 : (h1307.1 96 48).toInt = (h1291.1 96 48).toInt := by rw [g1308, wI_ne _ _ _ (by decide)]
                          have s1318 : (h1307.1 96 51).toInt = (h1291.1 96 51).toInt := by rw [g1308, wI_ne _ _ _ (by decide)]
                          have hK : kyOf h1307 = (upd ((zMid (evOf h) a0 a1 (kyOf h)).1) x1303.toNatClampNeg (0), (zMid (evOf h) a0 a1 (kyOf h)).2.1, upd ((zMid (evOf h) a0 a1 (kyOf h)).2.2.1) (0 : Int32).toNatClampNeg x1289, (zMid (evOf h) a0 a1 (kyOf h)).2.2.2) := by rw [g1308, ky_107 (nlt ⟨by omega, by omega⟩), hK] <;> rfl
                          have hE : evOf h1307 = evOf h := by rw [g1308, ev_o (by decide), hE]
                          refine R_aload_n (k := 0) rfl rfl rfl ?_
                          refine R_getf_r (j := 23) rfl ft_9_49 sh_96 rfl ?_
                          refine R_aload_n (k := 0) rfl rfl rfl ?_
                          refine R_getf_r (j := 17) rfl ft_9_40 sh_96 rfl ?_
                          refine R_iconst 0 rfl rfl ?_
                          refine R_iald rfl sh_105 (by decide) ?_
                          refine N_eq (fun x1319 e1320 => ?_)
                          have q1321 : 0 ≤ x1319.toInt ∧ x1319.toInt ≤ 5 := by rw [e1320]; exact hI.1 105 _
                          have e1322 : x1319 = (evOf h).2.2.2.1 (0 : Int32).toNatClampNeg := by rw [e1320]; exact congrFun (congrArg (fun q : EV => q.2.2.2.1) hE) _
                          refine R_aload_n (k := 0) rfl rfl rfl ?_
                          refine R_getf_i (j := 20) rfl ft_9_259 sh_96 rfl ?_
                          refine N_eq (fun x1323 e1324 => ?_)
                          have e1325 : x1323 = (evOf h).2.2.2.2.2.1 := by rw [e1324]; exact congrArg (fun q : EV => q.2.2.2.2.2.1) hE
                          refine K_iast (a := x1319.toInt) (lo := (-2147483648)) (hi' := 2147483647) rfl sh_108 rfl ⟨by omega, by omega⟩ hI (by decide) rfl (i_rng _) fr (by decide) (fun h1326 g1327 hI fr => ?_)
                          have fl862 : FR [96, 107, 108, 109, 117, 118] h842 h1326 := by rw [g1327]; exact FR_wI _ _ fl862 (by decide)
                          have fl820 : FR [96, 107, 108, 109, 117, 118] h803 h1326 := by rw [g1327]; exact FR_wI _ _ fl820 (by decide)
                          have s1328 : (h1326.1 96 41).toInt = (h1307.1 96 41).toInt := by rw [g1327, wI_ne _ _ _ (by decide)]
                          have s1329 : (h1326.1 96 42).toInt = (h1307.1 96 42).toInt := by rw [g1327, wI_ne _ _ _ (by decide)]
                          have s1330 : (h1326.1 96 19).toInt = (h1307.1 96 19).toInt := by rw [g1327, wI_ne _ _ _ (by decide)]
                          have s1331 : (h1326.1 96 18).toInt = (h1307.1 96 18).toInt := by rw [g1327, wI_ne _ _ _ (by decide)]
                          have s1332 : (h1326.1 96 20).toInt = (h1307.1 96 20).toInt := by rw [g1327, wI_ne _ _ _ (by decide)]
                          have s1333 : (h1326.1 96 46).toInt = (h1307.1 96 46).toInt := by rw [g1327, wI_ne _ _ _ (by decide)]
                          have s1334 : (h1326.1 96 44).toInt = (h1307.1 96 44).toInt := by rw [g1327, wI_ne _ _ _ (by decide)]
                          have s1335 : (h1326.1 96 47).toInt = (h1307.1 96 47).toInt := by rw [g1327, wI_ne _ _ _ (by decide)]
                          have s1336 : (h1326.1 96 48).toInt = (h1307.1 96 48).toInt := by rw [g1327, wI_ne _ _ _ (by decide)]
                          have s1337 : (h1326.1 96 51).toInt = (h1307.1 96 51).toInt := by rw [g1327, wI_ne _ _ _ (by decide)]
                          have hK : kyOf h1326 = (upd ((zMid (evOf h) a0 a1 (kyOf h)).1) x1303.toNatClampNeg (0), upd ((zMid (evOf h) a0 a1 (kyOf h)).2.1) x1319.toNatClampNeg x1323, upd ((zMid (evOf h) a0 a1 (kyOf h)).2.2.1) (0 : Int32).toNatClampNeg x1289, (zMid (evOf h) a0 a1 (kyOf h)).2.2.2) := by rw [g1327, ky_108 (nlt ⟨by omega, by omega⟩), hK] <;> rfl
                          have hE : evOf h1326 = evOf h := by rw [g1327, ev_o (by decide), hE]
                          have hK : kyOf h1326 = zTake (evOf h) a0 (zMid (evOf h) a0 a1 (kyOf h)) := by
                            refine hK.trans ?_
                            subst e1325 e1322 e1306 e1290 e1287 e1211 e1002 e899 e896
                            simp only [zTake, zTake1, eMany, eLine, eFull]
                            (repeat' split) <;> first | rfl | (exfalso; omega)
                          refine R_iconst 0 rfl rfl ?_
                          refine R_istore_n (k := 3) rfl [(3, .inl 0), (0, .inr (.inr (.inl 96))), (1, .inl a0), (2, .inl a1)] rfl rfl (by decide) ?_
                          have lp1339 : ∀ (n1338 : Nat) (h1340 : PH) (x1342 : Int32), INV h1340 → FR [96, 107, 108, 109, 117, 118] h h1340 → FR [107] h1326 h1340 → 0 ≤ x1342.toInt ∧ x1342.toInt ≤ 6 → (kyOf h1340 = zHolds (evOf h) a0 x1342.toNatClampNeg (zTake (evOf h) a0 (zMid (evOf h) a0 a1 (kyOf h)))) → (evOf h1340 = evOf h) → (6 - x1342.toInt).toNat < n1338 → RUN d_X9_goSecond 166 [(3, .inl x1342), (0, .inr (.inr (.inl 96))), (1, .inl a0), (2, .inl a1)] [] h1340 (q_X9_goSecond h a0 a1) := by
                            intro n1338
                            induction n1338 with
                            | zero => intro h1340 x1342 m1344 m1345 m1346 m1347 m1348 m1349 hz; exact absurd hz (Nat.not_lt_zero _)
                            | succ n1338 ih1343 =>
                              intro h1340 x1342 hI fr fl1341 m1347 m1348 m1349 hz
                              have s1350 : (h1340.1 96 41).toInt = (h1326.1 96 41).toInt := by rw [(fl1341 96 (by decide)).1]
                              have s1351 : (h1340.1 96 42).toInt = (h1326.1 96 42).toInt := by rw [(fl1341 96 (by decide)).1]
                              have s1352 : (h1340.1 96 19).toInt = (h1326.1 96 19).toInt := by rw [(fl1341 96 (by decide)).1]
                              have s1353 : (h1340.1 96 18).toInt = (h1326.1 96 18).toInt := by rw [(fl1341 96 (by decide)).1]
                              have s1354 : (h1340.1 96 20).toInt = (h1326.1 96 20).toInt := by rw [(fl1341 96 (by decide)).1]
                              have s1355 : (h1340.1 96 46).toInt = (h1326.1 96 46).toInt := by rw [(fl1341 96 (by decide)).1]
                              have s1356 : (h1340.1 96 44).toInt = (h1326.1 96 44).toInt := by rw [(fl1341 96 (by decide)).1]
                              have s1357 : (h1340.1 96 47).toInt = (h1326.1 96 47).toInt := by rw [(fl1341 96 (by decide)).1]
                              have s1358 : (h1340.1 96 48).toInt = (h1326.1 96 48).toInt := by rw [(fl1341 96 (by decide)).1]
                              have s1359 : (h1340.1 96 51).toInt = (h1326.1 96 51).toInt := by rw [(fl1341 96 (by decide)).1]
                              have fl862 : FR [96, 107, 108, 109, 117, 118] h842 h1340 := fl862.trans fl1341 (by decide)
                              have fl820 : FR [96, 107, 108, 109, 117, 118] h803 h1340 := fl820.trans fl1341 (by decide)
                              have hE := m1349
                              have hK : kyOf h1340 = kyOf h1340 := rfl
                              refine R_iload_n (k := 3) rfl rfl rfl ?_
                              refine R_aload_n (k := 0) rfl rfl rfl ?_
                              refine R_getf_i (j := 18) rfl ft_9_253 sh_96 rfl ?_
                              refine N_icmp_ge (a := x1342.toInt) (b := (h1340.1 96 18).toInt) 224 rfl rfl rfl rfl (fun c1360 => ?_) (fun c1360 => ?_)
                              · have hF : kyOf h1340 = zSecond (evOf h) a0 a1 (kyOf h) := m1348.trans (by rw [show x1342 = eMany (evOf h) from i_of _ (by omega)]; rfl)
                                exact R_vret rfl rfl ⟨hI, fr, ⟨by omega, by omega, by omega, by omega, by omega, by omega, by omega, by omega, by omega, by omega, hF, hE, trivial⟩, rfl⟩
                              · refine R_aload_n (k := 0) rfl rfl rfl ?_
                                refine R_getf_r (j := 22) rfl ft_9_46 sh_96 rfl ?_
                                refine R_aload_n (k := 0) rfl rfl rfl ?_
                                refine R_getf_r (j := 17) rfl ft_9_40 sh_96 rfl ?_
                                refine R_iload_n (k := 3) rfl rfl rfl ?_
                                refine R_iald rfl sh_105 ⟨by omega, by omega⟩ ?_
                                refine N_eq (fun x1361 e1362 => ?_)
                                have q1363 : 0 ≤ x1361.toInt ∧ x1361.toInt ≤ 5 := by rw [e1362]; exact hI.1 105 _
                                have e1364 : x1361 = (evOf h).2.2.2.1 x1342.toNatClampNeg := by rw [e1362]; exact congrFun (congrArg (fun q : EV => q.2.2.2.1) hE) _
                                refine R_iald rfl sh_107 ⟨by omega, by omega⟩ ?_
                                refine N_eq (fun x1365 e1366 => ?_)
                                have e1367 : x1365 = ((kyOf h1340).1) x1361.toNatClampNeg := by rw [e1366]; exact (ky_at107 (nlt ⟨by omega, by omega⟩)).trans (congrFun (congrArg (fun q : KY => q.1) hK) _)
                                refine R_iconst (-1) rfl rfl ?_
                                refine N_icmp_eq (a := x1365.toInt) (b := (-1)) 218 rfl rfl rfl (by decide) (fun c1368 => ?_) (fun c1368 => ?_)
                                · refine N_iinc (a := x1342.toInt) (c := 1) (fun w => [(3, .inl w), (0, .inr (.inr (.inl 96))), (1, .inl a0), (2, .inl a1)]) rfl rfl (fun _ => rfl) (by decide) rfl (by decide) (by omega) (fun x1369 q1370 => ?_)
                                  refine R_goto 166 rfl rfl ?_
                                  exact RUN_weak (psub_cons rfl (psub_cons rfl (psub_cons rfl (psub_cons rfl (psub_nil _))))) (ih1343 h1340 x1369 hI fr fl1341 (by omega) (by rw [zHolds_s (x := x1342) (x' := x1369) (by omega) (by omega), ← m1348]; refine hK.trans ?_; subst e1367 e1364; simp only [zHold1, eLine]; (repeat' split) <;> first | rfl | (exfalso; omega)) (hE) (by omega))
                                · refine R_aload_n (k := 0) rfl rfl rfl ?_
                                  refine R_aload_n (k := 0) rfl rfl rfl ?_
                                  refine R_getf_r (j := 17) rfl ft_9_40 sh_96 rfl ?_
                                  refine R_iload_n (k := 3) rfl rfl rfl ?_
                                  refine R_iald rfl sh_105 ⟨by omega, by omega⟩ ?_
                                  refine N_eq (fun x1371 e1372 => ?_)
                                  have q1373 : 0 ≤ x1371.toInt ∧ x1371.toInt ≤ 5 := by rw [e1372]; exact hI.1 105 _
                                  have e1374 : x1371 = (evOf h).2.2.2.1 x1342.toNatClampNeg := by rw [e1372]; exact congrFun (congrArg (fun q : EV => q.2.2.2.1) hE) _
                                  refine R_iload_n (k := 1) rfl rfl rfl ?_
                                  refine R_callV (v := .inr (.inr (.inl 96))) (As := [.inl x1371, .inl a0]) (rest := []) rfl mt_9_i271 pp_X9_doesRest (by decide) rfl rfl rfl (Nat.le_of_ble_eq_true rfl) (Nat.le_of_ble_eq_true rfl) ((g_X9_doesRest h1340 hI x1371 a0 (by omega) (by omega)).mono (fun r1375 h1376 p1377 => ?_))
                                  obtain ⟨rfl, x1379, rfl, (q1380 | q1380 | q1380), zq1378, -⟩ := p1377
                                    rw [hE] at zq1378
                                  · exfalso; omega
                                  · rw [hE] at zq1378
                                    show RUN d_X9_goSecond 200 [(3, .inl x1342), (0, .inr (.inr (.inl 96))), (1, .inl a0), (2, .inl a1)] [.inl x1379] h1340 _
                                    refine N_if_ne (a := x1379.toInt) 218 rfl rfl rfl (fun c1381 => ?_) (fun c1381 => ?_)
                                    · exfalso; omega
                                    · refine R_aload_n (k := 0) rfl rfl rfl ?_
                                      refine R_getf_r (j := 22) rfl ft_9_46 sh_96 rfl ?_
                                      refine R_aload_n (k := 0) rfl rfl rfl ?_
                                      refine R_getf_r (j := 17) rfl ft_9_40 sh_96 rfl ?_
                                      refine R_iload_n (k := 3) rfl rfl rfl ?_
                                      refine R_iald rfl sh_105 ⟨by omega, by omega⟩ ?_
                                      refine N_eq (fun x1382 e1383 => ?_)
                                      have q1384 : 0 ≤ x1382.toInt ∧ x1382.toInt ≤ 5 := by rw [e1383]; exact hI.1 105 _
                                      have e1385 : x1382 = (evOf h).2.2.2.1 x1342.toNatClampNeg := by rw [e1383]; exact congrFun (congrArg (fun q : EV => q.2.2.2.1) hE) _
                                      refine R_dup2 rfl ?_
                                      refine R_iald rfl sh_107 ⟨by omega, by omega⟩ ?_
                                      refine N_eq (fun x1386 e1387 => ?_)
                                      have e1388 : x1386 = ((kyOf h1340).1) x1382.toNatClampNeg := by rw [e1387]; exact (ky_at107 (nlt ⟨by omega, by omega⟩)).trans (congrFun (congrArg (fun q : KY => q.1) hK) _)
                                      refine R_iconst 1 rfl rfl ?_
                                      have b1389 := i_rng x1386
                                      refine R_iadd rfl ?_
                                      refine N_eq (fun x1390 e1391 => ?_)
                                      refine K_iast (a := x1382.toInt) (lo := (-2147483648)) (hi' := 2147483647) rfl sh_107 rfl ⟨by omega, by omega⟩ hI (by decide) rfl (i_rng _) fr (by decide) (fun h1392 g1393 hI fr => ?_)
                                      have fl1341 : FR [107] h1326 h1392 := by rw [g1393]; exact FR_wI _ _ fl1341 (by decide)
                                      have fl862 : FR [96, 107, 108, 109, 117, 118] h842 h1392 := by rw [g1393]; exact FR_wI _ _ fl862 (by decide)
                                      have fl820 : FR [96, 107, 108, 109, 117, 118] h803 h1392 := by rw [g1393]; exact FR_wI _ _ fl820 (by decide)
                                      have s1394 : (h1392.1 96 41).toInt = (h1340.1 96 41).toInt := by rw [g1393, wI_ne _ _ _ (by decide)]
                                      have s1395 : (h1392.1 96 42).toInt = (h1340.1 96 42).toInt := by rw [g1393, wI_ne _ _ _ (by decide)]
                                      have s1396 : (h1392.1 96 19).toInt = (h1340.1 96 19).toInt := by rw [g1393, wI_ne _ _ _ (by decide)]
                                      have s1397 : (h1392.1 96 18).toInt = (h1340.1 96 18).toInt := by rw [g1393, wI_ne _ _ _ (by decide)]
                                      have s1398 : (h1392.1 96 20).toInt = (h1340.1 96 20).toInt := by rw [g1393, wI_ne _ _ _ (by decide)]
                                      have s1399 : (h1392.1 96 46).toInt = (h1340.1 96 46).toInt := by rw [g1393, wI_ne _ _ _ (by decide)]
                                      have s1400 : (h1392.1 96 44).toInt = (h1340.1 96 44).toInt := by rw [g1393, wI_ne _ _ _ (by decide)]
                                      have s1401 : (h1392.1 96 47).toInt = (h1340.1 96 47).toInt := by rw [g1393, wI_ne _ _ _ (by decide)]
                                      have s1402 : (h1392.1 96 48).toInt = (h1340.1 96 48).toInt := by rw [g1393, wI_ne _ _ _ (by decide)]
                                      have s1403 : (h1392.1 96 51).toInt = (h1340.1 96 51).toInt := by rw [g1393, wI_ne _ _ _ (by decide)]
                                      have hK : kyOf h1392 = (upd ((kyOf h1340).1) x1382.toNatClampNeg x1390, (kyOf h1340).2.1, (kyOf h1340).2.2.1, (kyOf h1340).2.2.2) := by rw [g1393, ky_107 (nlt ⟨by omega, by omega⟩), hK] <;> rfl
                                      have hE : evOf h1392 = evOf h := by rw [g1393, ev_o (by decide), hE]
                                      refine N_iinc (a := x1342.toInt) (c := 1) (fun w => [(3, .inl w), (0, .inr (.inr (.inl 96))), (1, .inl a0), (2, .inl a1)]) rfl rfl (fun _ => rfl) (by decide) rfl (by decide) (by omega) (fun x1404 q1405 => ?_)
                                      refine R_goto 166 rfl rfl ?_
                                      exact RUN_weak (psub_cons rfl (psub_cons rfl (psub_cons rfl (psub_cons rfl (psub_nil _))))) (ih1343 h1392 x1404 hI fr fl1341 (by omega) (by rw [zHolds_s (x := x1342) (x' := x1404) (by omega) (by omega), ← m1348]; refine hK.trans ?_; subst e1391 e1388 e1385 e1374 e1367 e1364; simp only [zHold1, eLine]; (repeat' split) <;> first | rfl | (exfalso; omega)) (hE) (by omega))
                                  · rw [hE] at zq1378
                                    show RUN d_X9_goSecond 200 [(3, .inl x1342), (0, .inr (.inr (.inl 96))), (1, .inl a0), (2, .inl a1)] [.inl x1379] h1340 _
                                    refine N_if_ne (a := x1379.toInt) 218 rfl rfl rfl (fun c1406 => ?_) (fun c1406 => ?_)
                                    · refine N_iinc (a := x1342.toInt) (c := 1) (fun w => [(3, .inl w), (0, .inr (.inr (.inl 96))), (1, .inl a0), (2, .inl a1)]) rfl rfl (fun _ => rfl) (by decide) rfl (by decide) (by omega) (fun x1407 q1408 => ?_)
                                      refine R_goto 166 rfl rfl ?_
                                      exact RUN_weak (psub_cons rfl (psub_cons rfl (psub_cons rfl (psub_cons rfl (psub_nil _))))) (ih1343 h1340 x1407 hI fr fl1341 (by omega) (by rw [zHolds_s (x := x1342) (x' := x1407) (by omega) (by omega), ← m1348]; refine hK.trans ?_; subst e1374 e1367 e1364; simp only [zHold1, eLine]; (repeat' split) <;> first | rfl | (exfalso; omega)) (hE) (by omega))
                                    · exfalso; omega
                          have k1409 : (0 : Int32).toInt = 0 := by decide
                          exact lp1339 _ h1326 (0 : Int32) hI fr (FR.rf _ _) (by decide) (by rw [hK]; rfl) (hE) (Nat.lt_succ_self _)
                    · rw [hE] at zq1007
                      show RUN d_X9_goSecond 115 [(3, .inl x863), (0, .inr (.inr (.inl 96))), (1, .inl a0), (2, .inl a1)] [.inl x1008] h861 _
                      refine N_if_ne (a := x1008.toInt) 164 rfl rfl rfl (fun c1410 => ?_) (fun c1410 => ?_)
                      · have hK : kyOf h861 = zTake (evOf h) a0 (zMid (evOf h) a0 a1 (kyOf h)) := by
                          refine hK.trans ?_
                          subst e1002 e899 e896
                          simp only [zTake, zTake1, eMany, eLine, eFull]
                          (repeat' split) <;> first | rfl | (exfalso; omega)
                        refine R_iconst 0 rfl rfl ?_
                        refine R_istore_n (k := 3) rfl [(3, .inl 0), (0, .inr (.inr (.inl 96))), (1, .inl a0), (2, .inl a1)] rfl rfl (by decide) ?_
                        have lp1412 : ∀ (n1411 : Nat) (h1413 : PH) (x1415 : Int32), INV h1413 → FR [96, 107, 108, 109, 117, 118] h h1413 → FR [107] h861 h1413 → 0 ≤ x1415.toInt ∧ x1415.toInt ≤ 6 → (kyOf h1413 = zHolds (evOf h) a0 x1415.toNatClampNeg (zTake (evOf h) a0 (zMid (evOf h) a0 a1 (kyOf h)))) → (evOf h1413 = evOf h) → (6 - x1415.toInt).toNat < n1411 → RUN d_X9_goSecond 166 [(3, .inl x1415), (0, .inr (.inr (.inl 96))), (1, .inl a0), (2, .inl a1)] [] h1413 (q_X9_goSecond h a0 a1) := by
                          intro n1411
                          induction n1411 with
                          | zero => intro h1413 x1415 m1417 m1418 m1419 m1420 m1421 m1422 hz; exact absurd hz (Nat.not_lt_zero _)
                          | succ n1411 ih1416 =>
                            intro h1413 x1415 hI fr fl1414 m1420 m1421 m1422 hz
                            have s1423 : (h1413.1 96 41).toInt = (h861.1 96 41).toInt := by rw [(fl1414 96 (by decide)).1]
                            have s1424 : (h1413.1 96 42).toInt = (h861.1 96 42).toInt := by rw [(fl1414 96 (by decide)).1]
                            have s1425 : (h1413.1 96 19).toInt = (h861.1 96 19).toInt := by rw [(fl1414 96 (by decide)).1]
                            have s1426 : (h1413.1 96 18).toInt = (h861.1 96 18).toInt := by rw [(fl1414 96 (by decide)).1]
                            have s1427 : (h1413.1 96 20).toInt = (h861.1 96 20).toInt := by rw [(fl1414 96 (by decide)).1]
                            have s1428 : (h1413.1 96 46).toInt = (h861.1 96 46).toInt := by rw [(fl1414 96 (by decide)).1]
                            have s1429 : (h1413.1 96 44).toInt = (h861.1 96 44).toInt := by rw [(fl1414 96 (by decide)).1]
                            have s1430 : (h1413.1 96 47).toInt = (h861.1 96 47).toInt := by rw [(fl1414 96 (by decide)).1]
                            have s1431 : (h1413.1 96 48).toInt = (h861.1 96 48).toInt := by rw [(fl1414 96 (by decide)).1]
                            have s1432 : (h1413.1 96 51).toInt = (h861.1 96 51).toInt := by rw [(fl1414 96 (by decide)).1]
                            have fl862 : FR [96, 107, 108, 109, 117, 118] h842 h1413 := fl862.trans fl1414 (by decide)
                            have fl820 : FR [96, 107, 108, 109, 117, 118] h803 h1413 := fl820.trans fl1414 (by decide)
                            have hE := m1422
                            have hK : kyOf h1413 = kyOf h1413 := rfl
                            refine R_iload_n (k := 3) rfl rfl rfl ?_
                            refine R_aload_n (k := 0) rfl rfl rfl ?_
                            refine R_getf_i (j := 18) rfl ft_9_253 sh_96 rfl ?_
                            refine N_icmp_ge (a := x1415.toInt) (b := (h1413.1 96 18).toInt) 224 rfl rfl rfl rfl (fun c1433 => ?_) (fun c1433 => ?_)
                            · have hF : kyOf h1413 = zSecond (evOf h) a0 a1 (kyOf h) := m1421.trans (by rw [show x1415 = eMany (evOf h) from i_of _ (by omega)]; rfl)
                              exact R_vret rfl rfl ⟨hI, fr, ⟨by omega, by omega, by omega, by omega, by omega, by omega, by omega, by omega, by omega, by omega, hF, hE, trivial⟩, rfl⟩
                            · refine R_aload_n (k := 0) rfl rfl rfl ?_
                              refine R_getf_r (j := 22) rfl ft_9_46 sh_96 rfl ?_
                              refine R_aload_n (k := 0) rfl rfl rfl ?_
                              refine R_getf_r (j := 17) rfl ft_9_40 sh_96 rfl ?_
                              refine R_iload_n (k := 3) rfl rfl rfl ?_
                              refine R_iald rfl sh_105 ⟨by omega, by omega⟩ ?_
                              refine N_eq (fun x1434 e1435 => ?_)
                              have q1436 : 0 ≤ x1434.toInt ∧ x1434.toInt ≤ 5 := by rw [e1435]; exact hI.1 105 _
                              have e1437 : x1434 = (evOf h).2.2.2.1 x1415.toNatClampNeg := by rw [e1435]; exact congrFun (congrArg (fun q : EV => q.2.2.2.1) hE) _
                              refine R_iald rfl sh_107 ⟨by omega, by omega⟩ ?_
                              refine N_eq (fun x1438 e1439 => ?_)
                              have e1440 : x1438 = ((kyOf h1413).1) x1434.toNatClampNeg := by rw [e1439]; exact (ky_at107 (nlt ⟨by omega, by omega⟩)).trans (congrFun (congrArg (fun q : KY => q.1) hK) _)
                              refine R_iconst (-1) rfl rfl ?_
                              refine N_icmp_eq (a := x1438.toInt) (b := (-1)) 218 rfl rfl rfl (by decide) (fun c1441 => ?_) (fun c1441 => ?_)
                              · refine N_iinc (a := x1415.toInt) (c := 1) (fun w => [(3, .inl w), (0, .inr (.inr (.inl 96))), (1, .inl a0), (2, .inl a1)]) rfl rfl (fun _ => rfl) (by decide) rfl (by decide) (by omega) (fun x1442 q1443 => ?_)
                                refine R_goto 166 rfl rfl ?_
                                exact RUN_weak (psub_cons rfl (psub_cons rfl (psub_cons rfl (psub_cons rfl (psub_nil _))))) (ih1416 h1413 x1442 hI fr fl1414 (by omega) (by rw [zHolds_s (x := x1415) (x' := x1442) (by omega) (by omega), ← m1421]; refine hK.trans ?_; subst e1440 e1437; simp only [zHold1, eLine]; (repeat' split) <;> first | rfl | (exfalso; omega)) (hE) (by omega))
                              · refine R_aload_n (k := 0) rfl rfl rfl ?_
                                refine R_aload_n (k := 0) rfl rfl rfl ?_
                                refine R_getf_r (j := 17) rfl ft_9_40 sh_96 rfl ?_
                                refine R_iload_n (k := 3) rfl rfl rfl ?_
                                refine R_iald rfl sh_105 ⟨by omega, by omega⟩ ?_
                                refine N_eq (fun x1444 e1445 => ?_)
                                have q1446 : 0 ≤ x1444.toInt ∧ x1444.toInt ≤ 5 := by rw [e1445]; exact hI.1 105 _
                                have e1447 : x1444 = (evOf h).2.2.2.1 x1415.toNatClampNeg := by rw [e1445]; exact congrFun (congrArg (fun q : EV => q.2.2.2.1) hE) _
                                refine R_iload_n (k := 1) rfl rfl rfl ?_
                                refine R_callV (v := .inr (.inr (.inl 96))) (As := [.inl x1444, .inl a0]) (rest := []) rfl mt_9_i271 pp_X9_doesRest (by decide) rfl rfl rfl (Nat.le_of_ble_eq_true rfl) (Nat.le_of_ble_eq_true rfl) ((g_X9_doesRest h1413 hI x1444 a0 (by omega) (by omega)).mono (fun r1448 h1449 p1450 => ?_))
                                obtain ⟨rfl, x1452, rfl, (q1453 | q1453 | q1453), zq1451, -⟩ := p1450
                                  rw [hE] at zq1451
                                · exfalso; omega
                                · rw [hE] at zq1451
                                  show RUN d_X9_goSecond 200 [(3, .inl x1415), (0, .inr (.inr (.inl 96))), (1, .inl a0), (2, .inl a1)] [.inl x1452] h1413 _
                                  refine N_if_ne (a := x1452.toInt) 218 rfl rfl rfl (fun c1454 => ?_) (fun c1454 => ?_)
                                  · exfalso; omega
                                  · refine R_aload_n (k := 0) rfl rfl rfl ?_
                                    refine R_getf_r (j := 22) rfl ft_9_46 sh_96 rfl ?_
                                    refine R_aload_n (k := 0) rfl rfl rfl ?_
                                    refine R_getf_r (j := 17) rfl ft_9_40 sh_96 rfl ?_
                                    refine R_iload_n (k := 3) rfl rfl rfl ?_
                                    refine R_iald rfl sh_105 ⟨by omega, by omega⟩ ?_
                                    refine N_eq (fun x1455 e1456 => ?_)
                                    have q1457 : 0 ≤ x1455.toInt ∧ x1455.toInt ≤ 5 := by rw [e1456]; exact hI.1 105 _
                                    have e1458 : x1455 = (evOf h).2.2.2.1 x1415.toNatClampNeg := by rw [e1456]; exact congrFun (congrArg (fun q : EV => q.2.2.2.1) hE) _
                                    refine R_dup2 rfl ?_
                                    refine R_iald rfl sh_107 ⟨by omega, by omega⟩ ?_
                                    refine N_eq (fun x1459 e1460 => ?_)
                                    have e1461 : x1459 = ((kyOf h1413).1) x1455.toNatClampNeg := by rw [e1460]; exact (ky_at107 (nlt ⟨by omega, by omega⟩)).trans (congrFun (congrArg (fun q : KY => q.1) hK) _)
                                    refine R_iconst 1 rfl rfl ?_
                                    have b1462 := i_rng x1459
                                    refine R_iadd rfl ?_
                                    refine N_eq (fun x1463 e1464 => ?_)
                                    refine K_iast (a := x1455.toInt) (lo := (-2147483648)) (hi' := 2147483647) rfl sh_107 rfl ⟨by omega, by omega⟩ hI (by decide) rfl (i_rng _) fr (by decide) (fun h1465 g1466 hI fr => ?_)
                                    have fl1414 : FR [107] h861 h1465 := by rw [g1466]; exact FR_wI _ _ fl1414 (by decide)
                                    have fl862 : FR [96, 107, 108, 109, 117, 118] h842 h1465 := by rw [g1466]; exact FR_wI _ _ fl862 (by decide)
                                    have fl820 : FR [96, 107, 108, 109, 117, 118] h803 h1465 := by rw [g1466]; exact FR_wI _ _ fl820 (by decide)
                                    have s1467 : (h1465.1 96 41).toInt = (h1413.1 96 41).toInt := by rw [g1466, wI_ne _ _ _ (by decide)]
                                    have s1468 : (h1465.1 96 42).toInt = (h1413.1 96 42).toInt := by rw [g1466, wI_ne _ _ _ (by decide)]
                                    have s1469 : (h1465.1 96 19).toInt = (h1413.1 96 19).toInt := by rw [g1466, wI_ne _ _ _ (by decide)]
                                    have s1470 : (h1465.1 96 18).toInt = (h1413.1 96 18).toInt := by rw [g1466, wI_ne _ _ _ (by decide)]
                                    have s1471 : (h1465.1 96 20).toInt = (h1413.1 96 20).toInt := by rw [g1466, wI_ne _ _ _ (by decide)]
                                    have s1472 : (h1465.1 96 46).toInt = (h1413.1 96 46).toInt := by rw [g1466, wI_ne _ _ _ (by decide)]
                                    have s1473 : (h1465.1 96 44).toInt = (h1413.1 96 44).toInt := by rw [g1466, wI_ne _ _ _ (by decide)]
                                    have s1474 : (h1465.1 96 47).toInt = (h1413.1 96 47).toInt := by rw [g1466, wI_ne _ _ _ (by decide)]
                                    have s1475 : (h1465.1 96 48).toInt = (h1413.1 96 48).toInt := by rw [g1466, wI_ne _ _ _ (by decide)]
                                    have s1476 : (h1465.1 96 51).toInt = (h1413.1 96 51).toInt := by rw [g1466, wI_ne _ _ _ (by decide)]
                                    have hK : kyOf h1465 = (upd ((kyOf h1413).1) x1455.toNatClampNeg x1463, (kyOf h1413).2.1, (kyOf h1413).2.2.1, (kyOf h1413).2.2.2) := by rw [g1466, ky_107 (nlt ⟨by omega, by omega⟩), hK] <;> rfl
                                    have hE : evOf h1465 = evOf h := by rw [g1466, ev_o (by decide), hE]
                                    refine N_iinc (a := x1415.toInt) (c := 1) (fun w => [(3, .inl w), (0, .inr (.inr (.inl 96))), (1, .inl a0), (2, .inl a1)]) rfl rfl (fun _ => rfl) (by decide) rfl (by decide) (by omega) (fun x1477 q1478 => ?_)
                                    refine R_goto 166 rfl rfl ?_
                                    exact RUN_weak (psub_cons rfl (psub_cons rfl (psub_cons rfl (psub_cons rfl (psub_nil _))))) (ih1416 h1465 x1477 hI fr fl1414 (by omega) (by rw [zHolds_s (x := x1415) (x' := x1477) (by omega) (by omega), ← m1421]; refine hK.trans ?_; subst e1464 e1461 e1458 e1447 e1440 e1437; simp only [zHold1, eLine]; (repeat' split) <;> first | rfl | (exfalso; omega)) (hE) (by omega))
                                · rw [hE] at zq1451
                                  show RUN d_X9_goSecond 200 [(3, .inl x1415), (0, .inr (.inr (.inl 96))), (1, .inl a0), (2, .inl a1)] [.inl x1452] h1413 _
                                  refine N_if_ne (a := x1452.toInt) 218 rfl rfl rfl (fun c1479 => ?_) (fun c1479 => ?_)
                                  · refine N_iinc (a := x1415.toInt) (c := 1) (fun w => [(3, .inl w), (0, .inr (.inr (.inl 96))), (1, .inl a0), (2, .inl a1)]) rfl rfl (fun _ => rfl) (by decide) rfl (by decide) (by omega) (fun x1480 q1481 => ?_)
                                    refine R_goto 166 rfl rfl ?_
                                    exact RUN_weak (psub_cons rfl (psub_cons rfl (psub_cons rfl (psub_cons rfl (psub_nil _))))) (ih1416 h1413 x1480 hI fr fl1414 (by omega) (by rw [zHolds_s (x := x1415) (x' := x1480) (by omega) (by omega), ← m1421]; refine hK.trans ?_; subst e1447 e1440 e1437; simp only [zHold1, eLine]; (repeat' split) <;> first | rfl | (exfalso; omega)) (hE) (by omega))
                                  · exfalso; omega
                        have k1482 : (0 : Int32).toInt = 0 := by decide
                        exact lp1412 _ h861 (0 : Int32) hI fr (FR.rf _ _) (by decide) (by rw [hK]; rfl) (hE) (Nat.lt_succ_self _)
                      · exfalso; omega
              · refine R_iload_n (k := 2) rfl rfl rfl ?_
                refine N_if_ne (a := a1.toInt) 82 rfl rfl rfl (fun c1483 => ?_) (fun c1483 => ?_)
                · have hK : kyOf h861 = zMid (evOf h) a0 a1 (kyOf h) := by
                    unfold zMid
                    split
                    · first | (exfalso; omega) | (have hA := m880; rw [show (x863.toInt + 1).toNat = 0 by omega] at hA; exact hA)
                    · exact m881 (by omega)
                  refine R_aload_n (k := 0) rfl rfl rfl ?_
                  refine R_getf_i (j := 18) rfl ft_9_253 sh_96 rfl ?_
                  refine N_if_le (a := (h861.1 96 18).toInt) 164 rfl rfl rfl (fun c1484 => ?_) (fun c1484 => ?_)
                  · exfalso; omega
                  · refine R_aload_n (k := 0) rfl rfl rfl ?_
                    refine R_getf_r (j := 22) rfl ft_9_46 sh_96 rfl ?_
                    refine R_aload_n (k := 0) rfl rfl rfl ?_
                    refine R_getf_r (j := 17) rfl ft_9_40 sh_96 rfl ?_
                    refine R_iconst 0 rfl rfl ?_
                    refine R_iald rfl sh_105 (by decide) ?_
                    refine N_eq (fun x1485 e1486 => ?_)
                    have q1487 : 0 ≤ x1485.toInt ∧ x1485.toInt ≤ 5 := by rw [e1486]; exact hI.1 105 _
                    have e1488 : x1485 = (evOf h).2.2.2.1 (0 : Int32).toNatClampNeg := by rw [e1486]; exact congrFun (congrArg (fun q : EV => q.2.2.2.1) hE) _
                    refine R_iald rfl sh_107 ⟨by omega, by omega⟩ ?_
                    refine N_eq (fun x1489 e1490 => ?_)
                    have e1491 : x1489 = ((zMid (evOf h) a0 a1 (kyOf h)).1) x1485.toNatClampNeg := by rw [e1490]; exact (ky_at107 (nlt ⟨by omega, by omega⟩)).trans (congrFun (congrArg (fun q : KY => q.1) hK) _)
                    refine R_iconst (-1) rfl rfl ?_
                    refine N_icmp_ne (a := x1489.toInt) (b := (-1)) 164 rfl rfl rfl (by decide) (fun c1492 => ?_) (fun c1492 => ?_)
                    · have hK : kyOf h861 = zTake (evOf h) a0 (zMid (evOf h) a0 a1 (kyOf h)) := by
                        refine hK.trans ?_
                        subst e1491 e1488
                        simp only [zTake, zTake1, eMany, eLine, eFull]
                        (repeat' split) <;> first | rfl | (exfalso; omega)
                      refine R_iconst 0 rfl rfl ?_
                      refine R_istore_n (k := 3) rfl [(3, .inl 0), (0, .inr (.inr (.inl 96))), (1, .inl a0), (2, .inl a1)] rfl rfl (by decide) ?_
                      have lp1494 : ∀ (n1493 : Nat) (h1495 : PH) (x1497 : Int32), INV h1495 → FR [96, 107, 108, 109, 117, 118] h h1495 → FR [107] h861 h1495 → 0 ≤ x1497.toInt ∧ x1497.toInt ≤ 6 → (kyOf h1495 = zHolds (evOf h) a0 x1497.toNatClampNeg (zTake (evOf h) a0 (zMid (evOf h) a0 a1 (kyOf h)))) → (evOf h1495 = evOf h) → (6 - x1497.toInt).toNat < n1493 → RUN d_X9_goSecond 166 [(3, .inl x1497), (0, .inr (.inr (.inl 96))), (1, .inl a0), (2, .inl a1)] [] h1495 (q_X9_goSecond h a0 a1) := by
                        intro n1493
                        induction n1493 with
                        | zero => intro h1495 x1497 m1499 m1500 m1501 m1502 m1503 m1504 hz; exact absurd hz (Nat.not_lt_zero _)
                        | succ n1493 ih1498 =>
                          intro h1495 x1497 hI fr fl1496 m1502 m1503 m1504 hz
                          have s1505 : (h1495.1 96 41).toInt = (h861.1 96 41).toInt := by rw [(fl1496 96 (by decide)).1]
                          have s1506 : (h1495.1 96 42).toInt = (h861.1 96 42).toInt := by rw [(fl1496 96 (by decide)).1]
                          have s1507 : (h1495.1 96 19).toInt = (h861.1 96 19).toInt := by rw [(fl1496 96 (by decide)).1]
                          have s1508 : (h1495.1 96 18).toInt = (h861.1 96 18).toInt := by rw [(fl1496 96 (by decide)).1]
                          have s1509 : (h1495.1 96 20).toInt = (h861.1 96 20).toInt := by rw [(fl1496 96 (by decide)).1]
                          have s1510 : (h1495.1 96 46).toInt = (h861.1 96 46).toInt := by rw [(fl1496 96 (by decide)).1]
                          have s1511 : (h1495.1 96 44).toInt = (h861.1 96 44).toInt := by rw [(fl1496 96 (by decide)).1]
                          have s1512 : (h1495.1 96 47).toInt = (h861.1 96 47).toInt := by rw [(fl1496 96 (by decide)).1]
                          have s1513 : (h1495.1 96 48).toInt = (h861.1 96 48).toInt := by rw [(fl1496 96 (by decide)).1]
                          have s1514 : (h1495.1 96 51).toInt = (h861.1 96 51).toInt := by rw [(fl1496 96 (by decide)).1]
                          have fl862 : FR [96, 107, 108, 109, 117, 118] h842 h1495 := fl862.trans fl1496 (by decide)
                          have fl820 : FR [96, 107, 108, 109, 117, 118] h803 h1495 := fl820.trans fl1496 (by decide)
                          have hE := m1504
                          have hK : kyOf h1495 = kyOf h1495 := rfl
                          refine R_iload_n (k := 3) rfl rfl rfl ?_
                          refine R_aload_n (k := 0) rfl rfl rfl ?_
                          refine R_getf_i (j := 18) rfl ft_9_253 sh_96 rfl ?_
                          refine N_icmp_ge (a := x1497.toInt) (b := (h1495.1 96 18).toInt) 224 rfl rfl rfl rfl (fun c1515 => ?_) (fun c1515 => ?_)
                          · have hF : kyOf h1495 = zSecond (evOf h) a0 a1 (kyOf h) := m1503.trans (by rw [show x1497 = eMany (evOf h) from i_of _ (by omega)]; rfl)
                            exact R_vret rfl rfl ⟨hI, fr, ⟨by omega, by omega, by omega, by omega, by omega, by omega, by omega, by omega, by omega, by omega, hF, hE, trivial⟩, rfl⟩
                          · refine R_aload_n (k := 0) rfl rfl rfl ?_
                            refine R_getf_r (j := 22) rfl ft_9_46 sh_96 rfl ?_
                            refine R_aload_n (k := 0) rfl rfl rfl ?_
                            refine R_getf_r (j := 17) rfl ft_9_40 sh_96 rfl ?_
                            refine R_iload_n (k := 3) rfl rfl rfl ?_
                            refine R_iald rfl sh_105 ⟨by omega, by omega⟩ ?_
                            refine N_eq (fun x1516 e1517 => ?_)
                            have q1518 : 0 ≤ x1516.toInt ∧ x1516.toInt ≤ 5 := by rw [e1517]; exact hI.1 105 _
                            have e1519 : x1516 = (evOf h).2.2.2.1 x1497.toNatClampNeg := by rw [e1517]; exact congrFun (congrArg (fun q : EV => q.2.2.2.1) hE) _
                            refine R_iald rfl sh_107 ⟨by omega, by omega⟩ ?_
                            refine N_eq (fun x1520 e1521 => ?_)
                            have e1522 : x1520 = ((kyOf h1495).1) x1516.toNatClampNeg := by rw [e1521]; exact (ky_at107 (nlt ⟨by omega, by omega⟩)).trans (congrFun (congrArg (fun q : KY => q.1) hK) _)
                            refine R_iconst (-1) rfl rfl ?_
                            refine N_icmp_eq (a := x1520.toInt) (b := (-1)) 218 rfl rfl rfl (by decide) (fun c1523 => ?_) (fun c1523 => ?_)
                            · refine N_iinc (a := x1497.toInt) (c := 1) (fun w => [(3, .inl w), (0, .inr (.inr (.inl 96))), (1, .inl a0), (2, .inl a1)]) rfl rfl (fun _ => rfl) (by decide) rfl (by decide) (by omega) (fun x1524 q1525 => ?_)
                              refine R_goto 166 rfl rfl ?_
                              exact RUN_weak (psub_cons rfl (psub_cons rfl (psub_cons rfl (psub_cons rfl (psub_nil _))))) (ih1498 h1495 x1524 hI fr fl1496 (by omega) (by rw [zHolds_s (x := x1497) (x' := x1524) (by omega) (by omega), ← m1503]; refine hK.trans ?_; subst e1522 e1519; simp only [zHold1, eLine]; (repeat' split) <;> first | rfl | (exfalso; omega)) (hE) (by omega))
                            · refine R_aload_n (k := 0) rfl rfl rfl ?_
                              refine R_aload_n (k := 0) rfl rfl rfl ?_
                              refine R_getf_r (j := 17) rfl ft_9_40 sh_96 rfl ?_
                              refine R_iload_n (k := 3) rfl rfl rfl ?_
                              refine R_iald rfl sh_105 ⟨by omega, by omega⟩ ?_
                              refine N_eq (fun x1526 e1527 => ?_)
                              have q1528 : 0 ≤ x1526.toInt ∧ x1526.toInt ≤ 5 := by rw [e1527]; exact hI.1 105 _
                              have e1529 : x1526 = (evOf h).2.2.2.1 x1497.toNatClampNeg := by rw [e1527]; exact congrFun (congrArg (fun q : EV => q.2.2.2.1) hE) _
                              refine R_iload_n (k := 1) rfl rfl rfl ?_
                              have b1530 := i_rng a0
                              refine R_callV (v := .inr (.inr (.inl 96))) (As := [.inl x1526, .inl a0]) (rest := []) rfl mt_9_i271 pp_X9_doesRest (by decide) rfl rfl rfl (Nat.le_of_ble_eq_true rfl) (Nat.le_of_ble_eq_true rfl) ((g_X9_doesRest h1495 hI x1526 a0 (by omega) (by omega)).mono (fun r1531 h1532 p1533 => ?_))
                              obtain ⟨rfl, x1535, rfl, (q1536 | q1536 | q1536), zq1534, -⟩ := p1533
                              · rw [hE] at zq1534
                                show RUN d_X9_goSecond 200 [(3, .inl x1497), (0, .inr (.inr (.inl 96))), (1, .inl a0), (2, .inl a1)] [.inl x1535] h1495 _
                                refine N_if_ne (a := x1535.toInt) 218 rfl rfl rfl (fun c1537 => ?_) (fun c1537 => ?_)
                                · exfalso; omega
                                · refine R_aload_n (k := 0) rfl rfl rfl ?_
                                  refine R_getf_r (j := 22) rfl ft_9_46 sh_96 rfl ?_
                                  refine R_aload_n (k := 0) rfl rfl rfl ?_
                                  refine R_getf_r (j := 17) rfl ft_9_40 sh_96 rfl ?_
                                  refine R_iload_n (k := 3) rfl rfl rfl ?_
                                  refine R_iald rfl sh_105 ⟨by omega, by omega⟩ ?_
                                  refine N_eq (fun x1538 e1539 => ?_)
                                  have q1540 : 0 ≤ x1538.toInt ∧ x1538.toInt ≤ 5 := by rw [e1539]; exact hI.1 105 _
                                  have e1541 : x1538 = (evOf h).2.2.2.1 x1497.toNatClampNeg := by rw [e1539]; exact congrFun (congrArg (fun q : EV => q.2.2.2.1) hE) _
                                  refine R_dup2 rfl ?_
                                  refine R_iald rfl sh_107 ⟨by omega, by omega⟩ ?_
                                  refine N_eq (fun x1542 e1543 => ?_)
                                  have e1544 : x1542 = ((kyOf h1495).1) x1538.toNatClampNeg := by rw [e1543]; exact (ky_at107 (nlt ⟨by omega, by omega⟩)).trans (congrFun (congrArg (fun q : KY => q.1) hK) _)
                                  refine R_iconst 1 rfl rfl ?_
                                  have b1545 := i_rng x1542
                                  refine R_iadd rfl ?_
                                  refine N_eq (fun x1546 e1547 => ?_)
                                  refine K_iast (a := x1538.toInt) (lo := (-2147483648)) (hi' := 2147483647) rfl sh_107 rfl ⟨by omega, by omega⟩ hI (by decide) rfl (i_rng _) fr (by decide) (fun h1548 g1549 hI fr => ?_)
                                  have fl1496 : FR [107] h861 h1548 := by rw [g1549]; exact FR_wI _ _ fl1496 (by decide)
                                  have fl862 : FR [96, 107, 108, 109, 117, 118] h842 h1548 := by rw [g1549]; exact FR_wI _ _ fl862 (by decide)
                                  have fl820 : FR [96, 107, 108, 109, 117, 118] h803 h1548 := by rw [g1549]; exact FR_wI _ _ fl820 (by decide)
                                  have s1550 : (h1548.1 96 41).toInt = (h1495.1 96 41).toInt := by rw [g1549, wI_ne _ _ _ (by decide)]
                                  have s1551 : (h1548.1 96 42).toInt = (h1495.1 96 42).toInt := by rw [g1549, wI_ne _ _ _ (by decide)]
                                  have s1552 : (h1548.1 96 19).toInt = (h1495.1 96 19).toInt := by rw [g1549, wI_ne _ _ _ (by decide)]
                                  have s1553 : (h1548.1 96 18).toInt = (h1495.1 96 18).toInt := by rw [g1549, wI_ne _ _ _ (by decide)]
                                  have s1554 : (h1548.1 96 20).toInt = (h1495.1 96 20).toInt := by rw [g1549, wI_ne _ _ _ (by decide)]
                                  have s1555 : (h1548.1 96 46).toInt = (h1495.1 96 46).toInt := by rw [g1549, wI_ne _ _ _ (by decide)]
                                  have s1556 : (h1548.1 96 44).toInt = (h1495.1 96 44).toInt := by rw [g1549, wI_ne _ _ _ (by decide)]
                                  have s1557 : (h1548.1 96 47).toInt = (h1495.1 96 47).toInt := by rw [g1549, wI_ne _ _ _ (by decide)]
                                  have s1558 : (h1548.1 96 48).toInt = (h1495.1 96 48).toInt := by rw [g1549, wI_ne _ _ _ (by decide)]
                                  have s1559 : (h1548.1 96 51).toInt = (h1495.1 96 51).toInt := by rw [g1549, wI_ne _ _ _ (by decide)]
                                  have hK : kyOf h1548 = (upd ((kyOf h1495).1) x1538.toNatClampNeg x1546, (kyOf h1495).2.1, (kyOf h1495).2.2.1, (kyOf h1495).2.2.2) := by rw [g1549, ky_107 (nlt ⟨by omega, by omega⟩), hK] <;> rfl
                                  have hE : evOf h1548 = evOf h := by rw [g1549, ev_o (by decide), hE]
                                  refine N_iinc (a := x1497.toInt) (c := 1) (fun w => [(3, .inl w), (0, .inr (.inr (.inl 96))), (1, .inl a0), (2, .inl a1)]) rfl rfl (fun _ => rfl) (by decide) rfl (by decide) (by omega) (fun x1560 q1561 => ?_)
                                  refine R_goto 166 rfl rfl ?_
                                  exact RUN_weak (psub_cons rfl (psub_cons rfl (psub_cons rfl (psub_cons rfl (psub_nil _))))) (ih1498 h1548 x1560 hI fr fl1496 (by omega) (by rw [zHolds_s (x := x1497) (x' := x1560) (by omega) (by omega), ← m1503]; refine hK.trans ?_; subst e1547 e1544 e1541 e1529 e1522 e1519; simp only [zHold1, eLine]; (repeat' split) <;> first | rfl | (exfalso; omega)) (hE) (by omega))
                              · rw [hE] at zq1534
                                show RUN d_X9_goSecond 200 [(3, .inl x1497), (0, .inr (.inr (.inl 96))), (1, .inl a0), (2, .inl a1)] [.inl x1535] h1495 _
                                refine N_if_ne (a := x1535.toInt) 218 rfl rfl rfl (fun c1562 => ?_) (fun c1562 => ?_)
                                · exfalso; omega
                                · refine R_aload_n (k := 0) rfl rfl rfl ?_
                                  refine R_getf_r (j := 22) rfl ft_9_46 sh_96 rfl ?_
                                  refine R_aload_n (k := 0) rfl rfl rfl ?_
                                  refine R_getf_r (j := 17) rfl ft_9_40 sh_96 rfl ?_
                                  refine R_iload_n (k := 3) rfl rfl rfl ?_
                                  refine R_iald rfl sh_105 ⟨by omega, by omega⟩ ?_
                                  refine N_eq (fun x1563 e1564 => ?_)
                                  have q1565 : 0 ≤ x1563.toInt ∧ x1563.toInt ≤ 5 := by rw [e1564]; exact hI.1 105 _
                                  have e1566 : x1563 = (evOf h).2.2.2.1 x1497.toNatClampNeg := by rw [e1564]; exact congrFun (congrArg (fun q : EV => q.2.2.2.1) hE) _
                                  refine R_dup2 rfl ?_
                                  refine R_iald rfl sh_107 ⟨by omega, by omega⟩ ?_
                                  refine N_eq (fun x1567 e1568 => ?_)
                                  have e1569 : x1567 = ((kyOf h1495).1) x1563.toNatClampNeg := by rw [e1568]; exact (ky_at107 (nlt ⟨by omega, by omega⟩)).trans (congrFun (congrArg (fun q : KY => q.1) hK) _)
                                  refine R_iconst 1 rfl rfl ?_
                                  have b1570 := i_rng x1567
                                  refine R_iadd rfl ?_
                                  refine N_eq (fun x1571 e1572 => ?_)
                                  refine K_iast (a := x1563.toInt) (lo := (-2147483648)) (hi' := 2147483647) rfl sh_107 rfl ⟨by omega, by omega⟩ hI (by decide) rfl (i_rng _) fr (by decide) (fun h1573 g1574 hI fr => ?_)
                                  have fl1496 : FR [107] h861 h1573 := by rw [g1574]; exact FR_wI _ _ fl1496 (by decide)
                                  have fl862 : FR [96, 107, 108, 109, 117, 118] h842 h1573 := by rw [g1574]; exact FR_wI _ _ fl862 (by decide)
                                  have fl820 : FR [96, 107, 108, 109, 117, 118] h803 h1573 := by rw [g1574]; exact FR_wI _ _ fl820 (by decide)
                                  have s1575 : (h1573.1 96 41).toInt = (h1495.1 96 41).toInt := by rw [g1574, wI_ne _ _ _ (by decide)]
                                  have s1576 : (h1573.1 96 42).toInt = (h1495.1 96 42).toInt := by rw [g1574, wI_ne _ _ _ (by decide)]
                                  have s1577 : (h1573.1 96 19).toInt = (h1495.1 96 19).toInt := by rw [g1574, wI_ne _ _ _ (by decide)]
                                  have s1578 : (h1573.1 96 18).toInt = (h1495.1 96 18).toInt := by rw [g1574, wI_ne _ _ _ (by decide)]
                                  have s1579 : (h1573.1 96 20).toInt = (h1495.1 96 20).toInt := by rw [g1574, wI_ne _ _ _ (by decide)]
                                  have s1580 : (h1573.1 96 46).toInt = (h1495.1 96 46).toInt := by rw [g1574, wI_ne _ _ _ (by decide)]
                                  have s1581 : (h1573.1 96 44).toInt = (h1495.1 96 44).toInt := by rw [g1574, wI_ne _ _ _ (by decide)]
                                  have s1582 : (h1573.1 96 47).toInt = (h1495.1 96 47).toInt := by rw [g1574, wI_ne _ _ _ (by decide)]
                                  have s1583 : (h1573.1 96 48).toInt = (h1495.1 96 48).toInt := by rw [g1574, wI_ne _ _ _ (by decide)]
                                  have s1584 : (h1573.1 96 51).toInt = (h1495.1 96 51).toInt := by rw [g1574, wI_ne _ _ _ (by decide)]
                                  have hK : kyOf h1573 = (upd ((kyOf h1495).1) x1563.toNatClampNeg x1571, (kyOf h1495).2.1, (kyOf h1495).2.2.1, (kyOf h1495).2.2.2) := by rw [g1574, ky_107 (nlt ⟨by omega, by omega⟩), hK] <;> rfl
                                  have hE : evOf h1573 = evOf h := by rw [g1574, ev_o (by decide), hE]
                                  refine N_iinc (a := x1497.toInt) (c := 1) (fun w => [(3, .inl w), (0, .inr (.inr (.inl 96))), (1, .inl a0), (2, .inl a1)]) rfl rfl (fun _ => rfl) (by decide) rfl (by decide) (by omega) (fun x1585 q1586 => ?_)
                                  refine R_goto 166 rfl rfl ?_
                                  exact RUN_weak (psub_cons rfl (psub_cons rfl (psub_cons rfl (psub_cons rfl (psub_nil _))))) (ih1498 h1573 x1585 hI fr fl1496 (by omega) (by rw [zHolds_s (x := x1497) (x' := x1585) (by omega) (by omega), ← m1503]; refine hK.trans ?_; subst e1572 e1569 e1566 e1529 e1522 e1519; simp only [zHold1, eLine]; (repeat' split) <;> first | rfl | (exfalso; omega)) (hE) (by omega))
                              · rw [hE] at zq1534
                                show RUN d_X9_goSecond 200 [(3, .inl x1497), (0, .inr (.inr (.inl 96))), (1, .inl a0), (2, .inl a1)] [.inl x1535] h1495 _
                                refine N_if_ne (a := x1535.toInt) 218 rfl rfl rfl (fun c1587 => ?_) (fun c1587 => ?_)
                                · refine N_iinc (a := x1497.toInt) (c := 1) (fun w => [(3, .inl w), (0, .inr (.inr (.inl 96))), (1, .inl a0), (2, .inl a1)]) rfl rfl (fun _ => rfl) (by decide) rfl (by decide) (by omega) (fun x1588 q1589 => ?_)
                                  refine R_goto 166 rfl rfl ?_
                                  exact RUN_weak (psub_cons rfl (psub_cons rfl (psub_cons rfl (psub_cons rfl (psub_nil _))))) (ih1498 h1495 x1588 hI fr fl1496 (by omega) (by rw [zHolds_s (x := x1497) (x' := x1588) (by omega) (by omega), ← m1503]; refine hK.trans ?_; subst e1529 e1522 e1519; simp only [zHold1, eLine]; (repeat' split) <;> first | rfl | (exfalso; omega)) (hE) (by omega))
                                · exfalso; omega
                      have k1590 : (0 : Int32).toInt = 0 := by decide
                      exact lp1494 _ h861 (0 : Int32) hI fr (FR.rf _ _) (by decide) (by rw [hK]; rfl) (hE) (Nat.lt_succ_self _)
                    · refine R_aload_n (k := 0) rfl rfl rfl ?_
                      refine R_aload_n (k := 0) rfl rfl rfl ?_
                      refine R_getf_r (j := 17) rfl ft_9_40 sh_96 rfl ?_
                      refine R_iconst 0 rfl rfl ?_
                      refine R_iald rfl sh_105 (by decide) ?_
                      refine N_eq (fun x1591 e1592 => ?_)
                      have q1593 : 0 ≤ x1591.toInt ∧ x1591.toInt ≤ 5 := by rw [e1592]; exact hI.1 105 _
                      have e1594 : x1591 = (evOf h).2.2.2.1 (0 : Int32).toNatClampNeg := by rw [e1592]; exact congrFun (congrArg (fun q : EV => q.2.2.2.1) hE) _
                      refine R_iload_n (k := 1) rfl rfl rfl ?_
                      have b1595 := i_rng a0
                      refine R_callV (v := .inr (.inr (.inl 96))) (As := [.inl x1591, .inl a0]) (rest := []) rfl mt_9_i271 pp_X9_doesRest (by decide) rfl rfl rfl (Nat.le_of_ble_eq_true rfl) (Nat.le_of_ble_eq_true rfl) ((g_X9_doesRest h861 hI x1591 a0 (by omega) (by omega)).mono (fun r1596 h1597 p1598 => ?_))
                      obtain ⟨rfl, x1600, rfl, (q1601 | q1601 | q1601), zq1599, -⟩ := p1598
                      · rw [hE] at zq1599
                        show RUN d_X9_goSecond 115 [(3, .inl x863), (0, .inr (.inr (.inl 96))), (1, .inl a0), (2, .inl a1)] [.inl x1600] h861 _
                        refine N_if_ne (a := x1600.toInt) 164 rfl rfl rfl (fun c1602 => ?_) (fun c1602 => ?_)
                        · exfalso; omega
                        · refine R_aload_n (k := 0) rfl rfl rfl ?_
                          refine R_getf_r (j := 24) rfl ft_9_52 sh_96 rfl ?_
                          refine R_iconst 0 rfl rfl ?_
                          refine R_iald rfl sh_109 (by decide) ?_
                          refine N_eq (fun x1603 e1604 => ?_)
                          have e1605 : x1603 = ((zMid (evOf h) a0 a1 (kyOf h)).2.2.1) (0 : Int32).toNatClampNeg := by rw [e1604]; exact (ky_at109 (by decide)).trans (congrFun (congrArg (fun q : KY => q.2.2.1) hK) _)
                          refine N_if_le (a := x1603.toInt) 164 rfl rfl rfl (fun c1606 => ?_) (fun c1606 => ?_)
                          · have hK : kyOf h861 = zTake (evOf h) a0 (zMid (evOf h) a0 a1 (kyOf h)) := by
                              refine hK.trans ?_
                              subst e1605 e1594 e1491 e1488
                              simp only [zTake, zTake1, eMany, eLine, eFull]
                              (repeat' split) <;> first | rfl | (exfalso; omega)
                            refine R_iconst 0 rfl rfl ?_
                            refine R_istore_n (k := 3) rfl [(3, .inl 0), (0, .inr (.inr (.inl 96))), (1, .inl a0), (2, .inl a1)] rfl rfl (by decide) ?_
                            have lp1608 : ∀ (n1607 : Nat) (h1609 : PH) (x1611 : Int32), INV h1609 → FR [96, 107, 108, 109, 117, 118] h h1609 → FR [107] h861 h1609 → 0 ≤ x1611.toInt ∧ x1611.toInt ≤ 6 → (kyOf h1609 = zHolds (evOf h) a0 x1611.toNatClampNeg (zTake (evOf h) a0 (zMid (evOf h) a0 a1 (kyOf h)))) → (evOf h1609 = evOf h) → (6 - x1611.toInt).toNat < n1607 → RUN d_X9_goSecond 166 [(3, .inl x1611), (0, .inr (.inr (.inl 96))), (1, .inl a0), (2, .inl a1)] [] h1609 (q_X9_goSecond h a0 a1) := by
                              intro n1607
                              induction n1607 with
                              | zero => intro h1609 x1611 m1613 m1614 m1615 m1616 m1617 m1618 hz; exact absurd hz (Nat.not_lt_zero _)
                              | succ n1607 ih1612 =>
                                intro h1609 x1611 hI fr fl1610 m1616 m1617 m1618 hz
                                have s1619 : (h1609.1 96 41).toInt = (h861.1 96 41).toInt := by rw [(fl1610 96 (by decide)).1]
                                have s1620 : (h1609.1 96 42).toInt = (h861.1 96 42).toInt := by rw [(fl1610 96 (by decide)).1]
                                have s1621 : (h1609.1 96 19).toInt = (h861.1 96 19).toInt := by rw [(fl1610 96 (by decide)).1]
                                have s1622 : (h1609.1 96 18).toInt = (h861.1 96 18).toInt := by rw [(fl1610 96 (by decide)).1]
                                have s1623 : (h1609.1 96 20).toInt = (h861.1 96 20).toInt := by rw [(fl1610 96 (by decide)).1]
                                have s1624 : (h1609.1 96 46).toInt = (h861.1 96 46).toInt := by rw [(fl1610 96 (by decide)).1]
                                have s1625 : (h1609.1 96 44).toInt = (h861.1 96 44).toInt := by rw [(fl1610 96 (by decide)).1]
                                have s1626 : (h1609.1 96 47).toInt = (h861.1 96 47).toInt := by rw [(fl1610 96 (by decide)).1]
                                have s1627 : (h1609.1 96 48).toInt = (h861.1 96 48).toInt := by rw [(fl1610 96 (by decide)).1]
                                have s1628 : (h1609.1 96 51).toInt = (h861.1 96 51).toInt := by rw [(fl1610 96 (by decide)).1]
                                have fl862 : FR [96, 107, 108, 109, 117, 118] h842 h1609 := fl862.trans fl1610 (by decide)
                                have fl820 : FR [96, 107, 108, 109, 117, 118] h803 h1609 := fl820.trans fl1610 (by decide)
                                have hE := m1618
                                have hK : kyOf h1609 = kyOf h1609 := rfl
                                refine R_iload_n (k := 3) rfl rfl rfl ?_
                                refine R_aload_n (k := 0) rfl rfl rfl ?_
                                refine R_getf_i (j := 18) rfl ft_9_253 sh_96 rfl ?_
                                refine N_icmp_ge (a := x1611.toInt) (b := (h1609.1 96 18).toInt) 224 rfl rfl rfl rfl (fun c1629 => ?_) (fun c1629 => ?_)
                                · have hF : kyOf h1609 = zSecond (evOf h) a0 a1 (kyOf h) := m1617.trans (by rw [show x1611 = eMany (evOf h) from i_of _ (by omega)]; rfl)
                                  exact R_vret rfl rfl ⟨hI, fr, ⟨by omega, by omega, by omega, by omega, by omega, by omega, by omega, by omega, by omega, by omega, hF, hE, trivial⟩, rfl⟩
                                · refine R_aload_n (k := 0) rfl rfl rfl ?_
                                  refine R_getf_r (j := 22) rfl ft_9_46 sh_96 rfl ?_
                                  refine R_aload_n (k := 0) rfl rfl rfl ?_
                                  refine R_getf_r (j := 17) rfl ft_9_40 sh_96 rfl ?_
                                  refine R_iload_n (k := 3) rfl rfl rfl ?_
                                  refine R_iald rfl sh_105 ⟨by omega, by omega⟩ ?_
                                  refine N_eq (fun x1630 e1631 => ?_)
                                  have q1632 : 0 ≤ x1630.toInt ∧ x1630.toInt ≤ 5 := by rw [e1631]; exact hI.1 105 _
                                  have e1633 : x1630 = (evOf h).2.2.2.1 x1611.toNatClampNeg := by rw [e1631]; exact congrFun (congrArg (fun q : EV => q.2.2.2.1) hE) _
                                  refine R_iald rfl sh_107 ⟨by omega, by omega⟩ ?_
                                  refine N_eq (fun x1634 e1635 => ?_)
                                  have e1636 : x1634 = ((kyOf h1609).1) x1630.toNatClampNeg := by rw [e1635]; exact (ky_at107 (nlt ⟨by omega, by omega⟩)).trans (congrFun (congrArg (fun q : KY => q.1) hK) _)
                                  refine R_iconst (-1) rfl rfl ?_
                                  refine N_icmp_eq (a := x1634.toInt) (b := (-1)) 218 rfl rfl rfl (by decide) (fun c1637 => ?_) (fun c1637 => ?_)
                                  · refine N_iinc (a := x1611.toInt) (c := 1) (fun w => [(3, .inl w), (0, .inr (.inr (.inl 96))), (1, .inl a0), (2, .inl a1)]) rfl rfl (fun _ => rfl) (by decide) rfl (by decide) (by omega) (fun x1638 q1639 => ?_)
                                    refine R_goto 166 rfl rfl ?_
                                    exact RUN_weak (psub_cons rfl (psub_cons rfl (psub_cons rfl (psub_cons rfl (psub_nil _))))) (ih1612 h1609 x1638 hI fr fl1610 (by omega) (by rw [zHolds_s (x := x1611) (x' := x1638) (by omega) (by omega), ← m1617]; refine hK.trans ?_; subst e1636 e1633; simp only [zHold1, eLine]; (repeat' split) <;> first | rfl | (exfalso; omega)) (hE) (by omega))
                                  · refine R_aload_n (k := 0) rfl rfl rfl ?_
                                    refine R_aload_n (k := 0) rfl rfl rfl ?_
                                    refine R_getf_r (j := 17) rfl ft_9_40 sh_96 rfl ?_
                                    refine R_iload_n (k := 3) rfl rfl rfl ?_
                                    refine R_iald rfl sh_105 ⟨by omega, by omega⟩ ?_
                                    refine N_eq (fun x1640 e1641 => ?_)
                                    have q1642 : 0 ≤ x1640.toInt ∧ x1640.toInt ≤ 5 := by rw [e1641]; exact hI.1 105 _
                                    have e1643 : x1640 = (evOf h).2.2.2.1 x1611.toNatClampNeg := by rw [e1641]; exact congrFun (congrArg (fun q : EV => q.2.2.2.1) hE) _
                                    refine R_iload_n (k := 1) rfl rfl rfl ?_
                                    have b1644 := i_rng a0
                                    refine R_callV (v := .inr (.inr (.inl 96))) (As := [.inl x1640, .inl a0]) (rest := []) rfl mt_9_i271 pp_X9_doesRest (by decide) rfl rfl rfl (Nat.le_of_ble_eq_true rfl) (Nat.le_of_ble_eq_true rfl) ((g_X9_doesRest h1609 hI x1640 a0 (by omega) (by omega)).mono (fun r1645 h1646 p1647 => ?_))
                                    obtain ⟨rfl, x1649, rfl, (q1650 | q1650 | q1650), zq1648, -⟩ := p1647
                                    · rw [hE] at zq1648
                                      show RUN d_X9_goSecond 200 [(3, .inl x1611), (0, .inr (.inr (.inl 96))), (1, .inl a0), (2, .inl a1)] [.inl x1649] h1609 _
                                      refine N_if_ne (a := x1649.toInt) 218 rfl rfl rfl (fun c1651 => ?_) (fun c1651 => ?_)
                                      · exfalso; omega
                                      · refine R_aload_n (k := 0) rfl rfl rfl ?_
                                        refine R_getf_r (j := 22) rfl ft_9_46 sh_96 rfl ?_
                                        refine R_aload_n (k := 0) rfl rfl rfl ?_
                                        refine R_getf_r (j := 17) rfl ft_9_40 sh_96 rfl ?_
                                        refine R_iload_n (k := 3) rfl rfl rfl ?_
                                        refine R_iald rfl sh_105 ⟨by omega, by omega⟩ ?_
                                        refine N_eq (fun x1652 e1653 => ?_)
                                        have q1654 : 0 ≤ x1652.toInt ∧ x1652.toInt ≤ 5 := by rw [e1653]; exact hI.1 105 _
                                        have e1655 : x1652 = (evOf h).2.2.2.1 x1611.toNatClampNeg := by rw [e1653]; exact congrFun (congrArg (fun q : EV => q.2.2.2.1) hE) _
                                        refine R_dup2 rfl ?_
                                        refine R_iald rfl sh_107 ⟨by omega, by omega⟩ ?_
                                        refine N_eq (fun x1656 e1657 => ?_)
                                        have e1658 : x1656 = ((kyOf h1609).1) x1652.toNatClampNeg := by rw [e1657]; exact (ky_at107 (nlt ⟨by omega, by omega⟩)).trans (congrFun (congrArg (fun q : KY => q.1) hK) _)
                                        refine R_iconst 1 rfl rfl ?_
                                        have b1659 := i_rng x1656
                                        refine R_iadd rfl ?_
                                        refine N_eq (fun x1660 e1661 => ?_)
                                        refine K_iast (a := x1652.toInt) (lo := (-2147483648)) (hi' := 2147483647) rfl sh_107 rfl ⟨by omega, by omega⟩ hI (by decide) rfl (i_rng _) fr (by decide) (fun h1662 g1663 hI fr => ?_)
                                        have fl1610 : FR [107] h861 h1662 := by rw [g1663]; exact FR_wI _ _ fl1610 (by decide)
                                        have fl862 : FR [96, 107, 108, 109, 117, 118] h842 h1662 := by rw [g1663]; exact FR_wI _ _ fl862 (by decide)
                                        have fl820 : FR [96, 107, 108, 109, 117, 118] h803 h1662 := by rw [g1663]; exact FR_wI _ _ fl820 (by decide)
                                        have s1664 : (h1662.1 96 41).toInt = (h1609.1 96 41).toInt := by rw [g1663, wI_ne _ _ _ (by decide)]
                                        have s1665 : (h1662.1 96 42).toInt = (h1609.1 96 42).toInt := by rw [g1663, wI_ne _ _ _ (by decide)]
                                        have s1666 : (h1662.1 96 19).toInt = (h1609.1 96 19).toInt := by rw [g1663, wI_ne _ _ _ (by decide)]
                                        have s1667 : (h1662.1 96 18).toInt = (h1609.1 96 18).toInt := by rw [g1663, wI_ne _ _ _ (by decide)]
                                        have s1668 : (h1662.1 96 20).toInt = (h1609.1 96 20).toInt := by rw [g1663, wI_ne _ _ _ (by decide)]
                                        have s1669 : (h1662.1 96 46).toInt = (h1609.1 96 46).toInt := by rw [g1663, wI_ne _ _ _ (by decide)]
                                        have s1670 : (h1662.1 96 44).toInt = (h1609.1 96 44).toInt := by rw [g1663, wI_ne _ _ _ (by decide)]
                                        have s1671 : (h1662.1 96 47).toInt = (h1609.1 96 47).toInt := by rw [g1663, wI_ne _ _ _ (by decide)]
                                        have s1672 : (h1662.1 96 48).toInt = (h1609.1 96 48).toInt := by rw [g1663, wI_ne _ _ _ (by decide)]
                                        have s1673 : (h1662.1 96 51).toInt = (h1609.1 96 51).toInt := by rw [g1663, wI_ne _ _ _ (by decide)]
                                        have hK : kyOf h1662 = (upd ((kyOf h1609).1) x1652.toNatClampNeg x1660, (kyOf h1609).2.1, (kyOf h1609).2.2.1, (kyOf h1609).2.2.2) := by rw [g1663, ky_107 (nlt ⟨by omega, by omega⟩), hK] <;> rfl
                                        have hE : evOf h1662 = evOf h := by rw [g1663, ev_o (by decide), hE]
                                        refine N_iinc (a := x1611.toInt) (c := 1) (fun w => [(3, .inl w), (0, .inr (.inr (.inl 96))), (1, .inl a0), (2, .inl a1)]) rfl rfl (fun _ => rfl) (by decide) rfl (by decide) (by omega) (fun x1674 q1675 => ?_)
                                        refine R_goto 166 rfl rfl ?_
                                        exact RUN_weak (psub_cons rfl (psub_cons rfl (psub_cons rfl (psub_cons rfl (psub_nil _))))) (ih1612 h1662 x1674 hI fr fl1610 (by omega) (by rw [zHolds_s (x := x1611) (x' := x1674) (by omega) (by omega), ← m1617]; refine hK.trans ?_; subst e1661 e1658 e1655 e1643 e1636 e1633; simp only [zHold1, eLine]; (repeat' split) <;> first | rfl | (exfalso; omega)) (hE) (by omega))
                                      rw [hE] at zq1648
                                    · exfalso; omega
                                      rw [hE] at zq1648
                                    · exfalso; omega
                            have k1676 : (0 : Int32).toInt = 0 := by decide
                            exact lp1608 _ h861 (0 : Int32) hI fr (FR.rf _ _) (by decide) (by rw [hK]; rfl) (hE) (Nat.lt_succ_self _)
                          · refine R_aload_n (k := 0) rfl rfl rfl ?_
                            refine R_getf_r (j := 24) rfl ft_9_52 sh_96 rfl ?_
                            refine R_iconst 0 rfl rfl ?_
                            refine R_dup2 rfl ?_
                            refine R_iald rfl sh_109 (by decide) ?_
                            refine N_eq (fun x1677 e1678 => ?_)
                            have e1679 : x1677 = ((zMid (evOf h) a0 a1 (kyOf h)).2.2.1) (0 : Int32).toNatClampNeg := by rw [e1678]; exact (ky_at109 (by decide)).trans (congrFun (congrArg (fun q : KY => q.2.2.1) hK) _)
                            refine R_iconst 1 rfl rfl ?_
                            have b1680 := i_rng x1677
                            refine R_isub rfl ?_
                            refine N_eq (fun x1681 e1682 => ?_)
                            refine K_iast (a := 0) (lo := (-2147483648)) (hi' := 2147483647) rfl sh_109 (by decide) (by decide) hI (by decide) rfl (i_rng _) fr (by decide) (fun h1683 g1684 hI fr => ?_)
                            have fl862 : FR [96, 107, 108, 109, 117, 118] h842 h1683 := by rw [g1684]; exact FR_wI _ _ fl862 (by decide)
                            have fl820 : FR [96, 107, 108, 109, 117, 118] h803 h1683 := by rw [g1684]; exact FR_wI _ _ fl820 (by decide)
                            have s1685 : (h1683.1 96 41).toInt = (h861.1 96 41).toInt := by rw [g1684, wI_ne _ _ _ (by decide)]
                            have s1686 : (h1683.1 96 42).toInt = (h861.1 96 42).toInt := by rw [g1684, wI_ne _ _ _ (by decide)]
                            have s1687 : (h1683.1 96 19).toInt = (h861.1 96 19).toInt := by rw [g1684, wI_ne _ _ _ (by decide)]
                            have s1688 : (h1683.1 96 18).toInt = (h861.1 96 18).toInt := by rw [g1684, wI_ne _ _ _ (by decide)]
                            have s1689 : (h1683.1 96 20).toInt = (h861.1 96 20).toInt := by rw [g1684, wI_ne _ _ _ (by decide)]
                            have s1690 : (h1683.1 96 46).toInt = (h861.1 96 46).toInt := by rw [g1684, wI_ne _ _ _ (by decide)]
                            have s1691 : (h1683.1 96 44).toInt = (h861.1 96 44).toInt := by rw [g1684, wI_ne _ _ _ (by decide)]
                            have s1692 : (h1683.1 96 47).toInt = (h861.1 96 47).toInt := by rw [g1684, wI_ne _ _ _ (by decide)]
                            have s1693 : (h1683.1 96 48).toInt = (h861.1 96 48).toInt := by rw [g1684, wI_ne _ _ _ (by decide)]
                            have s1694 : (h1683.1 96 51).toInt = (h861.1 96 51).toInt := by rw [g1684, wI_ne _ _ _ (by decide)]
                            have hK : kyOf h1683 = ((zMid (evOf h) a0 a1 (kyOf h)).1, (zMid (evOf h) a0 a1 (kyOf h)).2.1, upd ((zMid (evOf h) a0 a1 (kyOf h)).2.2.1) (0 : Int32).toNatClampNeg x1681, (zMid (evOf h) a0 a1 (kyOf h)).2.2.2) := by rw [g1684, ky_109 (by decide), hK] <;> rfl
                            have hE : evOf h1683 = evOf h := by rw [g1684, ev_o (by decide), hE]
                            refine R_aload_n (k := 0) rfl rfl rfl ?_
                            refine R_getf_r (j := 22) rfl ft_9_46 sh_96 rfl ?_
                            refine R_aload_n (k := 0) rfl rfl rfl ?_
                            refine R_getf_r (j := 17) rfl ft_9_40 sh_96 rfl ?_
                            refine R_iconst 0 rfl rfl ?_
                            refine R_iald rfl sh_105 (by decide) ?_
                            refine N_eq (fun x1695 e1696 => ?_)
                            have q1697 : 0 ≤ x1695.toInt ∧ x1695.toInt ≤ 5 := by rw [e1696]; exact hI.1 105 _
                            have e1698 : x1695 = (evOf h).2.2.2.1 (0 : Int32).toNatClampNeg := by rw [e1696]; exact congrFun (congrArg (fun q : EV => q.2.2.2.1) hE) _
                            refine R_iconst 0 rfl rfl ?_
                            refine K_iast (a := x1695.toInt) (lo := (-2147483648)) (hi' := 2147483647) rfl sh_107 rfl ⟨by omega, by omega⟩ hI (by decide) rfl (by decide) fr (by decide) (fun h1699 g1700 hI fr => ?_)
                            have fl862 : FR [96, 107, 108, 109, 117, 118] h842 h1699 := by rw [g1700]; exact FR_wI _ _ fl862 (by decide)
                            have fl820 : FR [96, 107, 108, 109, 117, 118] h803 h1699 := by rw [g1700]; exact FR_wI _ _ fl820 (by decide)
                            have s1701 : (h1699.1 96 41).toInt = (h1683.1 96 41).toInt := by rw [g1700, wI_ne _ _ _ (by decide)]
                            have s1702 : (h1699.1 96 42).toInt = (h1683.1 96 42).toInt := by rw [g1700, wI_ne _ _ _ (by decide)]
                            have s1703 : (h1699.1 96 19).toInt = (h1683.1 96 19).toInt := by rw [g1700, wI_ne _ _ _ (by decide)]
                            have s1704 : (h1699.1 96 18).toInt = (h1683.1 96 18).toInt := by rw [g1700, wI_ne _ _ _ (by decide)]
                            have s1705 : (h1699.1 96 20).toInt = (h1683.1 96 20).toInt := by rw [g1700, wI_ne _ _ _ (by decide)]
                            have s1706 : (h1699.1 96 46).toInt = (h1683.1 96 46).toInt := by rw [g1700, wI_ne _ _ _ (by decide)]
                            have s1707 : (h1699.1 96 44).toInt = (h1683.1 96 44).toInt := by rw [g1700, wI_ne _ _ _ (by decide)]
                            have s1708 : (h1699.1 96 47).toInt = (h1683.1 96 47).toInt := by rw [g1700, wI_ne _ _ _ (by decide)]
                            have s1709 : (h1699.1 96 48).toInt = (h1683.1 96 48).toInt := by rw [g1700, wI_ne _ _ _ (by decide)]
                            have s1710 : (h1699.1 96 51).toInt = (h1683.1 96 51).toInt := by rw [g1700, wI_ne _ _ _ (by decide)]
                            have hK : kyOf h1699 = (upd ((zMid (evOf h) a0 a1 (kyOf h)).1) x1695.toNatClampNeg (0), (zMid (evOf h) a0 a1 (kyOf h)).2.1, upd ((zMid (evOf h) a0 a1 (kyOf h)).2.2.1) (0 : Int32).toNatClampNeg x1681, (zMid (evOf h) a0 a1 (kyOf h)).2.2.2) := by rw [g1700, ky_107 (nlt ⟨by omega, by omega⟩), hK] <;> rfl
                            have hE : evOf h1699 = evOf h := by rw [g1700, ev_o (by decide), hE]
                            refine R_aload_n (k := 0) rfl rfl rfl ?_
                            refine R_getf_r (j := 23) rfl ft_9_49 sh_96 rfl ?_
                            refine R_aload_n (k := 0) rfl rfl rfl ?_
                            refine R_getf_r (j := 17) rfl ft_9_40 sh_96 rfl ?_
                            refine R_iconst 0 rfl rfl ?_
                            refine R_iald rfl sh_105 (by decide) ?_
                            refine N_eq (fun x1711 e1712 => ?_)
                            have q1713 : 0 ≤ x1711.toInt ∧ x1711.toInt ≤ 5 := by rw [e1712]; exact hI.1 105 _
                            have e1714 : x1711 = (evOf h).2.2.2.1 (0 : Int32).toNatClampNeg := by rw [e1712]; exact congrFun (congrArg (fun q : EV => q.2.2.2.1) hE) _
                            refine R_aload_n (k := 0) rfl rfl rfl ?_
                            refine R_getf_i (j := 20) rfl ft_9_259 sh_96 rfl ?_
                            refine N_eq (fun x1715 e1716 => ?_)
                            have e1717 : x1715 = (evOf h).2.2.2.2.2.1 := by rw [e1716]; exact congrArg (fun q : EV => q.2.2.2.2.2.1) hE
                            refine K_iast (a := x1711.toInt) (lo := (-2147483648)) (hi' := 2147483647) rfl sh_108 rfl ⟨by omega, by omega⟩ hI (by decide) rfl (i_rng _) fr (by decide) (fun h1718 g1719 hI fr => ?_)
                            have fl862 : FR [96, 107, 108, 109, 117, 118] h842 h1718 := by rw [g1719]; exact FR_wI _ _ fl862 (by decide)
                            have fl820 : FR [96, 107, 108, 109, 117, 118] h803 h1718 := by rw [g1719]; exact FR_wI _ _ fl820 (by decide)
                            have s1720 : (h1718.1 96 41).toInt = (h1699.1 96 41).toInt := by rw [g1719, wI_ne _ _ _ (by decide)]
                            have s1721 : (h1718.1 96 42).toInt = (h1699.1 96 42).toInt := by rw [g1719, wI_ne _ _ _ (by decide)]
                            have s1722 : (h1718.1 96 19).toInt = (h1699.1 96 19).toInt := by rw [g1719, wI_ne _ _ _ (by decide)]
                            have s1723 : (h1718.1 96 18).toInt = (h1699.1 96 18).toInt := by rw [g1719, wI_ne _ _ _ (by decide)]
                            have s1724 : (h1718.1 96 20).toInt = (h1699.1 96 20).toInt := by rw [g1719, wI_ne _ _ _ (by decide)]
                            have s1725 : (h1718.1 96 46).toInt = (h1699.1 96 46).toInt := by rw [g1719, wI_ne _ _ _ (by decide)]
                            have s1726 : (h1718.1 96 44).toInt = (h1699.1 96 44).toInt := by rw [g1719, wI_ne _ _ _ (by decide)]
                            have s1727 : (h1718.1 96 47).toInt = (h1699.1 96 47).toInt := by rw [g1719, wI_ne _ _ _ (by decide)]
                            have s1728 : (h1718.1 96 48).toInt = (h1699.1 96 48).toInt := by rw [g1719, wI_ne _ _ _ (by decide)]
                            have s1729 : (h1718.1 96 51).toInt = (h1699.1 96 51).toInt := by rw [g1719, wI_ne _ _ _ (by decide)]
                            have hK : kyOf h1718 = (upd ((zMid (evOf h) a0 a1 (kyOf h)).1) x1695.toNatClampNeg (0), upd ((zMid (evOf h) a0 a1 (kyOf h)).2.1) x1711.toNatClampNeg x1715, upd ((zMid (evOf h) a0 a1 (kyOf h)).2.2.1) (0 : Int32).toNatClampNeg x1681, (zMid (evOf h) a0 a1 (kyOf h)).2.2.2) := by rw [g1719, ky_108 (nlt ⟨by omega, by omega⟩), hK] <;> rfl
                            have hE : evOf h1718 = evOf h := by rw [g1719, ev_o (by decide), hE]
                            have hK : kyOf h1718 = zTake (evOf h) a0 (zMid (evOf h) a0 a1 (kyOf h)) := by
                              refine hK.trans ?_
                              subst e1717 e1714 e1698 e1682 e1679 e1605 e1594 e1491 e1488
                              simp only [zTake, zTake1, eMany, eLine, eFull]
                              (repeat' split) <;> first | rfl | (exfalso; omega)
                            refine R_iconst 0 rfl rfl ?_
                            refine R_istore_n (k := 3) rfl [(3, .inl 0), (0, .inr (.inr (.inl 96))), (1, .inl a0), (2, .inl a1)] rfl rfl (by decide) ?_
                            have lp1731 : ∀ (n1730 : Nat) (h1732 : PH) (x1734 : Int32), INV h1732 → FR [96, 107, 108, 109, 117, 118] h h1732 → FR [107] h1718 h1732 → 0 ≤ x1734.toInt ∧ x1734.toInt ≤ 6 → (kyOf h1732 = zHolds (evOf h) a0 x1734.toNatClampNeg (zTake (evOf h) a0 (zMid (evOf h) a0 a1 (kyOf h)))) → (evOf h1732 = evOf h) → (6 - x1734.toInt).toNat < n1730 → RUN d_X9_goSecond 166 [(3, .inl x1734), (0, .inr (.inr (.inl 96))), (1, .inl a0), (2, .inl a1)] [] h1732 (q_X9_goSecond h a0 a1) := by
                              intro n1730
                              induction n1730 with
                              | zero => intro h1732 x1734 m1736 m1737 m1738 m1739 m1740 m1741 hz; exact absurd hz (Nat.not_lt_zero _)
                              | succ n1730 ih1735 =>
                                intro h1732 x1734 hI fr fl1733 m1739 m1740 m1741 hz
                                have s1742 : (h1732.1 96 41).toInt = (h1718.1 96 41).toInt := by rw [(fl1733 96 (by decide)).1]
                                have s1743 : (h1732.1 96 42).toInt = (h1718.1 96 42).toInt := by rw [(fl1733 96 (by decide)).1]
                                have s1744 : (h1732.1 96 19).toInt = (h1718.1 96 19).toInt := by rw [(fl1733 96 (by decide)).1]
                                have s1745 : (h1732.1 96 18).toInt = (h1718.1 96 18).toInt := by rw [(fl1733 96 (by decide)).1]
                                have s1746 : (h1732.1 96 20).toInt = (h1718.1 96 20).toInt := by rw [(fl1733 96 (by decide)).1]
                                have s1747 : (h1732.1 96 46).toInt = (h1718.1 96 46).toInt := by rw [(fl1733 96 (by decide)).1]
                                have s1748 : (h1732.1 96 44).toInt = (h1718.1 96 44).toInt := by rw [(fl1733 96 (by decide)).1]
                                have s1749 : (h1732.1 96 47).toInt = (h1718.1 96 47).toInt := by rw [(fl1733 96 (by decide)).1]
                                have s1750 : (h1732.1 96 48).toInt = (h1718.1 96 48).toInt := by rw [(fl1733 96 (by decide)).1]
                                have s1751 : (h1732.1 96 51).toInt = (h1718.1 96 51).toInt := by rw [(fl1733 96 (by decide)).1]
                                have fl862 : FR [96, 107, 108, 109, 117, 118] h842 h1732 := fl862.trans fl1733 (by decide)
                                have fl820 : FR [96, 107, 108, 109, 117, 118] h803 h1732 := fl820.trans fl1733 (by decide)
                                have hE := m1741
                                have hK : kyOf h1732 = kyOf h1732 := rfl
                                refine R_iload_n (k := 3) rfl rfl rfl ?_
                                refine R_aload_n (k := 0) rfl rfl rfl ?_
                                refine R_getf_i (j := 18) rfl ft_9_253 sh_96 rfl ?_
                                refine N_icmp_ge (a := x1734.toInt) (b := (h1732.1 96 18).toInt) 224 rfl rfl rfl rfl (fun c1752 => ?_) (fun c1752 => ?_)
                                · have hF : kyOf h1732 = zSecond (evOf h) a0 a1 (kyOf h) := m1740.trans (by rw [show x1734 = eMany (evOf h) from i_of _ (by omega)]; rfl)
                                  exact R_vret rfl rfl ⟨hI, fr, ⟨by omega, by omega, by omega, by omega, by omega, by omega, by omega, by omega, by omega, by omega, hF, hE, trivial⟩, rfl⟩
                                · refine R_aload_n (k := 0) rfl rfl rfl ?_
                                  refine R_getf_r (j := 22) rfl ft_9_46 sh_96 rfl ?_
                                  refine R_aload_n (k := 0) rfl rfl rfl ?_
                                  refine R_getf_r (j := 17) rfl ft_9_40 sh_96 rfl ?_
                                  refine R_iload_n (k := 3) rfl rfl rfl ?_
                                  refine R_iald rfl sh_105 ⟨by omega, by omega⟩ ?_
                                  refine N_eq (fun x1753 e1754 => ?_)
                                  have q1755 : 0 ≤ x1753.toInt ∧ x1753.toInt ≤ 5 := by rw [e1754]; exact hI.1 105 _
                                  have e1756 : x1753 = (evOf h).2.2.2.1 x1734.toNatClampNeg := by rw [e1754]; exact congrFun (congrArg (fun q : EV => q.2.2.2.1) hE) _
                                  refine R_iald rfl sh_107 ⟨by omega, by omega⟩ ?_
                                  refine N_eq (fun x1757 e1758 => ?_)
                                  have e1759 : x1757 = ((kyOf h1732).1) x1753.toNatClampNeg := by rw [e1758]; exact (ky_at107 (nlt ⟨by omega, by omega⟩)).trans (congrFun (congrArg (fun q : KY => q.1) hK) _)
                                  refine R_iconst (-1) rfl rfl ?_
                                  refine N_icmp_eq (a := x1757.toInt) (b := (-1)) 218 rfl rfl rfl (by decide) (fun c1760 => ?_) (fun c1760 => ?_)
                                  · refine N_iinc (a := x1734.toInt) (c := 1) (fun w => [(3, .inl w), (0, .inr (.inr (.inl 96))), (1, .inl a0), (2, .inl a1)]) rfl rfl (fun _ => rfl) (by decide) rfl (by decide) (by omega) (fun x1761 q1762 => ?_)
                                    refine R_goto 166 rfl rfl ?_
                                    exact RUN_weak (psub_cons rfl (psub_cons rfl (psub_cons rfl (psub_cons rfl (psub_nil _))))) (ih1735 h1732 x1761 hI fr fl1733 (by omega) (by rw [zHolds_s (x := x1734) (x' := x1761) (by omega) (by omega), ← m1740]; refine hK.trans ?_; subst e1759 e1756; simp only [zHold1, eLine]; (repeat' split) <;> first | rfl | (exfalso; omega)) (hE) (by omega))
                                  · refine R_aload_n (k := 0) rfl rfl rfl ?_
                                    refine R_aload_n (k := 0) rfl rfl rfl ?_
                                    refine R_getf_r (j := 17) rfl ft_9_40 sh_96 rfl ?_
                                    refine R_iload_n (k := 3) rfl rfl rfl ?_
                                    refine R_iald rfl sh_105 ⟨by omega, by omega⟩ ?_
                                    refine N_eq (fun x1763 e1764 => ?_)
                                    have q1765 : 0 ≤ x1763.toInt ∧ x1763.toInt ≤ 5 := by rw [e1764]; exact hI.1 105 _
                                    have e1766 : x1763 = (evOf h).2.2.2.1 x1734.toNatClampNeg := by rw [e1764]; exact congrFun (congrArg (fun q : EV => q.2.2.2.1) hE) _
                                    refine R_iload_n (k := 1) rfl rfl rfl ?_
                                    have b1767 := i_rng a0
                                    refine R_callV (v := .inr (.inr (.inl 96))) (As := [.inl x1763, .inl a0]) (rest := []) rfl mt_9_i271 pp_X9_doesRest (by decide) rfl rfl rfl (Nat.le_of_ble_eq_true rfl) (Nat.le_of_ble_eq_true rfl) ((g_X9_doesRest h1732 hI x1763 a0 (by omega) (by omega)).mono (fun r1768 h1769 p1770 => ?_))
                                    obtain ⟨rfl, x1772, rfl, (q1773 | q1773 | q1773), zq1771, -⟩ := p1770
                                    · rw [hE] at zq1771
                                      show RUN d_X9_goSecond 200 [(3, .inl x1734), (0, .inr (.inr (.inl 96))), (1, .inl a0), (2, .inl a1)] [.inl x1772] h1732 _
                                      refine N_if_ne (a := x1772.toInt) 218 rfl rfl rfl (fun c1774 => ?_) (fun c1774 => ?_)
                                      · exfalso; omega
                                      · refine R_aload_n (k := 0) rfl rfl rfl ?_
                                        refine R_getf_r (j := 22) rfl ft_9_46 sh_96 rfl ?_
                                        refine R_aload_n (k := 0) rfl rfl rfl ?_
                                        refine R_getf_r (j := 17) rfl ft_9_40 sh_96 rfl ?_
                                        refine R_iload_n (k := 3) rfl rfl rfl ?_
                                        refine R_iald rfl sh_105 ⟨by omega, by omega⟩ ?_
                                        refine N_eq (fun x1775 e1776 => ?_)
                                        have q1777 : 0 ≤ x1775.toInt ∧ x1775.toInt ≤ 5 := by rw [e1776]; exact hI.1 105 _
                                        have e1778 : x1775 = (evOf h).2.2.2.1 x1734.toNatClampNeg := by rw [e1776]; exact congrFun (congrArg (fun q : EV => q.2.2.2.1) hE) _
                                        refine R_dup2 rfl ?_
                                        refine R_iald rfl sh_107 ⟨by omega, by omega⟩ ?_
                                        refine N_eq (fun x1779 e1780 => ?_)
                                        have e1781 : x1779 = ((kyOf h1732).1) x1775.toNatClampNeg := by rw [e1780]; exact (ky_at107 (nlt ⟨by omega, by omega⟩)).trans (congrFun (congrArg (fun q : KY => q.1) hK) _)
                                        refine R_iconst 1 rfl rfl ?_
                                        have b1782 := i_rng x1779
                                        refine R_iadd rfl ?_
                                        refine N_eq (fun x1783 e1784 => ?_)
                                        refine K_iast (a := x1775.toInt) (lo := (-2147483648)) (hi' := 2147483647) rfl sh_107 rfl ⟨by omega, by omega⟩ hI (by decide) rfl (i_rng _) fr (by decide) (fun h1785 g1786 hI fr => ?_)
                                        have fl1733 : FR [107] h1718 h1785 := by rw [g1786]; exact FR_wI _ _ fl1733 (by decide)
                                        have fl862 : FR [96, 107, 108, 109, 117, 118] h842 h1785 := by rw [g1786]; exact FR_wI _ _ fl862 (by decide)
                                        have fl820 : FR [96, 107, 108, 109, 117, 118] h803 h1785 := by rw [g1786]; exact FR_wI _ _ fl820 (by decide)
                                        have s1787 : (h1785.1 96 41).toInt = (h1732.1 96 41).toInt := by rw [g1786, wI_ne _ _ _ (by decide)]
                                        have s1788 : (h1785.1 96 42).toInt = (h1732.1 96 42).toInt := by rw [g1786, wI_ne _ _ _ (by decide)]
                                        have s1789 : (h1785.1 96 19).toInt = (h1732.1 96 19).toInt := by rw [g1786, wI_ne _ _ _ (by decide)]
                                        have s1790 : (h1785.1 96 18).toInt = (h1732.1 96 18).toInt := by rw [g1786, wI_ne _ _ _ (by decide)]
                                        have s1791 : (h1785.1 96 20).toInt = (h1732.1 96 20).toInt := by rw [g1786, wI_ne _ _ _ (by decide)]
                                        have s1792 : (h1785.1 96 46).toInt = (h1732.1 96 46).toInt := by rw [g1786, wI_ne _ _ _ (by decide)]
                                        have s1793 : (h1785.1 96 44).toInt = (h1732.1 96 44).toInt := by rw [g1786, wI_ne _ _ _ (by decide)]
                                        have s1794 : (h1785.1 96 47).toInt = (h1732.1 96 47).toInt := by rw [g1786, wI_ne _ _ _ (by decide)]
                                        have s1795 : (h1785.1 96 48).toInt = (h1732.1 96 48).toInt := by rw [g1786, wI_ne _ _ _ (by decide)]
                                        have s1796 : (h1785.1 96 51).toInt = (h1732.1 96 51).toInt := by rw [g1786, wI_ne _ _ _ (by decide)]
                                        have hK : kyOf h1785 = (upd ((kyOf h1732).1) x1775.toNatClampNeg x1783, (kyOf h1732).2.1, (kyOf h1732).2.2.1, (kyOf h1732).2.2.2) := by rw [g1786, ky_107 (nlt ⟨by omega, by omega⟩), hK] <;> rfl
                                        have hE : evOf h1785 = evOf h := by rw [g1786, ev_o (by decide), hE]
                                        refine N_iinc (a := x1734.toInt) (c := 1) (fun w => [(3, .inl w), (0, .inr (.inr (.inl 96))), (1, .inl a0), (2, .inl a1)]) rfl rfl (fun _ => rfl) (by decide) rfl (by decide) (by omega) (fun x1797 q1798 => ?_)
                                        refine R_goto 166 rfl rfl ?_
                                        exact RUN_weak (psub_cons rfl (psub_cons rfl (psub_cons rfl (psub_cons rfl (psub_nil _))))) (ih1735 h1785 x1797 hI fr fl1733 (by omega) (by rw [zHolds_s (x := x1734) (x' := x1797) (by omega) (by omega), ← m1740]; refine hK.trans ?_; subst e1784 e1781 e1778 e1766 e1759 e1756; simp only [zHold1, eLine]; (repeat' split) <;> first | rfl | (exfalso; omega)) (hE) (by omega))
                                      rw [hE] at zq1771
                                    · exfalso; omega
                                      rw [hE] at zq1771
                                    · exfalso; omega
                            have k1799 : (0 : Int32).toInt = 0 := by decide
                            exact lp1731 _ h1718 (0 : Int32) hI fr (FR.rf _ _) (by decide) (by rw [hK]; rfl) (hE) (Nat.lt_succ_self _)
                      · rw [hE] at zq1599
                        show RUN d_X9_goSecond 115 [(3, .inl x863), (0, .inr (.inr (.inl 96))), (1, .inl a0), (2, .inl a1)] [.inl x1600] h861 _
                        refine N_if_ne (a := x1600.toInt) 164 rfl rfl rfl (fun c1800 => ?_) (fun c1800 => ?_)
                        · exfalso; omega
                        · refine R_aload_n (k := 0) rfl rfl rfl ?_
                          refine R_getf_r (j := 24) rfl ft_9_52 sh_96 rfl ?_
                          refine R_iconst 0 rfl rfl ?_
                          refine R_iald rfl sh_109 (by decide) ?_
                          refine N_eq (fun x1801 e1802 => ?_)
                          have e1803 : x1801 = ((zMid (evOf h) a0 a1 (kyOf h)).2.2.1) (0 : Int32).toNatClampNeg := by rw [e1802]; exact (ky_at109 (by decide)).trans (congrFun (congrArg (fun q : KY => q.2.2.1) hK) _)
                          refine N_if_le (a := x1801.toInt) 164 rfl rfl rfl (fun c1804 => ?_) (fun c1804 => ?_)
                          · have hK : kyOf h861 = zTake (evOf h) a0 (zMid (evOf h) a0 a1 (kyOf h)) := by
                              refine hK.trans ?_
                              subst e1803 e1594 e1491 e1488
                              simp only [zTake, zTake1, eMany, eLine, eFull]
                              (repeat' split) <;> first | rfl | (exfalso; omega)
                            refine R_iconst 0 rfl rfl ?_
                            refine R_istore_n (k := 3) rfl [(3, .inl 0), (0, .inr (.inr (.inl 96))), (1, .inl a0), (2, .inl a1)] rfl rfl (by decide) ?_
                            have lp1806 : ∀ (n1805 : Nat) (h1807 : PH) (x1809 : Int32), INV h1807 → FR [96, 107, 108, 109, 117, 118] h h1807 → FR [107] h861 h1807 → 0 ≤ x1809.toInt ∧ x1809.toInt ≤ 6 → (kyOf h1807 = zHolds (evOf h) a0 x1809.toNatClampNeg (zTake (evOf h) a0 (zMid (evOf h) a0 a1 (kyOf h)))) → (evOf h1807 = evOf h) → (6 - x1809.toInt).toNat < n1805 → RUN d_X9_goSecond 166 [(3, .inl x1809), (0, .inr (.inr (.inl 96))), (1, .inl a0), (2, .inl a1)] [] h1807 (q_X9_goSecond h a0 a1) := by
                              intro n1805
                              induction n1805 with
                              | zero => intro h1807 x1809 m1811 m1812 m1813 m1814 m1815 m1816 hz; exact absurd hz (Nat.not_lt_zero _)
                              | succ n1805 ih1810 =>
                                intro h1807 x1809 hI fr fl1808 m1814 m1815 m1816 hz
                                have s1817 : (h1807.1 96 41).toInt = (h861.1 96 41).toInt := by rw [(fl1808 96 (by decide)).1]
                                have s1818 : (h1807.1 96 42).toInt = (h861.1 96 42).toInt := by rw [(fl1808 96 (by decide)).1]
                                have s1819 : (h1807.1 96 19).toInt = (h861.1 96 19).toInt := by rw [(fl1808 96 (by decide)).1]
                                have s1820 : (h1807.1 96 18).toInt = (h861.1 96 18).toInt := by rw [(fl1808 96 (by decide)).1]
                                have s1821 : (h1807.1 96 20).toInt = (h861.1 96 20).toInt := by rw [(fl1808 96 (by decide)).1]
                                have s1822 : (h1807.1 96 46).toInt = (h861.1 96 46).toInt := by rw [(fl1808 96 (by decide)).1]
                                have s1823 : (h1807.1 96 44).toInt = (h861.1 96 44).toInt := by rw [(fl1808 96 (by decide)).1]
                                have s1824 : (h1807.1 96 47).toInt = (h861.1 96 47).toInt := by rw [(fl1808 96 (by decide)).1]
                                have s1825 : (h1807.1 96 48).toInt = (h861.1 96 48).toInt := by rw [(fl1808 96 (by decide)).1]
                                have s1826 : (h1807.1 96 51).toInt = (h861.1 96 51).toInt := by rw [(fl1808 96 (by decide)).1]
                                have fl862 : FR [96, 107, 108, 109, 117, 118] h842 h1807 := fl862.trans fl1808 (by decide)
                                have fl820 : FR [96, 107, 108, 109, 117, 118] h803 h1807 := fl820.trans fl1808 (by decide)
                                have hE := m1816
                                have hK : kyOf h1807 = kyOf h1807 := rfl
                                refine R_iload_n (k := 3) rfl rfl rfl ?_
                                refine R_aload_n (k := 0) rfl rfl rfl ?_
                                refine R_getf_i (j := 18) rfl ft_9_253 sh_96 rfl ?_
                                refine N_icmp_ge (a := x1809.toInt) (b := (h1807.1 96 18).toInt) 224 rfl rfl rfl rfl (fun c1827 => ?_) (fun c1827 => ?_)
                                · have hF : kyOf h1807 = zSecond (evOf h) a0 a1 (kyOf h) := m1815.trans (by rw [show x1809 = eMany (evOf h) from i_of _ (by omega)]; rfl)
                                  exact R_vret rfl rfl ⟨hI, fr, ⟨by omega, by omega, by omega, by omega, by omega, by omega, by omega, by omega, by omega, by omega, hF, hE, trivial⟩, rfl⟩
                                · refine R_aload_n (k := 0) rfl rfl rfl ?_
                                  refine R_getf_r (j := 22) rfl ft_9_46 sh_96 rfl ?_
                                  refine R_aload_n (k := 0) rfl rfl rfl ?_
                                  refine R_getf_r (j := 17) rfl ft_9_40 sh_96 rfl ?_
                                  refine R_iload_n (k := 3) rfl rfl rfl ?_
                                  refine R_iald rfl sh_105 ⟨by omega, by omega⟩ ?_
                                  refine N_eq (fun x1828 e1829 => ?_)
                                  have q1830 : 0 ≤ x1828.toInt ∧ x1828.toInt ≤ 5 := by rw [e1829]; exact hI.1 105 _
                                  have e1831 : x1828 = (evOf h).2.2.2.1 x1809.toNatClampNeg := by rw [e1829]; exact congrFun (congrArg (fun q : EV => q.2.2.2.1) hE) _
                                  refine R_iald rfl sh_107 ⟨by omega, by omega⟩ ?_
                                  refine N_eq (fun x1832 e1833 => ?_)
                                  have e1834 : x1832 = ((kyOf h1807).1) x1828.toNatClampNeg := by rw [e1833]; exact (ky_at107 (nlt ⟨by omega, by omega⟩)).trans (congrFun (congrArg (fun q : KY => q.1) hK) _)
                                  refine R_iconst (-1) rfl rfl ?_
                                  refine N_icmp_eq (a := x1832.toInt) (b := (-1)) 218 rfl rfl rfl (by decide) (fun c1835 => ?_) (fun c1835 => ?_)
                                  · refine N_iinc (a := x1809.toInt) (c := 1) (fun w => [(3, .inl w), (0, .inr (.inr (.inl 96))), (1, .inl a0), (2, .inl a1)]) rfl rfl (fun _ => rfl) (by decide) rfl (by decide) (by omega) (fun x1836 q1837 => ?_)
                                    refine R_goto 166 rfl rfl ?_
                                    exact RUN_weak (psub_cons rfl (psub_cons rfl (psub_cons rfl (psub_cons rfl (psub_nil _))))) (ih1810 h1807 x1836 hI fr fl1808 (by omega) (by rw [zHolds_s (x := x1809) (x' := x1836) (by omega) (by omega), ← m1815]; refine hK.trans ?_; subst e1834 e1831; simp only [zHold1, eLine]; (repeat' split) <;> first | rfl | (exfalso; omega)) (hE) (by omega))
                                  · refine R_aload_n (k := 0) rfl rfl rfl ?_
                                    refine R_aload_n (k := 0) rfl rfl rfl ?_
                                    refine R_getf_r (j := 17) rfl ft_9_40 sh_96 rfl ?_
                                    refine R_iload_n (k := 3) rfl rfl rfl ?_
                                    refine R_iald rfl sh_105 ⟨by omega, by omega⟩ ?_
                                    refine N_eq (fun x1838 e1839 => ?_)
                                    have q1840 : 0 ≤ x1838.toInt ∧ x1838.toInt ≤ 5 := by rw [e1839]; exact hI.1 105 _
                                    have e1841 : x1838 = (evOf h).2.2.2.1 x1809.toNatClampNeg := by rw [e1839]; exact congrFun (congrArg (fun q : EV => q.2.2.2.1) hE) _
                                    refine R_iload_n (k := 1) rfl rfl rfl ?_
                                    refine R_callV (v := .inr (.inr (.inl 96))) (As := [.inl x1838, .inl a0]) (rest := []) rfl mt_9_i271 pp_X9_doesRest (by decide) rfl rfl rfl (Nat.le_of_ble_eq_true rfl) (Nat.le_of_ble_eq_true rfl) ((g_X9_doesRest h1807 hI x1838 a0 (by omega) (by omega)).mono (fun r1842 h1843 p1844 => ?_))
                                    obtain ⟨rfl, x1846, rfl, (q1847 | q1847 | q1847), zq1845, -⟩ := p1844
                                      rw [hE] at zq1845
                                    · exfalso; omega
                                    · rw [hE] at zq1845
                                      show RUN d_X9_goSecond 200 [(3, .inl x1809), (0, .inr (.inr (.inl 96))), (1, .inl a0), (2, .inl a1)] [.inl x1846] h1807 _
                                      refine N_if_ne (a := x1846.toInt) 218 rfl rfl rfl (fun c1848 => ?_) (fun c1848 => ?_)
                                      · exfalso; omega
                                      · refine R_aload_n (k := 0) rfl rfl rfl ?_
                                        refine R_getf_r (j := 22) rfl ft_9_46 sh_96 rfl ?_
                                        refine R_aload_n (k := 0) rfl rfl rfl ?_
                                        refine R_getf_r (j := 17) rfl ft_9_40 sh_96 rfl ?_
                                        refine R_iload_n (k := 3) rfl rfl rfl ?_
                                        refine R_iald rfl sh_105 ⟨by omega, by omega⟩ ?_
                                        refine N_eq (fun x1849 e1850 => ?_)
                                        have q1851 : 0 ≤ x1849.toInt ∧ x1849.toInt ≤ 5 := by rw [e1850]; exact hI.1 105 _
                                        have e1852 : x1849 = (evOf h).2.2.2.1 x1809.toNatClampNeg := by rw [e1850]; exact congrFun (congrArg (fun q : EV => q.2.2.2.1) hE) _
                                        refine R_dup2 rfl ?_
                                        refine R_iald rfl sh_107 ⟨by omega, by omega⟩ ?_
                                        refine N_eq (fun x1853 e1854 => ?_)
                                        have e1855 : x1853 = ((kyOf h1807).1) x1849.toNatClampNeg := by rw [e1854]; exact (ky_at107 (nlt ⟨by omega, by omega⟩)).trans (congrFun (congrArg (fun q : KY => q.1) hK) _)
                                        refine R_iconst 1 rfl rfl ?_
                                        have b1856 := i_rng x1853
                                        refine R_iadd rfl ?_
                                        refine N_eq (fun x1857 e1858 => ?_)
                                        refine K_iast (a := x1849.toInt) (lo := (-2147483648)) (hi' := 2147483647) rfl sh_107 rfl ⟨by omega, by omega⟩ hI (by decide) rfl (i_rng _) fr (by decide) (fun h1859 g1860 hI fr => ?_)
                                        have fl1808 : FR [107] h861 h1859 := by rw [g1860]; exact FR_wI _ _ fl1808 (by decide)
                                        have fl862 : FR [96, 107, 108, 109, 117, 118] h842 h1859 := by rw [g1860]; exact FR_wI _ _ fl862 (by decide)
                                        have fl820 : FR [96, 107, 108, 109, 117, 118] h803 h1859 := by rw [g1860]; exact FR_wI _ _ fl820 (by decide)
                                        have s1861 : (h1859.1 96 41).toInt = (h1807.1 96 41).toInt := by rw [g1860, wI_ne _ _ _ (by decide)]
                                        have s1862 : (h1859.1 96 42).toInt = (h1807.1 96 42).toInt := by rw [g1860, wI_ne _ _ _ (by decide)]
                                        have s1863 : (h1859.1 96 19).toInt = (h1807.1 96 19).toInt := by rw [g1860, wI_ne _ _ _ (by decide)]
                                        have s1864 : (h1859.1 96 18).toInt = (h1807.1 96 18).toInt := by rw [g1860, wI_ne _ _ _ (by decide)]
                                        have s1865 : (h1859.1 96 20).toInt = (h1807.1 96 20).toInt := by rw [g1860, wI_ne _ _ _ (by decide)]
                                        have s1866 : (h1859.1 96 46).toInt = (h1807.1 96 46).toInt := by rw [g1860, wI_ne _ _ _ (by decide)]
                                        have s1867 : (h1859.1 96 44).toInt = (h1807.1 96 44).toInt := by rw [g1860, wI_ne _ _ _ (by decide)]
                                        have s1868 : (h1859.1 96 47).toInt = (h1807.1 96 47).toInt := by rw [g1860, wI_ne _ _ _ (by decide)]
                                        have s1869 : (h1859.1 96 48).toInt = (h1807.1 96 48).toInt := by rw [g1860, wI_ne _ _ _ (by decide)]
                                        have s1870 : (h1859.1 96 51).toInt = (h1807.1 96 51).toInt := by rw [g1860, wI_ne _ _ _ (by decide)]
                                        have hK : kyOf h1859 = (upd ((kyOf h1807).1) x1849.toNatClampNeg x1857, (kyOf h1807).2.1, (kyOf h1807).2.2.1, (kyOf h1807).2.2.2) := by rw [g1860, ky_107 (nlt ⟨by omega, by omega⟩), hK] <;> rfl
                                        have hE : evOf h1859 = evOf h := by rw [g1860, ev_o (by decide), hE]
                                        refine N_iinc (a := x1809.toInt) (c := 1) (fun w => [(3, .inl w), (0, .inr (.inr (.inl 96))), (1, .inl a0), (2, .inl a1)]) rfl rfl (fun _ => rfl) (by decide) rfl (by decide) (by omega) (fun x1871 q1872 => ?_)
                                        refine R_goto 166 rfl rfl ?_
                                        exact RUN_weak (psub_cons rfl (psub_cons rfl (psub_cons rfl (psub_cons rfl (psub_nil _))))) (ih1810 h1859 x1871 hI fr fl1808 (by omega) (by rw [zHolds_s (x := x1809) (x' := x1871) (by omega) (by omega), ← m1815]; refine hK.trans ?_; subst e1858 e1855 e1852 e1841 e1834 e1831; simp only [zHold1, eLine]; (repeat' split) <;> first | rfl | (exfalso; omega)) (hE) (by omega))
                                    · rw [hE] at zq1845
                                      show RUN d_X9_goSecond 200 [(3, .inl x1809), (0, .inr (.inr (.inl 96))), (1, .inl a0), (2, .inl a1)] [.inl x1846] h1807 _
                                      refine N_if_ne (a := x1846.toInt) 218 rfl rfl rfl (fun c1873 => ?_) (fun c1873 => ?_)
                                      · refine N_iinc (a := x1809.toInt) (c := 1) (fun w => [(3, .inl w), (0, .inr (.inr (.inl 96))), (1, .inl a0), (2, .inl a1)]) rfl rfl (fun _ => rfl) (by decide) rfl (by decide) (by omega) (fun x1874 q1875 => ?_)
                                        refine R_goto 166 rfl rfl ?_
                                        exact RUN_weak (psub_cons rfl (psub_cons rfl (psub_cons rfl (psub_cons rfl (psub_nil _))))) (ih1810 h1807 x1874 hI fr fl1808 (by omega) (by rw [zHolds_s (x := x1809) (x' := x1874) (by omega) (by omega), ← m1815]; refine hK.trans ?_; subst e1841 e1834 e1831; simp only [zHold1, eLine]; (repeat' split) <;> first | rfl | (exfalso; omega)) (hE) (by omega))
                                      · exfalso; omega
                            have k1876 : (0 : Int32).toInt = 0 := by decide
                            exact lp1806 _ h861 (0 : Int32) hI fr (FR.rf _ _) (by decide) (by rw [hK]; rfl) (hE) (Nat.lt_succ_self _)
                          · refine R_aload_n (k := 0) rfl rfl rfl ?_
                            refine R_getf_r (j := 24) rfl ft_9_52 sh_96 rfl ?_
                            refine R_iconst 0 rfl rfl ?_
                            refine R_dup2 rfl ?_
                            refine R_iald rfl sh_109 (by decide) ?_
                            refine N_eq (fun x1877 e1878 => ?_)
                            have e1879 : x1877 = ((zMid (evOf h) a0 a1 (kyOf h)).2.2.1) (0 : Int32).toNatClampNeg := by rw [e1878]; exact (ky_at109 (by decide)).trans (congrFun (congrArg (fun q : KY => q.2.2.1) hK) _)
                            refine R_iconst 1 rfl rfl ?_
                            have b1880 := i_rng x1877
                            refine R_isub rfl ?_
                            refine N_eq (fun x1881 e1882 => ?_)
                            refine K_iast (a := 0) (lo := (-2147483648)) (hi' := 2147483647) rfl sh_109 (by decide) (by decide) hI (by decide) rfl (i_rng _) fr (by decide) (fun h1883 g1884 hI fr => ?_)
                            have fl862 : FR [96, 107, 108, 109, 117, 118] h842 h1883 := by rw [g1884]; exact FR_wI _ _ fl862 (by decide)
                            have fl820 : FR [96, 107, 108, 109, 117, 118] h803 h1883 := by rw [g1884]; exact FR_wI _ _ fl820 (by decide)
                            have s1885 : (h1883.1 96 41).toInt = (h861.1 96 41).toInt := by rw [g1884, wI_ne _ _ _ (by decide)]
                            have s1886 : (h1883.1 96 42).toInt = (h861.1 96 42).toInt := by rw [g1884, wI_ne _ _ _ (by decide)]
                            have s1887 : (h1883.1 96 19).toInt = (h861.1 96 19).toInt := by rw [g1884, wI_ne _ _ _ (by decide)]
                            have s1888 : (h1883.1 96 18).toInt = (h861.1 96 18).toInt := by rw [g1884, wI_ne _ _ _ (by decide)]
                            have s1889 : (h1883.1 96 20).toInt = (h861.1 96 20).toInt := by rw [g1884, wI_ne _ _ _ (by decide)]
                            have s1890 : (h1883.1 96 46).toInt = (h861.1 96 46).toInt := by rw [g1884, wI_ne _ _ _ (by decide)]
                            have s1891 : (h1883.1 96 44).toInt = (h861.1 96 44).toInt := by rw [g1884, wI_ne _ _ _ (by decide)]
                            have s1892 : (h1883.1 96 47).toInt = (h861.1 96 47).toInt := by rw [g1884, wI_ne _ _ _ (by decide)]
                            have s1893 : (h1883.1 96 48).toInt = (h861.1 96 48).toInt := by rw [g1884, wI_ne _ _ _ (by decide)]
                            have s1894 : (h1883.1 96 51).toInt = (h861.1 96 51).toInt := by rw [g1884, wI_ne _ _ _ (by decide)]
                            have hK : kyOf h1883 = ((zMid (evOf h) a0 a1 (kyOf h)).1, (zMid (evOf h) a0 a1 (kyOf h)).2.1, upd ((zMid (evOf h) a0 a1 (kyOf h)).2.2.1) (0 : Int32).toNatClampNeg x1881, (zMid (evOf h) a0 a1 (kyOf h)).2.2.2) := by rw [g1884, ky_109 (by decide), hK] <;> rfl
                            have hE : evOf h1883 = evOf h := by rw [g1884, ev_o (by decide), hE]
                            refine R_aload_n (k := 0) rfl rfl rfl ?_
                            refine R_getf_r (j := 22) rfl ft_9_46 sh_96 rfl ?_
                            refine R_aload_n (k := 0) rfl rfl rfl ?_
                            refine R_getf_r (j := 17) rfl ft_9_40 sh_96 rfl ?_
                            refine R_iconst 0 rfl rfl ?_
                            refine R_iald rfl sh_105 (by decide) ?_
                            refine N_eq (fun x1895 e1896 => ?_)
                            have q1897 : 0 ≤ x1895.toInt ∧ x1895.toInt ≤ 5 := by rw [e1896]; exact hI.1 105 _
                            have e1898 : x1895 = (evOf h).2.2.2.1 (0 : Int32).toNatClampNeg := by rw [e1896]; exact congrFun (congrArg (fun q : EV => q.2.2.2.1) hE) _
                            refine R_iconst 0 rfl rfl ?_
                            refine K_iast (a := x1895.toInt) (lo := (-2147483648)) (hi' := 2147483647) rfl sh_107 rfl ⟨by omega, by omega⟩ hI (by decide) rfl (by decide) fr (by decide) (fun h1899 g1900 hI fr => ?_)
                            have fl862 : FR [96, 107, 108, 109, 117, 118] h842 h1899 := by rw [g1900]; exact FR_wI _ _ fl862 (by decide)
                            have fl820 : FR [96, 107, 108, 109, 117, 118] h803 h1899 := by rw [g1900]; exact FR_wI _ _ fl820 (by decide)
                            have s1901 : (h1899.1 96 41).toInt = (h1883.1 96 41).toInt := by rw [g1900, wI_ne _ _ _ (by decide)]
                            have s1902 : (h1899.1 96 42).toInt = (h1883.1 96 42).toInt := by rw [g1900, wI_ne _ _ _ (by decide)]
                            have s1903 : (h1899.1 96 19).toInt = (h1883.1 96 19).toInt := by rw [g1900, wI_ne _ _ _ (by decide)]
                            have s1904 : (h1899.1 96 18).toInt = (h1883.1 96 18).toInt := by rw [g1900, wI_ne _ _ _ (by decide)]
                            have s1905 : (h1899.1 96 20).toInt = (h1883.1 96 20).toInt := by rw [g1900, wI_ne _ _ _ (by decide)]
                            have s1906 : (h1899.1 96 46).toInt = (h1883.1 96 46).toInt := by rw [g1900, wI_ne _ _ _ (by decide)]
                            have s1907 : (h1899.1 96 44).toInt = (h1883.1 96 44).toInt := by rw [g1900, wI_ne _ _ _ (by decide)]
                            have s1908 : (h1899.1 96 47).toInt = (h1883.1 96 47).toInt := by rw [g1900, wI_ne _ _ _ (by decide)]
                            have s1909 : (h1899.1 96 48).toInt = (h1883.1 96 48).toInt := by rw [g1900, wI_ne _ _ _ (by decide)]
                            have s1910 : (h1899.1 96 51).toInt = (h1883.1 96 51).toInt := by rw [g1900, wI_ne _ _ _ (by decide)]
                            have hK : kyOf h1899 = (upd ((zMid (evOf h) a0 a1 (kyOf h)).1) x1895.toNatClampNeg (0), (zMid (evOf h) a0 a1 (kyOf h)).2.1, upd ((zMid (evOf h) a0 a1 (kyOf h)).2.2.1) (0 : Int32).toNatClampNeg x1881, (zMid (evOf h) a0 a1 (kyOf h)).2.2.2) := by rw [g1900, ky_107 (nlt ⟨by omega, by omega⟩), hK] <;> rfl
                            have hE : evOf h1899 = evOf h := by rw [g1900, ev_o (by decide), hE]
                            refine R_aload_n (k := 0) rfl rfl rfl ?_
                            refine R_getf_r (j := 23) rfl ft_9_49 sh_96 rfl ?_
                            refine R_aload_n (k := 0) rfl rfl rfl ?_
                            refine R_getf_r (j := 17) rfl ft_9_40 sh_96 rfl ?_
                            refine R_iconst 0 rfl rfl ?_
                            refine R_iald rfl sh_105 (by decide) ?_
                            refine N_eq (fun x1911 e1912 => ?_)
                            have q1913 : 0 ≤ x1911.toInt ∧ x1911.toInt ≤ 5 := by rw [e1912]; exact hI.1 105 _
                            have e1914 : x1911 = (evOf h).2.2.2.1 (0 : Int32).toNatClampNeg := by rw [e1912]; exact congrFun (congrArg (fun q : EV => q.2.2.2.1) hE) _
                            refine R_aload_n (k := 0) rfl rfl rfl ?_
                            refine R_getf_i (j := 20) rfl ft_9_259 sh_96 rfl ?_
                            refine N_eq (fun x1915 e1916 => ?_)
                            have e1917 : x1915 = (evOf h).2.2.2.2.2.1 := by rw [e1916]; exact congrArg (fun q : EV => q.2.2.2.2.2.1) hE
                            refine K_iast (a := x1911.toInt) (lo := (-2147483648)) (hi' := 2147483647) rfl sh_108 rfl ⟨by omega, by omega⟩ hI (by decide) rfl (i_rng _) fr (by decide) (fun h1918 g1919 hI fr => ?_)
                            have fl862 : FR [96, 107, 108, 109, 117, 118] h842 h1918 := by rw [g1919]; exact FR_wI _ _ fl862 (by decide)
                            have fl820 : FR [96, 107, 108, 109, 117, 118] h803 h1918 := by rw [g1919]; exact FR_wI _ _ fl820 (by decide)
                            have s1920 : (h1918.1 96 41).toInt = (h1899.1 96 41).toInt := by rw [g1919, wI_ne _ _ _ (by decide)]
                            have s1921 : (h1918.1 96 42).toInt = (h1899.1 96 42).toInt := by rw [g1919, wI_ne _ _ _ (by decide)]
                            have s1922 : (h1918.1 96 19).toInt = (h1899.1 96 19).toInt := by rw [g1919, wI_ne _ _ _ (by decide)]
                            have s1923 : (h1918.1 96 18).toInt = (h1899.1 96 18).toInt := by rw [g1919, wI_ne _ _ _ (by decide)]
                            have s1924 : (h1918.1 96 20).toInt = (h1899.1 96 20).toInt := by rw [g1919, wI_ne _ _ _ (by decide)]
                            have s1925 : (h1918.1 96 46).toInt = (h1899.1 96 46).toInt := by rw [g1919, wI_ne _ _ _ (by decide)]
                            have s1926 : (h1918.1 96 44).toInt = (h1899.1 96 44).toInt := by rw [g1919, wI_ne _ _ _ (by decide)]
                            have s1927 : (h1918.1 96 47).toInt = (h1899.1 96 47).toInt := by rw [g1919, wI_ne _ _ _ (by decide)]
                            have s1928 : (h1918.1 96 48).toInt = (h1899.1 96 48).toInt := by rw [g1919, wI_ne _ _ _ (by decide)]
                            have s1929 : (h1918.1 96 51).toInt = (h1899.1 96 51).toInt := by rw [g1919, wI_ne _ _ _ (by decide)]
                            have hK : kyOf h1918 = (upd ((zMid (evOf h) a0 a1 (kyOf h)).1) x1895.toNatClampNeg (0), upd ((zMid (evOf h) a0 a1 (kyOf h)).2.1) x1911.toNatClampNeg x1915, upd ((zMid (evOf h) a0 a1 (kyOf h)).2.2.1) (0 : Int32).toNatClampNeg x1881, (zMid (evOf h) a0 a1 (kyOf h)).2.2.2) := by rw [g1919, ky_108 (nlt ⟨by omega, by omega⟩), hK] <;> rfl
                            have hE : evOf h1918 = evOf h := by rw [g1919, ev_o (by decide), hE]
                            have hK : kyOf h1918 = zTake (evOf h) a0 (zMid (evOf h) a0 a1 (kyOf h)) := by
                              refine hK.trans ?_
                              subst e1917 e1914 e1898 e1882 e1879 e1803 e1594 e1491 e1488
                              simp only [zTake, zTake1, eMany, eLine, eFull]
                              (repeat' split) <;> first | rfl | (exfalso; omega)
                            refine R_iconst 0 rfl rfl ?_
                            refine R_istore_n (k := 3) rfl [(3, .inl 0), (0, .inr (.inr (.inl 96))), (1, .inl a0), (2, .inl a1)] rfl rfl (by decide) ?_
                            have lp1931 : ∀ (n1930 : Nat) (h1932 : PH) (x1934 : Int32), INV h1932 → FR [96, 107, 108, 109, 117, 118] h h1932 → FR [107] h1918 h1932 → 0 ≤ x1934.toInt ∧ x1934.toInt ≤ 6 → (kyOf h1932 = zHolds (evOf h) a0 x1934.toNatClampNeg (zTake (evOf h) a0 (zMid (evOf h) a0 a1 (kyOf h)))) → (evOf h1932 = evOf h) → (6 - x1934.toInt).toNat < n1930 → RUN d_X9_goSecond 166 [(3, .inl x1934), (0, .inr (.inr (.inl 96))), (1, .inl a0), (2, .inl a1)] [] h1932 (q_X9_goSecond h a0 a1) := by
                              intro n1930
                              induction n1930 with
                              | zero => intro h1932 x1934 m1936 m1937 m1938 m1939 m1940 m1941 hz; exact absurd hz (Nat.not_lt_zero _)
                              | succ n1930 ih1935 =>
                                intro h1932 x1934 hI fr fl1933 m1939 m1940 m1941 hz
                                have s1942 : (h1932.1 96 41).toInt = (h1918.1 96 41).toInt := by rw [(fl1933 96 (by decide)).1]
                                have s1943 : (h1932.1 96 42).toInt = (h1918.1 96 42).toInt := by rw [(fl1933 96 (by decide)).1]
                                have s1944 : (h1932.1 96 19).toInt = (h1918.1 96 19).toInt := by rw [(fl1933 96 (by decide)).1]
                                have s1945 : (h1932.1 96 18).toInt = (h1918.1 96 18).toInt := by rw [(fl1933 96 (by decide)).1]
                                have s1946 : (h1932.1 96 20).toInt = (h1918.1 96 20).toInt := by rw [(fl1933 96 (by decide)).1]
                                have s1947 : (h1932.1 96 46).toInt = (h1918.1 96 46).toInt := by rw [(fl1933 96 (by decide)).1]
                                have s1948 : (h1932.1 96 44).toInt = (h1918.1 96 44).toInt := by rw [(fl1933 96 (by decide)).1]
                                have s1949 : (h1932.1 96 47).toInt = (h1918.1 96 47).toInt := by rw [(fl1933 96 (by decide)).1]
                                have s1950 : (h1932.1 96 48).toInt = (h1918.1 96 48).toInt := by rw [(fl1933 96 (by decide)).1]
                                have s1951 : (h1932.1 96 51).toInt = (h1918.1 96 51).toInt := by rw [(fl1933 96 (by decide)).1]
                                have fl862 : FR [96, 107, 108, 109, 117, 118] h842 h1932 := fl862.trans fl1933 (by decide)
                                have fl820 : FR [96, 107, 108, 109, 117, 118] h803 h1932 := fl820.trans fl1933 (by decide)
                                have hE := m1941
                                have hK : kyOf h1932 = kyOf h1932 := rfl
                                refine R_iload_n (k := 3) rfl rfl rfl ?_
                                refine R_aload_n (k := 0) rfl rfl rfl ?_
                                refine R_getf_i (j := 18) rfl ft_9_253 sh_96 rfl ?_
                                refine N_icmp_ge (a := x1934.toInt) (b := (h1932.1 96 18).toInt) 224 rfl rfl rfl rfl (fun c1952 => ?_) (fun c1952 => ?_)
                                · have hF : kyOf h1932 = zSecond (evOf h) a0 a1 (kyOf h) := m1940.trans (by rw [show x1934 = eMany (evOf h) from i_of _ (by omega)]; rfl)
                                  exact R_vret rfl rfl ⟨hI, fr, ⟨by omega, by omega, by omega, by omega, by omega, by omega, by omega, by omega, by omega, by omega, hF, hE, trivial⟩, rfl⟩
                                · refine R_aload_n (k := 0) rfl rfl rfl ?_
                                  refine R_getf_r (j := 22) rfl ft_9_46 sh_96 rfl ?_
                                  refine R_aload_n (k := 0) rfl rfl rfl ?_
                                  refine R_getf_r (j := 17) rfl ft_9_40 sh_96 rfl ?_
                                  refine R_iload_n (k := 3) rfl rfl rfl ?_
                                  refine R_iald rfl sh_105 ⟨by omega, by omega⟩ ?_
                                  refine N_eq (fun x1953 e1954 => ?_)
                                  have q1955 : 0 ≤ x1953.toInt ∧ x1953.toInt ≤ 5 := by rw [e1954]; exact hI.1 105 _
                                  have e1956 : x1953 = (evOf h).2.2.2.1 x1934.toNatClampNeg := by rw [e1954]; exact congrFun (congrArg (fun q : EV => q.2.2.2.1) hE) _
                                  refine R_iald rfl sh_107 ⟨by omega, by omega⟩ ?_
                                  refine N_eq (fun x1957 e1958 => ?_)
                                  have e1959 : x1957 = ((kyOf h1932).1) x1953.toNatClampNeg := by rw [e1958]; exact (ky_at107 (nlt ⟨by omega, by omega⟩)).trans (congrFun (congrArg (fun q : KY => q.1) hK) _)
                                  refine R_iconst (-1) rfl rfl ?_
                                  refine N_icmp_eq (a := x1957.toInt) (b := (-1)) 218 rfl rfl rfl (by decide) (fun c1960 => ?_) (fun c1960 => ?_)
                                  · refine N_iinc (a := x1934.toInt) (c := 1) (fun w => [(3, .inl w), (0, .inr (.inr (.inl 96))), (1, .inl a0), (2, .inl a1)]) rfl rfl (fun _ => rfl) (by decide) rfl (by decide) (by omega) (fun x1961 q1962 => ?_)
                                    refine R_goto 166 rfl rfl ?_
                                    exact RUN_weak (psub_cons rfl (psub_cons rfl (psub_cons rfl (psub_cons rfl (psub_nil _))))) (ih1935 h1932 x1961 hI fr fl1933 (by omega) (by rw [zHolds_s (x := x1934) (x' := x1961) (by omega) (by omega), ← m1940]; refine hK.trans ?_; subst e1959 e1956; simp only [zHold1, eLine]; (repeat' split) <;> first | rfl | (exfalso; omega)) (hE) (by omega))
                                  · refine R_aload_n (k := 0) rfl rfl rfl ?_
                                    refine R_aload_n (k := 0) rfl rfl rfl ?_
                                    refine R_getf_r (j := 17) rfl ft_9_40 sh_96 rfl ?_
                                    refine R_iload_n (k := 3) rfl rfl rfl ?_
                                    refine R_iald rfl sh_105 ⟨by omega, by omega⟩ ?_
                                    refine N_eq (fun x1963 e1964 => ?_)
                                    have q1965 : 0 ≤ x1963.toInt ∧ x1963.toInt ≤ 5 := by rw [e1964]; exact hI.1 105 _
                                    have e1966 : x1963 = (evOf h).2.2.2.1 x1934.toNatClampNeg := by rw [e1964]; exact congrFun (congrArg (fun q : EV => q.2.2.2.1) hE) _
                                    refine R_iload_n (k := 1) rfl rfl rfl ?_
                                    refine R_callV (v := .inr (.inr (.inl 96))) (As := [.inl x1963, .inl a0]) (rest := []) rfl mt_9_i271 pp_X9_doesRest (by decide) rfl rfl rfl (Nat.le_of_ble_eq_true rfl) (Nat.le_of_ble_eq_true rfl) ((g_X9_doesRest h1932 hI x1963 a0 (by omega) (by omega)).mono (fun r1967 h1968 p1969 => ?_))
                                    obtain ⟨rfl, x1971, rfl, (q1972 | q1972 | q1972), zq1970, -⟩ := p1969
                                      rw [hE] at zq1970
                                    · exfalso; omega
                                    · rw [hE] at zq1970
                                      show RUN d_X9_goSecond 200 [(3, .inl x1934), (0, .inr (.inr (.inl 96))), (1, .inl a0), (2, .inl a1)] [.inl x1971] h1932 _
                                      refine N_if_ne (a := x1971.toInt) 218 rfl rfl rfl (fun c1973 => ?_) (fun c1973 => ?_)
                                      · exfalso; omega
                                      · refine R_aload_n (k := 0) rfl rfl rfl ?_
                                        refine R_getf_r (j := 22) rfl ft_9_46 sh_96 rfl ?_
                                        refine R_aload_n (k := 0) rfl rfl rfl ?_
                                        refine R_getf_r (j := 17) rfl ft_9_40 sh_96 rfl ?_
                                        refine R_iload_n (k := 3) rfl rfl rfl ?_
                                        refine R_iald rfl sh_105 ⟨by omega, by omega⟩ ?_
                                        refine N_eq (fun x1974 e1975 => ?_)
                                        have q1976 : 0 ≤ x1974.toInt ∧ x1974.toInt ≤ 5 := by rw [e1975]; exact hI.1 105 _
                                        have e1977 : x1974 = (evOf h).2.2.2.1 x1934.toNatClampNeg := by rw [e1975]; exact congrFun (congrArg (fun q : EV => q.2.2.2.1) hE) _
                                        refine R_dup2 rfl ?_
                                        refine R_iald rfl sh_107 ⟨by omega, by omega⟩ ?_
                                        refine N_eq (fun x1978 e1979 => ?_)
                                        have e1980 : x1978 = ((kyOf h1932).1) x1974.toNatClampNeg := by rw [e1979]; exact (ky_at107 (nlt ⟨by omega, by omega⟩)).trans (congrFun (congrArg (fun q : KY => q.1) hK) _)
                                        refine R_iconst 1 rfl rfl ?_
                                        have b1981 := i_rng x1978
                                        refine R_iadd rfl ?_
                                        refine N_eq (fun x1982 e1983 => ?_)
                                        refine K_iast (a := x1974.toInt) (lo := (-2147483648)) (hi' := 2147483647) rfl sh_107 rfl ⟨by omega, by omega⟩ hI (by decide) rfl (i_rng _) fr (by decide) (fun h1984 g1985 hI fr => ?_)
                                        have fl1933 : FR [107] h1918 h1984 := by rw [g1985]; exact FR_wI _ _ fl1933 (by decide)
                                        have fl862 : FR [96, 107, 108, 109, 117, 118] h842 h1984 := by rw [g1985]; exact FR_wI _ _ fl862 (by decide)
                                        have fl820 : FR [96, 107, 108, 109, 117, 118] h803 h1984 := by rw [g1985]; exact FR_wI _ _ fl820 (by decide)
                                        have s1986 : (h1984.1 96 41).toInt = (h1932.1 96 41).toInt := by rw [g1985, wI_ne _ _ _ (by decide)]
                                        have s1987 : (h1984.1 96 42).toInt = (h1932.1 96 42).toInt := by rw [g1985, wI_ne _ _ _ (by decide)]
                                        have s1988 : (h1984.1 96 19).toInt = (h1932.1 96 19).toInt := by rw [g1985, wI_ne _ _ _ (by decide)]
                                        have s1989 : (h1984.1 96 18).toInt = (h1932.1 96 18).toInt := by rw [g1985, wI_ne _ _ _ (by decide)]
                                        have s1990 : (h1984.1 96 20).toInt = (h1932.1 96 20).toInt := by rw [g1985, wI_ne _ _ _ (by decide)]
                                        have s1991 : (h1984.1 96 46).toInt = (h1932.1 96 46).toInt := by rw [g1985, wI_ne _ _ _ (by decide)]
                                        have s1992 : (h1984.1 96 44).toInt = (h1932.1 96 44).toInt := by rw [g1985, wI_ne _ _ _ (by decide)]
                                        have s1993 : (h1984.1 96 47).toInt = (h1932.1 96 47).toInt := by rw [g1985, wI_ne _ _ _ (by decide)]
                                        have s1994 : (h1984.1 96 48).toInt = (h1932.1 96 48).toInt := by rw [g1985, wI_ne _ _ _ (by decide)]
                                        have s1995 : (h1984.1 96 51).toInt = (h1932.1 96 51).toInt := by rw [g1985, wI_ne _ _ _ (by decide)]
                                        have hK : kyOf h1984 = (upd ((kyOf h1932).1) x1974.toNatClampNeg x1982, (kyOf h1932).2.1, (kyOf h1932).2.2.1, (kyOf h1932).2.2.2) := by rw [g1985, ky_107 (nlt ⟨by omega, by omega⟩), hK] <;> rfl
                                        have hE : evOf h1984 = evOf h := by rw [g1985, ev_o (by decide), hE]
                                        refine N_iinc (a := x1934.toInt) (c := 1) (fun w => [(3, .inl w), (0, .inr (.inr (.inl 96))), (1, .inl a0), (2, .inl a1)]) rfl rfl (fun _ => rfl) (by decide) rfl (by decide) (by omega) (fun x1996 q1997 => ?_)
                                        refine R_goto 166 rfl rfl ?_
                                        exact RUN_weak (psub_cons rfl (psub_cons rfl (psub_cons rfl (psub_cons rfl (psub_nil _))))) (ih1935 h1984 x1996 hI fr fl1933 (by omega) (by rw [zHolds_s (x := x1934) (x' := x1996) (by omega) (by omega), ← m1940]; refine hK.trans ?_; subst e1983 e1980 e1977 e1966 e1959 e1956; simp only [zHold1, eLine]; (repeat' split) <;> first | rfl | (exfalso; omega)) (hE) (by omega))
                                    · rw [hE] at zq1970
                                      show RUN d_X9_goSecond 200 [(3, .inl x1934), (0, .inr (.inr (.inl 96))), (1, .inl a0), (2, .inl a1)] [.inl x1971] h1932 _
                                      refine N_if_ne (a := x1971.toInt) 218 rfl rfl rfl (fun c1998 => ?_) (fun c1998 => ?_)
                                      · refine N_iinc (a := x1934.toInt) (c := 1) (fun w => [(3, .inl w), (0, .inr (.inr (.inl 96))), (1, .inl a0), (2, .inl a1)]) rfl rfl (fun _ => rfl) (by decide) rfl (by decide) (by omega) (fun x1999 q2000 => ?_)
                                        refine R_goto 166 rfl rfl ?_
                                        exact RUN_weak (psub_cons rfl (psub_cons rfl (psub_cons rfl (psub_cons rfl (psub_nil _))))) (ih1935 h1932 x1999 hI fr fl1933 (by omega) (by rw [zHolds_s (x := x1934) (x' := x1999) (by omega) (by omega), ← m1940]; refine hK.trans ?_; subst e1966 e1959 e1956; simp only [zHold1, eLine]; (repeat' split) <;> first | rfl | (exfalso; omega)) (hE) (by omega))
                                      · exfalso; omega
                            have k2001 : (0 : Int32).toInt = 0 := by decide
                            exact lp1931 _ h1918 (0 : Int32) hI fr (FR.rf _ _) (by decide) (by rw [hK]; rfl) (hE) (Nat.lt_succ_self _)
                      · rw [hE] at zq1599
                        show RUN d_X9_goSecond 115 [(3, .inl x863), (0, .inr (.inr (.inl 96))), (1, .inl a0), (2, .inl a1)] [.inl x1600] h861 _
                        refine N_if_ne (a := x1600.toInt) 164 rfl rfl rfl (fun c2002 => ?_) (fun c2002 => ?_)
                        · have hK : kyOf h861 = zTake (evOf h) a0 (zMid (evOf h) a0 a1 (kyOf h)) := by
                            refine hK.trans ?_
                            subst e1594 e1491 e1488
                            simp only [zTake, zTake1, eMany, eLine, eFull]
                            (repeat' split) <;> first | rfl | (exfalso; omega)
                          refine R_iconst 0 rfl rfl ?_
                          refine R_istore_n (k := 3) rfl [(3, .inl 0), (0, .inr (.inr (.inl 96))), (1, .inl a0), (2, .inl a1)] rfl rfl (by decide) ?_
                          have lp2004 : ∀ (n2003 : Nat) (h2005 : PH) (x2007 : Int32), INV h2005 → FR [96, 107, 108, 109, 117, 118] h h2005 → FR [107] h861 h2005 → 0 ≤ x2007.toInt ∧ x2007.toInt ≤ 6 → (kyOf h2005 = zHolds (evOf h) a0 x2007.toNatClampNeg (zTake (evOf h) a0 (zMid (evOf h) a0 a1 (kyOf h)))) → (evOf h2005 = evOf h) → (6 - x2007.toInt).toNat < n2003 → RUN d_X9_goSecond 166 [(3, .inl x2007), (0, .inr (.inr (.inl 96))), (1, .inl a0), (2, .inl a1)] [] h2005 (q_X9_goSecond h a0 a1) := by
                            intro n2003
                            induction n2003 with
                            | zero => intro h2005 x2007 m2009 m2010 m2011 m2012 m2013 m2014 hz; exact absurd hz (Nat.not_lt_zero _)
                            | succ n2003 ih2008 =>
                              intro h2005 x2007 hI fr fl2006 m2012 m2013 m2014 hz
                              have s2015 : (h2005.1 96 41).toInt = (h861.1 96 41).toInt := by rw [(fl2006 96 (by decide)).1]
                              have s2016 : (h2005.1 96 42).toInt = (h861.1 96 42).toInt := by rw [(fl2006 96 (by decide)).1]
                              have s2017 : (h2005.1 96 19).toInt = (h861.1 96 19).toInt := by rw [(fl2006 96 (by decide)).1]
                              have s2018 : (h2005.1 96 18).toInt = (h861.1 96 18).toInt := by rw [(fl2006 96 (by decide)).1]
                              have s2019 : (h2005.1 96 20).toInt = (h861.1 96 20).toInt := by rw [(fl2006 96 (by decide)).1]
                              have s2020 : (h2005.1 96 46).toInt = (h861.1 96 46).toInt := by rw [(fl2006 96 (by decide)).1]
                              have s2021 : (h2005.1 96 44).toInt = (h861.1 96 44).toInt := by rw [(fl2006 96 (by decide)).1]
                              have s2022 : (h2005.1 96 47).toInt = (h861.1 96 47).toInt := by rw [(fl2006 96 (by decide)).1]
                              have s2023 : (h2005.1 96 48).toInt = (h861.1 96 48).toInt := by rw [(fl2006 96 (by decide)).1]
                              have s2024 : (h2005.1 96 51).toInt = (h861.1 96 51).toInt := by rw [(fl2006 96 (by decide)).1]
                              have fl862 : FR [96, 107, 108, 109, 117, 118] h842 h2005 := fl862.trans fl2006 (by decide)
                              have fl820 : FR [96, 107, 108, 109, 117, 118] h803 h2005 := fl820.trans fl2006 (by decide)
                              have hE := m2014
                              have hK : kyOf h2005 = kyOf h2005 := rfl
                              refine R_iload_n (k := 3) rfl rfl rfl ?_
                              refine R_aload_n (k := 0) rfl rfl rfl ?_
                              refine R_getf_i (j := 18) rfl ft_9_253 sh_96 rfl ?_
                              refine N_icmp_ge (a := x2007.toInt) (b := (h2005.1 96 18).toInt) 224 rfl rfl rfl rfl (fun c2025 => ?_) (fun c2025 => ?_)
                              · have hF : kyOf h2005 = zSecond (evOf h) a0 a1 (kyOf h) := m2013.trans (by rw [show x2007 = eMany (evOf h) from i_of _ (by omega)]; rfl)
                                exact R_vret rfl rfl ⟨hI, fr, ⟨by omega, by omega, by omega, by omega, by omega, by omega, by omega, by omega, by omega, by omega, hF, hE, trivial⟩, rfl⟩
                              · refine R_aload_n (k := 0) rfl rfl rfl ?_
                                refine R_getf_r (j := 22) rfl ft_9_46 sh_96 rfl ?_
                                refine R_aload_n (k := 0) rfl rfl rfl ?_
                                refine R_getf_r (j := 17) rfl ft_9_40 sh_96 rfl ?_
                                refine R_iload_n (k := 3) rfl rfl rfl ?_
                                refine R_iald rfl sh_105 ⟨by omega, by omega⟩ ?_
                                refine N_eq (fun x2026 e2027 => ?_)
                                have q2028 : 0 ≤ x2026.toInt ∧ x2026.toInt ≤ 5 := by rw [e2027]; exact hI.1 105 _
                                have e2029 : x2026 = (evOf h).2.2.2.1 x2007.toNatClampNeg := by rw [e2027]; exact congrFun (congrArg (fun q : EV => q.2.2.2.1) hE) _
                                refine R_iald rfl sh_107 ⟨by omega, by omega⟩ ?_
                                refine N_eq (fun x2030 e2031 => ?_)
                                have e2032 : x2030 = ((kyOf h2005).1) x2026.toNatClampNeg := by rw [e2031]; exact (ky_at107 (nlt ⟨by omega, by omega⟩)).trans (congrFun (congrArg (fun q : KY => q.1) hK) _)
                                refine R_iconst (-1) rfl rfl ?_
                                refine N_icmp_eq (a := x2030.toInt) (b := (-1)) 218 rfl rfl rfl (by decide) (fun c2033 => ?_) (fun c2033 => ?_)
                                · refine N_iinc (a := x2007.toInt) (c := 1) (fun w => [(3, .inl w), (0, .inr (.inr (.inl 96))), (1, .inl a0), (2, .inl a1)]) rfl rfl (fun _ => rfl) (by decide) rfl (by decide) (by omega) (fun x2034 q2035 => ?_)
                                  refine R_goto 166 rfl rfl ?_
                                  exact RUN_weak (psub_cons rfl (psub_cons rfl (psub_cons rfl (psub_cons rfl (psub_nil _))))) (ih2008 h2005 x2034 hI fr fl2006 (by omega) (by rw [zHolds_s (x := x2007) (x' := x2034) (by omega) (by omega), ← m2013]; refine hK.trans ?_; subst e2032 e2029; simp only [zHold1, eLine]; (repeat' split) <;> first | rfl | (exfalso; omega)) (hE) (by omega))
                                · refine R_aload_n (k := 0) rfl rfl rfl ?_
                                  refine R_aload_n (k := 0) rfl rfl rfl ?_
                                  refine R_getf_r (j := 17) rfl ft_9_40 sh_96 rfl ?_
                                  refine R_iload_n (k := 3) rfl rfl rfl ?_
                                  refine R_iald rfl sh_105 ⟨by omega, by omega⟩ ?_
                                  refine N_eq (fun x2036 e2037 => ?_)
                                  have q2038 : 0 ≤ x2036.toInt ∧ x2036.toInt ≤ 5 := by rw [e2037]; exact hI.1 105 _
                                  have e2039 : x2036 = (evOf h).2.2.2.1 x2007.toNatClampNeg := by rw [e2037]; exact congrFun (congrArg (fun q : EV => q.2.2.2.1) hE) _
                                  refine R_iload_n (k := 1) rfl rfl rfl ?_
                                  refine R_callV (v := .inr (.inr (.inl 96))) (As := [.inl x2036, .inl a0]) (rest := []) rfl mt_9_i271 pp_X9_doesRest (by decide) rfl rfl rfl (Nat.le_of_ble_eq_true rfl) (Nat.le_of_ble_eq_true rfl) ((g_X9_doesRest h2005 hI x2036 a0 (by omega) (by omega)).mono (fun r2040 h2041 p2042 => ?_))
                                  obtain ⟨rfl, x2044, rfl, (q2045 | q2045 | q2045), zq2043, -⟩ := p2042
                                    rw [hE] at zq2043
                                  · exfalso; omega
                                  · rw [hE] at zq2043
                                    show RUN d_X9_goSecond 200 [(3, .inl x2007), (0, .inr (.inr (.inl 96))), (1, .inl a0), (2, .inl a1)] [.inl x2044] h2005 _
                                    refine N_if_ne (a := x2044.toInt) 218 rfl rfl rfl (fun c2046 => ?_) (fun c2046 => ?_)
                                    · exfalso; omega
                                    · refine R_aload_n (k := 0) rfl rfl rfl ?_
                                      refine R_getf_r (j := 22) rfl ft_9_46 sh_96 rfl ?_
                                      refine R_aload_n (k := 0) rfl rfl rfl ?_
                                      refine R_getf_r (j := 17) rfl ft_9_40 sh_96 rfl ?_
                                      refine R_iload_n (k := 3) rfl rfl rfl ?_
                                      refine R_iald rfl sh_105 ⟨by omega, by omega⟩ ?_
                                      refine N_eq (fun x2047 e2048 => ?_)
                                      have q2049 : 0 ≤ x2047.toInt ∧ x2047.toInt ≤ 5 := by rw [e2048]; exact hI.1 105 _
                                      have e2050 : x2047 = (evOf h).2.2.2.1 x2007.toNatClampNeg := by rw [e2048]; exact congrFun (congrArg (fun q : EV => q.2.2.2.1) hE) _
                                      refine R_dup2 rfl ?_
                                      refine R_iald rfl sh_107 ⟨by omega, by omega⟩ ?_
                                      refine N_eq (fun x2051 e2052 => ?_)
                                      have e2053 : x2051 = ((kyOf h2005).1) x2047.toNatClampNeg := by rw [e2052]; exact (ky_at107 (nlt ⟨by omega, by omega⟩)).trans (congrFun (congrArg (fun q : KY => q.1) hK) _)
                                      refine R_iconst 1 rfl rfl ?_
                                      have b2054 := i_rng x2051
                                      refine R_iadd rfl ?_
                                      refine N_eq (fun x2055 e2056 => ?_)
                                      refine K_iast (a := x2047.toInt) (lo := (-2147483648)) (hi' := 2147483647) rfl sh_107 rfl ⟨by omega, by omega⟩ hI (by decide) rfl (i_rng _) fr (by decide) (fun h2057 g2058 hI fr => ?_)
                                      have fl2006 : FR [107] h861 h2057 := by rw [g2058]; exact FR_wI _ _ fl2006 (by decide)
                                      have fl862 : FR [96, 107, 108, 109, 117, 118] h842 h2057 := by rw [g2058]; exact FR_wI _ _ fl862 (by decide)
                                      have fl820 : FR [96, 107, 108, 109, 117, 118] h803 h2057 := by rw [g2058]; exact FR_wI _ _ fl820 (by decide)
                                      have s2059 : (h2057.1 96 41).toInt = (h2005.1 96 41).toInt := by rw [g2058, wI_ne _ _ _ (by decide)]
                                      have s2060 : (h2057.1 96 42).toInt = (h2005.1 96 42).toInt := by rw [g2058, wI_ne _ _ _ (by decide)]
                                      have s2061 : (h2057.1 96 19).toInt = (h2005.1 96 19).toInt := by rw [g2058, wI_ne _ _ _ (by decide)]
                                      have s2062 : (h2057.1 96 18).toInt = (h2005.1 96 18).toInt := by rw [g2058, wI_ne _ _ _ (by decide)]
                                      have s2063 : (h2057.1 96 20).toInt = (h2005.1 96 20).toInt := by rw [g2058, wI_ne _ _ _ (by decide)]
                                      have s2064 : (h2057.1 96 46).toInt = (h2005.1 96 46).toInt := by rw [g2058, wI_ne _ _ _ (by decide)]
                                      have s2065 : (h2057.1 96 44).toInt = (h2005.1 96 44).toInt := by rw [g2058, wI_ne _ _ _ (by decide)]
                                      have s2066 : (h2057.1 96 47).toInt = (h2005.1 96 47).toInt := by rw [g2058, wI_ne _ _ _ (by decide)]
                                      have s2067 : (h2057.1 96 48).toInt = (h2005.1 96 48).toInt := by rw [g2058, wI_ne _ _ _ (by decide)]
                                      have s2068 : (h2057.1 96 51).toInt = (h2005.1 96 51).toInt := by rw [g2058, wI_ne _ _ _ (by decide)]
                                      have hK : kyOf h2057 = (upd ((kyOf h2005).1) x2047.toNatClampNeg x2055, (kyOf h2005).2.1, (kyOf h2005).2.2.1, (kyOf h2005).2.2.2) := by rw [g2058, ky_107 (nlt ⟨by omega, by omega⟩), hK] <;> rfl
                                      have hE : evOf h2057 = evOf h := by rw [g2058, ev_o (by decide), hE]
                                      refine N_iinc (a := x2007.toInt) (c := 1) (fun w => [(3, .inl w), (0, .inr (.inr (.inl 96))), (1, .inl a0), (2, .inl a1)]) rfl rfl (fun _ => rfl) (by decide) rfl (by decide) (by omega) (fun x2069 q2070 => ?_)
                                      refine R_goto 166 rfl rfl ?_
                                      exact RUN_weak (psub_cons rfl (psub_cons rfl (psub_cons rfl (psub_cons rfl (psub_nil _))))) (ih2008 h2057 x2069 hI fr fl2006 (by omega) (by rw [zHolds_s (x := x2007) (x' := x2069) (by omega) (by omega), ← m2013]; refine hK.trans ?_; subst e2056 e2053 e2050 e2039 e2032 e2029; simp only [zHold1, eLine]; (repeat' split) <;> first | rfl | (exfalso; omega)) (hE) (by omega))
                                  · rw [hE] at zq2043
                                    show RUN d_X9_goSecond 200 [(3, .inl x2007), (0, .inr (.inr (.inl 96))), (1, .inl a0), (2, .inl a1)] [.inl x2044] h2005 _
                                    refine N_if_ne (a := x2044.toInt) 218 rfl rfl rfl (fun c2071 => ?_) (fun c2071 => ?_)
                                    · refine N_iinc (a := x2007.toInt) (c := 1) (fun w => [(3, .inl w), (0, .inr (.inr (.inl 96))), (1, .inl a0), (2, .inl a1)]) rfl rfl (fun _ => rfl) (by decide) rfl (by decide) (by omega) (fun x2072 q2073 => ?_)
                                      refine R_goto 166 rfl rfl ?_
                                      exact RUN_weak (psub_cons rfl (psub_cons rfl (psub_cons rfl (psub_cons rfl (psub_nil _))))) (ih2008 h2005 x2072 hI fr fl2006 (by omega) (by rw [zHolds_s (x := x2007) (x' := x2072) (by omega) (by omega), ← m2013]; refine hK.trans ?_; subst e2039 e2032 e2029; simp only [zHold1, eLine]; (repeat' split) <;> first | rfl | (exfalso; omega)) (hE) (by omega))
                                    · exfalso; omega
                          have k2074 : (0 : Int32).toInt = 0 := by decide
                          exact lp2004 _ h861 (0 : Int32) hI fr (FR.rf _ _) (by decide) (by rw [hK]; rfl) (hE) (Nat.lt_succ_self _)
                        · exfalso; omega
                · refine R_aload_n (k := 0) rfl rfl rfl ?_
                  refine R_iload_n (k := 3) rfl rfl rfl ?_
                  refine R_iload_n (k := 1) rfl rfl rfl ?_
                  have b2075 := i_rng a0
                  refine R_callV (v := .inr (.inr (.inl 96))) (As := [.inl x863, .inl a0]) (rest := []) rfl mt_9_i278 pp_X9_goPlace (by decide) rfl rfl rfl (Nat.le_of_ble_eq_true rfl) (Nat.le_of_ble_eq_true rfl) ((g_X9_goPlace h861 hI x863 a0 (by omega) (by omega) (by omega)).mono (fun r2076 h2077 p2078 => ?_))
                  obtain ⟨hJ, fj, ⟨kp2079, kp2080, kp2081, kp2082, kp2083, kp2084, kp2085, kp2086, kp2087, kp2088, xq2089, xq2090, -⟩, rfl⟩ := p2078
                  have f2091 := fj
                  have fr := fr.trans fj (by decide)
                  have hI := hJ
                  have fl862 : FR [96, 107, 108, 109, 117, 118] h842 h2077 := fl862.trans fj (by decide)
                  have fl820 : FR [96, 107, 108, 109, 117, 118] h803 h2077 := fl820.trans fj (by decide)
                  have hK : kyOf h2077 = zPlace (evOf h) x863 a0 (kyOf h861) := by rw [xq2089, hE, hK]
                  have hE : evOf h2077 = evOf h := xq2090.trans hE
                  show RUN d_X9_goSecond 76 [(3, .inl x863), (0, .inr (.inr (.inl 96))), (1, .inl a0), (2, .inl a1)] [] h2077 _
                  refine N_iinc (a := x863.toInt) (c := (-1)) (fun w => [(3, .inl w), (0, .inr (.inr (.inl 96))), (1, .inl a0), (2, .inl a1)]) rfl rfl (fun _ => rfl) (by decide) rfl (by decide) (by omega) (fun x2092 q2093 => ?_)
                  refine R_goto 62 rfl rfl ?_
                  exact RUN_weak (psub_cons rfl (psub_cons rfl (psub_cons rfl (psub_cons rfl (psub_nil _))))) (ih864 h2077 x2092 hI fr fl862 (by omega) (by omega) (by omega) (by omega) (by omega) (by omega) (by omega) (by omega) (by omega) (by omega) (by omega) (by omega) (by rw [hK, ← zPlaces_s (x := x863) (x' := x2092) (by omega) (by omega)]; exact m880) (fun hc => absurd (show a1.toInt = 0 by omega) hc) (hE) (by omega))
          exact lp860 _ h842 x856 hI fr (FR.rf _ _) (by omega) rfl rfl rfl rfl rfl rfl rfl rfl rfl rfl (by omega) (by rw [hK, tn1 (x := x856) (y := eMany (evOf h)) (by omega) (by omega)]) (fun _ => hK) (hE) (Nat.lt_succ_self _)
        · refine R_aload_n (k := 0) rfl rfl rfl ?_
          refine R_getf_r (j := 24) rfl ft_9_52 sh_96 rfl ?_
          refine R_iload_n (k := 3) rfl rfl rfl ?_
          refine R_aload_n (k := 0) rfl rfl rfl ?_
          refine R_getf_r (j := 24) rfl ft_9_52 sh_96 rfl ?_
          refine R_iload_n (k := 3) rfl rfl rfl ?_
          refine R_iconst 1 rfl rfl ?_
          refine R_iadd rfl ?_
          refine N_eq (fun x2094 e2095 => ?_)
          have q2096 : x2094.toInt = x821.toInt + 1 := by rw [e2095]; exact i_add rfl (by decide) (by omega)
          refine R_iald rfl sh_109 ⟨by omega, by omega⟩ ?_
          refine N_eq (fun x2097 e2098 => ?_)
          have e2099 : x2097 = ((kyOf h819).2.2.1) x2094.toNatClampNeg := by rw [e2098]; exact (ky_at109 (nlt ⟨by omega, by omega⟩)).trans (congrFun (congrArg (fun q : KY => q.2.2.1) hK) _)
          refine K_iast (a := x821.toInt) (lo := (-2147483648)) (hi' := 2147483647) rfl sh_109 rfl ⟨by omega, by omega⟩ hI (by decide) rfl (i_rng _) fr (by decide) (fun h2100 g2101 hI fr => ?_)
          have fl820 : FR [96, 107, 108, 109, 117, 118] h803 h2100 := by rw [g2101]; exact FR_wI _ _ fl820 (by decide)
          have s2102 : (h2100.1 96 34).toInt = (h819.1 96 34).toInt := by rw [g2101, wI_ne _ _ _ (by decide)]
          have s2103 : (h2100.1 96 36).toInt = (h819.1 96 36).toInt := by rw [g2101, wI_ne _ _ _ (by decide)]
          have s2104 : (h2100.1 96 41).toInt = (h819.1 96 41).toInt := by rw [g2101, wI_ne _ _ _ (by decide)]
          have s2105 : (h2100.1 96 42).toInt = (h819.1 96 42).toInt := by rw [g2101, wI_ne _ _ _ (by decide)]
          have s2106 : (h2100.1 96 19).toInt = (h819.1 96 19).toInt := by rw [g2101, wI_ne _ _ _ (by decide)]
          have s2107 : (h2100.1 96 18).toInt = (h819.1 96 18).toInt := by rw [g2101, wI_ne _ _ _ (by decide)]
          have s2108 : (h2100.1 96 20).toInt = (h819.1 96 20).toInt := by rw [g2101, wI_ne _ _ _ (by decide)]
          have s2109 : (h2100.1 96 46).toInt = (h819.1 96 46).toInt := by rw [g2101, wI_ne _ _ _ (by decide)]
          have s2110 : (h2100.1 96 44).toInt = (h819.1 96 44).toInt := by rw [g2101, wI_ne _ _ _ (by decide)]
          have s2111 : (h2100.1 96 47).toInt = (h819.1 96 47).toInt := by rw [g2101, wI_ne _ _ _ (by decide)]
          have s2112 : (h2100.1 96 48).toInt = (h819.1 96 48).toInt := by rw [g2101, wI_ne _ _ _ (by decide)]
          have s2113 : (h2100.1 96 51).toInt = (h819.1 96 51).toInt := by rw [g2101, wI_ne _ _ _ (by decide)]
          have hK : kyOf h2100 = ((kyOf h819).1, (kyOf h819).2.1, upd ((kyOf h819).2.2.1) x821.toNatClampNeg x2097, (kyOf h819).2.2.2) := by rw [g2101, ky_109 (nlt ⟨by omega, by omega⟩), hK] <;> rfl
          have hE : evOf h2100 = evOf h := by rw [g2101, ev_o (by decide), hE]
          refine N_iinc (a := x821.toInt) (c := 1) (fun w => [(3, .inl w), (0, .inr (.inr (.inl 96))), (1, .inl a0), (2, .inl a1)]) rfl rfl (fun _ => rfl) (by decide) rfl (by decide) (by omega) (fun x2114 q2115 => ?_)
          refine R_goto 21 rfl rfl ?_
          exact RUN_weak (psub_cons rfl (psub_cons rfl (psub_cons rfl (psub_cons rfl (psub_nil _))))) (ih822 h2100 x2114 hI fr fl820 (by omega) (by omega) (by omega) (by omega) (by omega) (by omega) (by omega) (by omega) (by omega) (by omega) (by omega) trivial trivial (by rw [zShN_s (b := (kyOf h).2.2.1) (x := x821) (x' := x2114) (y := x2094) (by omega) (by omega) (by omega)]; refine hK.trans ?_; subst e2099; rw [m839] <;> rfl) (hE) (by omega))
    have k2116 : (1 : Int32).toInt = 1 := by decide
    exact lp818 _ h803 (1 : Int32) hI fr (FR.rf _ _) (by decide) rfl rfl rfl rfl rfl rfl rfl rfl rfl rfl trivial trivial (by refine hK.trans ?_; subst e802 e798 e795; rw [zShN_1]) (hE) (Nat.lt_succ_self _)
abbrev q_X9_startLine (h : PH)  : Option PV → PH → Prop := fun r h' => INV h' ∧ FR [96, 107, 108, 109, 117, 118] h h' ∧ ((h'.1 96 19).toInt = (h.1 96 19).toInt ∧ (h'.1 96 42).toInt = (h.1 96 42).toInt ∧ (h'.1 96 18).toInt = (h.1 96 18).toInt ∧ (h'.1 96 20).toInt = (h.1 96 20).toInt ∧ (h'.1 96 46).toInt = (h.1 96 46).toInt ∧ (h'.1 96 44).toInt = (h.1 96 44).toInt ∧ (h'.1 96 47).toInt = (h.1 96 47).toInt ∧ (h'.1 96 48).toInt = (h.1 96 48).toInt ∧ (h'.1 96 51).toInt = (h.1 96 51).toInt ∧ (kyOf h' = zStart (eBuck (evOf h))) ∧ (evOf h' = evOf h) ∧ True) ∧ r = none
set_option maxHeartbeats 4000000 in
set_option maxRecDepth 100000 in
theorem g_X9_startLine (h : PH) (hI : INV h)  : CALL d_X9_startLine [.inr (.inr (.inl 96))] h (q_X9_startLine h) := by
  show RUN d_X9_startLine 0 [(0, .inr (.inr (.inl 96)))] [] h _
  have fr : FR [96, 107, 108, 109, 117, 118] h h := FR.rf _ _
  have hK : kyOf h = kyOf h := rfl
  have hE : evOf h = evOf h := rfl
  have b1 : (0 : Int) ≤ (h.1 96 18).toInt ∧ (h.1 96 18).toInt ≤ 6 := hI.1 96 18
  have b2 : (h.1 96 18).toInt = ((evOf h).2.2.2.2.1).toInt := congrArg (fun q : EV => (q.2.2.2.2.1).toInt) hE
  have b3 : (0 : Int) ≤ (h.1 96 51).toInt ∧ (h.1 96 51).toInt ≤ 720 := hI.1 96 51
  refine R_iconst 0 rfl rfl ?_
  refine R_istore_n (k := 1) rfl [(1, .inl 0), (0, .inr (.inr (.inl 96)))] rfl rfl (by decide) ?_
  have lp5 : ∀ (n4 : Nat) (h6 : PH) (x8 : Int32), INV h6 → FR [96, 107, 108, 109, 117, 118] h h6 → FR [96, 107, 108, 109, 117, 118] h h6 → 0 ≤ x8.toInt ∧ x8.toInt ≤ 6 → (h6.1 96 19).toInt = (h.1 96 19).toInt → (h6.1 96 42).toInt = (h.1 96 42).toInt → (h6.1 96 18).toInt = (h.1 96 18).toInt → (h6.1 96 20).toInt = (h.1 96 20).toInt → (h6.1 96 46).toInt = (h.1 96 46).toInt → (h6.1 96 44).toInt = (h.1 96 44).toInt → (h6.1 96 47).toInt = (h.1 96 47).toInt → (h6.1 96 48).toInt = (h.1 96 48).toInt → (h6.1 96 51).toInt = (h.1 96 51).toInt → (∀ j : Nat, (j : Int) < x8.toInt → (kyOf h6).1 j = -1 ∧ (kyOf h6).2.1 j = 0) → (evOf h6 = evOf h) → (6 - x8.toInt).toNat < n4 → RUN d_X9_startLine 2 [(1, .inl x8), (0, .inr (.inr (.inl 96)))] [] h6 (q_X9_startLine h) := by
    intro n4
    induction n4 with
    | zero => intro h6 x8 m10 m11 m12 m13 m14 m15 m16 m17 m18 m19 m20 m21 m22 m23 m24 hz; exact absurd hz (Nat.not_lt_zero _)
    | succ n4 ih9 =>
      intro h6 x8 hI fr fl7 m13 m14 m15 m16 m17 m18 m19 m20 m21 m22 m23 m24 hz
      have hE := m24
      have hK : kyOf h6 = kyOf h6 := rfl
      refine R_iload_n (k := 1) rfl rfl rfl ?_
      refine R_bipush 6 rfl rfl ?_
      refine N_icmp_ge (a := x8.toInt) (b := 6) 42 rfl rfl rfl (by decide) (fun c25 => ?_) (fun c25 => ?_)
      · refine R_iconst 0 rfl rfl ?_
        refine R_istore_n (k := 1) rfl [(1, .inl 0), (0, .inr (.inr (.inl 96)))] rfl rfl (by decide) ?_
        have lp27 : ∀ (n26 : Nat) (h28 : PH) (x30 : Int32), INV h28 → FR [96, 107, 108, 109, 117, 118] h h28 → FR [96, 109] h6 h28 → 0 ≤ x30.toInt ∧ x30.toInt ≤ 23 → (h28.1 96 19).toInt = (h6.1 96 19).toInt → (h28.1 96 42).toInt = (h6.1 96 42).toInt → (h28.1 96 18).toInt = (h6.1 96 18).toInt → (h28.1 96 20).toInt = (h6.1 96 20).toInt → (h28.1 96 46).toInt = (h6.1 96 46).toInt → (h28.1 96 44).toInt = (h6.1 96 44).toInt → (h28.1 96 47).toInt = (h6.1 96 47).toInt → (h28.1 96 48).toInt = (h6.1 96 48).toInt → (h28.1 96 51).toInt = (h6.1 96 51).toInt → ((∀ j : Nat, (j : Int) < x30.toInt → (kyOf h28).2.2.1 j = 0) ∧ (kyOf h28).1 = (kyOf h6).1 ∧ (kyOf h28).2.1 = (kyOf h6).2.1) → (evOf h28 = evOf h) → (23 - x30.toInt).toNat < n26 → RUN d_X9_startLine 44 [(1, .inl x30), (0, .inr (.inr (.inl 96)))] [] h28 (q_X9_startLine h) := by
          intro n26
          induction n26 with
          | zero => intro h28 x30 m32 m33 m34 m35 m36 m37 m38 m39 m40 m41 m42 m43 m44 m45 m46 hz; exact absurd hz (Nat.not_lt_zero _)
          | succ n26 ih31 =>
            intro h28 x30 hI fr fl29 m35 m36 m37 m38 m39 m40 m41 m42 m43 m44 m45 m46 hz
            have fl7 : FR [96, 107, 108, 109, 117, 118] h h28 := fl7.trans fl29 (by decide)
            have hE := m46
            have hK : kyOf h28 = kyOf h28 := rfl
            refine R_iload_n (k := 1) rfl rfl rfl ?_
            refine R_bipush 23 rfl rfl ?_
            refine N_icmp_ge (a := x30.toInt) (b := 23) 63 rfl rfl rfl (by decide) (fun c47 => ?_) (fun c47 => ?_)
            · refine R_aload_n (k := 0) rfl rfl rfl ?_
              refine R_getf_r (j := 24) rfl ft_9_52 sh_96 rfl ?_
              refine R_iconst 0 rfl rfl ?_
              refine R_aload_n (k := 0) rfl rfl rfl ?_
              refine R_getf_i (j := 19) rfl ft_9_256 sh_96 rfl ?_
              refine N_eq (fun x48 e49 => ?_)
              have e50 : x48 = (evOf h).2.2.2.2.2.2.1 := by rw [e49]; exact congrArg (fun q : EV => q.2.2.2.2.2.2.1) hE
              refine K_iast (a := 0) (lo := (-2147483648)) (hi' := 2147483647) rfl sh_109 (by decide) (by decide) hI (by decide) rfl (i_rng _) fr (by decide) (fun h51 g52 hI fr => ?_)
              have fl29 : FR [96, 109] h6 h51 := by rw [g52]; exact FR_wI _ _ fl29 (by decide)
              have fl7 : FR [96, 107, 108, 109, 117, 118] h h51 := by rw [g52]; exact FR_wI _ _ fl7 (by decide)
              have s53 : (h51.1 96 19).toInt = (h28.1 96 19).toInt := by rw [g52, wI_ne _ _ _ (by decide)]
              have s54 : (h51.1 96 42).toInt = (h28.1 96 42).toInt := by rw [g52, wI_ne _ _ _ (by decide)]
              have s55 : (h51.1 96 18).toInt = (h28.1 96 18).toInt := by rw [g52, wI_ne _ _ _ (by decide)]
              have s56 : (h51.1 96 20).toInt = (h28.1 96 20).toInt := by rw [g52, wI_ne _ _ _ (by decide)]
              have s57 : (h51.1 96 46).toInt = (h28.1 96 46).toInt := by rw [g52, wI_ne _ _ _ (by decide)]
              have s58 : (h51.1 96 44).toInt = (h28.1 96 44).toInt := by rw [g52, wI_ne _ _ _ (by decide)]
              have s59 : (h51.1 96 47).toInt = (h28.1 96 47).toInt := by rw [g52, wI_ne _ _ _ (by decide)]
              have s60 : (h51.1 96 48).toInt = (h28.1 96 48).toInt := by rw [g52, wI_ne _ _ _ (by decide)]
              have s61 : (h51.1 96 51).toInt = (h28.1 96 51).toInt := by rw [g52, wI_ne _ _ _ (by decide)]
              have hK : kyOf h51 = ((kyOf h28).1, (kyOf h28).2.1, upd ((kyOf h28).2.2.1) (0 : Int32).toNatClampNeg x48, (kyOf h28).2.2.2) := by rw [g52, ky_109 (by decide), hK] <;> rfl
              have hE : evOf h51 = evOf h := by rw [g52, ev_o (by decide), hE]
              refine R_aload_n (k := 0) rfl rfl rfl ?_
              refine R_iconst 0 rfl rfl ?_
              refine K_putf (j := 34) (lo := (-2147483648)) (hi' := 2147483647) rfl ft_9_262 sh_96 rfl hI (by decide) rfl (by decide) fr (by decide) (fun h62 g63 hI fr => ?_)
              have fl29 : FR [96, 109] h6 h62 := by rw [g63]; exact FR_wI _ _ fl29 (by decide)
              have fl7 : FR [96, 107, 108, 109, 117, 118] h h62 := by rw [g63]; exact FR_wI _ _ fl7 (by decide)
              have s64 : (h62.1 96 19).toInt = (h51.1 96 19).toInt := by rw [g63, wI_at (by decide)]
              have s65 : (h62.1 96 42).toInt = (h51.1 96 42).toInt := by rw [g63, wI_at (by decide)]
              have s66 : (h62.1 96 18).toInt = (h51.1 96 18).toInt := by rw [g63, wI_at (by decide)]
              have s67 : (h62.1 96 20).toInt = (h51.1 96 20).toInt := by rw [g63, wI_at (by decide)]
              have s68 : (h62.1 96 46).toInt = (h51.1 96 46).toInt := by rw [g63, wI_at (by decide)]
              have s69 : (h62.1 96 44).toInt = (h51.1 96 44).toInt := by rw [g63, wI_at (by decide)]
              have s70 : (h62.1 96 47).toInt = (h51.1 96 47).toInt := by rw [g63, wI_at (by decide)]
              have s71 : (h62.1 96 48).toInt = (h51.1 96 48).toInt := by rw [g63, wI_at (by decide)]
              have s72 : (h62.1 96 51).toInt = (h51.1 96 51).toInt := by rw [g63, wI_at (by decide)]
              have hK : kyOf h62 = ((kyOf h28).1, (kyOf h28).2.1, upd ((kyOf h28).2.2.1) (0 : Int32).toNatClampNeg x48, (kyOf h28).2.2.2) := by rw [g63, ky_s (by decide), hK]
              have hE : evOf h62 = evOf h := by rw [g63, ev_s (by decide), hE]
              have s73 : (h62.1 96 34).toInt = 0 := by rw [g63, wI_is]; rfl
              refine R_aload_n (k := 0) rfl rfl rfl ?_
              refine R_iconst 0 rfl rfl ?_
              refine K_putf (j := 35) (lo := (-2147483648)) (hi' := 2147483647) rfl ft_9_265 sh_96 rfl hI (by decide) rfl (by decide) fr (by decide) (fun h74 g75 hI fr => ?_)
              have fl29 : FR [96, 109] h6 h74 := by rw [g75]; exact FR_wI _ _ fl29 (by decide)
              have fl7 : FR [96, 107, 108, 109, 117, 118] h h74 := by rw [g75]; exact FR_wI _ _ fl7 (by decide)
              have s76 : (h74.1 96 19).toInt = (h62.1 96 19).toInt := by rw [g75, wI_at (by decide)]
              have s77 : (h74.1 96 42).toInt = (h62.1 96 42).toInt := by rw [g75, wI_at (by decide)]
              have s78 : (h74.1 96 18).toInt = (h62.1 96 18).toInt := by rw [g75, wI_at (by decide)]
              have s79 : (h74.1 96 20).toInt = (h62.1 96 20).toInt := by rw [g75, wI_at (by decide)]
              have s80 : (h74.1 96 46).toInt = (h62.1 96 46).toInt := by rw [g75, wI_at (by decide)]
              have s81 : (h74.1 96 44).toInt = (h62.1 96 44).toInt := by rw [g75, wI_at (by decide)]
              have s82 : (h74.1 96 47).toInt = (h62.1 96 47).toInt := by rw [g75, wI_at (by decide)]
              have s83 : (h74.1 96 48).toInt = (h62.1 96 48).toInt := by rw [g75, wI_at (by decide)]
              have s84 : (h74.1 96 51).toInt = (h62.1 96 51).toInt := by rw [g75, wI_at (by decide)]
              have s85 : (h74.1 96 34).toInt = (h62.1 96 34).toInt := by rw [g75, wI_at (by decide)]
              have hK : kyOf h74 = ((kyOf h28).1, (kyOf h28).2.1, upd ((kyOf h28).2.2.1) (0 : Int32).toNatClampNeg x48, 0) := by rw [g75, ky_35, hK] <;> rfl
              have hE : evOf h74 = evOf h := by rw [g75, ev_s (by decide), hE]
              have s86 : (h74.1 96 35).toInt = 0 := by rw [g75, wI_is]; rfl
              refine R_aload_n (k := 0) rfl rfl rfl ?_
              refine R_iconst 0 rfl rfl ?_
              refine K_putf (j := 36) (lo := (-2147483648)) (hi' := 2147483647) rfl ft_9_268 sh_96 rfl hI (by decide) rfl (by decide) fr (by decide) (fun h87 g88 hI fr => ?_)
              have fl29 : FR [96, 109] h6 h87 := by rw [g88]; exact FR_wI _ _ fl29 (by decide)
              have fl7 : FR [96, 107, 108, 109, 117, 118] h h87 := by rw [g88]; exact FR_wI _ _ fl7 (by decide)
              have s89 : (h87.1 96 19).toInt = (h74.1 96 19).toInt := by rw [g88, wI_at (by decide)]
              have s90 : (h87.1 96 42).toInt = (h74.1 96 42).toInt := by rw [g88, wI_at (by decide)]
              have s91 : (h87.1 96 18).toInt = (h74.1 96 18).toInt := by rw [g88, wI_at (by decide)]
              have s92 : (h87.1 96 20).toInt = (h74.1 96 20).toInt := by rw [g88, wI_at (by decide)]
              have s93 : (h87.1 96 46).toInt = (h74.1 96 46).toInt := by rw [g88, wI_at (by decide)]
              have s94 : (h87.1 96 44).toInt = (h74.1 96 44).toInt := by rw [g88, wI_at (by decide)]
              have s95 : (h87.1 96 47).toInt = (h74.1 96 47).toInt := by rw [g88, wI_at (by decide)]
              have s96 : (h87.1 96 48).toInt = (h74.1 96 48).toInt := by rw [g88, wI_at (by decide)]
              have s97 : (h87.1 96 51).toInt = (h74.1 96 51).toInt := by rw [g88, wI_at (by decide)]
              have s98 : (h87.1 96 34).toInt = (h74.1 96 34).toInt := by rw [g88, wI_at (by decide)]
              have s99 : (h87.1 96 35).toInt = (h74.1 96 35).toInt := by rw [g88, wI_at (by decide)]
              have hK : kyOf h87 = ((kyOf h28).1, (kyOf h28).2.1, upd ((kyOf h28).2.2.1) (0 : Int32).toNatClampNeg x48, 0) := by rw [g88, ky_s (by decide), hK]
              have hE : evOf h87 = evOf h := by rw [g88, ev_s (by decide), hE]
              have s100 : (h87.1 96 36).toInt = 0 := by rw [g88, wI_is]; rfl
              have hF : kyOf h87 = zStart (eBuck (evOf h)) := by
                refine hK.trans ?_
                subst e50
                have a1 : (kyOf h28).1 = tr 6 (fun _ => -1) := m45.2.1.trans (tr_all (n := 6) (f := h6.1 107) (fun j hj => (m23 j (by omega)).1))
                have a2 : (kyOf h28).2.1 = tr 6 (fun _ => 0) := m45.2.2.trans (tr_all (n := 6) (f := h6.1 108) (fun j hj => (m23 j (by omega)).2))
                have a3 : (kyOf h28).2.2.1 = tr 23 (fun _ => 0) := tr_all (n := 23) (f := h28.1 109) (fun j hj => m45.1 j (by omega))
                rw [a1, a2, a3] <;> rfl
              exact R_vret rfl rfl ⟨hI, fr, ⟨by omega, by omega, by omega, by omega, by omega, by omega, by omega, by omega, by omega, hF, hE, trivial⟩, rfl⟩
            · refine R_aload_n (k := 0) rfl rfl rfl ?_
              refine R_getf_r (j := 24) rfl ft_9_52 sh_96 rfl ?_
              refine R_iload_n (k := 1) rfl rfl rfl ?_
              refine R_iconst 0 rfl rfl ?_
              refine K_iast (a := x30.toInt) (lo := (-2147483648)) (hi' := 2147483647) rfl sh_109 rfl ⟨by omega, by omega⟩ hI (by decide) rfl (by decide) fr (by decide) (fun h101 g102 hI fr => ?_)
              have fl29 : FR [96, 109] h6 h101 := by rw [g102]; exact FR_wI _ _ fl29 (by decide)
              have fl7 : FR [96, 107, 108, 109, 117, 118] h h101 := by rw [g102]; exact FR_wI _ _ fl7 (by decide)
              have s103 : (h101.1 96 19).toInt = (h28.1 96 19).toInt := by rw [g102, wI_ne _ _ _ (by decide)]
              have s104 : (h101.1 96 42).toInt = (h28.1 96 42).toInt := by rw [g102, wI_ne _ _ _ (by decide)]
              have s105 : (h101.1 96 18).toInt = (h28.1 96 18).toInt := by rw [g102, wI_ne _ _ _ (by decide)]
              have s106 : (h101.1 96 20).toInt = (h28.1 96 20).toInt := by rw [g102, wI_ne _ _ _ (by decide)]
              have s107 : (h101.1 96 46).toInt = (h28.1 96 46).toInt := by rw [g102, wI_ne _ _ _ (by decide)]
              have s108 : (h101.1 96 44).toInt = (h28.1 96 44).toInt := by rw [g102, wI_ne _ _ _ (by decide)]
              have s109 : (h101.1 96 47).toInt = (h28.1 96 47).toInt := by rw [g102, wI_ne _ _ _ (by decide)]
              have s110 : (h101.1 96 48).toInt = (h28.1 96 48).toInt := by rw [g102, wI_ne _ _ _ (by decide)]
              have s111 : (h101.1 96 51).toInt = (h28.1 96 51).toInt := by rw [g102, wI_ne _ _ _ (by decide)]
              have hK : kyOf h101 = ((kyOf h28).1, (kyOf h28).2.1, upd ((kyOf h28).2.2.1) x30.toNatClampNeg (0), (kyOf h28).2.2.2) := by rw [g102, ky_109 (nlt ⟨by omega, by omega⟩), hK] <;> rfl
              have hE : evOf h101 = evOf h := by rw [g102, ev_o (by decide), hE]
              refine N_iinc (a := x30.toInt) (c := 1) (fun w => [(1, .inl w), (0, .inr (.inr (.inl 96)))]) rfl rfl (fun _ => rfl) (by decide) rfl (by decide) (by omega) (fun x112 q113 => ?_)
              refine R_goto 44 rfl rfl ?_
              exact RUN_weak (psub_cons rfl (psub_cons rfl (psub_nil _))) (ih31 h101 x112 hI fr fl29 (by omega) (by omega) (by omega) (by omega) (by omega) (by omega) (by omega) (by omega) (by omega) (by omega) (⟨by rw [hK]; exact up_step1 (x := x30) (x' := x112) m45.1 (by omega) (by omega), by rw [hK]; exact m45.2.1, by rw [hK]; exact m45.2.2⟩) (hE) (by omega))
        have k114 : (0 : Int32).toInt = 0 := by decide
        exact lp27 _ h6 (0 : Int32) hI fr (FR.rf _ _) (by decide) rfl rfl rfl rfl rfl rfl rfl rfl rfl (⟨fun j hj => absurd hj (by omega), by rw [hK], by rw [hK]⟩) (hE) (Nat.lt_succ_self _)
      · refine R_aload_n (k := 0) rfl rfl rfl ?_
        refine R_getf_r (j := 22) rfl ft_9_46 sh_96 rfl ?_
        refine R_iload_n (k := 1) rfl rfl rfl ?_
        refine R_iconst (-1) rfl rfl ?_
        refine K_iast (a := x8.toInt) (lo := (-2147483648)) (hi' := 2147483647) rfl sh_107 rfl ⟨by omega, by omega⟩ hI (by decide) rfl (by decide) fr (by decide) (fun h115 g116 hI fr => ?_)
        have fl7 : FR [96, 107, 108, 109, 117, 118] h h115 := by rw [g116]; exact FR_wI _ _ fl7 (by decide)
        have s117 : (h115.1 96 19).toInt = (h6.1 96 19).toInt := by rw [g116, wI_ne _ _ _ (by decide)]
        have s118 : (h115.1 96 42).toInt = (h6.1 96 42).toInt := by rw [g116, wI_ne _ _ _ (by decide)]
        have s119 : (h115.1 96 18).toInt = (h6.1 96 18).toInt := by rw [g116, wI_ne _ _ _ (by decide)]
        have s120 : (h115.1 96 20).toInt = (h6.1 96 20).toInt := by rw [g116, wI_ne _ _ _ (by decide)]
        have s121 : (h115.1 96 46).toInt = (h6.1 96 46).toInt := by rw [g116, wI_ne _ _ _ (by decide)]
        have s122 : (h115.1 96 44).toInt = (h6.1 96 44).toInt := by rw [g116, wI_ne _ _ _ (by decide)]
        have s123 : (h115.1 96 47).toInt = (h6.1 96 47).toInt := by rw [g116, wI_ne _ _ _ (by decide)]
        have s124 : (h115.1 96 48).toInt = (h6.1 96 48).toInt := by rw [g116, wI_ne _ _ _ (by decide)]
        have s125 : (h115.1 96 51).toInt = (h6.1 96 51).toInt := by rw [g116, wI_ne _ _ _ (by decide)]
        have hK : kyOf h115 = (upd ((kyOf h6).1) x8.toNatClampNeg ((-1)), (kyOf h6).2.1, (kyOf h6).2.2.1, (kyOf h6).2.2.2) := by rw [g116, ky_107 (nlt ⟨by omega, by omega⟩), hK] <;> rfl
        have hE : evOf h115 = evOf h := by rw [g116, ev_o (by decide), hE]
        refine R_aload_n (k := 0) rfl rfl rfl ?_
        refine R_getf_r (j := 23) rfl ft_9_49 sh_96 rfl ?_
        refine R_iload_n (k := 1) rfl rfl rfl ?_
        refine R_iconst 0 rfl rfl ?_
        refine K_iast (a := x8.toInt) (lo := (-2147483648)) (hi' := 2147483647) rfl sh_108 rfl ⟨by omega, by omega⟩ hI (by decide) rfl (by decide) fr (by decide) (fun h126 g127 hI fr => ?_)
        have fl7 : FR [96, 107, 108, 109, 117, 118] h h126 := by rw [g127]; exact FR_wI _ _ fl7 (by decide)
        have s128 : (h126.1 96 19).toInt = (h115.1 96 19).toInt := by rw [g127, wI_ne _ _ _ (by decide)]
        have s129 : (h126.1 96 42).toInt = (h115.1 96 42).toInt := by rw [g127, wI_ne _ _ _ (by decide)]
        have s130 : (h126.1 96 18).toInt = (h115.1 96 18).toInt := by rw [g127, wI_ne _ _ _ (by decide)]
        have s131 : (h126.1 96 20).toInt = (h115.1 96 20).toInt := by rw [g127, wI_ne _ _ _ (by decide)]
        have s132 : (h126.1 96 46).toInt = (h115.1 96 46).toInt := by rw [g127, wI_ne _ _ _ (by decide)]
        have s133 : (h126.1 96 44).toInt = (h115.1 96 44).toInt := by rw [g127, wI_ne _ _ _ (by decide)]
        have s134 : (h126.1 96 47).toInt = (h115.1 96 47).toInt := by rw [g127, wI_ne _ _ _ (by decide)]
        have s135 : (h126.1 96 48).toInt = (h115.1 96 48).toInt := by rw [g127, wI_ne _ _ _ (by decide)]
        have s136 : (h126.1 96 51).toInt = (h115.1 96 51).toInt := by rw [g127, wI_ne _ _ _ (by decide)]
        have hK : kyOf h126 = (upd ((kyOf h6).1) x8.toNatClampNeg ((-1)), upd ((kyOf h6).2.1) x8.toNatClampNeg (0), (kyOf h6).2.2.1, (kyOf h6).2.2.2) := by rw [g127, ky_108 (nlt ⟨by omega, by omega⟩), hK] <;> rfl
        have hE : evOf h126 = evOf h := by rw [g127, ev_o (by decide), hE]
        refine R_aload_n (k := 0) rfl rfl rfl ?_
        refine R_getf_r (j := 32) rfl ft_9_76 sh_96 rfl ?_
        refine R_iload_n (k := 1) rfl rfl rfl ?_
        refine R_iconst 0 rfl rfl ?_
        refine K_iast (a := x8.toInt) (lo := (-2147483648)) (hi' := 2147483647) rfl sh_117 rfl ⟨by omega, by omega⟩ hI (by decide) rfl (by decide) fr (by decide) (fun h137 g138 hI fr => ?_)
        have fl7 : FR [96, 107, 108, 109, 117, 118] h h137 := by rw [g138]; exact FR_wI _ _ fl7 (by decide)
        have s139 : (h137.1 96 19).toInt = (h126.1 96 19).toInt := by rw [g138, wI_ne _ _ _ (by decide)]
        have s140 : (h137.1 96 42).toInt = (h126.1 96 42).toInt := by rw [g138, wI_ne _ _ _ (by decide)]
        have s141 : (h137.1 96 18).toInt = (h126.1 96 18).toInt := by rw [g138, wI_ne _ _ _ (by decide)]
        have s142 : (h137.1 96 20).toInt = (h126.1 96 20).toInt := by rw [g138, wI_ne _ _ _ (by decide)]
        have s143 : (h137.1 96 46).toInt = (h126.1 96 46).toInt := by rw [g138, wI_ne _ _ _ (by decide)]
        have s144 : (h137.1 96 44).toInt = (h126.1 96 44).toInt := by rw [g138, wI_ne _ _ _ (by decide)]
        have s145 : (h137.1 96 47).toInt = (h126.1 96 47).toInt := by rw [g138, wI_ne _ _ _ (by decide)]
        have s146 : (h137.1 96 48).toInt = (h126.1 96 48).toInt := by rw [g138, wI_ne _ _ _ (by decide)]
        have s147 : (h137.1 96 51).toInt = (h126.1 96 51).toInt := by rw [g138, wI_ne _ _ _ (by decide)]
        have hK : kyOf h137 = (upd ((kyOf h6).1) x8.toNatClampNeg ((-1)), upd ((kyOf h6).2.1) x8.toNatClampNeg (0), (kyOf h6).2.2.1, (kyOf h6).2.2.2) := by rw [g138, ky_o (by decide), hK]
        have hE : evOf h137 = evOf h := by rw [g138, ev_o (by decide), hE]
        refine R_aload_n (k := 0) rfl rfl rfl ?_
        refine R_getf_r (j := 33) rfl ft_9_79 sh_96 rfl ?_
        refine R_iload_n (k := 1) rfl rfl rfl ?_
        refine R_iconst 0 rfl rfl ?_
        refine K_iast (a := x8.toInt) (lo := (-2147483648)) (hi' := 2147483647) rfl sh_118 rfl ⟨by omega, by omega⟩ hI (by decide) rfl (by decide) fr (by decide) (fun h148 g149 hI fr => ?_)
        have fl7 : FR [96, 107, 108, 109, 117, 118] h h148 := by rw [g149]; exact FR_wI _ _ fl7 (by decide)
        have s150 : (h148.1 96 19).toInt = (h137.1 96 19).toInt := by rw [g149, wI_ne _ _ _ (by decide)]
        have s151 : (h148.1 96 42).toInt = (h137.1 96 42).toInt := by rw [g149, wI_ne _ _ _ (by decide)]
        have s152 : (h148.1 96 18).toInt = (h137.1 96 18).toInt := by rw [g149, wI_ne _ _ _ (by decide)]
        have s153 : (h148.1 96 20).toInt = (h137.1 96 20).toInt := by rw [g149, wI_ne _ _ _ (by decide)]
        have s154 : (h148.1 96 46).toInt = (h137.1 96 46).toInt := by rw [g149, wI_ne _ _ _ (by decide)]
        have s155 : (h148.1 96 44).toInt = (h137.1 96 44).toInt := by rw [g149, wI_ne _ _ _ (by decide)]
        have s156 : (h148.1 96 47).toInt = (h137.1 96 47).toInt := by rw [g149, wI_ne _ _ _ (by decide)]
        have s157 : (h148.1 96 48).toInt = (h137.1 96 48).toInt := by rw [g149, wI_ne _ _ _ (by decide)]
        have s158 : (h148.1 96 51).toInt = (h137.1 96 51).toInt := by rw [g149, wI_ne _ _ _ (by decide)]
        have hK : kyOf h148 = (upd ((kyOf h6).1) x8.toNatClampNeg ((-1)), upd ((kyOf h6).2.1) x8.toNatClampNeg (0), (kyOf h6).2.2.1, (kyOf h6).2.2.2) := by rw [g149, ky_o (by decide), hK]
        have hE : evOf h148 = evOf h := by rw [g149, ev_o (by decide), hE]
        refine N_iinc (a := x8.toInt) (c := 1) (fun w => [(1, .inl w), (0, .inr (.inr (.inl 96)))]) rfl rfl (fun _ => rfl) (by decide) rfl (by decide) (by omega) (fun x159 q160 => ?_)
        refine R_goto 2 rfl rfl ?_
        exact RUN_weak (psub_cons rfl (psub_cons rfl (psub_nil _))) (ih9 h148 x159 hI fr fl7 (by omega) (by omega) (by omega) (by omega) (by omega) (by omega) (by omega) (by omega) (by omega) (by omega) (by rw [hK]; exact up_step (x := x8) (x' := x159) m23 (by omega) (by omega)) (hE) (by omega))
  have k161 : (0 : Int32).toInt = 0 := by decide
  exact lp5 _ h (0 : Int32) hI fr (FR.rf _ _) (by decide) rfl rfl rfl rfl rfl rfl rfl rfl rfl (fun j hj => absurd hj (by omega)) (hE) (Nat.lt_succ_self _)
abbrev q_X9_goAll (h : PH) (a0 : Int32) : Option PV → PH → Prop := fun r h' => INV h' ∧ FR [96, 107, 108, 109, 110, 111, 112, 113, 114, 115, 116, 117, 118, 119] h h' ∧ ((h'.1 96 19).toInt = (h.1 96 19).toInt ∧ (h'.1 96 18).toInt = (h.1 96 18).toInt ∧ (h'.1 96 20).toInt = (h.1 96 20).toInt ∧ (h'.1 96 46).toInt = (h.1 96 46).toInt ∧ (h'.1 96 44).toInt = (h.1 96 44).toInt ∧ (h'.1 96 47).toInt = (h.1 96 47).toInt ∧ (h'.1 96 48).toInt = (h.1 96 48).toInt ∧ (h'.1 96 51).toInt = (h.1 96 51).toInt ∧ (kyOf h' = zRun (evOf h) (a0.toInt + 1).toNat) ∧ (evOf h' = evOf h) ∧ (0 ≤ a0.toInt → h'.1 114 a0.toNatClampNeg = (zRun (evOf h) (a0.toInt + 1).toNat).2.2.2) ∧ True) ∧ r = none
set_option maxHeartbeats 4000000 in
set_option maxRecDepth 100000 in
theorem g_X9_goAll (h : PH) (hI : INV h) (a0 : Int32) (h0a : (-1) ≤ a0.toInt ∧ a0.toInt ≤ 59) : CALL d_X9_goAll [.inr (.inr (.inl 96)), .inl a0] h (q_X9_goAll h a0) := by
  show RUN d_X9_goAll 0 [(0, .inr (.inr (.inl 96))), (1, .inl a0)] [] h _
  have fr : FR [96, 107, 108, 109, 110, 111, 112, 113, 114, 115, 116, 117, 118, 119] h h := FR.rf _ _
  have hK : kyOf h = kyOf h := rfl
  have hE : evOf h = evOf h := rfl
  have b1 : (0 : Int) ≤ (h.1 96 18).toInt ∧ (h.1 96 18).toInt ≤ 6 := hI.1 96 18
  have b2 : (h.1 96 18).toInt = ((evOf h).2.2.2.2.1).toInt := congrArg (fun q : EV => (q.2.2.2.2.1).toInt) hE
  have b3 : (0 : Int) ≤ (h.1 96 51).toInt ∧ (h.1 96 51).toInt ≤ 720 := hI.1 96 51
  refine R_aload_n (k := 0) rfl rfl rfl ?_
  refine R_callV (v := .inr (.inr (.inl 96))) (As := []) (rest := []) rfl mt_9_i282 pp_X9_startLine (by decide) rfl rfl rfl (Nat.le_of_ble_eq_true rfl) (Nat.le_of_ble_eq_true rfl) ((g_X9_startLine h hI).mono (fun r4 h5 p6 => ?_))
  obtain ⟨hJ, fj, ⟨kp7, kp8, kp9, kp10, kp11, kp12, kp13, kp14, kp15, xq16, xq17, -⟩, rfl⟩ := p6
  have f18 := fj
  have fr := fr.trans fj (by decide)
  have hI := hJ
  have hK : kyOf h5 = zStart (eBuck (evOf h)) := by rw [xq16, hE]
  have hE : evOf h5 = evOf h := xq17.trans hE
  show RUN d_X9_goAll 4 [(0, .inr (.inr (.inl 96))), (1, .inl a0)] [] h5 _
  refine R_iconst 0 rfl rfl ?_
  refine R_istore_n (k := 2) rfl [(2, .inl 0), (0, .inr (.inr (.inl 96))), (1, .inl a0)] rfl rfl (by decide) ?_
  have lp20 : ∀ (n19 : Nat) (h21 : PH) (x23 : Int32), INV h21 → FR [96, 107, 108, 109, 110, 111, 112, 113, 114, 115, 116, 117, 118, 119] h h21 → FR [96, 107, 108, 109, 110, 111, 112, 113, 114, 115, 116, 117, 118, 119] h5 h21 → 0 ≤ x23.toInt ∧ x23.toInt ≤ 60 → (h21.1 96 19).toInt = (h5.1 96 19).toInt → (h21.1 96 18).toInt = (h5.1 96 18).toInt → (h21.1 96 20).toInt = (h5.1 96 20).toInt → (h21.1 96 46).toInt = (h5.1 96 46).toInt → (h21.1 96 44).toInt = (h5.1 96 44).toInt → (h21.1 96 47).toInt = (h5.1 96 47).toInt → (h21.1 96 48).toInt = (h5.1 96 48).toInt → (h21.1 96 51).toInt = (h5.1 96 51).toInt → True → True → x23.toInt ≤ a0.toInt + 1 → (kyOf h21 = zRun (evOf h) x23.toNatClampNeg) → (0 < x23.toInt → h21.1 114 (x23.toInt - 1).toNat = (kyOf h21).2.2.2) → (evOf h21 = evOf h) → (60 - x23.toInt).toNat < n19 → RUN d_X9_goAll 6 [(2, .inl x23), (0, .inr (.inr (.inl 96))), (1, .inl a0)] [] h21 (q_X9_goAll h a0) := by
    intro n19
    induction n19 with
    | zero => intro h21 x23 m25 m26 m27 m28 m29 m30 m31 m32 m33 m34 m35 m36 m37 m38 m39 m40 m41 m42 hz; exact absurd hz (Nat.not_lt_zero _)
    | succ n19 ih24 =>
      intro h21 x23 hI fr fl22 m28 m29 m30 m31 m32 m33 m34 m35 m36 m37 m38 m39 m40 m41 m42 hz
      have hE := m42
      have hK : kyOf h21 = kyOf h21 := rfl
      refine R_iload_n (k := 2) rfl rfl rfl ?_
      refine R_iload_n (k := 1) rfl rfl rfl ?_
      refine N_icmp_gt (a := x23.toInt) (b := a0.toInt) 205 rfl rfl rfl rfl (fun c43 => ?_) (fun c43 => ?_)
      · have hF : kyOf h21 = zRun (evOf h) (a0.toInt + 1).toNat := m40.trans (by rw [tn2 (x := x23) (a := a0.toInt + 1) (by omega) (by omega)])
        have hW : 0 ≤ a0.toInt → h21.1 114 a0.toNatClampNeg = (zRun (evOf h) (a0.toInt + 1).toNat).2.2.2 := fun h0 => by rw [tn2 (x := a0) (a := x23.toInt - 1) (by omega) (by omega), m41 (by omega), hF]
        exact R_vret rfl rfl ⟨hI, fr, ⟨by omega, by omega, by omega, by omega, by omega, by omega, by omega, by omega, hF, hE, hW, trivial⟩, rfl⟩
      · refine R_aload_n (k := 0) rfl rfl rfl ?_
        refine R_callV (v := .inr (.inr (.inl 96))) (As := []) (rest := []) rfl mt_9_i285 pp_X9_readyNow (by decide) rfl rfl rfl (Nat.le_of_ble_eq_true rfl) (Nat.le_of_ble_eq_true rfl) ((k_X9_readyNow h21 hI).mono (fun r44 h45 p46 => ?_))
        obtain ⟨rfl, x47, rfl, q48⟩ := p46
        show RUN d_X9_goAll 15 [(2, .inl x23), (0, .inr (.inr (.inl 96))), (1, .inl a0)] [.inl x47] h21 _
        refine R_istore_n (k := 3) rfl [(3, .inl x47), (2, .inl x23), (0, .inr (.inr (.inl 96))), (1, .inl a0)] rfl rfl (by decide) ?_
        refine R_aload_n (k := 0) rfl rfl rfl ?_
        refine R_iload_n (k := 2) rfl rfl rfl ?_
        refine R_aload_n (k := 0) rfl rfl rfl ?_
        refine R_getf_r (j := 21) rfl ft_9_43 sh_96 rfl ?_
        refine R_iload_n (k := 2) rfl rfl rfl ?_
        refine R_zald rfl sh_106 ⟨by omega, by omega⟩ ?_
        refine N_eq (fun x49 e50 => ?_)
        have e51 : x49 = (evOf h).2.2.2.2.2.2.2 x23.toNatClampNeg := by rw [e50]; exact congrFun (congrArg (fun q : EV => q.2.2.2.2.2.2.2) hE) _
        refine R_callV (v := .inr (.inr (.inl 96))) (As := [.inl x23, .inl x49]) (rest := []) rfl mt_9_i288 pp_X9_goSecond (by decide) rfl rfl rfl (Nat.le_of_ble_eq_true rfl) (Nat.le_of_ble_eq_true rfl) ((g_X9_goSecond h21 hI x23 x49 (by omega)).mono (fun r52 h53 p54 => ?_))
        obtain ⟨hJ, fj, ⟨kp55, kp56, kp57, kp58, kp59, kp60, kp61, kp62, kp63, kp64, xq65, xq66, -⟩, rfl⟩ := p54
        have f67 := fj
        have fr := fr.trans fj (by decide)
        have hI := hJ
        have fl22 : FR [96, 107, 108, 109, 110, 111, 112, 113, 114, 115, 116, 117, 118, 119] h5 h53 := fl22.trans fj (by decide)
        have hK : kyOf h53 = zSecond (evOf h) x23 x49 (kyOf h21) := by rw [xq65, hE, hK]
        have hE : evOf h53 = evOf h := xq66.trans hE
        show RUN d_X9_goAll 27 [(3, .inl x47), (2, .inl x23), (0, .inr (.inr (.inl 96))), (1, .inl a0)] [] h53 _
        refine R_aload_n (k := 0) rfl rfl rfl ?_
        refine R_getf_r (j := 31) rfl ft_9_73 sh_96 rfl ?_
        refine R_iload_n (k := 2) rfl rfl rfl ?_
        refine R_iconst 0 rfl rfl ?_
        refine K_iast (a := x23.toInt) (lo := (-2147483648)) (hi' := 2147483647) rfl sh_116 rfl ⟨by omega, by omega⟩ hI (by decide) rfl (by decide) fr (by decide) (fun h68 g69 hI fr => ?_)
        have fl22 : FR [96, 107, 108, 109, 110, 111, 112, 113, 114, 115, 116, 117, 118, 119] h5 h68 := by rw [g69]; exact FR_wI _ _ fl22 (by decide)
        have s70 : (h68.1 96 19).toInt = (h53.1 96 19).toInt := by rw [g69, wI_ne _ _ _ (by decide)]
        have s71 : (h68.1 96 18).toInt = (h53.1 96 18).toInt := by rw [g69, wI_ne _ _ _ (by decide)]
        have s72 : (h68.1 96 20).toInt = (h53.1 96 20).toInt := by rw [g69, wI_ne _ _ _ (by decide)]
        have s73 : (h68.1 96 46).toInt = (h53.1 96 46).toInt := by rw [g69, wI_ne _ _ _ (by decide)]
        have s74 : (h68.1 96 44).toInt = (h53.1 96 44).toInt := by rw [g69, wI_ne _ _ _ (by decide)]
        have s75 : (h68.1 96 47).toInt = (h53.1 96 47).toInt := by rw [g69, wI_ne _ _ _ (by decide)]
        have s76 : (h68.1 96 48).toInt = (h53.1 96 48).toInt := by rw [g69, wI_ne _ _ _ (by decide)]
        have s77 : (h68.1 96 51).toInt = (h53.1 96 51).toInt := by rw [g69, wI_ne _ _ _ (by decide)]
        have hK : kyOf h68 = zSecond (evOf h) x23 x49 (kyOf h21) := by rw [g69, ky_o (by decide), hK]
        have hE : evOf h68 = evOf h := by rw [g69, ev_o (by decide), hE]
        refine R_iconst 0 rfl rfl ?_
        refine R_istore (k := 4) [(4, .inl 0), (3, .inl x47), (2, .inl x23), (0, .inr (.inr (.inl 96))), (1, .inl a0)] rfl rfl (by decide) ?_
        have lp79 : ∀ (n78 : Nat) (h80 : PH) (x82 : Int32), INV h80 → FR [96, 107, 108, 109, 110, 111, 112, 113, 114, 115, 116, 117, 118, 119] h h80 → FR [110, 111, 112, 113, 114, 115, 116, 119] h68 h80 → 0 ≤ x82.toInt ∧ x82.toInt ≤ 6 → (kyOf h80 = zSecond (evOf h) x23 x49 (kyOf h21)) → (evOf h80 = evOf h) → (6 - x82.toInt).toNat < n78 → RUN d_X9_goAll 37 [(4, .inl x82), (3, .inl x47), (2, .inl x23), (0, .inr (.inr (.inl 96))), (1, .inl a0)] [] h80 (q_X9_goAll h a0) := by
          intro n78
          induction n78 with
          | zero => intro h80 x82 m84 m85 m86 m87 m88 m89 hz; exact absurd hz (Nat.not_lt_zero _)
          | succ n78 ih83 =>
            intro h80 x82 hI fr fl81 m87 m88 m89 hz
            have s90 : (h80.1 96 19).toInt = (h68.1 96 19).toInt := by rw [(fl81 96 (by decide)).1]
            have s91 : (h80.1 96 18).toInt = (h68.1 96 18).toInt := by rw [(fl81 96 (by decide)).1]
            have s92 : (h80.1 96 20).toInt = (h68.1 96 20).toInt := by rw [(fl81 96 (by decide)).1]
            have s93 : (h80.1 96 46).toInt = (h68.1 96 46).toInt := by rw [(fl81 96 (by decide)).1]
            have s94 : (h80.1 96 44).toInt = (h68.1 96 44).toInt := by rw [(fl81 96 (by decide)).1]
            have s95 : (h80.1 96 47).toInt = (h68.1 96 47).toInt := by rw [(fl81 96 (by decide)).1]
            have s96 : (h80.1 96 48).toInt = (h68.1 96 48).toInt := by rw [(fl81 96 (by decide)).1]
            have s97 : (h80.1 96 51).toInt = (h68.1 96 51).toInt := by rw [(fl81 96 (by decide)).1]
            have fl22 : FR [96, 107, 108, 109, 110, 111, 112, 113, 114, 115, 116, 117, 118, 119] h5 h80 := fl22.trans fl81 (by decide)
            have hK := m88
            have hE := m89
            refine R_iload (k := 4) rfl rfl ?_
            refine R_aload_n (k := 0) rfl rfl rfl ?_
            have b98 : (0 : Int) ≤ (h80.1 97 5).toInt ∧ (h80.1 97 5).toInt ≤ 6 := hI.1 97 5
            have b99 : (0 : Int) ≤ (h80.1 97 0).toInt ∧ (h80.1 97 0).toInt ≤ 60 := hI.1 97 0
            have e100 : 0 < (h80.1 97 5).toInt → 1 ≤ (h80.1 97 0).toInt := hI.2.2.2.2.2.1.2.2
            refine R_callV (v := .inr (.inr (.inl 96))) (As := []) (rest := [.inl x82]) rfl mt_9_i133 pp_X9_hands (by decide) rfl rfl rfl (Nat.le_of_ble_eq_true rfl) (Nat.le_of_ble_eq_true rfl) ((k_X9_hands h80 hI).mono (fun r101 h102 p103 => ?_))
            obtain ⟨rfl, x104, rfl, q105⟩ := p103
            show RUN d_X9_goAll 43 [(4, .inl x82), (3, .inl x47), (2, .inl x23), (0, .inr (.inr (.inl 96))), (1, .inl a0)] [.inl x104, .inl x82] h80 _
            refine N_icmp_ge (a := x82.toInt) (b := x104.toInt) 127 rfl rfl rfl rfl (fun c106 => ?_) (fun c106 => ?_)
            · refine R_iconst 0 rfl rfl ?_
              refine R_istore (k := 4) [(4, .inl 0), (3, .inl x47), (2, .inl x23), (0, .inr (.inr (.inl 96))), (1, .inl a0)] rfl rfl (by decide) ?_
              have lp108 : ∀ (n107 : Nat) (h109 : PH) (x111 : Int32), INV h109 → FR [96, 107, 108, 109, 110, 111, 112, 113, 114, 115, 116, 117, 118, 119] h h109 → FR [112, 113, 114, 115, 119] h80 h109 → 0 ≤ x111.toInt ∧ x111.toInt ≤ 6 → (kyOf h109 = zSecond (evOf h) x23 x49 (kyOf h21)) → (evOf h109 = evOf h) → (6 - x111.toInt).toNat < n107 → RUN d_X9_goAll 130 [(4, .inl x111), (3, .inl x47), (2, .inl x23), (0, .inr (.inr (.inl 96))), (1, .inl a0)] [] h109 (q_X9_goAll h a0) := by
                intro n107
                induction n107 with
                | zero => intro h109 x111 m113 m114 m115 m116 m117 m118 hz; exact absurd hz (Nat.not_lt_zero _)
                | succ n107 ih112 =>
                  intro h109 x111 hI fr fl110 m116 m117 m118 hz
                  have s119 : (h109.1 96 19).toInt = (h80.1 96 19).toInt := by rw [(fl110 96 (by decide)).1]
                  have s120 : (h109.1 96 18).toInt = (h80.1 96 18).toInt := by rw [(fl110 96 (by decide)).1]
                  have s121 : (h109.1 96 20).toInt = (h80.1 96 20).toInt := by rw [(fl110 96 (by decide)).1]
                  have s122 : (h109.1 96 46).toInt = (h80.1 96 46).toInt := by rw [(fl110 96 (by decide)).1]
                  have s123 : (h109.1 96 44).toInt = (h80.1 96 44).toInt := by rw [(fl110 96 (by decide)).1]
                  have s124 : (h109.1 96 47).toInt = (h80.1 96 47).toInt := by rw [(fl110 96 (by decide)).1]
                  have s125 : (h109.1 96 48).toInt = (h80.1 96 48).toInt := by rw [(fl110 96 (by decide)).1]
                  have s126 : (h109.1 96 51).toInt = (h80.1 96 51).toInt := by rw [(fl110 96 (by decide)).1]
                  have s127 : (h109.1 97 5).toInt = (h80.1 97 5).toInt := by rw [(fl110 97 (by decide)).1]
                  have s128 : (h109.1 97 0).toInt = (h80.1 97 0).toInt := by rw [(fl110 97 (by decide)).1]
                  have fl81 : FR [110, 111, 112, 113, 114, 115, 116, 119] h68 h109 := fl81.trans fl110 (by decide)
                  have fl22 : FR [96, 107, 108, 109, 110, 111, 112, 113, 114, 115, 116, 117, 118, 119] h5 h109 := fl22.trans fl110 (by decide)
                  have hK := m117
                  have hE := m118
                  refine R_iload (k := 4) rfl rfl ?_
                  refine R_bipush 6 rfl rfl ?_
                  refine N_icmp_ge (a := x111.toInt) (b := 6) 157 rfl rfl rfl (by decide) (fun c129 => ?_) (fun c129 => ?_)
                  · refine R_aload_n (k := 0) rfl rfl rfl ?_
                    refine R_getf_r (j := 27) rfl ft_9_61 sh_96 rfl ?_
                    refine R_iload_n (k := 2) rfl rfl rfl ?_
                    refine R_aload_n (k := 0) rfl rfl rfl ?_
                    refine R_getf_r (j := 24) rfl ft_9_52 sh_96 rfl ?_
                    refine R_iconst 0 rfl rfl ?_
                    refine R_iald rfl sh_109 (by decide) ?_
                    refine N_eq (fun x130 e131 => ?_)
                    have e132 : x130 = ((zSecond (evOf h) x23 x49 (kyOf h21)).2.2.1) (0 : Int32).toNatClampNeg := by rw [e131]; exact (ky_at109 (by decide)).trans (congrFun (congrArg (fun q : KY => q.2.2.1) hK) _)
                    refine K_iast (a := x23.toInt) (lo := (-2147483648)) (hi' := 2147483647) rfl sh_112 rfl ⟨by omega, by omega⟩ hI (by decide) rfl (i_rng _) fr (by decide) (fun h133 g134 hI fr => ?_)
                    have fl110 : FR [112, 113, 114, 115, 119] h80 h133 := by rw [g134]; exact FR_wI _ _ fl110 (by decide)
                    have fl81 : FR [110, 111, 112, 113, 114, 115, 116, 119] h68 h133 := by rw [g134]; exact FR_wI _ _ fl81 (by decide)
                    have fl22 : FR [96, 107, 108, 109, 110, 111, 112, 113, 114, 115, 116, 117, 118, 119] h5 h133 := by rw [g134]; exact FR_wI _ _ fl22 (by decide)
                    have s135 : (h133.1 96 19).toInt = (h109.1 96 19).toInt := by rw [g134, wI_ne _ _ _ (by decide)]
                    have s136 : (h133.1 96 18).toInt = (h109.1 96 18).toInt := by rw [g134, wI_ne _ _ _ (by decide)]
                    have s137 : (h133.1 96 20).toInt = (h109.1 96 20).toInt := by rw [g134, wI_ne _ _ _ (by decide)]
                    have s138 : (h133.1 96 46).toInt = (h109.1 96 46).toInt := by rw [g134, wI_ne _ _ _ (by decide)]
                    have s139 : (h133.1 96 44).toInt = (h109.1 96 44).toInt := by rw [g134, wI_ne _ _ _ (by decide)]
                    have s140 : (h133.1 96 47).toInt = (h109.1 96 47).toInt := by rw [g134, wI_ne _ _ _ (by decide)]
                    have s141 : (h133.1 96 48).toInt = (h109.1 96 48).toInt := by rw [g134, wI_ne _ _ _ (by decide)]
                    have s142 : (h133.1 96 51).toInt = (h109.1 96 51).toInt := by rw [g134, wI_ne _ _ _ (by decide)]
                    have s143 : (h133.1 97 5).toInt = (h109.1 97 5).toInt := by rw [g134, wI_ne _ _ _ (by decide)]
                    have s144 : (h133.1 97 0).toInt = (h109.1 97 0).toInt := by rw [g134, wI_ne _ _ _ (by decide)]
                    have hK : kyOf h133 = zSecond (evOf h) x23 x49 (kyOf h21) := by rw [g134, ky_o (by decide), hK]
                    have hE : evOf h133 = evOf h := by rw [g134, ev_o (by decide), hE]
                    refine R_aload_n (k := 0) rfl rfl rfl ?_
                    refine R_getf_r (j := 28) rfl ft_9_64 sh_96 rfl ?_
                    refine R_iload_n (k := 2) rfl rfl rfl ?_
                    refine R_aload_n (k := 0) rfl rfl rfl ?_
                    refine R_getf_i (j := 34) rfl ft_9_262 sh_96 rfl ?_
                    refine K_iast (a := x23.toInt) (lo := (-2147483648)) (hi' := 2147483647) rfl sh_113 rfl ⟨by omega, by omega⟩ hI (by decide) rfl (i_rng _) fr (by decide) (fun h145 g146 hI fr => ?_)
                    have fl110 : FR [112, 113, 114, 115, 119] h80 h145 := by rw [g146]; exact FR_wI _ _ fl110 (by decide)
                    have fl81 : FR [110, 111, 112, 113, 114, 115, 116, 119] h68 h145 := by rw [g146]; exact FR_wI _ _ fl81 (by decide)
                    have fl22 : FR [96, 107, 108, 109, 110, 111, 112, 113, 114, 115, 116, 117, 118, 119] h5 h145 := by rw [g146]; exact FR_wI _ _ fl22 (by decide)
                    have s147 : (h145.1 96 19).toInt = (h133.1 96 19).toInt := by rw [g146, wI_ne _ _ _ (by decide)]
                    have s148 : (h145.1 96 18).toInt = (h133.1 96 18).toInt := by rw [g146, wI_ne _ _ _ (by decide)]
                    have s149 : (h145.1 96 20).toInt = (h133.1 96 20).toInt := by rw [g146, wI_ne _ _ _ (by decide)]
                    have s150 : (h145.1 96 46).toInt = (h133.1 96 46).toInt := by rw [g146, wI_ne _ _ _ (by decide)]
                    have s151 : (h145.1 96 44).toInt = (h133.1 96 44).toInt := by rw [g146, wI_ne _ _ _ (by decide)]
                    have s152 : (h145.1 96 47).toInt = (h133.1 96 47).toInt := by rw [g146, wI_ne _ _ _ (by decide)]
                    have s153 : (h145.1 96 48).toInt = (h133.1 96 48).toInt := by rw [g146, wI_ne _ _ _ (by decide)]
                    have s154 : (h145.1 96 51).toInt = (h133.1 96 51).toInt := by rw [g146, wI_ne _ _ _ (by decide)]
                    have s155 : (h145.1 97 5).toInt = (h133.1 97 5).toInt := by rw [g146, wI_ne _ _ _ (by decide)]
                    have s156 : (h145.1 97 0).toInt = (h133.1 97 0).toInt := by rw [g146, wI_ne _ _ _ (by decide)]
                    have s157 : (h145.1 96 34).toInt = (h133.1 96 34).toInt := by rw [g146, wI_ne _ _ _ (by decide)]
                    have hK : kyOf h145 = zSecond (evOf h) x23 x49 (kyOf h21) := by rw [g146, ky_o (by decide), hK]
                    have hE : evOf h145 = evOf h := by rw [g146, ev_o (by decide), hE]
                    refine R_aload_n (k := 0) rfl rfl rfl ?_
                    refine R_getf_r (j := 29) rfl ft_9_67 sh_96 rfl ?_
                    refine R_iload_n (k := 2) rfl rfl rfl ?_
                    refine R_aload_n (k := 0) rfl rfl rfl ?_
                    refine R_getf_i (j := 35) rfl ft_9_265 sh_96 rfl ?_
                    refine N_eq (fun x158 e159 => ?_)
                    have e160 : x158 = (zSecond (evOf h) x23 x49 (kyOf h21)).2.2.2 := by rw [e159]; exact congrArg (fun q : KY => q.2.2.2) hK
                    refine K_iast (a := x23.toInt) (lo := (-2147483648)) (hi' := 2147483647) rfl sh_114 rfl ⟨by omega, by omega⟩ hI (by decide) rfl (i_rng _) fr (by decide) (fun h161 g162 hI fr => ?_)
                    have fl110 : FR [112, 113, 114, 115, 119] h80 h161 := by rw [g162]; exact FR_wI _ _ fl110 (by decide)
                    have fl81 : FR [110, 111, 112, 113, 114, 115, 116, 119] h68 h161 := by rw [g162]; exact FR_wI _ _ fl81 (by decide)
                    have fl22 : FR [96, 107, 108, 109, 110, 111, 112, 113, 114, 115, 116, 117, 118, 119] h5 h161 := by rw [g162]; exact FR_wI _ _ fl22 (by decide)
                    have s163 : (h161.1 96 19).toInt = (h145.1 96 19).toInt := by rw [g162, wI_ne _ _ _ (by decide)]
                    have s164 : (h161.1 96 18).toInt = (h145.1 96 18).toInt := by rw [g162, wI_ne _ _ _ (by decide)]
                    have s165 : (h161.1 96 20).toInt = (h145.1 96 20).toInt := by rw [g162, wI_ne _ _ _ (by decide)]
                    have s166 : (h161.1 96 46).toInt = (h145.1 96 46).toInt := by rw [g162, wI_ne _ _ _ (by decide)]
                    have s167 : (h161.1 96 44).toInt = (h145.1 96 44).toInt := by rw [g162, wI_ne _ _ _ (by decide)]
                    have s168 : (h161.1 96 47).toInt = (h145.1 96 47).toInt := by rw [g162, wI_ne _ _ _ (by decide)]
                    have s169 : (h161.1 96 48).toInt = (h145.1 96 48).toInt := by rw [g162, wI_ne _ _ _ (by decide)]
                    have s170 : (h161.1 96 51).toInt = (h145.1 96 51).toInt := by rw [g162, wI_ne _ _ _ (by decide)]
                    have s171 : (h161.1 97 5).toInt = (h145.1 97 5).toInt := by rw [g162, wI_ne _ _ _ (by decide)]
                    have s172 : (h161.1 97 0).toInt = (h145.1 97 0).toInt := by rw [g162, wI_ne _ _ _ (by decide)]
                    have s173 : (h161.1 96 34).toInt = (h145.1 96 34).toInt := by rw [g162, wI_ne _ _ _ (by decide)]
                    have hK : kyOf h161 = zSecond (evOf h) x23 x49 (kyOf h21) := by rw [g162, ky_o (by decide), hK]
                    have hE : evOf h161 = evOf h := by rw [g162, ev_o (by decide), hE]
                    refine R_aload_n (k := 0) rfl rfl rfl ?_
                    refine R_getf_r (j := 30) rfl ft_9_70 sh_96 rfl ?_
                    refine R_iload_n (k := 2) rfl rfl rfl ?_
                    refine R_aload_n (k := 0) rfl rfl rfl ?_
                    refine R_getf_i (j := 36) rfl ft_9_268 sh_96 rfl ?_
                    refine K_iast (a := x23.toInt) (lo := (-2147483648)) (hi' := 2147483647) rfl sh_115 rfl ⟨by omega, by omega⟩ hI (by decide) rfl (i_rng _) fr (by decide) (fun h174 g175 hI fr => ?_)
                    have fl110 : FR [112, 113, 114, 115, 119] h80 h174 := by rw [g175]; exact FR_wI _ _ fl110 (by decide)
                    have fl81 : FR [110, 111, 112, 113, 114, 115, 116, 119] h68 h174 := by rw [g175]; exact FR_wI _ _ fl81 (by decide)
                    have fl22 : FR [96, 107, 108, 109, 110, 111, 112, 113, 114, 115, 116, 117, 118, 119] h5 h174 := by rw [g175]; exact FR_wI _ _ fl22 (by decide)
                    have s176 : (h174.1 96 19).toInt = (h161.1 96 19).toInt := by rw [g175, wI_ne _ _ _ (by decide)]
                    have s177 : (h174.1 96 18).toInt = (h161.1 96 18).toInt := by rw [g175, wI_ne _ _ _ (by decide)]
                    have s178 : (h174.1 96 20).toInt = (h161.1 96 20).toInt := by rw [g175, wI_ne _ _ _ (by decide)]
                    have s179 : (h174.1 96 46).toInt = (h161.1 96 46).toInt := by rw [g175, wI_ne _ _ _ (by decide)]
                    have s180 : (h174.1 96 44).toInt = (h161.1 96 44).toInt := by rw [g175, wI_ne _ _ _ (by decide)]
                    have s181 : (h174.1 96 47).toInt = (h161.1 96 47).toInt := by rw [g175, wI_ne _ _ _ (by decide)]
                    have s182 : (h174.1 96 48).toInt = (h161.1 96 48).toInt := by rw [g175, wI_ne _ _ _ (by decide)]
                    have s183 : (h174.1 96 51).toInt = (h161.1 96 51).toInt := by rw [g175, wI_ne _ _ _ (by decide)]
                    have s184 : (h174.1 97 5).toInt = (h161.1 97 5).toInt := by rw [g175, wI_ne _ _ _ (by decide)]
                    have s185 : (h174.1 97 0).toInt = (h161.1 97 0).toInt := by rw [g175, wI_ne _ _ _ (by decide)]
                    have s186 : (h174.1 96 34).toInt = (h161.1 96 34).toInt := by rw [g175, wI_ne _ _ _ (by decide)]
                    have s187 : (h174.1 96 36).toInt = (h161.1 96 36).toInt := by rw [g175, wI_ne _ _ _ (by decide)]
                    have hK : kyOf h174 = zSecond (evOf h) x23 x49 (kyOf h21) := by rw [g175, ky_o (by decide), hK]
                    have hE : evOf h174 = evOf h := by rw [g175, ev_o (by decide), hE]
                    refine N_iinc (a := x23.toInt) (c := 1) (fun w => [(2, .inl w), (4, .inl x111), (3, .inl x47), (0, .inr (.inr (.inl 96))), (1, .inl a0)]) rfl rfl (fun _ => rfl) (by decide) rfl (by decide) (by omega) (fun x188 q189 => ?_)
                    refine R_goto 6 rfl rfl ?_
                    exact RUN_weak (psub_cons rfl (psub_cons rfl (psub_cons rfl (psub_nil _)))) (ih24 h174 x188 hI fr fl22 (by omega) (by omega) (by omega) (by omega) (by omega) (by omega) (by omega) (by omega) (by omega) trivial trivial (by omega) (by rw [zRun_s (x := x23) (x' := x188) (by omega) (by omega), ← m40]; refine hK.trans ?_; subst e160 e132 e51; rfl) (fun _ => by rw [← tn2 (x := x23) (a := x188.toInt - 1) (by omega) (by omega), g175, wI_ne _ _ _ (by decide), g162, wI_is, ← g162, ← g175, hK]; exact e160) (hE) (by omega))
                  · refine R_aload_n (k := 0) rfl rfl rfl ?_
                    refine R_getf_r (j := 37) rfl ft_9_82 sh_96 rfl ?_
                    refine R_iload (k := 4) rfl rfl ?_
                    refine R_aload_n (k := 0) rfl rfl rfl ?_
                    refine R_getf_r (j := 32) rfl ft_9_76 sh_96 rfl ?_
                    refine R_iload (k := 4) rfl rfl ?_
                    refine R_iald rfl sh_117 ⟨by omega, by omega⟩ ?_
                    refine N_eq (fun x190 e191 => ?_)
                    refine K_iast (a := x111.toInt) (lo := (-2147483648)) (hi' := 2147483647) rfl sh_119 rfl ⟨by omega, by omega⟩ hI (by decide) rfl (i_rng _) fr (by decide) (fun h192 g193 hI fr => ?_)
                    have fl110 : FR [112, 113, 114, 115, 119] h80 h192 := by rw [g193]; exact FR_wI _ _ fl110 (by decide)
                    have fl81 : FR [110, 111, 112, 113, 114, 115, 116, 119] h68 h192 := by rw [g193]; exact FR_wI _ _ fl81 (by decide)
                    have fl22 : FR [96, 107, 108, 109, 110, 111, 112, 113, 114, 115, 116, 117, 118, 119] h5 h192 := by rw [g193]; exact FR_wI _ _ fl22 (by decide)
                    have s194 : (h192.1 96 19).toInt = (h109.1 96 19).toInt := by rw [g193, wI_ne _ _ _ (by decide)]
                    have s195 : (h192.1 96 18).toInt = (h109.1 96 18).toInt := by rw [g193, wI_ne _ _ _ (by decide)]
                    have s196 : (h192.1 96 20).toInt = (h109.1 96 20).toInt := by rw [g193, wI_ne _ _ _ (by decide)]
                    have s197 : (h192.1 96 46).toInt = (h109.1 96 46).toInt := by rw [g193, wI_ne _ _ _ (by decide)]
                    have s198 : (h192.1 96 44).toInt = (h109.1 96 44).toInt := by rw [g193, wI_ne _ _ _ (by decide)]
                    have s199 : (h192.1 96 47).toInt = (h109.1 96 47).toInt := by rw [g193, wI_ne _ _ _ (by decide)]
                    have s200 : (h192.1 96 48).toInt = (h109.1 96 48).toInt := by rw [g193, wI_ne _ _ _ (by decide)]
                    have s201 : (h192.1 96 51).toInt = (h109.1 96 51).toInt := by rw [g193, wI_ne _ _ _ (by decide)]
                    have s202 : (h192.1 97 5).toInt = (h109.1 97 5).toInt := by rw [g193, wI_ne _ _ _ (by decide)]
                    have s203 : (h192.1 97 0).toInt = (h109.1 97 0).toInt := by rw [g193, wI_ne _ _ _ (by decide)]
                    have hK : kyOf h192 = zSecond (evOf h) x23 x49 (kyOf h21) := by rw [g193, ky_o (by decide), hK]
                    have hE : evOf h192 = evOf h := by rw [g193, ev_o (by decide), hE]
                    refine N_iinc (a := x111.toInt) (c := 1) (fun w => [(4, .inl w), (3, .inl x47), (2, .inl x23), (0, .inr (.inr (.inl 96))), (1, .inl a0)]) rfl rfl (fun _ => rfl) (by decide) rfl (by decide) (by omega) (fun x204 q205 => ?_)
                    refine R_goto 130 rfl rfl ?_
                    exact RUN_weak (psub_cons rfl (psub_cons rfl (psub_cons rfl (psub_cons rfl (psub_cons rfl (psub_nil _)))))) (ih112 h192 x204 hI fr fl110 (by omega) (hK) (hE) (by omega))
              have k206 : (0 : Int32).toInt = 0 := by decide
              exact lp108 _ h80 (0 : Int32) hI fr (FR.rf _ _) (by decide) (hK) (hE) (Nat.lt_succ_self _)
            · refine R_aload_n (k := 0) rfl rfl rfl ?_
              refine R_getf_r (j := 25) rfl ft_9_55 sh_96 rfl ?_
              refine R_bipush 6 rfl rfl ?_
              refine R_iload_n (k := 2) rfl rfl rfl ?_
              refine R_imul rfl ?_
              refine N_eq (fun x207 e208 => ?_)
              have q209 : x207.toInt = 6 * x23.toInt := by rw [e208]; exact i_mul (by decide) rfl (by omega)
              refine R_iload (k := 4) rfl rfl ?_
              refine R_iadd rfl ?_
              refine N_eq (fun x210 e211 => ?_)
              have q212 : x210.toInt = x207.toInt + x82.toInt := by rw [e211]; exact i_add rfl rfl (by omega)
              refine R_aload_n (k := 0) rfl rfl rfl ?_
              refine R_getf_r (j := 22) rfl ft_9_46 sh_96 rfl ?_
              refine R_iload (k := 4) rfl rfl ?_
              refine R_iald rfl sh_107 ⟨by omega, by omega⟩ ?_
              refine N_eq (fun x213 e214 => ?_)
              have e215 : x213 = ((zSecond (evOf h) x23 x49 (kyOf h21)).1) x82.toNatClampNeg := by rw [e214]; exact (ky_at107 (nlt ⟨by omega, by omega⟩)).trans (congrFun (congrArg (fun q : KY => q.1) hK) _)
              refine K_iast (a := x210.toInt) (lo := (-2147483648)) (hi' := 2147483647) rfl sh_110 rfl ⟨by omega, by omega⟩ hI (by decide) rfl (i_rng _) fr (by decide) (fun h216 g217 hI fr => ?_)
              have fl81 : FR [110, 111, 112, 113, 114, 115, 116, 119] h68 h216 := by rw [g217]; exact FR_wI _ _ fl81 (by decide)
              have fl22 : FR [96, 107, 108, 109, 110, 111, 112, 113, 114, 115, 116, 117, 118, 119] h5 h216 := by rw [g217]; exact FR_wI _ _ fl22 (by decide)
              have s218 : (h216.1 96 19).toInt = (h80.1 96 19).toInt := by rw [g217, wI_ne _ _ _ (by decide)]
              have s219 : (h216.1 96 18).toInt = (h80.1 96 18).toInt := by rw [g217, wI_ne _ _ _ (by decide)]
              have s220 : (h216.1 96 20).toInt = (h80.1 96 20).toInt := by rw [g217, wI_ne _ _ _ (by decide)]
              have s221 : (h216.1 96 46).toInt = (h80.1 96 46).toInt := by rw [g217, wI_ne _ _ _ (by decide)]
              have s222 : (h216.1 96 44).toInt = (h80.1 96 44).toInt := by rw [g217, wI_ne _ _ _ (by decide)]
              have s223 : (h216.1 96 47).toInt = (h80.1 96 47).toInt := by rw [g217, wI_ne _ _ _ (by decide)]
              have s224 : (h216.1 96 48).toInt = (h80.1 96 48).toInt := by rw [g217, wI_ne _ _ _ (by decide)]
              have s225 : (h216.1 96 51).toInt = (h80.1 96 51).toInt := by rw [g217, wI_ne _ _ _ (by decide)]
              have s226 : (h216.1 97 5).toInt = (h80.1 97 5).toInt := by rw [g217, wI_ne _ _ _ (by decide)]
              have s227 : (h216.1 97 0).toInt = (h80.1 97 0).toInt := by rw [g217, wI_ne _ _ _ (by decide)]
              have hK : kyOf h216 = zSecond (evOf h) x23 x49 (kyOf h21) := by rw [g217, ky_o (by decide), hK]
              have hE : evOf h216 = evOf h := by rw [g217, ev_o (by decide), hE]
              refine R_aload_n (k := 0) rfl rfl rfl ?_
              refine R_getf_r (j := 26) rfl ft_9_58 sh_96 rfl ?_
              refine R_bipush 6 rfl rfl ?_
              refine R_iload_n (k := 2) rfl rfl rfl ?_
              refine R_imul rfl ?_
              refine N_eq (fun x228 e229 => ?_)
              have q230 : x228.toInt = 6 * x23.toInt := by rw [e229]; exact i_mul (by decide) rfl (by omega)
              refine R_iload (k := 4) rfl rfl ?_
              refine R_iadd rfl ?_
              refine N_eq (fun x231 e232 => ?_)
              have q233 : x231.toInt = x228.toInt + x82.toInt := by rw [e232]; exact i_add rfl rfl (by omega)
              refine R_aload_n (k := 0) rfl rfl rfl ?_
              refine R_getf_r (j := 23) rfl ft_9_49 sh_96 rfl ?_
              refine R_iload (k := 4) rfl rfl ?_
              refine R_iald rfl sh_108 ⟨by omega, by omega⟩ ?_
              refine N_eq (fun x234 e235 => ?_)
              have e236 : x234 = ((zSecond (evOf h) x23 x49 (kyOf h21)).2.1) x82.toNatClampNeg := by rw [e235]; exact (ky_at108 (nlt ⟨by omega, by omega⟩)).trans (congrFun (congrArg (fun q : KY => q.2.1) hK) _)
              refine K_iast (a := x231.toInt) (lo := (-2147483648)) (hi' := 2147483647) rfl sh_111 rfl ⟨by omega, by omega⟩ hI (by decide) rfl (i_rng _) fr (by decide) (fun h237 g238 hI fr => ?_)
              have fl81 : FR [110, 111, 112, 113, 114, 115, 116, 119] h68 h237 := by rw [g238]; exact FR_wI _ _ fl81 (by decide)
              have fl22 : FR [96, 107, 108, 109, 110, 111, 112, 113, 114, 115, 116, 117, 118, 119] h5 h237 := by rw [g238]; exact FR_wI _ _ fl22 (by decide)
              have s239 : (h237.1 96 19).toInt = (h216.1 96 19).toInt := by rw [g238, wI_ne _ _ _ (by decide)]
              have s240 : (h237.1 96 18).toInt = (h216.1 96 18).toInt := by rw [g238, wI_ne _ _ _ (by decide)]
              have s241 : (h237.1 96 20).toInt = (h216.1 96 20).toInt := by rw [g238, wI_ne _ _ _ (by decide)]
              have s242 : (h237.1 96 46).toInt = (h216.1 96 46).toInt := by rw [g238, wI_ne _ _ _ (by decide)]
              have s243 : (h237.1 96 44).toInt = (h216.1 96 44).toInt := by rw [g238, wI_ne _ _ _ (by decide)]
              have s244 : (h237.1 96 47).toInt = (h216.1 96 47).toInt := by rw [g238, wI_ne _ _ _ (by decide)]
              have s245 : (h237.1 96 48).toInt = (h216.1 96 48).toInt := by rw [g238, wI_ne _ _ _ (by decide)]
              have s246 : (h237.1 96 51).toInt = (h216.1 96 51).toInt := by rw [g238, wI_ne _ _ _ (by decide)]
              have s247 : (h237.1 97 5).toInt = (h216.1 97 5).toInt := by rw [g238, wI_ne _ _ _ (by decide)]
              have s248 : (h237.1 97 0).toInt = (h216.1 97 0).toInt := by rw [g238, wI_ne _ _ _ (by decide)]
              have hK : kyOf h237 = zSecond (evOf h) x23 x49 (kyOf h21) := by rw [g238, ky_o (by decide), hK]
              have hE : evOf h237 = evOf h := by rw [g238, ev_o (by decide), hE]
              refine R_aload_n (k := 0) rfl rfl rfl ?_
              refine R_getf_r (j := 31) rfl ft_9_73 sh_96 rfl ?_
              refine R_iload_n (k := 2) rfl rfl rfl ?_
              refine R_dup2 rfl ?_
              refine R_iald rfl sh_116 ⟨by omega, by omega⟩ ?_
              refine N_eq (fun x249 e250 => ?_)
              refine R_iload_n (k := 3) rfl rfl rfl ?_
              refine R_iload (k := 4) rfl rfl ?_
              refine R_callS (As := [.inl x47, .inl x82]) (rest := [.inl x249, .inl x23, .inr (.inr (.inl 116))]) rfl mt_9_i292 (by decide) pp_X9_bit (by decide) rfl rfl (Nat.le_of_ble_eq_true rfl) (Nat.le_of_ble_eq_true rfl) ((k_X9_bit h237 hI x47 x82 (by omega)).mono (fun r251 h252 p253 => ?_))
              obtain ⟨rfl, x254, rfl, q255⟩ := p253
              show RUN d_X9_goAll 97 [(4, .inl x82), (3, .inl x47), (2, .inl x23), (0, .inr (.inr (.inl 96))), (1, .inl a0)] [.inl x254, .inl x249, .inl x23, .inr (.inr (.inl 116))] h237 _
              refine R_iconst 1 rfl rfl ?_
              refine N_icmp_ne (a := x254.toInt) (b := 1) 118 rfl rfl rfl (by decide) (fun c256 => ?_) (fun c256 => ?_)
              · refine R_iconst 0 rfl rfl ?_
                refine R_ior rfl ?_
                refine N_eq (fun x257 e258 => ?_)
                refine K_iast (a := x23.toInt) (lo := (-2147483648)) (hi' := 2147483647) rfl sh_116 rfl ⟨by omega, by omega⟩ hI (by decide) rfl (i_rng _) fr (by decide) (fun h259 g260 hI fr => ?_)
                have fl81 : FR [110, 111, 112, 113, 114, 115, 116, 119] h68 h259 := by rw [g260]; exact FR_wI _ _ fl81 (by decide)
                have fl22 : FR [96, 107, 108, 109, 110, 111, 112, 113, 114, 115, 116, 117, 118, 119] h5 h259 := by rw [g260]; exact FR_wI _ _ fl22 (by decide)
                have s261 : (h259.1 96 19).toInt = (h237.1 96 19).toInt := by rw [g260, wI_ne _ _ _ (by decide)]
                have s262 : (h259.1 96 18).toInt = (h237.1 96 18).toInt := by rw [g260, wI_ne _ _ _ (by decide)]
                have s263 : (h259.1 96 20).toInt = (h237.1 96 20).toInt := by rw [g260, wI_ne _ _ _ (by decide)]
                have s264 : (h259.1 96 46).toInt = (h237.1 96 46).toInt := by rw [g260, wI_ne _ _ _ (by decide)]
                have s265 : (h259.1 96 44).toInt = (h237.1 96 44).toInt := by rw [g260, wI_ne _ _ _ (by decide)]
                have s266 : (h259.1 96 47).toInt = (h237.1 96 47).toInt := by rw [g260, wI_ne _ _ _ (by decide)]
                have s267 : (h259.1 96 48).toInt = (h237.1 96 48).toInt := by rw [g260, wI_ne _ _ _ (by decide)]
                have s268 : (h259.1 96 51).toInt = (h237.1 96 51).toInt := by rw [g260, wI_ne _ _ _ (by decide)]
                have s269 : (h259.1 97 5).toInt = (h237.1 97 5).toInt := by rw [g260, wI_ne _ _ _ (by decide)]
                have s270 : (h259.1 97 0).toInt = (h237.1 97 0).toInt := by rw [g260, wI_ne _ _ _ (by decide)]
                have hK : kyOf h259 = zSecond (evOf h) x23 x49 (kyOf h21) := by rw [g260, ky_o (by decide), hK]
                have hE : evOf h259 = evOf h := by rw [g260, ev_o (by decide), hE]
                refine N_iinc (a := x82.toInt) (c := 1) (fun w => [(4, .inl w), (3, .inl x47), (2, .inl x23), (0, .inr (.inr (.inl 96))), (1, .inl a0)]) rfl rfl (fun _ => rfl) (by decide) rfl (by decide) (by omega) (fun x271 q272 => ?_)
                refine R_goto 37 rfl rfl ?_
                exact RUN_weak (psub_cons rfl (psub_cons rfl (psub_cons rfl (psub_cons rfl (psub_cons rfl (psub_nil _)))))) (ih83 h259 x271 hI fr fl81 (by omega) (hK) (hE) (by omega))
              · refine R_aload_n (k := 0) rfl rfl rfl ?_
                refine R_iload (k := 4) rfl rfl ?_
                refine R_iload_n (k := 2) rfl rfl rfl ?_
                refine R_callV (v := .inr (.inr (.inl 96))) (As := [.inl x82, .inl x23]) (rest := [.inl x249, .inl x23, .inr (.inr (.inl 116))]) rfl mt_9_i295 pp_X9_passedIn (by decide) rfl rfl rfl (Nat.le_of_ble_eq_true rfl) (Nat.le_of_ble_eq_true rfl) ((k_X9_passedIn h237 hI x82 x23 (by omega) (by omega)).mono (fun r273 h274 p275 => ?_))
                obtain ⟨rfl, x276, rfl, q277⟩ := p275
                show RUN d_X9_goAll 108 [(4, .inl x82), (3, .inl x47), (2, .inl x23), (0, .inr (.inr (.inl 96))), (1, .inl a0)] [.inl x276, .inl x249, .inl x23, .inr (.inr (.inl 116))] h237 _
                refine N_if_ne (a := x276.toInt) 118 rfl rfl rfl (fun c278 => ?_) (fun c278 => ?_)
                · refine R_iconst 0 rfl rfl ?_
                  refine R_ior rfl ?_
                  refine N_eq (fun x279 e280 => ?_)
                  refine K_iast (a := x23.toInt) (lo := (-2147483648)) (hi' := 2147483647) rfl sh_116 rfl ⟨by omega, by omega⟩ hI (by decide) rfl (i_rng _) fr (by decide) (fun h281 g282 hI fr => ?_)
                  have fl81 : FR [110, 111, 112, 113, 114, 115, 116, 119] h68 h281 := by rw [g282]; exact FR_wI _ _ fl81 (by decide)
                  have fl22 : FR [96, 107, 108, 109, 110, 111, 112, 113, 114, 115, 116, 117, 118, 119] h5 h281 := by rw [g282]; exact FR_wI _ _ fl22 (by decide)
                  have s283 : (h281.1 96 19).toInt = (h237.1 96 19).toInt := by rw [g282, wI_ne _ _ _ (by decide)]
                  have s284 : (h281.1 96 18).toInt = (h237.1 96 18).toInt := by rw [g282, wI_ne _ _ _ (by decide)]
                  have s285 : (h281.1 96 20).toInt = (h237.1 96 20).toInt := by rw [g282, wI_ne _ _ _ (by decide)]
                  have s286 : (h281.1 96 46).toInt = (h237.1 96 46).toInt := by rw [g282, wI_ne _ _ _ (by decide)]
                  have s287 : (h281.1 96 44).toInt = (h237.1 96 44).toInt := by rw [g282, wI_ne _ _ _ (by decide)]
                  have s288 : (h281.1 96 47).toInt = (h237.1 96 47).toInt := by rw [g282, wI_ne _ _ _ (by decide)]
                  have s289 : (h281.1 96 48).toInt = (h237.1 96 48).toInt := by rw [g282, wI_ne _ _ _ (by decide)]
                  have s290 : (h281.1 96 51).toInt = (h237.1 96 51).toInt := by rw [g282, wI_ne _ _ _ (by decide)]
                  have s291 : (h281.1 97 5).toInt = (h237.1 97 5).toInt := by rw [g282, wI_ne _ _ _ (by decide)]
                  have s292 : (h281.1 97 0).toInt = (h237.1 97 0).toInt := by rw [g282, wI_ne _ _ _ (by decide)]
                  have hK : kyOf h281 = zSecond (evOf h) x23 x49 (kyOf h21) := by rw [g282, ky_o (by decide), hK]
                  have hE : evOf h281 = evOf h := by rw [g282, ev_o (by decide), hE]
                  refine N_iinc (a := x82.toInt) (c := 1) (fun w => [(4, .inl w), (3, .inl x47), (2, .inl x23), (0, .inr (.inr (.inl 96))), (1, .inl a0)]) rfl rfl (fun _ => rfl) (by decide) rfl (by decide) (by omega) (fun x293 q294 => ?_)
                  refine R_goto 37 rfl rfl ?_
                  exact RUN_weak (psub_cons rfl (psub_cons rfl (psub_cons rfl (psub_cons rfl (psub_cons rfl (psub_nil _)))))) (ih83 h281 x293 hI fr fl81 (by omega) (hK) (hE) (by omega))
                · refine R_iconst 1 rfl rfl ?_
                  refine R_iload (k := 4) rfl rfl ?_
                  refine R_ishl rfl ?_
                  refine N_eq (fun x295 e296 => ?_)
                  refine R_goto 119 rfl rfl ?_
                  refine R_ior rfl ?_
                  refine N_eq (fun x298 e299 => ?_)
                  refine K_iast (a := x23.toInt) (lo := (-2147483648)) (hi' := 2147483647) rfl sh_116 rfl ⟨by omega, by omega⟩ hI (by decide) rfl (i_rng _) fr (by decide) (fun h300 g301 hI fr => ?_)
                  have fl81 : FR [110, 111, 112, 113, 114, 115, 116, 119] h68 h300 := by rw [g301]; exact FR_wI _ _ fl81 (by decide)
                  have fl22 : FR [96, 107, 108, 109, 110, 111, 112, 113, 114, 115, 116, 117, 118, 119] h5 h300 := by rw [g301]; exact FR_wI _ _ fl22 (by decide)
                  have s302 : (h300.1 96 19).toInt = (h237.1 96 19).toInt := by rw [g301, wI_ne _ _ _ (by decide)]
                  have s303 : (h300.1 96 18).toInt = (h237.1 96 18).toInt := by rw [g301, wI_ne _ _ _ (by decide)]
                  have s304 : (h300.1 96 20).toInt = (h237.1 96 20).toInt := by rw [g301, wI_ne _ _ _ (by decide)]
                  have s305 : (h300.1 96 46).toInt = (h237.1 96 46).toInt := by rw [g301, wI_ne _ _ _ (by decide)]
                  have s306 : (h300.1 96 44).toInt = (h237.1 96 44).toInt := by rw [g301, wI_ne _ _ _ (by decide)]
                  have s307 : (h300.1 96 47).toInt = (h237.1 96 47).toInt := by rw [g301, wI_ne _ _ _ (by decide)]
                  have s308 : (h300.1 96 48).toInt = (h237.1 96 48).toInt := by rw [g301, wI_ne _ _ _ (by decide)]
                  have s309 : (h300.1 96 51).toInt = (h237.1 96 51).toInt := by rw [g301, wI_ne _ _ _ (by decide)]
                  have s310 : (h300.1 97 5).toInt = (h237.1 97 5).toInt := by rw [g301, wI_ne _ _ _ (by decide)]
                  have s311 : (h300.1 97 0).toInt = (h237.1 97 0).toInt := by rw [g301, wI_ne _ _ _ (by decide)]
                  have hK : kyOf h300 = zSecond (evOf h) x23 x49 (kyOf h21) := by rw [g301, ky_o (by decide), hK]
                  have hE : evOf h300 = evOf h := by rw [g301, ev_o (by decide), hE]
                  refine N_iinc (a := x82.toInt) (c := 1) (fun w => [(4, .inl w), (3, .inl x47), (2, .inl x23), (0, .inr (.inr (.inl 96))), (1, .inl a0)]) rfl rfl (fun _ => rfl) (by decide) rfl (by decide) (by omega) (fun x312 q313 => ?_)
                  refine R_goto 37 rfl rfl ?_
                  exact RUN_weak (psub_cons rfl (psub_cons rfl (psub_cons rfl (psub_cons rfl (psub_cons rfl (psub_nil _)))))) (ih83 h300 x312 hI fr fl81 (by omega) (hK) (hE) (by omega))
        have k314 : (0 : Int32).toInt = 0 := by decide
        exact lp79 _ h68 (0 : Int32) hI fr (FR.rf _ _) (by decide) (hK) (hE) (Nat.lt_succ_self _)
  have k315 : (0 : Int32).toInt = 0 := by decide
  exact lp20 _ h5 (0 : Int32) hI fr (FR.rf _ _) (by decide) rfl rfl rfl rfl rfl rfl rfl rfl trivial trivial (by omega) (by rw [hK]; rfl) (fun hc => absurd hc (by omega)) (hE) (Nat.lt_succ_self _)
abbrev q_X9_waterNow (h : PH)  : Option PV → PH → Prop := fun r h' => INV h' ∧ FR [96, 107, 108, 109, 110, 111, 112, 113, 114, 115, 116, 117, 118, 119] h h' ∧ ((h'.1 96 18).toInt = (h.1 96 18).toInt ∧ (h'.1 96 19).toInt = (h.1 96 19).toInt ∧ (h'.1 96 46).toInt = (h.1 96 46).toInt ∧ (h'.1 96 44).toInt = (h.1 96 44).toInt ∧ (h'.1 96 47).toInt = (h.1 96 47).toInt ∧ (h'.1 96 48).toInt = (h.1 96 48).toInt ∧ (evOf h' = evOf h) ∧ True) ∧ ∃ z : Int32, r = some (.inl z) ∧ (((True)) ∧ (z = (zRun (evOf h) (h.1 97 0).toInt.toNat).2.2.2) ∧ True)
set_option maxHeartbeats 4000000 in
set_option maxRecDepth 100000 in
theorem g_X9_waterNow (h : PH) (hI : INV h) (p97_0 : 1 ≤ (h.1 97 0).toInt ∧ (h.1 97 0).toInt ≤ 60) : CALL d_X9_waterNow [.inr (.inr (.inl 96))] h (q_X9_waterNow h) := by
  show RUN d_X9_waterNow 0 [(0, .inr (.inr (.inl 96)))] [] h _
  have fr : FR [96, 107, 108, 109, 110, 111, 112, 113, 114, 115, 116, 117, 118, 119] h h := FR.rf _ _
  have hK : kyOf h = kyOf h := rfl
  have hE : evOf h = evOf h := rfl
  have b1 : (0 : Int) ≤ (h.1 97 0).toInt ∧ (h.1 97 0).toInt ≤ 60 := hI.1 97 0
  have b2 : (0 : Int) ≤ (h.1 96 18).toInt ∧ (h.1 96 18).toInt ≤ 6 := hI.1 96 18
  have b3 : (h.1 96 18).toInt = ((evOf h).2.2.2.2.1).toInt := congrArg (fun q : EV => (q.2.2.2.2.1).toInt) hE
  refine R_aload_n (k := 0) rfl rfl rfl ?_
  refine R_aload_n (k := 0) rfl rfl rfl ?_
  refine R_callV (v := .inr (.inr (.inl 96))) (As := []) (rest := [.inr (.inr (.inl 96))]) rfl mt_9_i129 pp_X9_last (by decide) rfl rfl rfl (Nat.le_of_ble_eq_true rfl) (Nat.le_of_ble_eq_true rfl) ((k_X9_last h hI).mono (fun r4 h5 p6 => ?_))
  obtain ⟨rfl, x7, rfl, q8⟩ := p6
  show RUN d_X9_waterNow 5 [(0, .inr (.inr (.inl 96)))] [.inl x7, .inr (.inr (.inl 96))] h _
  refine R_callV (v := .inr (.inr (.inl 96))) (As := [.inl x7]) (rest := []) rfl mt_9_i304 pp_X9_goAll (by decide) rfl rfl rfl (Nat.le_of_ble_eq_true rfl) (Nat.le_of_ble_eq_true rfl) ((g_X9_goAll h hI x7 (by omega)).mono (fun r9 h10 p11 => ?_))
  obtain ⟨hJ, fj, ⟨kp12, kp13, kp14, kp15, kp16, kp17, kp18, kp19, xq20, xq21, xq22, -⟩, rfl⟩ := p11
  have f23 := fj
  have fr := fr.trans fj (by decide)
  have hI := hJ
  have s24 : (h10.1 97 0).toInt = (h.1 97 0).toInt := by rw [(f23 97 (by decide)).1]
  have hK : kyOf h10 = zRun (evOf h) (x7.toInt + 1).toNat := by rw [xq20, hE]
  have hE : evOf h10 = evOf h := xq21.trans hE
  show RUN d_X9_waterNow 8 [(0, .inr (.inr (.inl 96)))] [] h10 _
  refine R_aload_n (k := 0) rfl rfl rfl ?_
  refine R_getf_r (j := 29) rfl ft_9_67 sh_96 rfl ?_
  refine R_aload_n (k := 0) rfl rfl rfl ?_
  refine R_callV (v := .inr (.inr (.inl 96))) (As := []) (rest := [.inr (.inr (.inl 114))]) rfl mt_9_i129 pp_X9_last (by decide) rfl rfl rfl (Nat.le_of_ble_eq_true rfl) (Nat.le_of_ble_eq_true rfl) ((k_X9_last h10 hI).mono (fun r25 h26 p27 => ?_))
  obtain ⟨rfl, x28, rfl, q29⟩ := p27
  show RUN d_X9_waterNow 16 [(0, .inr (.inr (.inl 96)))] [.inl x28, .inr (.inr (.inl 114))] h10 _
  refine R_iald rfl sh_114 ⟨by omega, by omega⟩ ?_
  refine N_eq (fun x30 e31 => ?_)
  exact R_iret rfl rfl rfl ⟨hI, fr, ⟨by omega, by omega, by omega, by omega, by omega, by omega, hE, trivial⟩, _, rfl, ⟨trivial, (by rw [e31, show x28 = x7 from i_of _ (by omega), xq22 (by omega), show (x7.toInt + 1).toNat = (h.1 97 0).toInt.toNat by omega]), trivial⟩⟩
abbrev q_X9_goTo (h : PH) (a0 : Int32) : Option PV → PH → Prop := fun r h' => INV h' ∧ FR [96, 107, 108, 109, 117, 118] h h' ∧ ((h'.1 96 42).toInt = (h.1 96 42).toInt ∧ (kyOf h' = zTo (evOf h) (a0.toInt + 1).toNat) ∧ (evOf h' = evOf h) ∧ True) ∧ r = none
set_option maxHeartbeats 4000000 in
set_option maxRecDepth 100000 in
theorem g_X9_goTo (h : PH) (hI : INV h) (a0 : Int32) (h0a : 0 ≤ a0.toInt ∧ a0.toInt ≤ 1073741824) : CALL d_X9_goTo [.inr (.inr (.inl 96)), .inl a0] h (q_X9_goTo h a0) := by
  show RUN d_X9_goTo 0 [(0, .inr (.inr (.inl 96))), (1, .inl a0)] [] h _
  have fr : FR [96, 107, 108, 109, 117, 118] h h := FR.rf _ _
  have hK : kyOf h = kyOf h := rfl
  have hE : evOf h = evOf h := rfl
  refine R_aload_n (k := 0) rfl rfl rfl ?_
  refine R_callV (v := .inr (.inr (.inl 96))) (As := []) (rest := []) rfl mt_9_i282 pp_X9_startLine (by decide) rfl rfl rfl (Nat.le_of_ble_eq_true rfl) (Nat.le_of_ble_eq_true rfl) ((g_X9_startLine h hI).mono (fun r1 h2 p3 => ?_))
  obtain ⟨hJ, fj, ⟨kp4, kp5, kp6, kp7, kp8, kp9, kp10, kp11, kp12, xq13, xq14, -⟩, rfl⟩ := p3
  have f15 := fj
  have fr := fr.trans fj (by decide)
  have hI := hJ
  have hK : kyOf h2 = zStart (eBuck (evOf h)) := by rw [xq13, hE]
  have hE : evOf h2 = evOf h := xq14.trans hE
  show RUN d_X9_goTo 4 [(0, .inr (.inr (.inl 96))), (1, .inl a0)] [] h2 _
  refine R_iconst 0 rfl rfl ?_
  refine R_istore_n (k := 2) rfl [(2, .inl 0), (0, .inr (.inr (.inl 96))), (1, .inl a0)] rfl rfl (by decide) ?_
  have lp17 : ∀ (n16 : Nat) (h18 : PH) (x20 : Int32), INV h18 → FR [96, 107, 108, 109, 117, 118] h h18 → FR [96, 107, 108, 109, 117, 118] h2 h18 → 0 ≤ x20.toInt ∧ x20.toInt ≤ 1073741825 → (h18.1 96 42).toInt = (h2.1 96 42).toInt → (kyOf h18 = zTo (evOf h) x20.toNatClampNeg) → (evOf h18 = evOf h) → (1073741825 - x20.toInt).toNat < n16 → RUN d_X9_goTo 6 [(2, .inl x20), (0, .inr (.inr (.inl 96))), (1, .inl a0)] [] h18 (q_X9_goTo h a0) := by
    intro n16
    induction n16 with
    | zero => intro h18 x20 m22 m23 m24 m25 m26 m27 m28 hz; exact absurd hz (Nat.not_lt_zero _)
    | succ n16 ih21 =>
      intro h18 x20 hI fr fl19 m25 m26 m27 m28 hz
      have hE := m28
      have hK : kyOf h18 = kyOf h18 := rfl
      refine R_iload_n (k := 2) rfl rfl rfl ?_
      refine R_iload_n (k := 1) rfl rfl rfl ?_
      refine N_icmp_gt (a := x20.toInt) (b := a0.toInt) 23 rfl rfl rfl rfl (fun c29 => ?_) (fun c29 => ?_)
      · have hF : kyOf h18 = zTo (evOf h) (a0.toInt + 1).toNat := m27.trans (by rw [tn2 (x := x20) (a := a0.toInt + 1) (by omega) (by omega)])
        exact R_vret rfl rfl ⟨hI, fr, ⟨by omega, hF, hE, trivial⟩, rfl⟩
      · refine R_aload_n (k := 0) rfl rfl rfl ?_
        refine R_iload_n (k := 2) rfl rfl rfl ?_
        refine R_iconst 0 rfl rfl ?_
        have k30 : (0 : Int32).toInt = 0 := by decide
        refine R_callV (v := .inr (.inr (.inl 96))) (As := [.inl x20, .inl 0]) (rest := []) rfl mt_9_i288 pp_X9_goSecond (by decide) rfl rfl rfl (Nat.le_of_ble_eq_true rfl) (Nat.le_of_ble_eq_true rfl) ((g_X9_goSecond h18 hI x20 (0 : Int32) (by omega)).mono (fun r31 h32 p33 => ?_))
        obtain ⟨hJ, fj, ⟨kp34, kp35, kp36, kp37, kp38, kp39, kp40, kp41, kp42, kp43, xq44, xq45, -⟩, rfl⟩ := p33
        have f46 := fj
        have fr := fr.trans fj (by decide)
        have hI := hJ
        have fl19 : FR [96, 107, 108, 109, 117, 118] h2 h32 := fl19.trans fj (by decide)
        have hK : kyOf h32 = zSecond (evOf h) x20 (0 : Int32) (kyOf h18) := by rw [xq44, hE, hK]
        have hE : evOf h32 = evOf h := xq45.trans hE
        show RUN d_X9_goTo 17 [(2, .inl x20), (0, .inr (.inr (.inl 96))), (1, .inl a0)] [] h32 _
        refine N_iinc (a := x20.toInt) (c := 1) (fun w => [(2, .inl w), (0, .inr (.inr (.inl 96))), (1, .inl a0)]) rfl rfl (fun _ => rfl) (by decide) rfl (by decide) (by omega) (fun x47 q48 => ?_)
        refine R_goto 6 rfl rfl ?_
        exact RUN_weak (psub_cons rfl (psub_cons rfl (psub_cons rfl (psub_nil _)))) (ih21 h32 x47 hI fr fl19 (by omega) (by omega) (by rw [zTo_s (x := x20) (x' := x47) (by omega) (by omega), ← m27]; exact hK) (hE) (by omega))
  have k49 : (0 : Int32).toInt = 0 := by decide
  exact lp17 _ h2 (0 : Int32) hI fr (FR.rf _ _) (by decide) rfl (by rw [hK]; rfl) (hE) (Nat.lt_succ_self _)
