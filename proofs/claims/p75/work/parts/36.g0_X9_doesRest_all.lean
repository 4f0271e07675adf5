abbrev qg_X9_doesRest (h : PH) (a0 : Int32) (a1 : Int32) : Option PV → PH → Prop := fun r h' => h = h' ∧ ∃ z : Int32, r = some (.inl z) ∧ (((z.toInt = 0 ∧ 60 ≤ a1.toInt) ∨ (z.toInt = 0 ∧ 0 ≤ a1.toInt ∧ a1.toInt ≤ 59) ∨ (z.toInt = 1 ∧ 0 ≤ a1.toInt ∧ a1.toInt ≤ 59)) ∧ (z.toInt = zRest (evOf h) a0 a1) ∧ True)
set_option maxHeartbeats 4000000 in
set_option maxRecDepth 100000 in
theorem g_X9_doesRest (h : PH) (hI : INV h) (a0 : Int32) (a1 : Int32) (h0a : 0 ≤ a0.toInt ∧ a0.toInt ≤ 5) (h1a : 0 ≤ a1.toInt ∧ a1.toInt ≤ 2147483647) : CALL d_X9_doesRest [.inr (.inr (.inl 96)), .inl a0, .inl a1] h (qg_X9_doesRest h a0 a1) := by
  show RUN d_X9_doesRest 0 [(0, .inr (.inr (.inl 96))), (1, .inl a0), (2, .inl a1)] [] h _
  have hK : kyOf h = kyOf h := rfl
  have hE : evOf h = evOf h := rfl
  refine R_iload_n (k := 2) rfl rfl rfl ?_
  refine R_bipush 60 rfl rfl ?_
  refine N_icmp_ge (a := a1.toInt) (b := 60) 24 rfl rfl rfl (by decide) (fun c1 => ?_) (fun c1 => ?_)
  · refine R_iconst 0 rfl rfl ?_
    have k2 : (0 : Int32).toInt = 0 := by decide
    exact R_iret rfl rfl rfl ⟨rfl, _, rfl, ⟨by rw [show (0 : Int32).toInt = 0 from rfl] <;> omega, (by simp only [zRest, eRest]; rw [show (0 : Int32).toInt = 0 from rfl]; (repeat' split) <;> first | (exfalso; omega) | rfl), trivial⟩⟩
  · refine R_aload_n (k := 0) rfl rfl rfl ?_
    refine R_getf_r (j := 16) rfl ft_9_37 sh_96 rfl ?_
    refine R_bipush 6 rfl rfl ?_
    refine R_iload_n (k := 2) rfl rfl rfl ?_
    refine R_imul rfl ?_
    refine N_eq (fun x3 e4 => ?_)
    have q5 : x3.toInt = 6 * a1.toInt := by rw [e4]; exact i_mul (by decide) rfl (by omega)
    refine R_iload_n (k := 1) rfl rfl rfl ?_
    refine R_iadd rfl ?_
    refine N_eq (fun x6 e7 => ?_)
    have q8 : x6.toInt = x3.toInt + a0.toInt := by rw [e7]; exact i_add rfl rfl (by omega)
    refine R_zald rfl sh_104 ⟨by omega, by omega⟩ ?_
    refine N_eq (fun x9 e10 => ?_)
    have e11 : x9 = (evOf h).2.2.1 x6.toNatClampNeg := by rw [e10]; exact congrFun (congrArg (fun q : EV => q.2.2.1) hE) _
    refine N_if_eq (a := x9.toInt) 24 rfl rfl rfl (fun c12 => ?_) (fun c12 => ?_)
    · refine R_iconst 0 rfl rfl ?_
      have k13 : (0 : Int32).toInt = 0 := by decide
      exact R_iret rfl rfl rfl ⟨rfl, _, rfl, ⟨by rw [show (0 : Int32).toInt = 0 from rfl] <;> omega, (by subst e11 e7 e4; simp only [zRest, eRest]; rw [show (0 : Int32).toInt = 0 from rfl]; (repeat' split) <;> first | (exfalso; omega) | rfl), trivial⟩⟩
    · refine R_iconst 1 rfl rfl ?_
      refine R_goto 25 rfl rfl ?_
      have k14 : (1 : Int32).toInt = 1 := by decide
      exact R_iret rfl rfl rfl ⟨rfl, _, rfl, ⟨by rw [show (1 : Int32).toInt = 1 from rfl] <;> omega, (by subst e11 e7 e4; simp only [zRest, eRest]; rw [show (1 : Int32).toInt = 1 from rfl]; (repeat' split) <;> first | (exfalso; omega) | rfl), trivial⟩⟩

abbrev qg_X9_spill (h : PH) (a0 : Int32) : Option PV → PH → Prop := fun r h' => INV h' ∧ FR [96, 108, 117, 118] h h' ∧ ((h'.1 96 18).toInt = (h.1 96 18).toInt ∧ (h'.1 96 34).toInt = (h.1 96 34).toInt ∧ (h'.1 96 41).toInt = (h.1 96 41).toInt ∧ (h'.1 96 42).toInt = (h.1 96 42).toInt ∧ (h'.1 96 19).toInt = (h.1 96 19).toInt ∧ (h'.1 96 20).toInt = (h.1 96 20).toInt ∧ (h'.1 96 46).toInt = (h.1 96 46).toInt ∧ (h'.1 96 44).toInt = (h.1 96 44).toInt ∧ (h'.1 96 47).toInt = (h.1 96 47).toInt ∧ (h'.1 96 48).toInt = (h.1 96 48).toInt ∧ (h'.1 96 51).toInt = (h.1 96 51).toInt ∧ (kyOf h' = zSpill (evOf h) a0 (kyOf h)) ∧ (evOf h' = evOf h) ∧ True) ∧ r = none
set_option maxHeartbeats 4000000 in
set_option maxRecDepth 100000 in
theorem g_X9_spill (h : PH) (hI : INV h) (a0 : Int32) (h0a : 0 ≤ a0.toInt ∧ a0.toInt ≤ 5) : CALL d_X9_spill [.inr (.inr (.inl 96)), .inl a0] h (qg_X9_spill h a0) := by
  show RUN d_X9_spill 0 [(0, .inr (.inr (.inl 96))), (1, .inl a0)] [] h _
  have fr : FR [96, 108, 117, 118] h h := FR.rf _ _
  have hK : kyOf h = kyOf h := rfl
  have hE : evOf h = evOf h := rfl
  have b1 : (0 : Int) ≤ (h.1 96 18).toInt ∧ (h.1 96 18).toInt ≤ 6 := hI.1 96 18
  have b2 : (h.1 96 18).toInt = ((evOf h).2.2.2.2.1).toInt := congrArg (fun q : EV => (q.2.2.2.2.1).toInt) hE
  have b3 : (0 : Int) ≤ (h.1 96 51).toInt ∧ (h.1 96 51).toInt ≤ 720 := hI.1 96 51
  refine R_aload_n (k := 0) rfl rfl rfl ?_
  refine R_getf_r (j := 23) rfl ft_9_49 sh_96 rfl ?_
  refine R_iload_n (k := 1) rfl rfl rfl ?_
  refine R_iald rfl sh_108 ⟨by omega, by omega⟩ ?_
  refine N_eq (fun x4 e5 => ?_)
  have e6 : x4 = ((kyOf h).2.1) a0.toNatClampNeg := by rw [e5]; exact (ky_at108 (nlt ⟨by omega, by omega⟩)).trans (congrFun (congrArg (fun q : KY => q.2.1) hK) _)
  refine R_aload_n (k := 0) rfl rfl rfl ?_
  refine R_getf_r (j := 1) rfl ft_9_9 sh_96 rfl ?_
  refine R_bipush 11 rfl rfl ?_
  refine R_iconst 2 rfl rfl ?_
  refine R_iload_n (k := 1) rfl rfl rfl ?_
  refine R_imul rfl ?_
  refine N_eq (fun x7 e8 => ?_)
  have q9 : x7.toInt = 2 * a0.toInt := by rw [e8]; exact i_mul (by decide) rfl (by omega)
  refine R_iadd rfl ?_
  refine N_eq (fun x10 e11 => ?_)
  have q12 : x10.toInt = 11 + x7.toInt := by rw [e11]; exact i_add (by decide) rfl (by omega)
  refine R_iconst 1 rfl rfl ?_
  refine R_iadd rfl ?_
  refine N_eq (fun x13 e14 => ?_)
  have q15 : x13.toInt = x10.toInt + 1 := by rw [e14]; exact i_add rfl (by decide) (by omega)
  refine R_iald rfl sh_97 ⟨by omega, by omega⟩ ?_
  refine N_eq (fun x16 e17 => ?_)
  have e18 : x16 = (evOf h).1 x13.toNatClampNeg := by rw [e17]; exact congrFun (congrArg (fun q : EV => q.1) hE) _
  refine R_nat (b := 1) rfl mt_9_i167 rfl ⟨by decide, by decide, Nat.le_of_ble_eq_true rfl⟩ ?_
  refine N_eq (fun x19 e20 => ?_)
  refine R_istore_n (k := 2) rfl [(2, .inl x19), (0, .inr (.inr (.inl 96))), (1, .inl a0)] rfl rfl (by decide) ?_
  refine R_aload_n (k := 0) rfl rfl rfl ?_
  refine R_getf_r (j := 23) rfl ft_9_49 sh_96 rfl ?_
  refine R_iload_n (k := 1) rfl rfl rfl ?_
  refine R_dup2 rfl ?_
  refine R_iald rfl sh_108 ⟨by omega, by omega⟩ ?_
  refine N_eq (fun x21 e22 => ?_)
  have e23 : x21 = ((kyOf h).2.1) a0.toNatClampNeg := by rw [e22]; exact (ky_at108 (nlt ⟨by omega, by omega⟩)).trans (congrFun (congrArg (fun q : KY => q.2.1) hK) _)
  refine R_iload_n (k := 2) rfl rfl rfl ?_
  have b24 := i_rng x21
  have b25 := i_rng x19
  refine R_isub rfl ?_
  refine N_eq (fun x26 e27 => ?_)
  refine K_iast (a := a0.toInt) (lo := (-2147483648)) (hi' := 2147483647) rfl sh_108 rfl ⟨by omega, by omega⟩ hI (by decide) rfl (i_rng _) fr (by decide) (fun h28 g29 hI fr => ?_)
  have s30 : (h28.1 96 18).toInt = (h.1 96 18).toInt := by rw [g29, wI_ne _ _ _ (by decide)]
  have s31 : (h28.1 96 34).toInt = (h.1 96 34).toInt := by rw [g29, wI_ne _ _ _ (by decide)]
  have s32 : (h28.1 96 36).toInt = (h.1 96 36).toInt := by rw [g29, wI_ne _ _ _ (by decide)]
  have s33 : (h28.1 96 41).toInt = (h.1 96 41).toInt := by rw [g29, wI_ne _ _ _ (by decide)]
  have s34 : (h28.1 96 42).toInt = (h.1 96 42).toInt := by rw [g29, wI_ne _ _ _ (by decide)]
  have s35 : (h28.1 96 19).toInt = (h.1 96 19).toInt := by rw [g29, wI_ne _ _ _ (by decide)]
  have s36 : (h28.1 96 20).toInt = (h.1 96 20).toInt := by rw [g29, wI_ne _ _ _ (by decide)]
  have s37 : (h28.1 96 46).toInt = (h.1 96 46).toInt := by rw [g29, wI_ne _ _ _ (by decide)]
  have s38 : (h28.1 96 44).toInt = (h.1 96 44).toInt := by rw [g29, wI_ne _ _ _ (by decide)]
  have s39 : (h28.1 96 47).toInt = (h.1 96 47).toInt := by rw [g29, wI_ne _ _ _ (by decide)]
  have s40 : (h28.1 96 48).toInt = (h.1 96 48).toInt := by rw [g29, wI_ne _ _ _ (by decide)]
  have s41 : (h28.1 96 51).toInt = (h.1 96 51).toInt := by rw [g29, wI_ne _ _ _ (by decide)]
  have hK : kyOf h28 = ((kyOf h).1, upd ((kyOf h).2.1) a0.toNatClampNeg x26, (kyOf h).2.2.1, (kyOf h).2.2.2) := by rw [g29, ky_108 (nlt ⟨by omega, by omega⟩), hK] <;> rfl
  have hE : evOf h28 = evOf h := by rw [g29, ev_o (by decide), hE]
  refine R_aload_n (k := 0) rfl rfl rfl ?_
  refine R_getf_r (j := 33) rfl ft_9_79 sh_96 rfl ?_
  refine R_iload_n (k := 1) rfl rfl rfl ?_
  refine R_dup2 rfl ?_
  refine R_iald rfl sh_118 ⟨by omega, by omega⟩ ?_
  refine N_eq (fun x42 e43 => ?_)
  refine R_iload_n (k := 2) rfl rfl rfl ?_
  have b44 := i_rng x42
  have b45 := i_rng x19
  refine R_iadd rfl ?_
  refine N_eq (fun x46 e47 => ?_)
  refine K_iast (a := a0.toInt) (lo := (-2147483648)) (hi' := 2147483647) rfl sh_118 rfl ⟨by omega, by omega⟩ hI (by decide) rfl (i_rng _) fr (by decide) (fun h48 g49 hI fr => ?_)
  have s50 : (h48.1 96 18).toInt = (h28.1 96 18).toInt := by rw [g49, wI_ne _ _ _ (by decide)]
  have s51 : (h48.1 96 34).toInt = (h28.1 96 34).toInt := by rw [g49, wI_ne _ _ _ (by decide)]
  have s52 : (h48.1 96 36).toInt = (h28.1 96 36).toInt := by rw [g49, wI_ne _ _ _ (by decide)]
  have s53 : (h48.1 96 41).toInt = (h28.1 96 41).toInt := by rw [g49, wI_ne _ _ _ (by decide)]
  have s54 : (h48.1 96 42).toInt = (h28.1 96 42).toInt := by rw [g49, wI_ne _ _ _ (by decide)]
  have s55 : (h48.1 96 19).toInt = (h28.1 96 19).toInt := by rw [g49, wI_ne _ _ _ (by decide)]
  have s56 : (h48.1 96 20).toInt = (h28.1 96 20).toInt := by rw [g49, wI_ne _ _ _ (by decide)]
  have s57 : (h48.1 96 46).toInt = (h28.1 96 46).toInt := by rw [g49, wI_ne _ _ _ (by decide)]
  have s58 : (h48.1 96 44).toInt = (h28.1 96 44).toInt := by rw [g49, wI_ne _ _ _ (by decide)]
  have s59 : (h48.1 96 47).toInt = (h28.1 96 47).toInt := by rw [g49, wI_ne _ _ _ (by decide)]
  have s60 : (h48.1 96 48).toInt = (h28.1 96 48).toInt := by rw [g49, wI_ne _ _ _ (by decide)]
  have s61 : (h48.1 96 51).toInt = (h28.1 96 51).toInt := by rw [g49, wI_ne _ _ _ (by decide)]
  have hK : kyOf h48 = ((kyOf h).1, upd ((kyOf h).2.1) a0.toNatClampNeg x26, (kyOf h).2.2.1, (kyOf h).2.2.2) := by rw [g49, ky_o (by decide), hK]
  have hE : evOf h48 = evOf h := by rw [g49, ev_o (by decide), hE]
  refine R_aload_n (k := 0) rfl rfl rfl ?_
  refine R_dup_r rfl ?_
  refine R_getf_i (j := 36) rfl ft_9_268 sh_96 rfl ?_
  refine R_iload_n (k := 2) rfl rfl rfl ?_
  have b62 := i_rng (h48.1 96 36)
  have b63 := i_rng x19
  refine R_iadd rfl ?_
  refine N_eq (fun x64 e65 => ?_)
  refine K_putf (j := 36) (lo := (-2147483648)) (hi' := 2147483647) rfl ft_9_268 sh_96 rfl hI (by decide) rfl (i_rng _) fr (by decide) (fun h66 g67 hI fr => ?_)
  have s68 : (h66.1 96 18).toInt = (h48.1 96 18).toInt := by rw [g67, wI_at (by decide)]
  have s69 : (h66.1 96 34).toInt = (h48.1 96 34).toInt := by rw [g67, wI_at (by decide)]
  have s70 : (h66.1 96 41).toInt = (h48.1 96 41).toInt := by rw [g67, wI_at (by decide)]
  have s71 : (h66.1 96 42).toInt = (h48.1 96 42).toInt := by rw [g67, wI_at (by decide)]
  have s72 : (h66.1 96 19).toInt = (h48.1 96 19).toInt := by rw [g67, wI_at (by decide)]
  have s73 : (h66.1 96 20).toInt = (h48.1 96 20).toInt := by rw [g67, wI_at (by decide)]
  have s74 : (h66.1 96 46).toInt = (h48.1 96 46).toInt := by rw [g67, wI_at (by decide)]
  have s75 : (h66.1 96 44).toInt = (h48.1 96 44).toInt := by rw [g67, wI_at (by decide)]
  have s76 : (h66.1 96 47).toInt = (h48.1 96 47).toInt := by rw [g67, wI_at (by decide)]
  have s77 : (h66.1 96 48).toInt = (h48.1 96 48).toInt := by rw [g67, wI_at (by decide)]
  have s78 : (h66.1 96 51).toInt = (h48.1 96 51).toInt := by rw [g67, wI_at (by decide)]
  have hK : kyOf h66 = ((kyOf h).1, upd ((kyOf h).2.1) a0.toNatClampNeg x26, (kyOf h).2.2.1, (kyOf h).2.2.2) := by rw [g67, ky_s (by decide), hK]
  have hE : evOf h66 = evOf h := by rw [g67, ev_s (by decide), hE]
  have s79 : (h66.1 96 36).toInt = x64.toInt := by rw [g67, wI_is]
  refine R_aload_n (k := 0) rfl rfl rfl ?_
  refine R_getf_r (j := 32) rfl ft_9_76 sh_96 rfl ?_
  refine R_iload_n (k := 1) rfl rfl rfl ?_
  refine R_dup2 rfl ?_
  refine R_iald rfl sh_117 ⟨by omega, by omega⟩ ?_
  refine N_eq (fun x80 e81 => ?_)
  refine R_iconst 1 rfl rfl ?_
  have b82 := i_rng x80
  refine R_iadd rfl ?_
  refine N_eq (fun x83 e84 => ?_)
  refine K_iast (a := a0.toInt) (lo := (-2147483648)) (hi' := 2147483647) rfl sh_117 rfl ⟨by omega, by omega⟩ hI (by decide) rfl (i_rng _) fr (by decide) (fun h85 g86 hI fr => ?_)
  have s87 : (h85.1 96 18).toInt = (h66.1 96 18).toInt := by rw [g86, wI_ne _ _ _ (by decide)]
  have s88 : (h85.1 96 34).toInt = (h66.1 96 34).toInt := by rw [g86, wI_ne _ _ _ (by decide)]
  have s89 : (h85.1 96 41).toInt = (h66.1 96 41).toInt := by rw [g86, wI_ne _ _ _ (by decide)]
  have s90 : (h85.1 96 42).toInt = (h66.1 96 42).toInt := by rw [g86, wI_ne _ _ _ (by decide)]
  have s91 : (h85.1 96 19).toInt = (h66.1 96 19).toInt := by rw [g86, wI_ne _ _ _ (by decide)]
  have s92 : (h85.1 96 20).toInt = (h66.1 96 20).toInt := by rw [g86, wI_ne _ _ _ (by decide)]
  have s93 : (h85.1 96 46).toInt = (h66.1 96 46).toInt := by rw [g86, wI_ne _ _ _ (by decide)]
  have s94 : (h85.1 96 44).toInt = (h66.1 96 44).toInt := by rw [g86, wI_ne _ _ _ (by decide)]
  have s95 : (h85.1 96 47).toInt = (h66.1 96 47).toInt := by rw [g86, wI_ne _ _ _ (by decide)]
  have s96 : (h85.1 96 48).toInt = (h66.1 96 48).toInt := by rw [g86, wI_ne _ _ _ (by decide)]
  have s97 : (h85.1 96 51).toInt = (h66.1 96 51).toInt := by rw [g86, wI_ne _ _ _ (by decide)]
  have s98 : (h85.1 96 36).toInt = (h66.1 96 36).toInt := by rw [g86, wI_ne _ _ _ (by decide)]
  have hK : kyOf h85 = ((kyOf h).1, upd ((kyOf h).2.1) a0.toNatClampNeg x26, (kyOf h).2.2.1, (kyOf h).2.2.2) := by rw [g86, ky_o (by decide), hK]
  have hE : evOf h85 = evOf h := by rw [g86, ev_o (by decide), hE]
  have hF : kyOf h85 = zSpill (evOf h) a0 (kyOf h) := by
    refine hK.trans ?_
    subst e84 e81 e65 e47 e43 e27 e23 e20 e18 e14 e11 e8 e6
    simp only [zSpill, zMin, eWorld] <;> (repeat' split) <;> first | (exfalso; omega) | rfl
  exact R_vret rfl rfl ⟨hI, fr, ⟨by omega, by omega, by omega, by omega, by omega, by omega, by omega, by omega, by omega, by omega, by omega, hF, hE, trivial⟩, rfl⟩

abbrev qg_X9_goPlace (h : PH) (a0 : Int32) (a1 : Int32) : Option PV → PH → Prop := fun r h' => INV h' ∧ FR [96, 107, 108, 109, 117, 118] h h' ∧ ((h'.1 96 18).toInt = (h.1 96 18).toInt ∧ (h'.1 96 41).toInt = (h.1 96 41).toInt ∧ (h'.1 96 42).toInt = (h.1 96 42).toInt ∧ (h'.1 96 19).toInt = (h.1 96 19).toInt ∧ (h'.1 96 20).toInt = (h.1 96 20).toInt ∧ (h'.1 96 46).toInt = (h.1 96 46).toInt ∧ (h'.1 96 44).toInt = (h.1 96 44).toInt ∧ (h'.1 96 47).toInt = (h.1 96 47).toInt ∧ (h'.1 96 48).toInt = (h.1 96 48).toInt ∧ (h'.1 96 51).toInt = (h.1 96 51).toInt ∧ (kyOf h' = zPlace (evOf h) a0 a1 (kyOf h)) ∧ (evOf h' = evOf h) ∧ True) ∧ r = none
set_option maxHeartbeats 4000000 in
set_option maxRecDepth 100000 in
theorem g_X9_goPlace (h : PH) (hI : INV h) (a0 : Int32) (a1 : Int32) (h0a : 0 ≤ a0.toInt ∧ a0.toInt ≤ 5) (h1a : 0 ≤ a1.toInt ∧ a1.toInt ≤ 2147483647) (pr0 : a0.toInt ≤ (h.1 96 18).toInt + (-1)) : CALL d_X9_goPlace [.inr (.inr (.inl 96)), .inl a0, .inl a1] h (qg_X9_goPlace h a0 a1) := by
  show RUN d_X9_goPlace 0 [(0, .inr (.inr (.inl 96))), (1, .inl a0), (2, .inl a1)] [] h _
  have fr : FR [96, 107, 108, 109, 117, 118] h h := FR.rf _ _
  have hK : kyOf h = kyOf h := rfl
  have hE : evOf h = evOf h := rfl
  have b1 : (0 : Int) ≤ (h.1 96 18).toInt ∧ (h.1 96 18).toInt ≤ 6 := hI.1 96 18
  have b2 : (h.1 96 18).toInt = ((evOf h).2.2.2.2.1).toInt := congrArg (fun q : EV => (q.2.2.2.2.1).toInt) hE
  have b3 : (0 : Int) ≤ (h.1 96 51).toInt ∧ (h.1 96 51).toInt ≤ 720 := hI.1 96 51
  refine R_aload_n (k := 0) rfl rfl rfl ?_
  refine R_getf_r (j := 17) rfl ft_9_40 sh_96 rfl ?_
  refine R_iload_n (k := 1) rfl rfl rfl ?_
  refine R_iald rfl sh_105 ⟨by omega, by omega⟩ ?_
  refine N_eq (fun x4 e5 => ?_)
  have q6 : 0 ≤ x4.toInt ∧ x4.toInt ≤ 5 := by rw [e5]; exact hI.1 105 _
  have e7 : x4 = (evOf h).2.2.2.1 a0.toNatClampNeg := by rw [e5]; exact congrFun (congrArg (fun q : EV => q.2.2.2.1) hE) _
  refine R_istore_n (k := 3) rfl [(3, .inl x4), (0, .inr (.inr (.inl 96))), (1, .inl a0), (2, .inl a1)] rfl rfl (by decide) ?_
  refine R_aload_n (k := 0) rfl rfl rfl ?_
  refine R_getf_r (j := 22) rfl ft_9_46 sh_96 rfl ?_
  refine R_iload_n (k := 3) rfl rfl rfl ?_
  refine R_iald rfl sh_107 ⟨by omega, by omega⟩ ?_
  refine N_eq (fun x8 e9 => ?_)
  have e10 : x8 = ((kyOf h).1) x4.toNatClampNeg := by rw [e9]; exact (ky_at107 (nlt ⟨by omega, by omega⟩)).trans (congrFun (congrArg (fun q : KY => q.1) hK) _)
  refine R_aload_n (k := 0) rfl rfl rfl ?_
  refine R_getf_r (j := 15) rfl ft_9_34 sh_96 rfl ?_
  refine R_iload_n (k := 3) rfl rfl rfl ?_
  refine R_iald rfl sh_103 ⟨by omega, by omega⟩ ?_
  refine N_eq (fun x11 e12 => ?_)
  have e13 : x11 = (evOf h).2.1 x4.toNatClampNeg := by rw [e12]; exact congrFun (congrArg (fun q : EV => q.2.1) hE) _
  refine N_icmp_lt (a := x8.toInt) (b := x11.toInt) 31 rfl rfl rfl rfl (fun c14 => ?_) (fun c14 => ?_)
  · have hF : kyOf h = zPlace (evOf h) a0 a1 (kyOf h) := by
      refine hK.trans ?_
      subst e13 e10 e7
      simp only [zPlace, zPlace1, zThrow, zGive, ePace, eLine, eMany, eWorld] <;> (repeat' split) <;> first | (exfalso; omega) | rfl
    exact R_vret rfl rfl ⟨hI, fr, ⟨by omega, by omega, by omega, by omega, by omega, by omega, by omega, by omega, by omega, by omega, hF, hE, trivial⟩, rfl⟩
  · refine R_aload_n (k := 0) rfl rfl rfl ?_
    refine R_iload_n (k := 3) rfl rfl rfl ?_
    refine R_iload_n (k := 2) rfl rfl rfl ?_
    have b15 := i_rng a1
    refine R_callV (v := .inr (.inr (.inl 96))) (As := [.inl x4, .inl a1]) (rest := []) rfl mt_9_i271 pp_X9_doesRest (by decide) rfl rfl rfl (Nat.le_of_ble_eq_true rfl) (Nat.le_of_ble_eq_true rfl) ((g_X9_doesRest h hI x4 a1 (by omega) (by omega)).mono (fun r16 h17 p18 => ?_))
    obtain ⟨rfl, x20, rfl, (q21 | q21 | q21), zq19, -⟩ := p18
    · rw [hE] at zq19
      show RUN d_X9_goPlace 28 [(3, .inl x4), (0, .inr (.inr (.inl 96))), (1, .inl a0), (2, .inl a1)] [.inl x20] h _
      refine N_if_eq (a := x20.toInt) 32 rfl rfl rfl (fun c22 => ?_) (fun c22 => ?_)
      · refine R_iload_n (k := 1) rfl rfl rfl ?_
        refine R_aload_n (k := 0) rfl rfl rfl ?_
        refine R_getf_i (j := 18) rfl ft_9_253 sh_96 rfl ?_
        refine R_iconst 1 rfl rfl ?_
        refine R_isub rfl ?_
        refine N_eq (fun x23 e24 => ?_)
        have q25 : x23.toInt = (h.1 96 18).toInt - 1 := by rw [e24]; exact i_sub rfl (by decide) (by omega)
        refine N_icmp_ne (a := a0.toInt) (b := x23.toInt) 104 rfl rfl rfl rfl (fun c26 => ?_) (fun c26 => ?_)
        · refine R_aload_n (k := 0) rfl rfl rfl ?_
          refine R_getf_r (j := 17) rfl ft_9_40 sh_96 rfl ?_
          refine R_iload_n (k := 1) rfl rfl rfl ?_
          refine R_iconst 1 rfl rfl ?_
          refine R_iadd rfl ?_
          refine N_eq (fun x27 e28 => ?_)
          have q29 : x27.toInt = a0.toInt + 1 := by rw [e28]; exact i_add rfl (by decide) (by omega)
          refine R_iald rfl sh_105 ⟨by omega, by omega⟩ ?_
          refine N_eq (fun x30 e31 => ?_)
          have q32 : 0 ≤ x30.toInt ∧ x30.toInt ≤ 5 := by rw [e31]; exact hI.1 105 _
          have e33 : x30 = (evOf h).2.2.2.1 x27.toNatClampNeg := by rw [e31]; exact congrFun (congrArg (fun q : EV => q.2.2.2.1) hE) _
          refine R_istore (k := 4) [(4, .inl x30), (3, .inl x4), (0, .inr (.inr (.inl 96))), (1, .inl a0), (2, .inl a1)] rfl rfl (by decide) ?_
          refine R_aload_n (k := 0) rfl rfl rfl ?_
          refine R_getf_r (j := 22) rfl ft_9_46 sh_96 rfl ?_
          refine R_iload (k := 4) rfl rfl ?_
          refine R_iald rfl sh_107 ⟨by omega, by omega⟩ ?_
          refine N_eq (fun x34 e35 => ?_)
          have e36 : x34 = ((kyOf h).1) x30.toNatClampNeg := by rw [e35]; exact (ky_at107 (nlt ⟨by omega, by omega⟩)).trans (congrFun (congrArg (fun q : KY => q.1) hK) _)
          refine R_iconst (-1) rfl rfl ?_
          refine N_icmp_ne (a := x34.toInt) (b := (-1)) 135 rfl rfl rfl (by decide) (fun c37 => ?_) (fun c37 => ?_)
          · have hF : kyOf h = zPlace (evOf h) a0 a1 (kyOf h) := by
              refine hK.trans ?_
              subst e36 e33 e28 e24 e13 e10 e7
              simp only [zPlace, zPlace1, zThrow, zGive, ePace, eLine, eMany, eWorld] <;> (repeat' split) <;> first | (exfalso; omega) | rfl
            exact R_vret rfl rfl ⟨hI, fr, ⟨by omega, by omega, by omega, by omega, by omega, by omega, by omega, by omega, by omega, by omega, hF, hE, trivial⟩, rfl⟩
          · refine R_aload_n (k := 0) rfl rfl rfl ?_
            refine R_iload (k := 4) rfl rfl ?_
            refine R_iload_n (k := 2) rfl rfl rfl ?_
            have b38 := i_rng a1
            refine R_callV (v := .inr (.inr (.inl 96))) (As := [.inl x30, .inl a1]) (rest := []) rfl mt_9_i271 pp_X9_doesRest (by decide) rfl rfl rfl (Nat.le_of_ble_eq_true rfl) (Nat.le_of_ble_eq_true rfl) ((g_X9_doesRest h hI x30 a1 (by omega) (by omega)).mono (fun r39 h40 p41 => ?_))
            obtain ⟨rfl, x43, rfl, (q44 | q44 | q44), zq42, -⟩ := p41
            · rw [hE] at zq42
              show RUN d_X9_goPlace 132 [(4, .inl x30), (3, .inl x4), (0, .inr (.inr (.inl 96))), (1, .inl a0), (2, .inl a1)] [.inl x43] h _
              refine N_if_eq (a := x43.toInt) 136 rfl rfl rfl (fun c45 => ?_) (fun c45 => ?_)
              · refine R_aload_n (k := 0) rfl rfl rfl ?_
                refine R_iload_n (k := 3) rfl rfl rfl ?_
                refine R_callV (v := .inr (.inr (.inl 96))) (As := [.inl x4]) (rest := []) rfl mt_9_i275 pp_X9_spill (by decide) rfl rfl rfl (Nat.le_of_ble_eq_true rfl) (Nat.le_of_ble_eq_true rfl) ((g_X9_spill h hI x4 (by omega)).mono (fun r46 h47 p48 => ?_))
                obtain ⟨hJ, fj, ⟨kp49, kp50, kp51, kp52, kp53, kp54, kp55, kp56, kp57, kp58, kp59, xq60, xq61, -⟩, rfl⟩ := p48
                have f62 := fj
                have fr := fr.trans fj (by decide)
                have hI := hJ
                have hK : kyOf h47 = zSpill (evOf h) x4 (kyOf h) := by rw [xq60, hE, hK]
                have hE : evOf h47 = evOf h := xq61.trans hE
                show RUN d_X9_goPlace 141 [(4, .inl x30), (3, .inl x4), (0, .inr (.inr (.inl 96))), (1, .inl a0), (2, .inl a1)] [] h47 _
                refine R_aload_n (k := 0) rfl rfl rfl ?_
                refine R_getf_r (j := 22) rfl ft_9_46 sh_96 rfl ?_
                refine R_iload (k := 4) rfl rfl ?_
                refine R_iconst 0 rfl rfl ?_
                refine K_iast (a := x30.toInt) (lo := (-2147483648)) (hi' := 2147483647) rfl sh_107 rfl ⟨by omega, by omega⟩ hI (by decide) rfl (by decide) fr (by decide) (fun h63 g64 hI fr => ?_)
                have s65 : (h63.1 96 18).toInt = (h47.1 96 18).toInt := by rw [g64, wI_ne _ _ _ (by decide)]
                have s66 : (h63.1 96 34).toInt = (h47.1 96 34).toInt := by rw [g64, wI_ne _ _ _ (by decide)]
                have s67 : (h63.1 96 41).toInt = (h47.1 96 41).toInt := by rw [g64, wI_ne _ _ _ (by decide)]
                have s68 : (h63.1 96 42).toInt = (h47.1 96 42).toInt := by rw [g64, wI_ne _ _ _ (by decide)]
                have s69 : (h63.1 96 19).toInt = (h47.1 96 19).toInt := by rw [g64, wI_ne _ _ _ (by decide)]
                have s70 : (h63.1 96 20).toInt = (h47.1 96 20).toInt := by rw [g64, wI_ne _ _ _ (by decide)]
                have s71 : (h63.1 96 46).toInt = (h47.1 96 46).toInt := by rw [g64, wI_ne _ _ _ (by decide)]
                have s72 : (h63.1 96 44).toInt = (h47.1 96 44).toInt := by rw [g64, wI_ne _ _ _ (by decide)]
                have s73 : (h63.1 96 47).toInt = (h47.1 96 47).toInt := by rw [g64, wI_ne _ _ _ (by decide)]
                have s74 : (h63.1 96 48).toInt = (h47.1 96 48).toInt := by rw [g64, wI_ne _ _ _ (by decide)]
                have s75 : (h63.1 96 51).toInt = (h47.1 96 51).toInt := by rw [g64, wI_ne _ _ _ (by decide)]
                have hK : kyOf h63 = (upd ((zSpill (evOf h) x4 (kyOf h)).1) x30.toNatClampNeg (0), (zSpill (evOf h) x4 (kyOf h)).2.1, (zSpill (evOf h) x4 (kyOf h)).2.2.1, (zSpill (evOf h) x4 (kyOf h)).2.2.2) := by rw [g64, ky_107 (nlt ⟨by omega, by omega⟩), hK] <;> rfl
                have hE : evOf h63 = evOf h := by rw [g64, ev_o (by decide), hE]
                refine R_aload_n (k := 0) rfl rfl rfl ?_
                refine R_getf_r (j := 23) rfl ft_9_49 sh_96 rfl ?_
                refine R_iload (k := 4) rfl rfl ?_
                refine R_aload_n (k := 0) rfl rfl rfl ?_
                refine R_getf_r (j := 23) rfl ft_9_49 sh_96 rfl ?_
                refine R_iload_n (k := 3) rfl rfl rfl ?_
                refine R_iald rfl sh_108 ⟨by omega, by omega⟩ ?_
                refine N_eq (fun x76 e77 => ?_)
                have e78 : x76 = ((zSpill (evOf h) x4 (kyOf h)).2.1) x4.toNatClampNeg := by rw [e77]; exact (ky_at108 (nlt ⟨by omega, by omega⟩)).trans (congrFun (congrArg (fun q : KY => q.2.1) hK) _)
                refine K_iast (a := x30.toInt) (lo := (-2147483648)) (hi' := 2147483647) rfl sh_108 rfl ⟨by omega, by omega⟩ hI (by decide) rfl (i_rng _) fr (by decide) (fun h79 g80 hI fr => ?_)
                have s81 : (h79.1 96 18).toInt = (h63.1 96 18).toInt := by rw [g80, wI_ne _ _ _ (by decide)]
                have s82 : (h79.1 96 34).toInt = (h63.1 96 34).toInt := by rw [g80, wI_ne _ _ _ (by decide)]
                have s83 : (h79.1 96 41).toInt = (h63.1 96 41).toInt := by rw [g80, wI_ne _ _ _ (by decide)]
                have s84 : (h79.1 96 42).toInt = (h63.1 96 42).toInt := by rw [g80, wI_ne _ _ _ (by decide)]
                have s85 : (h79.1 96 19).toInt = (h63.1 96 19).toInt := by rw [g80, wI_ne _ _ _ (by decide)]
                have s86 : (h79.1 96 20).toInt = (h63.1 96 20).toInt := by rw [g80, wI_ne _ _ _ (by decide)]
                have s87 : (h79.1 96 46).toInt = (h63.1 96 46).toInt := by rw [g80, wI_ne _ _ _ (by decide)]
                have s88 : (h79.1 96 44).toInt = (h63.1 96 44).toInt := by rw [g80, wI_ne _ _ _ (by decide)]
                have s89 : (h79.1 96 47).toInt = (h63.1 96 47).toInt := by rw [g80, wI_ne _ _ _ (by decide)]
                have s90 : (h79.1 96 48).toInt = (h63.1 96 48).toInt := by rw [g80, wI_ne _ _ _ (by decide)]
                have s91 : (h79.1 96 51).toInt = (h63.1 96 51).toInt := by rw [g80, wI_ne _ _ _ (by decide)]
                have hK : kyOf h79 = (upd ((zSpill (evOf h) x4 (kyOf h)).1) x30.toNatClampNeg (0), upd ((zSpill (evOf h) x4 (kyOf h)).2.1) x30.toNatClampNeg x76, (zSpill (evOf h) x4 (kyOf h)).2.2.1, (zSpill (evOf h) x4 (kyOf h)).2.2.2) := by rw [g80, ky_108 (nlt ⟨by omega, by omega⟩), hK] <;> rfl
                have hE : evOf h79 = evOf h := by rw [g80, ev_o (by decide), hE]
                refine R_aload_n (k := 0) rfl rfl rfl ?_
                refine R_getf_r (j := 22) rfl ft_9_46 sh_96 rfl ?_
                refine R_iload_n (k := 3) rfl rfl rfl ?_
                refine R_iconst (-1) rfl rfl ?_
                refine K_iast (a := x4.toInt) (lo := (-2147483648)) (hi' := 2147483647) rfl sh_107 rfl ⟨by omega, by omega⟩ hI (by decide) rfl (by decide) fr (by decide) (fun h92 g93 hI fr => ?_)
                have s94 : (h92.1 96 18).toInt = (h79.1 96 18).toInt := by rw [g93, wI_ne _ _ _ (by decide)]
                have s95 : (h92.1 96 34).toInt = (h79.1 96 34).toInt := by rw [g93, wI_ne _ _ _ (by decide)]
                have s96 : (h92.1 96 41).toInt = (h79.1 96 41).toInt := by rw [g93, wI_ne _ _ _ (by decide)]
                have s97 : (h92.1 96 42).toInt = (h79.1 96 42).toInt := by rw [g93, wI_ne _ _ _ (by decide)]
                have s98 : (h92.1 96 19).toInt = (h79.1 96 19).toInt := by rw [g93, wI_ne _ _ _ (by decide)]
                have s99 : (h92.1 96 20).toInt = (h79.1 96 20).toInt := by rw [g93, wI_ne _ _ _ (by decide)]
                have s100 : (h92.1 96 46).toInt = (h79.1 96 46).toInt := by rw [g93, wI_ne _ _ _ (by decide)]
                have s101 : (h92.1 96 44).toInt = (h79.1 96 44).toInt := by rw [g93, wI_ne _ _ _ (by decide)]
                have s102 : (h92.1 96 47).toInt = (h79.1 96 47).toInt := by rw [g93, wI_ne _ _ _ (by decide)]
                have s103 : (h92.1 96 48).toInt = (h79.1 96 48).toInt := by rw [g93, wI_ne _ _ _ (by decide)]
                have s104 : (h92.1 96 51).toInt = (h79.1 96 51).toInt := by rw [g93, wI_ne _ _ _ (by decide)]
                have hK : kyOf h92 = (upd (upd ((zSpill (evOf h) x4 (kyOf h)).1) x30.toNatClampNeg (0)) x4.toNatClampNeg ((-1)), upd ((zSpill (evOf h) x4 (kyOf h)).2.1) x30.toNatClampNeg x76, (zSpill (evOf h) x4 (kyOf h)).2.2.1, (zSpill (evOf h) x4 (kyOf h)).2.2.2) := by rw [g93, ky_107 (nlt ⟨by omega, by omega⟩), hK] <;> rfl
                have hE : evOf h92 = evOf h := by rw [g93, ev_o (by decide), hE]
                refine R_aload_n (k := 0) rfl rfl rfl ?_
                refine R_getf_r (j := 23) rfl ft_9_49 sh_96 rfl ?_
                refine R_iload_n (k := 3) rfl rfl rfl ?_
                refine R_iconst 0 rfl rfl ?_
                refine K_iast (a := x4.toInt) (lo := (-2147483648)) (hi' := 2147483647) rfl sh_108 rfl ⟨by omega, by omega⟩ hI (by decide) rfl (by decide) fr (by decide) (fun h105 g106 hI fr => ?_)
                have s107 : (h105.1 96 18).toInt = (h92.1 96 18).toInt := by rw [g106, wI_ne _ _ _ (by decide)]
                have s108 : (h105.1 96 34).toInt = (h92.1 96 34).toInt := by rw [g106, wI_ne _ _ _ (by decide)]
                have s109 : (h105.1 96 41).toInt = (h92.1 96 41).toInt := by rw [g106, wI_ne _ _ _ (by decide)]
                have s110 : (h105.1 96 42).toInt = (h92.1 96 42).toInt := by rw [g106, wI_ne _ _ _ (by decide)]
                have s111 : (h105.1 96 19).toInt = (h92.1 96 19).toInt := by rw [g106, wI_ne _ _ _ (by decide)]
                have s112 : (h105.1 96 20).toInt = (h92.1 96 20).toInt := by rw [g106, wI_ne _ _ _ (by decide)]
                have s113 : (h105.1 96 46).toInt = (h92.1 96 46).toInt := by rw [g106, wI_ne _ _ _ (by decide)]
                have s114 : (h105.1 96 44).toInt = (h92.1 96 44).toInt := by rw [g106, wI_ne _ _ _ (by decide)]
                have s115 : (h105.1 96 47).toInt = (h92.1 96 47).toInt := by rw [g106, wI_ne _ _ _ (by decide)]
                have s116 : (h105.1 96 48).toInt = (h92.1 96 48).toInt := by rw [g106, wI_ne _ _ _ (by decide)]
                have s117 : (h105.1 96 51).toInt = (h92.1 96 51).toInt := by rw [g106, wI_ne _ _ _ (by decide)]
                have hK : kyOf h105 = (upd (upd ((zSpill (evOf h) x4 (kyOf h)).1) x30.toNatClampNeg (0)) x4.toNatClampNeg ((-1)), upd (upd ((zSpill (evOf h) x4 (kyOf h)).2.1) x30.toNatClampNeg x76) x4.toNatClampNeg (0), (zSpill (evOf h) x4 (kyOf h)).2.2.1, (zSpill (evOf h) x4 (kyOf h)).2.2.2) := by rw [g106, ky_108 (nlt ⟨by omega, by omega⟩), hK] <;> rfl
                have hE : evOf h105 = evOf h := by rw [g106, ev_o (by decide), hE]
                have hF : kyOf h105 = zPlace (evOf h) a0 a1 (kyOf h) := by
                  refine hK.trans ?_
                  subst e78 e36 e33 e28 e24 e13 e10 e7
                  simp only [zPlace, zPlace1, zThrow, zGive, ePace, eLine, eMany, eWorld] <;> (repeat' split) <;> first | (exfalso; omega) | rfl
                exact R_vret rfl rfl ⟨hI, fr, ⟨by omega, by omega, by omega, by omega, by omega, by omega, by omega, by omega, by omega, by omega, hF, hE, trivial⟩, rfl⟩
              · exfalso; omega
            · rw [hE] at zq42
              exfalso; omega
            · rw [hE] at zq42
              exfalso; omega
        · refine R_aload_n (k := 0) rfl rfl rfl ?_
          refine R_iload_n (k := 3) rfl rfl rfl ?_
          refine R_callV (v := .inr (.inr (.inl 96))) (As := [.inl x4]) (rest := []) rfl mt_9_i275 pp_X9_spill (by decide) rfl rfl rfl (Nat.le_of_ble_eq_true rfl) (Nat.le_of_ble_eq_true rfl) ((g_X9_spill h hI x4 (by omega)).mono (fun r118 h119 p120 => ?_))
          obtain ⟨hJ, fj, ⟨kp121, kp122, kp123, kp124, kp125, kp126, kp127, kp128, kp129, kp130, kp131, xq132, xq133, -⟩, rfl⟩ := p120
          have f134 := fj
          have fr := fr.trans fj (by decide)
          have hI := hJ
          have hK : kyOf h119 = zSpill (evOf h) x4 (kyOf h) := by rw [xq132, hE, hK]
          have hE : evOf h119 = evOf h := xq133.trans hE
          show RUN d_X9_goPlace 47 [(3, .inl x4), (0, .inr (.inr (.inl 96))), (1, .inl a0), (2, .inl a1)] [] h119 _
          refine R_aload_n (k := 0) rfl rfl rfl ?_
          refine R_dup_r rfl ?_
          refine R_getf_i (j := 35) rfl ft_9_265 sh_96 rfl ?_
          refine N_eq (fun x135 e136 => ?_)
          have e137 : x135 = (zSpill (evOf h) x4 (kyOf h)).2.2.2 := by rw [e136]; exact congrArg (fun q : KY => q.2.2.2) hK
          refine R_aload_n (k := 0) rfl rfl rfl ?_
          refine R_getf_r (j := 23) rfl ft_9_49 sh_96 rfl ?_
          refine R_iload_n (k := 3) rfl rfl rfl ?_
          refine R_iald rfl sh_108 ⟨by omega, by omega⟩ ?_
          refine N_eq (fun x138 e139 => ?_)
          have e140 : x138 = ((zSpill (evOf h) x4 (kyOf h)).2.1) x4.toNatClampNeg := by rw [e139]; exact (ky_at108 (nlt ⟨by omega, by omega⟩)).trans (congrFun (congrArg (fun q : KY => q.2.1) hK) _)
          have b141 := i_rng x135
          have b142 := i_rng x138
          refine R_iadd rfl ?_
          refine N_eq (fun x143 e144 => ?_)
          refine K_putf (j := 35) (lo := (-2147483648)) (hi' := 2147483647) rfl ft_9_265 sh_96 rfl hI (by decide) rfl (i_rng _) fr (by decide) (fun h145 g146 hI fr => ?_)
          have s147 : (h145.1 96 18).toInt = (h119.1 96 18).toInt := by rw [g146, wI_at (by decide)]
          have s148 : (h145.1 96 34).toInt = (h119.1 96 34).toInt := by rw [g146, wI_at (by decide)]
          have s149 : (h145.1 96 41).toInt = (h119.1 96 41).toInt := by rw [g146, wI_at (by decide)]
          have s150 : (h145.1 96 42).toInt = (h119.1 96 42).toInt := by rw [g146, wI_at (by decide)]
          have s151 : (h145.1 96 19).toInt = (h119.1 96 19).toInt := by rw [g146, wI_at (by decide)]
          have s152 : (h145.1 96 20).toInt = (h119.1 96 20).toInt := by rw [g146, wI_at (by decide)]
          have s153 : (h145.1 96 46).toInt = (h119.1 96 46).toInt := by rw [g146, wI_at (by decide)]
          have s154 : (h145.1 96 44).toInt = (h119.1 96 44).toInt := by rw [g146, wI_at (by decide)]
          have s155 : (h145.1 96 47).toInt = (h119.1 96 47).toInt := by rw [g146, wI_at (by decide)]
          have s156 : (h145.1 96 48).toInt = (h119.1 96 48).toInt := by rw [g146, wI_at (by decide)]
          have s157 : (h145.1 96 51).toInt = (h119.1 96 51).toInt := by rw [g146, wI_at (by decide)]
          have hK : kyOf h145 = ((zSpill (evOf h) x4 (kyOf h)).1, (zSpill (evOf h) x4 (kyOf h)).2.1, (zSpill (evOf h) x4 (kyOf h)).2.2.1, x143) := by rw [g146, ky_35, hK] <;> rfl
          have hE : evOf h145 = evOf h := by rw [g146, ev_s (by decide), hE]
          have s158 : (h145.1 96 35).toInt = x143.toInt := by rw [g146, wI_is]
          refine R_aload_n (k := 0) rfl rfl rfl ?_
          refine R_dup_r rfl ?_
          refine R_getf_i (j := 34) rfl ft_9_262 sh_96 rfl ?_
          refine R_iconst 1 rfl rfl ?_
          have b159 := i_rng (h145.1 96 34)
          refine R_iadd rfl ?_
          refine N_eq (fun x160 e161 => ?_)
          refine K_putf (j := 34) (lo := (-2147483648)) (hi' := 2147483647) rfl ft_9_262 sh_96 rfl hI (by decide) rfl (i_rng _) fr (by decide) (fun h162 g163 hI fr => ?_)
          have s164 : (h162.1 96 18).toInt = (h145.1 96 18).toInt := by rw [g163, wI_at (by decide)]
          have s165 : (h162.1 96 41).toInt = (h145.1 96 41).toInt := by rw [g163, wI_at (by decide)]
          have s166 : (h162.1 96 42).toInt = (h145.1 96 42).toInt := by rw [g163, wI_at (by decide)]
          have s167 : (h162.1 96 19).toInt = (h145.1 96 19).toInt := by rw [g163, wI_at (by decide)]
          have s168 : (h162.1 96 20).toInt = (h145.1 96 20).toInt := by rw [g163, wI_at (by decide)]
          have s169 : (h162.1 96 46).toInt = (h145.1 96 46).toInt := by rw [g163, wI_at (by decide)]
          have s170 : (h162.1 96 44).toInt = (h145.1 96 44).toInt := by rw [g163, wI_at (by decide)]
          have s171 : (h162.1 96 47).toInt = (h145.1 96 47).toInt := by rw [g163, wI_at (by decide)]
          have s172 : (h162.1 96 48).toInt = (h145.1 96 48).toInt := by rw [g163, wI_at (by decide)]
          have s173 : (h162.1 96 51).toInt = (h145.1 96 51).toInt := by rw [g163, wI_at (by decide)]
          have s174 : (h162.1 96 35).toInt = (h145.1 96 35).toInt := by rw [g163, wI_at (by decide)]
          have hK : kyOf h162 = ((zSpill (evOf h) x4 (kyOf h)).1, (zSpill (evOf h) x4 (kyOf h)).2.1, (zSpill (evOf h) x4 (kyOf h)).2.2.1, x143) := by rw [g163, ky_s (by decide), hK]
          have hE : evOf h162 = evOf h := by rw [g163, ev_s (by decide), hE]
          have s175 : (h162.1 96 34).toInt = x160.toInt := by rw [g163, wI_is]
          refine R_aload_n (k := 0) rfl rfl rfl ?_
          refine R_getf_r (j := 24) rfl ft_9_52 sh_96 rfl ?_
          refine R_aload_n (k := 0) rfl rfl rfl ?_
          refine R_getf_r (j := 1) rfl ft_9_9 sh_96 rfl ?_
          refine R_iconst 3 rfl rfl ?_
          refine R_iald rfl sh_97 (by decide) ?_
          refine N_eq (fun x176 e177 => ?_)
          have q178 : 0 ≤ x176.toInt ∧ x176.toInt ≤ 20 := by rw [e177]; exact hI.1 97 _
          have e179 : x176 = (evOf h).1 (3 : Int32).toNatClampNeg := by rw [e177]; exact congrFun (congrArg (fun q : EV => q.1) hE) _
          refine R_iconst 1 rfl rfl ?_
          refine R_iadd rfl ?_
          refine N_eq (fun x180 e181 => ?_)
          have q182 : x180.toInt = x176.toInt + 1 := by rw [e181]; exact i_add rfl (by decide) (by omega)
          refine R_dup2 rfl ?_
          refine R_iald rfl sh_109 ⟨by omega, by omega⟩ ?_
          refine N_eq (fun x183 e184 => ?_)
          have e185 : x183 = ((zSpill (evOf h) x4 (kyOf h)).2.2.1) x180.toNatClampNeg := by rw [e184]; exact (ky_at109 (nlt ⟨by omega, by omega⟩)).trans (congrFun (congrArg (fun q : KY => q.2.2.1) hK) _)
          refine R_iconst 1 rfl rfl ?_
          have b186 := i_rng x183
          refine R_iadd rfl ?_
          refine N_eq (fun x187 e188 => ?_)
          refine K_iast (a := x180.toInt) (lo := (-2147483648)) (hi' := 2147483647) rfl sh_109 rfl ⟨by omega, by omega⟩ hI (by decide) rfl (i_rng _) fr (by decide) (fun h189 g190 hI fr => ?_)
          have s191 : (h189.1 96 18).toInt = (h162.1 96 18).toInt := by rw [g190, wI_ne _ _ _ (by decide)]
          have s192 : (h189.1 96 41).toInt = (h162.1 96 41).toInt := by rw [g190, wI_ne _ _ _ (by decide)]
          have s193 : (h189.1 96 42).toInt = (h162.1 96 42).toInt := by rw [g190, wI_ne _ _ _ (by decide)]
          have s194 : (h189.1 96 19).toInt = (h162.1 96 19).toInt := by rw [g190, wI_ne _ _ _ (by decide)]
          have s195 : (h189.1 96 20).toInt = (h162.1 96 20).toInt := by rw [g190, wI_ne _ _ _ (by decide)]
          have s196 : (h189.1 96 46).toInt = (h162.1 96 46).toInt := by rw [g190, wI_ne _ _ _ (by decide)]
          have s197 : (h189.1 96 44).toInt = (h162.1 96 44).toInt := by rw [g190, wI_ne _ _ _ (by decide)]
          have s198 : (h189.1 96 47).toInt = (h162.1 96 47).toInt := by rw [g190, wI_ne _ _ _ (by decide)]
          have s199 : (h189.1 96 48).toInt = (h162.1 96 48).toInt := by rw [g190, wI_ne _ _ _ (by decide)]
          have s200 : (h189.1 96 51).toInt = (h162.1 96 51).toInt := by rw [g190, wI_ne _ _ _ (by decide)]
          have s201 : (h189.1 96 35).toInt = (h162.1 96 35).toInt := by rw [g190, wI_ne _ _ _ (by decide)]
          have s202 : (h189.1 96 34).toInt = (h162.1 96 34).toInt := by rw [g190, wI_ne _ _ _ (by decide)]
          have hK : kyOf h189 = ((zSpill (evOf h) x4 (kyOf h)).1, (zSpill (evOf h) x4 (kyOf h)).2.1, upd ((zSpill (evOf h) x4 (kyOf h)).2.2.1) x180.toNatClampNeg x187, x143) := by rw [g190, ky_109 (nlt ⟨by omega, by omega⟩), hK] <;> rfl
          have hE : evOf h189 = evOf h := by rw [g190, ev_o (by decide), hE]
          refine R_aload_n (k := 0) rfl rfl rfl ?_
          refine R_getf_r (j := 22) rfl ft_9_46 sh_96 rfl ?_
          refine R_iload_n (k := 3) rfl rfl rfl ?_
          refine R_iconst (-1) rfl rfl ?_
          refine K_iast (a := x4.toInt) (lo := (-2147483648)) (hi' := 2147483647) rfl sh_107 rfl ⟨by omega, by omega⟩ hI (by decide) rfl (by decide) fr (by decide) (fun h203 g204 hI fr => ?_)
          have s205 : (h203.1 96 18).toInt = (h189.1 96 18).toInt := by rw [g204, wI_ne _ _ _ (by decide)]
          have s206 : (h203.1 96 41).toInt = (h189.1 96 41).toInt := by rw [g204, wI_ne _ _ _ (by decide)]
          have s207 : (h203.1 96 42).toInt = (h189.1 96 42).toInt := by rw [g204, wI_ne _ _ _ (by decide)]
          have s208 : (h203.1 96 19).toInt = (h189.1 96 19).toInt := by rw [g204, wI_ne _ _ _ (by decide)]
          have s209 : (h203.1 96 20).toInt = (h189.1 96 20).toInt := by rw [g204, wI_ne _ _ _ (by decide)]
          have s210 : (h203.1 96 46).toInt = (h189.1 96 46).toInt := by rw [g204, wI_ne _ _ _ (by decide)]
          have s211 : (h203.1 96 44).toInt = (h189.1 96 44).toInt := by rw [g204, wI_ne _ _ _ (by decide)]
          have s212 : (h203.1 96 47).toInt = (h189.1 96 47).toInt := by rw [g204, wI_ne _ _ _ (by decide)]
          have s213 : (h203.1 96 48).toInt = (h189.1 96 48).toInt := by rw [g204, wI_ne _ _ _ (by decide)]
          have s214 : (h203.1 96 51).toInt = (h189.1 96 51).toInt := by rw [g204, wI_ne _ _ _ (by decide)]
          have s215 : (h203.1 96 35).toInt = (h189.1 96 35).toInt := by rw [g204, wI_ne _ _ _ (by decide)]
          have s216 : (h203.1 96 34).toInt = (h189.1 96 34).toInt := by rw [g204, wI_ne _ _ _ (by decide)]
          have hK : kyOf h203 = (upd ((zSpill (evOf h) x4 (kyOf h)).1) x4.toNatClampNeg ((-1)), (zSpill (evOf h) x4 (kyOf h)).2.1, upd ((zSpill (evOf h) x4 (kyOf h)).2.2.1) x180.toNatClampNeg x187, x143) := by rw [g204, ky_107 (nlt ⟨by omega, by omega⟩), hK] <;> rfl
          have hE : evOf h203 = evOf h := by rw [g204, ev_o (by decide), hE]
          refine R_aload_n (k := 0) rfl rfl rfl ?_
          refine R_getf_r (j := 23) rfl ft_9_49 sh_96 rfl ?_
          refine R_iload_n (k := 3) rfl rfl rfl ?_
          refine R_iconst 0 rfl rfl ?_
          refine K_iast (a := x4.toInt) (lo := (-2147483648)) (hi' := 2147483647) rfl sh_108 rfl ⟨by omega, by omega⟩ hI (by decide) rfl (by decide) fr (by decide) (fun h217 g218 hI fr => ?_)
          have s219 : (h217.1 96 18).toInt = (h203.1 96 18).toInt := by rw [g218, wI_ne _ _ _ (by decide)]
          have s220 : (h217.1 96 41).toInt = (h203.1 96 41).toInt := by rw [g218, wI_ne _ _ _ (by decide)]
          have s221 : (h217.1 96 42).toInt = (h203.1 96 42).toInt := by rw [g218, wI_ne _ _ _ (by decide)]
          have s222 : (h217.1 96 19).toInt = (h203.1 96 19).toInt := by rw [g218, wI_ne _ _ _ (by decide)]
          have s223 : (h217.1 96 20).toInt = (h203.1 96 20).toInt := by rw [g218, wI_ne _ _ _ (by decide)]
          have s224 : (h217.1 96 46).toInt = (h203.1 96 46).toInt := by rw [g218, wI_ne _ _ _ (by decide)]
          have s225 : (h217.1 96 44).toInt = (h203.1 96 44).toInt := by rw [g218, wI_ne _ _ _ (by decide)]
          have s226 : (h217.1 96 47).toInt = (h203.1 96 47).toInt := by rw [g218, wI_ne _ _ _ (by decide)]
          have s227 : (h217.1 96 48).toInt = (h203.1 96 48).toInt := by rw [g218, wI_ne _ _ _ (by decide)]
          have s228 : (h217.1 96 51).toInt = (h203.1 96 51).toInt := by rw [g218, wI_ne _ _ _ (by decide)]
          have s229 : (h217.1 96 35).toInt = (h203.1 96 35).toInt := by rw [g218, wI_ne _ _ _ (by decide)]
          have s230 : (h217.1 96 34).toInt = (h203.1 96 34).toInt := by rw [g218, wI_ne _ _ _ (by decide)]
          have hK : kyOf h217 = (upd ((zSpill (evOf h) x4 (kyOf h)).1) x4.toNatClampNeg ((-1)), upd ((zSpill (evOf h) x4 (kyOf h)).2.1) x4.toNatClampNeg (0), upd ((zSpill (evOf h) x4 (kyOf h)).2.2.1) x180.toNatClampNeg x187, x143) := by rw [g218, ky_108 (nlt ⟨by omega, by omega⟩), hK] <;> rfl
          have hE : evOf h217 = evOf h := by rw [g218, ev_o (by decide), hE]
          have hF : kyOf h217 = zPlace (evOf h) a0 a1 (kyOf h) := by
            refine hK.trans ?_
            subst e188 e185 e181 e179 e161 e144 e140 e137 e24 e13 e10 e7
            simp only [zPlace, zPlace1, zThrow, zGive, ePace, eLine, eMany, eWorld] <;> (repeat' split) <;> first | (exfalso; omega) | rfl
          exact R_vret rfl rfl ⟨hI, fr, ⟨by omega, by omega, by omega, by omega, by omega, by omega, by omega, by omega, by omega, by omega, hF, hE, trivial⟩, rfl⟩
      · exfalso; omega
    · rw [hE] at zq19
      show RUN d_X9_goPlace 28 [(3, .inl x4), (0, .inr (.inr (.inl 96))), (1, .inl a0), (2, .inl a1)] [.inl x20] h _
      refine N_if_eq (a := x20.toInt) 32 rfl rfl rfl (fun c231 => ?_) (fun c231 => ?_)
      · refine R_iload_n (k := 1) rfl rfl rfl ?_
        refine R_aload_n (k := 0) rfl rfl rfl ?_
        refine R_getf_i (j := 18) rfl ft_9_253 sh_96 rfl ?_
        refine R_iconst 1 rfl rfl ?_
        refine R_isub rfl ?_
        refine N_eq (fun x232 e233 => ?_)
        have q234 : x232.toInt = (h.1 96 18).toInt - 1 := by rw [e233]; exact i_sub rfl (by decide) (by omega)
        refine N_icmp_ne (a := a0.toInt) (b := x232.toInt) 104 rfl rfl rfl rfl (fun c235 => ?_) (fun c235 => ?_)
        · refine R_aload_n (k := 0) rfl rfl rfl ?_
          refine R_getf_r (j := 17) rfl ft_9_40 sh_96 rfl ?_
          refine R_iload_n (k := 1) rfl rfl rfl ?_
          refine R_iconst 1 rfl rfl ?_
          refine R_iadd rfl ?_
          refine N_eq (fun x236 e237 => ?_)
          have q238 : x236.toInt = a0.toInt + 1 := by rw [e237]; exact i_add rfl (by decide) (by omega)
          refine R_iald rfl sh_105 ⟨by omega, by omega⟩ ?_
          refine N_eq (fun x239 e240 => ?_)
          have q241 : 0 ≤ x239.toInt ∧ x239.toInt ≤ 5 := by rw [e240]; exact hI.1 105 _
          have e242 : x239 = (evOf h).2.2.2.1 x236.toNatClampNeg := by rw [e240]; exact congrFun (congrArg (fun q : EV => q.2.2.2.1) hE) _
          refine R_istore (k := 4) [(4, .inl x239), (3, .inl x4), (0, .inr (.inr (.inl 96))), (1, .inl a0), (2, .inl a1)] rfl rfl (by decide) ?_
          refine R_aload_n (k := 0) rfl rfl rfl ?_
          refine R_getf_r (j := 22) rfl ft_9_46 sh_96 rfl ?_
          refine R_iload (k := 4) rfl rfl ?_
          refine R_iald rfl sh_107 ⟨by omega, by omega⟩ ?_
          refine N_eq (fun x243 e244 => ?_)
          have e245 : x243 = ((kyOf h).1) x239.toNatClampNeg := by rw [e244]; exact (ky_at107 (nlt ⟨by omega, by omega⟩)).trans (congrFun (congrArg (fun q : KY => q.1) hK) _)
          refine R_iconst (-1) rfl rfl ?_
          refine N_icmp_ne (a := x243.toInt) (b := (-1)) 135 rfl rfl rfl (by decide) (fun c246 => ?_) (fun c246 => ?_)
          · have hF : kyOf h = zPlace (evOf h) a0 a1 (kyOf h) := by
              refine hK.trans ?_
              subst e245 e242 e237 e233 e13 e10 e7
              simp only [zPlace, zPlace1, zThrow, zGive, ePace, eLine, eMany, eWorld] <;> (repeat' split) <;> first | (exfalso; omega) | rfl
            exact R_vret rfl rfl ⟨hI, fr, ⟨by omega, by omega, by omega, by omega, by omega, by omega, by omega, by omega, by omega, by omega, hF, hE, trivial⟩, rfl⟩
          · refine R_aload_n (k := 0) rfl rfl rfl ?_
            refine R_iload (k := 4) rfl rfl ?_
            refine R_iload_n (k := 2) rfl rfl rfl ?_
            refine R_callV (v := .inr (.inr (.inl 96))) (As := [.inl x239, .inl a1]) (rest := []) rfl mt_9_i271 pp_X9_doesRest (by decide) rfl rfl rfl (Nat.le_of_ble_eq_true rfl) (Nat.le_of_ble_eq_true rfl) ((g_X9_doesRest h hI x239 a1 (by omega) (by omega)).mono (fun r247 h248 p249 => ?_))
            obtain ⟨rfl, x251, rfl, (q252 | q252 | q252), zq250, -⟩ := p249
            · rw [hE] at zq250
              exfalso; omega
            · rw [hE] at zq250
              show RUN d_X9_goPlace 132 [(4, .inl x239), (3, .inl x4), (0, .inr (.inr (.inl 96))), (1, .inl a0), (2, .inl a1)] [.inl x251] h _
              refine N_if_eq (a := x251.toInt) 136 rfl rfl rfl (fun c253 => ?_) (fun c253 => ?_)
              · refine R_aload_n (k := 0) rfl rfl rfl ?_
                refine R_iload_n (k := 3) rfl rfl rfl ?_
                refine R_callV (v := .inr (.inr (.inl 96))) (As := [.inl x4]) (rest := []) rfl mt_9_i275 pp_X9_spill (by decide) rfl rfl rfl (Nat.le_of_ble_eq_true rfl) (Nat.le_of_ble_eq_true rfl) ((g_X9_spill h hI x4 (by omega)).mono (fun r254 h255 p256 => ?_))
                obtain ⟨hJ, fj, ⟨kp257, kp258, kp259, kp260, kp261, kp262, kp263, kp264, kp265, kp266, kp267, xq268, xq269, -⟩, rfl⟩ := p256
                have f270 := fj
                have fr := fr.trans fj (by decide)
                have hI := hJ
                have hK : kyOf h255 = zSpill (evOf h) x4 (kyOf h) := by rw [xq268, hE, hK]
                have hE : evOf h255 = evOf h := xq269.trans hE
                show RUN d_X9_goPlace 141 [(4, .inl x239), (3, .inl x4), (0, .inr (.inr (.inl 96))), (1, .inl a0), (2, .inl a1)] [] h255 _
                refine R_aload_n (k := 0) rfl rfl rfl ?_
                refine R_getf_r (j := 22) rfl ft_9_46 sh_96 rfl ?_
                refine R_iload (k := 4) rfl rfl ?_
                refine R_iconst 0 rfl rfl ?_
                refine K_iast (a := x239.toInt) (lo := (-2147483648)) (hi' := 2147483647) rfl sh_107 rfl ⟨by omega, by omega⟩ hI (by decide) rfl (by decide) fr (by decide) (fun h271 g272 hI fr => ?_)
                have s273 : (h271.1 96 18).toInt = (h255.1 96 18).toInt := by rw [g272, wI_ne _ _ _ (by decide)]
                have s274 : (h271.1 96 34).toInt = (h255.1 96 34).toInt := by rw [g272, wI_ne _ _ _ (by decide)]
                have s275 : (h271.1 96 41).toInt = (h255.1 96 41).toInt := by rw [g272, wI_ne _ _ _ (by decide)]
                have s276 : (h271.1 96 42).toInt = (h255.1 96 42).toInt := by rw [g272, wI_ne _ _ _ (by decide)]
                have s277 : (h271.1 96 19).toInt = (h255.1 96 19).toInt := by rw [g272, wI_ne _ _ _ (by decide)]
                have s278 : (h271.1 96 20).toInt = (h255.1 96 20).toInt := by rw [g272, wI_ne _ _ _ (by decide)]
                have s279 : (h271.1 96 46).toInt = (h255.1 96 46).toInt := by rw [g272, wI_ne _ _ _ (by decide)]
                have s280 : (h271.1 96 44).toInt = (h255.1 96 44).toInt := by rw [g272, wI_ne _ _ _ (by decide)]
                have s281 : (h271.1 96 47).toInt = (h255.1 96 47).toInt := by rw [g272, wI_ne _ _ _ (by decide)]
                have s282 : (h271.1 96 48).toInt = (h255.1 96 48).toInt := by rw [g272, wI_ne _ _ _ (by decide)]
                have s283 : (h271.1 96 51).toInt = (h255.1 96 51).toInt := by rw [g272, wI_ne _ _ _ (by decide)]
                have hK : kyOf h271 = (upd ((zSpill (evOf h) x4 (kyOf h)).1) x239.toNatClampNeg (0), (zSpill (evOf h) x4 (kyOf h)).2.1, (zSpill (evOf h) x4 (kyOf h)).2.2.1, (zSpill (evOf h) x4 (kyOf h)).2.2.2) := by rw [g272, ky_107 (nlt ⟨by omega, by omega⟩), hK] <;> rfl
                have hE : evOf h271 = evOf h := by rw [g272, ev_o (by decide), hE]
                refine R_aload_n (k := 0) rfl rfl rfl ?_
                refine R_getf_r (j := 23) rfl ft_9_49 sh_96 rfl ?_
                refine R_iload (k := 4) rfl rfl ?_
                refine R_aload_n (k := 0) rfl rfl rfl ?_
                refine R_getf_r (j := 23) rfl ft_9_49 sh_96 rfl ?_
                refine R_iload_n (k := 3) rfl rfl rfl ?_
                refine R_iald rfl sh_108 ⟨by omega, by omega⟩ ?_
                refine N_eq (fun x284 e285 => ?_)
                have e286 : x284 = ((zSpill (evOf h) x4 (kyOf h)).2.1) x4.toNatClampNeg := by rw [e285]; exact (ky_at108 (nlt ⟨by omega, by omega⟩)).trans (congrFun (congrArg (fun q : KY => q.2.1) hK) _)
                refine K_iast (a := x239.toInt) (lo := (-2147483648)) (hi' := 2147483647) rfl sh_108 rfl ⟨by omega, by omega⟩ hI (by decide) rfl (i_rng _) fr (by decide) (fun h287 g288 hI fr => ?_)
                have s289 : (h287.1 96 18).toInt = (h271.1 96 18).toInt := by rw [g288, wI_ne _ _ _ (by decide)]
                have s290 : (h287.1 96 34).toInt = (h271.1 96 34).toInt := by rw [g288, wI_ne _ _ _ (by decide)]
                have s291 : (h287.1 96 41).toInt = (h271.1 96 41).toInt := by rw [g288, wI_ne _ _ _ (by decide)]
                have s292 : (h287.1 96 42).toInt = (h271.1 96 42).toInt := by rw [g288, wI_ne _ _ _ (by decide)]
                have s293 : (h287.1 96 19).toInt = (h271.1 96 19).toInt := by rw [g288, wI_ne _ _ _ (by decide)]
                have s294 : (h287.1 96 20).toInt = (h271.1 96 20).toInt := by rw [g288, wI_ne _ _ _ (by decide)]
                have s295 : (h287.1 96 46).toInt = (h271.1 96 46).toInt := by rw [g288, wI_ne _ _ _ (by decide)]
                have s296 : (h287.1 96 44).toInt = (h271.1 96 44).toInt := by rw [g288, wI_ne _ _ _ (by decide)]
                have s297 : (h287.1 96 47).toInt = (h271.1 96 47).toInt := by rw [g288, wI_ne _ _ _ (by decide)]
                have s298 : (h287.1 96 48).toInt = (h271.1 96 48).toInt := by rw [g288, wI_ne _ _ _ (by decide)]
                have s299 : (h287.1 96 51).toInt = (h271.1 96 51).toInt := by rw [g288, wI_ne _ _ _ (by decide)]
                have hK : kyOf h287 = (upd ((zSpill (evOf h) x4 (kyOf h)).1) x239.toNatClampNeg (0), upd ((zSpill (evOf h) x4 (kyOf h)).2.1) x239.toNatClampNeg x284, (zSpill (evOf h) x4 (kyOf h)).2.2.1, (zSpill (evOf h) x4 (kyOf h)).2.2.2) := by rw [g288, ky_108 (nlt ⟨by omega, by omega⟩), hK] <;> rfl
                have hE : evOf h287 = evOf h := by rw [g288, ev_o (by decide), hE]
                refine R_aload_n (k := 0) rfl rfl rfl ?_
                refine R_getf_r (j := 22) rfl ft_9_46 sh_96 rfl ?_
                refine R_iload_n (k := 3) rfl rfl rfl ?_
                refine R_iconst (-1) rfl rfl ?_
                refine K_iast (a := x4.toInt) (lo := (-2147483648)) (hi' := 2147483647) rfl sh_107 rfl ⟨by omega, by omega⟩ hI (by decide) rfl (by decide) fr (by decide) (fun h300 g301 hI fr => ?_)
                have s302 : (h300.1 96 18).toInt = (h287.1 96 18).toInt := by rw [g301, wI_ne _ _ _ (by decide)]
                have s303 : (h300.1 96 34).toInt = (h287.1 96 34).toInt := by rw [g301, wI_ne _ _ _ (by decide)]
                have s304 : (h300.1 96 41).toInt = (h287.1 96 41).toInt := by rw [g301, wI_ne _ _ _ (by decide)]
                have s305 : (h300.1 96 42).toInt = (h287.1 96 42).toInt := by rw [g301, wI_ne _ _ _ (by decide)]
                have s306 : (h300.1 96 19).toInt = (h287.1 96 19).toInt := by rw [g301, wI_ne _ _ _ (by decide)]
                have s307 : (h300.1 96 20).toInt = (h287.1 96 20).toInt := by rw [g301, wI_ne _ _ _ (by decide)]
                have s308 : (h300.1 96 46).toInt = (h287.1 96 46).toInt := by rw [g301, wI_ne _ _ _ (by decide)]
                have s309 : (h300.1 96 44).toInt = (h287.1 96 44).toInt := by rw [g301, wI_ne _ _ _ (by decide)]
                have s310 : (h300.1 96 47).toInt = (h287.1 96 47).toInt := by rw [g301, wI_ne _ _ _ (by decide)]
                have s311 : (h300.1 96 48).toInt = (h287.1 96 48).toInt := by rw [g301, wI_ne _ _ _ (by decide)]
                have s312 : (h300.1 96 51).toInt = (h287.1 96 51).toInt := by rw [g301, wI_ne _ _ _ (by decide)]
                have hK : kyOf h300 = (upd (upd ((zSpill (evOf h) x4 (kyOf h)).1) x239.toNatClampNeg (0)) x4.toNatClampNeg ((-1)), upd ((zSpill (evOf h) x4 (kyOf h)).2.1) x239.toNatClampNeg x284, (zSpill (evOf h) x4 (kyOf h)).2.2.1, (zSpill (evOf h) x4 (kyOf h)).2.2.2) := by rw [g301, ky_107 (nlt ⟨by omega, by omega⟩), hK] <;> rfl
                have hE : evOf h300 = evOf h := by rw [g301, ev_o (by decide), hE]
                refine R_aload_n (k := 0) rfl rfl rfl ?_
                refine R_getf_r (j := 23) rfl ft_9_49 sh_96 rfl ?_
                refine R_iload_n (k := 3) rfl rfl rfl ?_
                refine R_iconst 0 rfl rfl ?_
                refine K_iast (a := x4.toInt) (lo := (-2147483648)) (hi' := 2147483647) rfl sh_108 rfl ⟨by omega, by omega⟩ hI (by decide) rfl (by decide) fr (by decide) (fun h313 g314 hI fr => ?_)
                have s315 : (h313.1 96 18).toInt = (h300.1 96 18).toInt := by rw [g314, wI_ne _ _ _ (by decide)]
                have s316 : (h313.1 96 34).toInt = (h300.1 96 34).toInt := by rw [g314, wI_ne _ _ _ (by decide)]
                have s317 : (h313.1 96 41).toInt = (h300.1 96 41).toInt := by rw [g314, wI_ne _ _ _ (by decide)]
                have s318 : (h313.1 96 42).toInt = (h300.1 96 42).toInt := by rw [g314, wI_ne _ _ _ (by decide)]
                have s319 : (h313.1 96 19).toInt = (h300.1 96 19).toInt := by rw [g314, wI_ne _ _ _ (by decide)]
                have s320 : (h313.1 96 20).toInt = (h300.1 96 20).toInt := by rw [g314, wI_ne _ _ _ (by decide)]
                have s321 : (h313.1 96 46).toInt = (h300.1 96 46).toInt := by rw [g314, wI_ne _ _ _ (by decide)]
                have s322 : (h313.1 96 44).toInt = (h300.1 96 44).toInt := by rw [g314, wI_ne _ _ _ (by decide)]
                have s323 : (h313.1 96 47).toInt = (h300.1 96 47).toInt := by rw [g314, wI_ne _ _ _ (by decide)]
                have s324 : (h313.1 96 48).toInt = (h300.1 96 48).toInt := by rw [g314, wI_ne _ _ _ (by decide)]
                have s325 : (h313.1 96 51).toInt = (h300.1 96 51).toInt := by rw [g314, wI_ne _ _ _ (by decide)]
                have hK : kyOf h313 = (upd (upd ((zSpill (evOf h) x4 (kyOf h)).1) x239.toNatClampNeg (0)) x4.toNatClampNeg ((-1)), upd (upd ((zSpill (evOf h) x4 (kyOf h)).2.1) x239.toNatClampNeg x284) x4.toNatClampNeg (0), (zSpill (evOf h) x4 (kyOf h)).2.2.1, (zSpill (evOf h) x4 (kyOf h)).2.2.2) := by rw [g314, ky_108 (nlt ⟨by omega, by omega⟩), hK] <;> rfl
                have hE : evOf h313 = evOf h := by rw [g314, ev_o (by decide), hE]
                have hF : kyOf h313 = zPlace (evOf h) a0 a1 (kyOf h) := by
                  refine hK.trans ?_
                  subst e286 e245 e242 e237 e233 e13 e10 e7
                  simp only [zPlace, zPlace1, zThrow, zGive, ePace, eLine, eMany, eWorld] <;> (repeat' split) <;> first | (exfalso; omega) | rfl
                exact R_vret rfl rfl ⟨hI, fr, ⟨by omega, by omega, by omega, by omega, by omega, by omega, by omega, by omega, by omega, by omega, hF, hE, trivial⟩, rfl⟩
              · exfalso; omega
            · rw [hE] at zq250
              show RUN d_X9_goPlace 132 [(4, .inl x239), (3, .inl x4), (0, .inr (.inr (.inl 96))), (1, .inl a0), (2, .inl a1)] [.inl x251] h _
              refine N_if_eq (a := x251.toInt) 136 rfl rfl rfl (fun c326 => ?_) (fun c326 => ?_)
              · exfalso; omega
              · have hF : kyOf h = zPlace (evOf h) a0 a1 (kyOf h) := by
                  refine hK.trans ?_
                  subst e245 e242 e237 e233 e13 e10 e7
                  simp only [zPlace, zPlace1, zThrow, zGive, ePace, eLine, eMany, eWorld] <;> (repeat' split) <;> first | (exfalso; omega) | rfl
                exact R_vret rfl rfl ⟨hI, fr, ⟨by omega, by omega, by omega, by omega, by omega, by omega, by omega, by omega, by omega, by omega, hF, hE, trivial⟩, rfl⟩
        · refine R_aload_n (k := 0) rfl rfl rfl ?_
          refine R_iload_n (k := 3) rfl rfl rfl ?_
          refine R_callV (v := .inr (.inr (.inl 96))) (As := [.inl x4]) (rest := []) rfl mt_9_i275 pp_X9_spill (by decide) rfl rfl rfl (Nat.le_of_ble_eq_true rfl) (Nat.le_of_ble_eq_true rfl) ((g_X9_spill h hI x4 (by omega)).mono (fun r327 h328 p329 => ?_))
          obtain ⟨hJ, fj, ⟨kp330, kp331, kp332, kp333, kp334, kp335, kp336, kp337, kp338, kp339, kp340, xq341, xq342, -⟩, rfl⟩ := p329
          have f343 := fj
          have fr := fr.trans fj (by decide)
          have hI := hJ
          have hK : kyOf h328 = zSpill (evOf h) x4 (kyOf h) := by rw [xq341, hE, hK]
          have hE : evOf h328 = evOf h := xq342.trans hE
          show RUN d_X9_goPlace 47 [(3, .inl x4), (0, .inr (.inr (.inl 96))), (1, .inl a0), (2, .inl a1)] [] h328 _
          refine R_aload_n (k := 0) rfl rfl rfl ?_
          refine R_dup_r rfl ?_
          refine R_getf_i (j := 35) rfl ft_9_265 sh_96 rfl ?_
          refine N_eq (fun x344 e345 => ?_)
          have e346 : x344 = (zSpill (evOf h) x4 (kyOf h)).2.2.2 := by rw [e345]; exact congrArg (fun q : KY => q.2.2.2) hK
          refine R_aload_n (k := 0) rfl rfl rfl ?_
          refine R_getf_r (j := 23) rfl ft_9_49 sh_96 rfl ?_
          refine R_iload_n (k := 3) rfl rfl rfl ?_
          refine R_iald rfl sh_108 ⟨by omega, by omega⟩ ?_
          refine N_eq (fun x347 e348 => ?_)
          have e349 : x347 = ((zSpill (evOf h) x4 (kyOf h)).2.1) x4.toNatClampNeg := by rw [e348]; exact (ky_at108 (nlt ⟨by omega, by omega⟩)).trans (congrFun (congrArg (fun q : KY => q.2.1) hK) _)
          have b350 := i_rng x344
          have b351 := i_rng x347
          refine R_iadd rfl ?_
          refine N_eq (fun x352 e353 => ?_)
          refine K_putf (j := 35) (lo := (-2147483648)) (hi' := 2147483647) rfl ft_9_265 sh_96 rfl hI (by decide) rfl (i_rng _) fr (by decide) (fun h354 g355 hI fr => ?_)
          have s356 : (h354.1 96 18).toInt = (h328.1 96 18).toInt := by rw [g355, wI_at (by decide)]
          have s357 : (h354.1 96 34).toInt = (h328.1 96 34).toInt := by rw [g355, wI_at (by decide)]
          have s358 : (h354.1 96 41).toInt = (h328.1 96 41).toInt := by rw [g355, wI_at (by decide)]
          have s359 : (h354.1 96 42).toInt = (h328.1 96 42).toInt := by rw [g355, wI_at (by decide)]
          have s360 : (h354.1 96 19).toInt = (h328.1 96 19).toInt := by rw [g355, wI_at (by decide)]
          have s361 : (h354.1 96 20).toInt = (h328.1 96 20).toInt := by rw [g355, wI_at (by decide)]
          have s362 : (h354.1 96 46).toInt = (h328.1 96 46).toInt := by rw [g355, wI_at (by decide)]
          have s363 : (h354.1 96 44).toInt = (h328.1 96 44).toInt := by rw [g355, wI_at (by decide)]
          have s364 : (h354.1 96 47).toInt = (h328.1 96 47).toInt := by rw [g355, wI_at (by decide)]
          have s365 : (h354.1 96 48).toInt = (h328.1 96 48).toInt := by rw [g355, wI_at (by decide)]
          have s366 : (h354.1 96 51).toInt = (h328.1 96 51).toInt := by rw [g355, wI_at (by decide)]
          have hK : kyOf h354 = ((zSpill (evOf h) x4 (kyOf h)).1, (zSpill (evOf h) x4 (kyOf h)).2.1, (zSpill (evOf h) x4 (kyOf h)).2.2.1, x352) := by rw [g355, ky_35, hK] <;> rfl
          have hE : evOf h354 = evOf h := by rw [g355, ev_s (by decide), hE]
          have s367 : (h354.1 96 35).toInt = x352.toInt := by rw [g355, wI_is]
          refine R_aload_n (k := 0) rfl rfl rfl ?_
          refine R_dup_r rfl ?_
          refine R_getf_i (j := 34) rfl ft_9_262 sh_96 rfl ?_
          refine R_iconst 1 rfl rfl ?_
          have b368 := i_rng (h354.1 96 34)
          refine R_iadd rfl ?_
          refine N_eq (fun x369 e370 => ?_)
          refine K_putf (j := 34) (lo := (-2147483648)) (hi' := 2147483647) rfl ft_9_262 sh_96 rfl hI (by decide) rfl (i_rng _) fr (by decide) (fun h371 g372 hI fr => ?_)
          have s373 : (h371.1 96 18).toInt = (h354.1 96 18).toInt := by rw [g372, wI_at (by decide)]
          have s374 : (h371.1 96 41).toInt = (h354.1 96 41).toInt := by rw [g372, wI_at (by decide)]
          have s375 : (h371.1 96 42).toInt = (h354.1 96 42).toInt := by rw [g372, wI_at (by decide)]
          have s376 : (h371.1 96 19).toInt = (h354.1 96 19).toInt := by rw [g372, wI_at (by decide)]
          have s377 : (h371.1 96 20).toInt = (h354.1 96 20).toInt := by rw [g372, wI_at (by decide)]
          have s378 : (h371.1 96 46).toInt = (h354.1 96 46).toInt := by rw [g372, wI_at (by decide)]
          have s379 : (h371.1 96 44).toInt = (h354.1 96 44).toInt := by rw [g372, wI_at (by decide)]
          have s380 : (h371.1 96 47).toInt = (h354.1 96 47).toInt := by rw [g372, wI_at (by decide)]
          have s381 : (h371.1 96 48).toInt = (h354.1 96 48).toInt := by rw [g372, wI_at (by decide)]
          have s382 : (h371.1 96 51).toInt = (h354.1 96 51).toInt := by rw [g372, wI_at (by decide)]
          have s383 : (h371.1 96 35).toInt = (h354.1 96 35).toInt := by rw [g372, wI_at (by decide)]
          have hK : kyOf h371 = ((zSpill (evOf h) x4 (kyOf h)).1, (zSpill (evOf h) x4 (kyOf h)).2.1, (zSpill (evOf h) x4 (kyOf h)).2.2.1, x352) := by rw [g372, ky_s (by decide), hK]
          have hE : evOf h371 = evOf h := by rw [g372, ev_s (by decide), hE]
          have s384 : (h371.1 96 34).toInt = x369.toInt := by rw [g372, wI_is]
          refine R_aload_n (k := 0) rfl rfl rfl ?_
          refine R_getf_r (j := 24) rfl ft_9_52 sh_96 rfl ?_
          refine R_aload_n (k := 0) rfl rfl rfl ?_
          refine R_getf_r (j := 1) rfl ft_9_9 sh_96 rfl ?_
          refine R_iconst 3 rfl rfl ?_
          refine R_iald rfl sh_97 (by decide) ?_
          refine N_eq (fun x385 e386 => ?_)
          have q387 : 0 ≤ x385.toInt ∧ x385.toInt ≤ 20 := by rw [e386]; exact hI.1 97 _
          have e388 : x385 = (evOf h).1 (3 : Int32).toNatClampNeg := by rw [e386]; exact congrFun (congrArg (fun q : EV => q.1) hE) _
          refine R_iconst 1 rfl rfl ?_
          refine R_iadd rfl ?_
          refine N_eq (fun x389 e390 => ?_)
          have q391 : x389.toInt = x385.toInt + 1 := by rw [e390]; exact i_add rfl (by decide) (by omega)
          refine R_dup2 rfl ?_
          refine R_iald rfl sh_109 ⟨by omega, by omega⟩ ?_
          refine N_eq (fun x392 e393 => ?_)
          have e394 : x392 = ((zSpill (evOf h) x4 (kyOf h)).2.2.1) x389.toNatClampNeg := by rw [e393]; exact (ky_at109 (nlt ⟨by omega, by omega⟩)).trans (congrFun (congrArg (fun q : KY => q.2.2.1) hK) _)
          refine R_iconst 1 rfl rfl ?_
          have b395 := i_rng x392
          refine R_iadd rfl ?_
          refine N_eq (fun x396 e397 => ?_)
          refine K_iast (a := x389.toInt) (lo := (-2147483648)) (hi' := 2147483647) rfl sh_109 rfl ⟨by omega, by omega⟩ hI (by decide) rfl (i_rng _) fr (by decide) (fun h398 g399 hI fr => ?_)
          have s400 : (h398.1 96 18).toInt = (h371.1 96 18).toInt := by rw [g399, wI_ne _ _ _ (by decide)]
          have s401 : (h398.1 96 41).toInt = (h371.1 96 41).toInt := by rw [g399, wI_ne _ _ _ (by decide)]
          have s402 : (h398.1 96 42).toInt = (h371.1 96 42).toInt := by rw [g399, wI_ne _ _ _ (by decide)]
          have s403 : (h398.1 96 19).toInt = (h371.1 96 19).toInt := by rw [g399, wI_ne _ _ _ (by decide)]
          have s404 : (h398.1 96 20).toInt = (h371.1 96 20).toInt := by rw [g399, wI_ne _ _ _ (by decide)]
          have s405 : (h398.1 96 46).toInt = (h371.1 96 46).toInt := by rw [g399, wI_ne _ _ _ (by decide)]
          have s406 : (h398.1 96 44).toInt = (h371.1 96 44).toInt := by rw [g399, wI_ne _ _ _ (by decide)]
          have s407 : (h398.1 96 47).toInt = (h371.1 96 47).toInt := by rw [g399, wI_ne _ _ _ (by decide)]
          have s408 : (h398.1 96 48).toInt = (h371.1 96 48).toInt := by rw [g399, wI_ne _ _ _ (by decide)]
          have s409 : (h398.1 96 51).toInt = (h371.1 96 51).toInt := by rw [g399, wI_ne _ _ _ (by decide)]
          have s410 : (h398.1 96 35).toInt = (h371.1 96 35).toInt := by rw [g399, wI_ne _ _ _ (by decide)]
          have s411 : (h398.1 96 34).toInt = (h371.1 96 34).toInt := by rw [g399, wI_ne _ _ _ (by decide)]
          have hK : kyOf h398 = ((zSpill (evOf h) x4 (kyOf h)).1, (zSpill (evOf h) x4 (kyOf h)).2.1, upd ((zSpill (evOf h) x4 (kyOf h)).2.2.1) x389.toNatClampNeg x396, x352) := by rw [g399, ky_109 (nlt ⟨by omega, by omega⟩), hK] <;> rfl
          have hE : evOf h398 = evOf h := by rw [g399, ev_o (by decide), hE]
          refine R_aload_n (k := 0) rfl rfl rfl ?_
          refine R_getf_r (j := 22) rfl ft_9_46 sh_96 rfl ?_
          refine R_iload_n (k := 3) rfl rfl rfl ?_
          refine R_iconst (-1) rfl rfl ?_
          refine K_iast (a := x4.toInt) (lo := (-2147483648)) (hi' := 2147483647) rfl sh_107 rfl ⟨by omega, by omega⟩ hI (by decide) rfl (by decide) fr (by decide) (fun h412 g413 hI fr => ?_)
          have s414 : (h412.1 96 18).toInt = (h398.1 96 18).toInt := by rw [g413, wI_ne _ _ _ (by decide)]
          have s415 : (h412.1 96 41).toInt = (h398.1 96 41).toInt := by rw [g413, wI_ne _ _ _ (by decide)]
          have s416 : (h412.1 96 42).toInt = (h398.1 96 42).toInt := by rw [g413, wI_ne _ _ _ (by decide)]
          have s417 : (h412.1 96 19).toInt = (h398.1 96 19).toInt := by rw [g413, wI_ne _ _ _ (by decide)]
          have s418 : (h412.1 96 20).toInt = (h398.1 96 20).toInt := by rw [g413, wI_ne _ _ _ (by decide)]
          have s419 : (h412.1 96 46).toInt = (h398.1 96 46).toInt := by rw [g413, wI_ne _ _ _ (by decide)]
          have s420 : (h412.1 96 44).toInt = (h398.1 96 44).toInt := by rw [g413, wI_ne _ _ _ (by decide)]
          have s421 : (h412.1 96 47).toInt = (h398.1 96 47).toInt := by rw [g413, wI_ne _ _ _ (by decide)]
          have s422 : (h412.1 96 48).toInt = (h398.1 96 48).toInt := by rw [g413, wI_ne _ _ _ (by decide)]
          have s423 : (h412.1 96 51).toInt = (h398.1 96 51).toInt := by rw [g413, wI_ne _ _ _ (by decide)]
          have s424 : (h412.1 96 35).toInt = (h398.1 96 35).toInt := by rw [g413, wI_ne _ _ _ (by decide)]
          have s425 : (h412.1 96 34).toInt = (h398.1 96 34).toInt := by rw [g413, wI_ne _ _ _ (by decide)]
          have hK : kyOf h412 = (upd ((zSpill (evOf h) x4 (kyOf h)).1) x4.toNatClampNeg ((-1)), (zSpill (evOf h) x4 (kyOf h)).2.1, upd ((zSpill (evOf h) x4 (kyOf h)).2.2.1) x389.toNatClampNeg x396, x352) := by rw [g413, ky_107 (nlt ⟨by omega, by omega⟩), hK] <;> rfl
          have hE : evOf h412 = evOf h := by rw [g413, ev_o (by decide), hE]
          refine R_aload_n (k := 0) rfl rfl rfl ?_
          refine R_getf_r (j := 23) rfl ft_9_49 sh_96 rfl ?_
          refine R_iload_n (k := 3) rfl rfl rfl ?_
          refine R_iconst 0 rfl rfl ?_
          refine K_iast (a := x4.toInt) (lo := (-2147483648)) (hi' := 2147483647) rfl sh_108 rfl ⟨by omega, by omega⟩ hI (by decide) rfl (by decide) fr (by decide) (fun h426 g427 hI fr => ?_)
          have s428 : (h426.1 96 18).toInt = (h412.1 96 18).toInt := by rw [g427, wI_ne _ _ _ (by decide)]
          have s429 : (h426.1 96 41).toInt = (h412.1 96 41).toInt := by rw [g427, wI_ne _ _ _ (by decide)]
          have s430 : (h426.1 96 42).toInt = (h412.1 96 42).toInt := by rw [g427, wI_ne _ _ _ (by decide)]
          have s431 : (h426.1 96 19).toInt = (h412.1 96 19).toInt := by rw [g427, wI_ne _ _ _ (by decide)]
          have s432 : (h426.1 96 20).toInt = (h412.1 96 20).toInt := by rw [g427, wI_ne _ _ _ (by decide)]
          have s433 : (h426.1 96 46).toInt = (h412.1 96 46).toInt := by rw [g427, wI_ne _ _ _ (by decide)]
          have s434 : (h426.1 96 44).toInt = (h412.1 96 44).toInt := by rw [g427, wI_ne _ _ _ (by decide)]
          have s435 : (h426.1 96 47).toInt = (h412.1 96 47).toInt := by rw [g427, wI_ne _ _ _ (by decide)]
          have s436 : (h426.1 96 48).toInt = (h412.1 96 48).toInt := by rw [g427, wI_ne _ _ _ (by decide)]
          have s437 : (h426.1 96 51).toInt = (h412.1 96 51).toInt := by rw [g427, wI_ne _ _ _ (by decide)]
          have s438 : (h426.1 96 35).toInt = (h412.1 96 35).toInt := by rw [g427, wI_ne _ _ _ (by decide)]
          have s439 : (h426.1 96 34).toInt = (h412.1 96 34).toInt := by rw [g427, wI_ne _ _ _ (by decide)]
          have hK : kyOf h426 = (upd ((zSpill (evOf h) x4 (kyOf h)).1) x4.toNatClampNeg ((-1)), upd ((zSpill (evOf h) x4 (kyOf h)).2.1) x4.toNatClampNeg (0), upd ((zSpill (evOf h) x4 (kyOf h)).2.2.1) x389.toNatClampNeg x396, x352) := by rw [g427, ky_108 (nlt ⟨by omega, by omega⟩), hK] <;> rfl
          have hE : evOf h426 = evOf h := by rw [g427, ev_o (by decide), hE]
          have hF : kyOf h426 = zPlace (evOf h) a0 a1 (kyOf h) := by
            refine hK.trans ?_
            subst e397 e394 e390 e388 e370 e353 e349 e346 e233 e13 e10 e7
            simp only [zPlace, zPlace1, zThrow, zGive, ePace, eLine, eMany, eWorld] <;> (repeat' split) <;> first | (exfalso; omega) | rfl
          exact R_vret rfl rfl ⟨hI, fr, ⟨by omega, by omega, by omega, by omega, by omega, by omega, by omega, by omega, by omega, by omega, hF, hE, trivial⟩, rfl⟩
      · exfalso; omega
    · rw [hE] at zq19
      show RUN d_X9_goPlace 28 [(3, .inl x4), (0, .inr (.inr (.inl 96))), (1, .inl a0), (2, .inl a1)] [.inl x20] h _
      refine N_if_eq (a := x20.toInt) 32 rfl rfl rfl (fun c440 => ?_) (fun c440 => ?_)
      · exfalso; omega
      · have hF : kyOf h = zPlace (evOf h) a0 a1 (kyOf h) := by
          refine hK.trans ?_
          subst e13 e10 e7
          simp only [zPlace, zPlace1, zThrow, zGive, ePace, eLine, eMany, eWorld] <;> (repeat' split) <;> first | (exfalso; omega) | rfl
        exact R_vret rfl rfl ⟨hI, fr, ⟨by omega, by omega, by omega, by omega, by omega, by omega, by omega, by omega, by omega, by omega, hF, hE, trivial⟩, rfl⟩

abbrev qg_X9_goSecond (h : PH) (a0 : Int32) (a1 : Int32) : Option PV → PH → Prop := fun r h' => INV h' ∧ FR [96, 107, 108, 109, 117, 118] h h' ∧ ((h'.1 96 41).toInt = (h.1 96 41).toInt ∧ (h'.1 96 42).toInt = (h.1 96 42).toInt ∧ (h'.1 96 19).toInt = (h.1 96 19).toInt ∧ (h'.1 96 18).toInt = (h.1 96 18).toInt ∧ (h'.1 96 20).toInt = (h.1 96 20).toInt ∧ (h'.1 96 46).toInt = (h.1 96 46).toInt ∧ (h'.1 96 44).toInt = (h.1 96 44).toInt ∧ (h'.1 96 47).toInt = (h.1 96 47).toInt ∧ (h'.1 96 48).toInt = (h.1 96 48).toInt ∧ (h'.1 96 51).toInt = (h.1 96 51).toInt ∧ (kyOf h' = zSecond (evOf h) a0 a1 (kyOf h)) ∧ (evOf h' = evOf h) ∧ True) ∧ r = none
set_option maxHeartbeats 4000000 in
set_option maxRecDepth 100000 in
theorem g_X9_goSecond (h : PH) (hI : INV h) (a0 : Int32) (a1 : Int32) (h0a : 0 ≤ a0.toInt ∧ a0.toInt ≤ 2147483647) : CALL d_X9_goSecond [.inr (.inr (.inl 96)), .inl a0, .inl a1] h (qg_X9_goSecond h a0 a1) := by
  show RUN d_X9_goSecond 0 [(0, .inr (.inr (.inl 96))), (1, .inl a0), (2, .inl a1)] [] h _
  have b1 := i_rng a1
  have fr : FR [96, 107, 108, 109, 117, 118] h h := FR.rf _ _
  have hK : kyOf h = kyOf h := rfl
  have hE : evOf h = evOf h := rfl
  have b2 : (0 : Int) ≤ (h.1 96 18).toInt ∧ (h.1 96 18).toInt ≤ 6 := hI.1 96 18
  have b3 : (h.1 96 18).toInt = ((evOf h).2.2.2.2.1).toInt := congrArg (fun q : EV => (q.2.2.2.2.1).toInt) hE
  have b4 : (0 : Int) ≤ (h.1 96 51).toInt ∧ (h.1 96 51).toInt ≤ 720 := hI.1 96 51
  refine R_iload_n (k := 1) rfl rfl rfl ?_
  refine N_if_le (a := a0.toInt) 55 rfl rfl rfl (fun c5 => ?_) (fun c5 => ?_)
  · have hK : kyOf h = zPre a0 (kyOf h) := by unfold zPre; rw [if_neg (by omega)]
    refine R_aload_n (k := 0) rfl rfl rfl ?_
    refine R_getf_i (j := 18) rfl ft_9_253 sh_96 rfl ?_
    refine R_iconst 1 rfl rfl ?_
    refine R_isub rfl ?_
    refine N_eq (fun x6 e7 => ?_)
    have q8 : x6.toInt = (h.1 96 18).toInt - 1 := by rw [e7]; exact i_sub rfl (by decide) (by omega)
    refine R_istore_n (k := 3) rfl [(3, .inl x6), (0, .inr (.inr (.inl 96))), (1, .inl a0), (2, .inl a1)] rfl rfl (by decide) ?_
    have lp10 : ∀ (n9 : Nat) (h11 : PH) (x13 : Int32), INV h11 → FR [96, 107, 108, 109, 117, 118] h h11 → FR [96, 107, 108, 109, 117, 118] h h11 → (-1) ≤ x13.toInt ∧ x13.toInt ≤ 5 → (h11.1 96 41).toInt = (h.1 96 41).toInt → (h11.1 96 42).toInt = (h.1 96 42).toInt → (h11.1 96 19).toInt = (h.1 96 19).toInt → (h11.1 96 18).toInt = (h.1 96 18).toInt → (h11.1 96 20).toInt = (h.1 96 20).toInt → (h11.1 96 46).toInt = (h.1 96 46).toInt → (h11.1 96 44).toInt = (h.1 96 44).toInt → (h11.1 96 47).toInt = (h.1 96 47).toInt → (h11.1 96 48).toInt = (h.1 96 48).toInt → (h11.1 96 51).toInt = (h.1 96 51).toInt → x13.toInt ≤ (h.1 96 18).toInt + (-1) → x13.toInt ≤ (h.1 96 18).toInt + 0 → (zPlaces (evOf h) a0 (x13.toInt + 1).toNat (kyOf h11) = zPlaces (evOf h) a0 (evOf h).2.2.2.2.1.toNatClampNeg (zPre a0 (kyOf h))) → (¬ a1.toInt = 0 → kyOf h11 = zPre a0 (kyOf h)) → (evOf h11 = evOf h) → (x13.toInt - (-1)).toNat < n9 → RUN d_X9_goSecond 62 [(3, .inl x13), (0, .inr (.inr (.inl 96))), (1, .inl a0), (2, .inl a1)] [] h11 (qg_X9_goSecond h a0 a1) := by
      intro n9
      induction n9 with
      | zero => intro h11 x13 m15 m16 m17 m18 m19 m20 m21 m22 m23 m24 m25 m26 m27 m28 m29 m30 m31 m32 m33 hz; exact absurd hz (Nat.not_lt_zero _)
      | succ n9 ih14 =>
        intro h11 x13 hI fr fl12 m18 m19 m20 m21 m22 m23 m24 m25 m26 m27 m28 m29 m30 m31 m32 m33 hz
        have hE := m33
        have hK : kyOf h11 = kyOf h11 := rfl
        refine R_iload_n (k := 3) rfl rfl rfl ?_
        refine N_if_lt (a := x13.toInt) 82 rfl rfl rfl (fun c34 => ?_) (fun c34 => ?_)
        · have hK : kyOf h11 = zMid (evOf h) a0 a1 (kyOf h) := by
            unfold zMid
            split
            · first | (exfalso; omega) | (have hA := m31; rw [show (x13.toInt + 1).toNat = 0 by omega] at hA; exact hA)
            · exact m32 (by omega)
          refine R_aload_n (k := 0) rfl rfl rfl ?_
          refine R_getf_i (j := 18) rfl ft_9_253 sh_96 rfl ?_
          refine N_if_le (a := (h11.1 96 18).toInt) 164 rfl rfl rfl (fun c35 => ?_) (fun c35 => ?_)
          · have hK : kyOf h11 = zTake (evOf h) a0 (zMid (evOf h) a0 a1 (kyOf h)) := by
              refine hK.trans ?_
              simp only [zTake, zTake1, eMany, eLine, eFull] <;> (repeat' split) <;> first | (exfalso; omega) | rfl
            refine R_iconst 0 rfl rfl ?_
            refine R_istore_n (k := 3) rfl [(3, .inl 0), (0, .inr (.inr (.inl 96))), (1, .inl a0), (2, .inl a1)] rfl rfl (by decide) ?_
            have lp37 : ∀ (n36 : Nat) (x38 : Int32), 0 ≤ x38.toInt ∧ x38.toInt ≤ 0 → (kyOf h11 = zHolds (evOf h) a0 x38.toNatClampNeg (zTake (evOf h) a0 (zMid (evOf h) a0 a1 (kyOf h)))) → 0 < n36 → RUN d_X9_goSecond 166 [(3, .inl x38), (0, .inr (.inr (.inl 96))), (1, .inl a0), (2, .inl a1)] [] h11 (qg_X9_goSecond h a0 a1) := by
              intro n36
              induction n36 with
              | zero => intro x38 m40 m41 hz; exact absurd hz (Nat.not_lt_zero _)
              | succ n36 ih39 =>
                intro x38 m40 m41 hz
                refine R_iload_n (k := 3) rfl rfl rfl ?_
                refine R_aload_n (k := 0) rfl rfl rfl ?_
                refine R_getf_i (j := 18) rfl ft_9_253 sh_96 rfl ?_
                refine N_icmp_ge (a := x38.toInt) (b := (h11.1 96 18).toInt) 224 rfl rfl rfl rfl (fun c42 => ?_) (fun c42 => ?_)
                · have hF : kyOf h11 = zSecond (evOf h) a0 a1 (kyOf h) := m41.trans (by rw [show x38 = (evOf h).2.2.2.2.1 from i_of _ (by omega)]; rfl)
                  exact R_vret rfl rfl ⟨hI, fr, ⟨by omega, by omega, by omega, by omega, by omega, by omega, by omega, by omega, by omega, by omega, hF, hE, trivial⟩, rfl⟩
                · exfalso; omega
            have k43 : (0 : Int32).toInt = 0 := by decide
            exact lp37 _ (0 : Int32) (by decide) (by rw [hK]; rfl) (Nat.lt_succ_self _)
          · refine R_aload_n (k := 0) rfl rfl rfl ?_
            refine R_getf_r (j := 22) rfl ft_9_46 sh_96 rfl ?_
            refine R_aload_n (k := 0) rfl rfl rfl ?_
            refine R_getf_r (j := 17) rfl ft_9_40 sh_96 rfl ?_
            refine R_iconst 0 rfl rfl ?_
            refine R_iald rfl sh_105 (by decide) ?_
            refine N_eq (fun x44 e45 => ?_)
            have q46 : 0 ≤ x44.toInt ∧ x44.toInt ≤ 5 := by rw [e45]; exact hI.1 105 _
            have e47 : x44 = (evOf h).2.2.2.1 (0 : Int32).toNatClampNeg := by rw [e45]; exact congrFun (congrArg (fun q : EV => q.2.2.2.1) hE) _
            refine R_iald rfl sh_107 ⟨by omega, by omega⟩ ?_
            refine N_eq (fun x48 e49 => ?_)
            have e50 : x48 = ((zMid (evOf h) a0 a1 (kyOf h)).1) x44.toNatClampNeg := by rw [e49]; exact (ky_at107 (nlt ⟨by omega, by omega⟩)).trans (congrFun (congrArg (fun q : KY => q.1) hK) _)
            refine R_iconst (-1) rfl rfl ?_
            refine N_icmp_ne (a := x48.toInt) (b := (-1)) 164 rfl rfl rfl (by decide) (fun c51 => ?_) (fun c51 => ?_)
            · have hK : kyOf h11 = zTake (evOf h) a0 (zMid (evOf h) a0 a1 (kyOf h)) := by
                refine hK.trans ?_
                subst e50 e47
                simp only [zTake, zTake1, eMany, eLine, eFull] <;> (repeat' split) <;> first | (exfalso; omega) | rfl
              refine R_iconst 0 rfl rfl ?_
              refine R_istore_n (k := 3) rfl [(3, .inl 0), (0, .inr (.inr (.inl 96))), (1, .inl a0), (2, .inl a1)] rfl rfl (by decide) ?_
              have lp53 : ∀ (n52 : Nat) (h54 : PH) (x56 : Int32), INV h54 → FR [96, 107, 108, 109, 117, 118] h h54 → FR [107] h11 h54 → 0 ≤ x56.toInt ∧ x56.toInt ≤ 6 → x56.toInt ≤ (h11.1 96 18).toInt + 0 → (kyOf h54 = zHolds (evOf h) a0 x56.toNatClampNeg (zTake (evOf h) a0 (zMid (evOf h) a0 a1 (kyOf h)))) → (evOf h54 = evOf h) → (6 - x56.toInt).toNat < n52 → RUN d_X9_goSecond 166 [(3, .inl x56), (0, .inr (.inr (.inl 96))), (1, .inl a0), (2, .inl a1)] [] h54 (qg_X9_goSecond h a0 a1) := by
                intro n52
                induction n52 with
                | zero => intro h54 x56 m58 m59 m60 m61 m62 m63 m64 hz; exact absurd hz (Nat.not_lt_zero _)
                | succ n52 ih57 =>
                  intro h54 x56 hI fr fl55 m61 m62 m63 m64 hz
                  have s65 : (h54.1 96 41).toInt = (h11.1 96 41).toInt := by rw [(fl55 96 (by decide)).1]
                  have s66 : (h54.1 96 42).toInt = (h11.1 96 42).toInt := by rw [(fl55 96 (by decide)).1]
                  have s67 : (h54.1 96 19).toInt = (h11.1 96 19).toInt := by rw [(fl55 96 (by decide)).1]
                  have s68 : (h54.1 96 18).toInt = (h11.1 96 18).toInt := by rw [(fl55 96 (by decide)).1]
                  have s69 : (h54.1 96 20).toInt = (h11.1 96 20).toInt := by rw [(fl55 96 (by decide)).1]
                  have s70 : (h54.1 96 46).toInt = (h11.1 96 46).toInt := by rw [(fl55 96 (by decide)).1]
                  have s71 : (h54.1 96 44).toInt = (h11.1 96 44).toInt := by rw [(fl55 96 (by decide)).1]
                  have s72 : (h54.1 96 47).toInt = (h11.1 96 47).toInt := by rw [(fl55 96 (by decide)).1]
                  have s73 : (h54.1 96 48).toInt = (h11.1 96 48).toInt := by rw [(fl55 96 (by decide)).1]
                  have s74 : (h54.1 96 51).toInt = (h11.1 96 51).toInt := by rw [(fl55 96 (by decide)).1]
                  have fl12 : FR [96, 107, 108, 109, 117, 118] h h54 := fl12.trans fl55 (by decide)
                  have hE := m64
                  have hK : kyOf h54 = kyOf h54 := rfl
                  refine R_iload_n (k := 3) rfl rfl rfl ?_
                  refine R_aload_n (k := 0) rfl rfl rfl ?_
                  refine R_getf_i (j := 18) rfl ft_9_253 sh_96 rfl ?_
                  refine N_icmp_ge (a := x56.toInt) (b := (h54.1 96 18).toInt) 224 rfl rfl rfl rfl (fun c75 => ?_) (fun c75 => ?_)
                  · have hF : kyOf h54 = zSecond (evOf h) a0 a1 (kyOf h) := m63.trans (by rw [show x56 = (evOf h).2.2.2.2.1 from i_of _ (by omega)]; rfl)
                    exact R_vret rfl rfl ⟨hI, fr, ⟨by omega, by omega, by omega, by omega, by omega, by omega, by omega, by omega, by omega, by omega, hF, hE, trivial⟩, rfl⟩
                  · refine R_aload_n (k := 0) rfl rfl rfl ?_
                    refine R_getf_r (j := 22) rfl ft_9_46 sh_96 rfl ?_
                    refine R_aload_n (k := 0) rfl rfl rfl ?_
                    refine R_getf_r (j := 17) rfl ft_9_40 sh_96 rfl ?_
                    refine R_iload_n (k := 3) rfl rfl rfl ?_
                    refine R_iald rfl sh_105 ⟨by omega, by omega⟩ ?_
                    refine N_eq (fun x76 e77 => ?_)
                    have q78 : 0 ≤ x76.toInt ∧ x76.toInt ≤ 5 := by rw [e77]; exact hI.1 105 _
                    have e79 : x76 = (evOf h).2.2.2.1 x56.toNatClampNeg := by rw [e77]; exact congrFun (congrArg (fun q : EV => q.2.2.2.1) hE) _
                    refine R_iald rfl sh_107 ⟨by omega, by omega⟩ ?_
                    refine N_eq (fun x80 e81 => ?_)
                    have e82 : x80 = ((kyOf h54).1) x76.toNatClampNeg := by rw [e81]; exact (ky_at107 (nlt ⟨by omega, by omega⟩)).trans (congrFun (congrArg (fun q : KY => q.1) hK) _)
                    refine R_iconst (-1) rfl rfl ?_
                    refine N_icmp_eq (a := x80.toInt) (b := (-1)) 218 rfl rfl rfl (by decide) (fun c83 => ?_) (fun c83 => ?_)
                    · refine N_iinc (a := x56.toInt) (c := 1) (fun w => [(3, .inl w), (0, .inr (.inr (.inl 96))), (1, .inl a0), (2, .inl a1)]) rfl rfl (fun _ => rfl) (by decide) rfl (by decide) (by omega) (fun x84 q85 => ?_)
                      refine R_goto 166 rfl rfl ?_
                      exact RUN_weak (psub_cons rfl (psub_cons rfl (psub_cons rfl (psub_cons rfl (psub_nil _))))) (ih57 h54 x84 hI fr fl55 (by omega) (by omega) (by rw [zHolds_s (x := x56) (x' := x84) (by omega) (by omega), ← m63]; refine hK.trans ?_; subst e82 e79; simp only [zHold1, eLine] <;> (repeat' split) <;> first | (exfalso; omega) | rfl) (hE) (by omega))
                    · refine R_aload_n (k := 0) rfl rfl rfl ?_
                      refine R_aload_n (k := 0) rfl rfl rfl ?_
                      refine R_getf_r (j := 17) rfl ft_9_40 sh_96 rfl ?_
                      refine R_iload_n (k := 3) rfl rfl rfl ?_
                      refine R_iald rfl sh_105 ⟨by omega, by omega⟩ ?_
                      refine N_eq (fun x86 e87 => ?_)
                      have q88 : 0 ≤ x86.toInt ∧ x86.toInt ≤ 5 := by rw [e87]; exact hI.1 105 _
                      have e89 : x86 = (evOf h).2.2.2.1 x56.toNatClampNeg := by rw [e87]; exact congrFun (congrArg (fun q : EV => q.2.2.2.1) hE) _
                      refine R_iload_n (k := 1) rfl rfl rfl ?_
                      refine R_callV (v := .inr (.inr (.inl 96))) (As := [.inl x86, .inl a0]) (rest := []) rfl mt_9_i271 pp_X9_doesRest (by decide) rfl rfl rfl (Nat.le_of_ble_eq_true rfl) (Nat.le_of_ble_eq_true rfl) ((g_X9_doesRest h54 hI x86 a0 (by omega) (by omega)).mono (fun r90 h91 p92 => ?_))
                      obtain ⟨rfl, x94, rfl, (q95 | q95 | q95), zq93, -⟩ := p92
                      · rw [hE] at zq93
                        exfalso; omega
                      · rw [hE] at zq93
                        show RUN d_X9_goSecond 200 [(3, .inl x56), (0, .inr (.inr (.inl 96))), (1, .inl a0), (2, .inl a1)] [.inl x94] h54 _
                        refine N_if_ne (a := x94.toInt) 218 rfl rfl rfl (fun c96 => ?_) (fun c96 => ?_)
                        · exfalso; omega
                        · refine R_aload_n (k := 0) rfl rfl rfl ?_
                          refine R_getf_r (j := 22) rfl ft_9_46 sh_96 rfl ?_
                          refine R_aload_n (k := 0) rfl rfl rfl ?_
                          refine R_getf_r (j := 17) rfl ft_9_40 sh_96 rfl ?_
                          refine R_iload_n (k := 3) rfl rfl rfl ?_
                          refine R_iald rfl sh_105 ⟨by omega, by omega⟩ ?_
                          refine N_eq (fun x97 e98 => ?_)
                          have q99 : 0 ≤ x97.toInt ∧ x97.toInt ≤ 5 := by rw [e98]; exact hI.1 105 _
                          have e100 : x97 = (evOf h).2.2.2.1 x56.toNatClampNeg := by rw [e98]; exact congrFun (congrArg (fun q : EV => q.2.2.2.1) hE) _
                          refine R_dup2 rfl ?_
                          refine R_iald rfl sh_107 ⟨by omega, by omega⟩ ?_
                          refine N_eq (fun x101 e102 => ?_)
                          have e103 : x101 = ((kyOf h54).1) x97.toNatClampNeg := by rw [e102]; exact (ky_at107 (nlt ⟨by omega, by omega⟩)).trans (congrFun (congrArg (fun q : KY => q.1) hK) _)
                          refine R_iconst 1 rfl rfl ?_
                          have b104 := i_rng x101
                          refine R_iadd rfl ?_
                          refine N_eq (fun x105 e106 => ?_)
                          refine K_iast (a := x97.toInt) (lo := (-2147483648)) (hi' := 2147483647) rfl sh_107 rfl ⟨by omega, by omega⟩ hI (by decide) rfl (i_rng _) fr (by decide) (fun h107 g108 hI fr => ?_)
                          have fl55 : FR [107] h11 h107 := by rw [g108]; exact FR_wI _ _ fl55 (by decide)
                          have fl12 : FR [96, 107, 108, 109, 117, 118] h h107 := by rw [g108]; exact FR_wI _ _ fl12 (by decide)
                          have s109 : (h107.1 96 41).toInt = (h54.1 96 41).toInt := by rw [g108, wI_ne _ _ _ (by decide)]
                          have s110 : (h107.1 96 42).toInt = (h54.1 96 42).toInt := by rw [g108, wI_ne _ _ _ (by decide)]
                          have s111 : (h107.1 96 19).toInt = (h54.1 96 19).toInt := by rw [g108, wI_ne _ _ _ (by decide)]
                          have s112 : (h107.1 96 18).toInt = (h54.1 96 18).toInt := by rw [g108, wI_ne _ _ _ (by decide)]
                          have s113 : (h107.1 96 20).toInt = (h54.1 96 20).toInt := by rw [g108, wI_ne _ _ _ (by decide)]
                          have s114 : (h107.1 96 46).toInt = (h54.1 96 46).toInt := by rw [g108, wI_ne _ _ _ (by decide)]
                          have s115 : (h107.1 96 44).toInt = (h54.1 96 44).toInt := by rw [g108, wI_ne _ _ _ (by decide)]
                          have s116 : (h107.1 96 47).toInt = (h54.1 96 47).toInt := by rw [g108, wI_ne _ _ _ (by decide)]
                          have s117 : (h107.1 96 48).toInt = (h54.1 96 48).toInt := by rw [g108, wI_ne _ _ _ (by decide)]
                          have s118 : (h107.1 96 51).toInt = (h54.1 96 51).toInt := by rw [g108, wI_ne _ _ _ (by decide)]
                          have hK : kyOf h107 = (upd ((kyOf h54).1) x97.toNatClampNeg x105, (kyOf h54).2.1, (kyOf h54).2.2.1, (kyOf h54).2.2.2) := by rw [g108, ky_107 (nlt ⟨by omega, by omega⟩), hK] <;> rfl
                          have hE : evOf h107 = evOf h := by rw [g108, ev_o (by decide), hE]
                          refine N_iinc (a := x56.toInt) (c := 1) (fun w => [(3, .inl w), (0, .inr (.inr (.inl 96))), (1, .inl a0), (2, .inl a1)]) rfl rfl (fun _ => rfl) (by decide) rfl (by decide) (by omega) (fun x119 q120 => ?_)
                          refine R_goto 166 rfl rfl ?_
                          exact RUN_weak (psub_cons rfl (psub_cons rfl (psub_cons rfl (psub_cons rfl (psub_nil _))))) (ih57 h107 x119 hI fr fl55 (by omega) (by omega) (by rw [zHolds_s (x := x56) (x' := x119) (by omega) (by omega), ← m63]; refine hK.trans ?_; subst e106 e103 e100 e89 e82 e79; simp only [zHold1, eLine] <;> (repeat' split) <;> first | (exfalso; omega) | rfl) (hE) (by omega))
                      · rw [hE] at zq93
                        show RUN d_X9_goSecond 200 [(3, .inl x56), (0, .inr (.inr (.inl 96))), (1, .inl a0), (2, .inl a1)] [.inl x94] h54 _
                        refine N_if_ne (a := x94.toInt) 218 rfl rfl rfl (fun c121 => ?_) (fun c121 => ?_)
                        · refine N_iinc (a := x56.toInt) (c := 1) (fun w => [(3, .inl w), (0, .inr (.inr (.inl 96))), (1, .inl a0), (2, .inl a1)]) rfl rfl (fun _ => rfl) (by decide) rfl (by decide) (by omega) (fun x122 q123 => ?_)
                          refine R_goto 166 rfl rfl ?_
                          exact RUN_weak (psub_cons rfl (psub_cons rfl (psub_cons rfl (psub_cons rfl (psub_nil _))))) (ih57 h54 x122 hI fr fl55 (by omega) (by omega) (by rw [zHolds_s (x := x56) (x' := x122) (by omega) (by omega), ← m63]; refine hK.trans ?_; subst e89 e82 e79; simp only [zHold1, eLine] <;> (repeat' split) <;> first | (exfalso; omega) | rfl) (hE) (by omega))
                        · exfalso; omega
              have k124 : (0 : Int32).toInt = 0 := by decide
              exact lp53 _ h11 (0 : Int32) hI fr (FR.rf _ _) (by decide) (by omega) (by rw [hK]; rfl) (hE) (Nat.lt_succ_self _)
            · refine R_aload_n (k := 0) rfl rfl rfl ?_
              refine R_aload_n (k := 0) rfl rfl rfl ?_
              refine R_getf_r (j := 17) rfl ft_9_40 sh_96 rfl ?_
              refine R_iconst 0 rfl rfl ?_
              refine R_iald rfl sh_105 (by decide) ?_
              refine N_eq (fun x125 e126 => ?_)
              have q127 : 0 ≤ x125.toInt ∧ x125.toInt ≤ 5 := by rw [e126]; exact hI.1 105 _
              have e128 : x125 = (evOf h).2.2.2.1 (0 : Int32).toNatClampNeg := by rw [e126]; exact congrFun (congrArg (fun q : EV => q.2.2.2.1) hE) _
              refine R_iload_n (k := 1) rfl rfl rfl ?_
              refine R_callV (v := .inr (.inr (.inl 96))) (As := [.inl x125, .inl a0]) (rest := []) rfl mt_9_i271 pp_X9_doesRest (by decide) rfl rfl rfl (Nat.le_of_ble_eq_true rfl) (Nat.le_of_ble_eq_true rfl) ((g_X9_doesRest h11 hI x125 a0 (by omega) (by omega)).mono (fun r129 h130 p131 => ?_))
              obtain ⟨rfl, x133, rfl, (q134 | q134 | q134), zq132, -⟩ := p131
              · rw [hE] at zq132
                exfalso; omega
              · rw [hE] at zq132
                show RUN d_X9_goSecond 115 [(3, .inl x13), (0, .inr (.inr (.inl 96))), (1, .inl a0), (2, .inl a1)] [.inl x133] h11 _
                refine N_if_ne (a := x133.toInt) 164 rfl rfl rfl (fun c135 => ?_) (fun c135 => ?_)
                · exfalso; omega
                · refine R_aload_n (k := 0) rfl rfl rfl ?_
                  refine R_getf_r (j := 24) rfl ft_9_52 sh_96 rfl ?_
                  refine R_iconst 0 rfl rfl ?_
                  refine R_iald rfl sh_109 (by decide) ?_
                  refine N_eq (fun x136 e137 => ?_)
                  have e138 : x136 = ((zMid (evOf h) a0 a1 (kyOf h)).2.2.1) (0 : Int32).toNatClampNeg := by rw [e137]; exact (ky_at109 (by decide)).trans (congrFun (congrArg (fun q : KY => q.2.2.1) hK) _)
                  refine N_if_le (a := x136.toInt) 164 rfl rfl rfl (fun c139 => ?_) (fun c139 => ?_)
                  · have hK : kyOf h11 = zTake (evOf h) a0 (zMid (evOf h) a0 a1 (kyOf h)) := by
                      refine hK.trans ?_
                      subst e138 e128 e50 e47
                      simp only [zTake, zTake1, eMany, eLine, eFull] <;> (repeat' split) <;> first | (exfalso; omega) | rfl
                    refine R_iconst 0 rfl rfl ?_
                    refine R_istore_n (k := 3) rfl [(3, .inl 0), (0, .inr (.inr (.inl 96))), (1, .inl a0), (2, .inl a1)] rfl rfl (by decide) ?_
                    have lp141 : ∀ (n140 : Nat) (h142 : PH) (x144 : Int32), INV h142 → FR [96, 107, 108, 109, 117, 118] h h142 → FR [107] h11 h142 → 0 ≤ x144.toInt ∧ x144.toInt ≤ 6 → x144.toInt ≤ (h11.1 96 18).toInt + 0 → (kyOf h142 = zHolds (evOf h) a0 x144.toNatClampNeg (zTake (evOf h) a0 (zMid (evOf h) a0 a1 (kyOf h)))) → (evOf h142 = evOf h) → (6 - x144.toInt).toNat < n140 → RUN d_X9_goSecond 166 [(3, .inl x144), (0, .inr (.inr (.inl 96))), (1, .inl a0), (2, .inl a1)] [] h142 (qg_X9_goSecond h a0 a1) := by
                      intro n140
                      induction n140 with
                      | zero => intro h142 x144 m146 m147 m148 m149 m150 m151 m152 hz; exact absurd hz (Nat.not_lt_zero _)
                      | succ n140 ih145 =>
                        intro h142 x144 hI fr fl143 m149 m150 m151 m152 hz
                        have s153 : (h142.1 96 41).toInt = (h11.1 96 41).toInt := by rw [(fl143 96 (by decide)).1]
                        have s154 : (h142.1 96 42).toInt = (h11.1 96 42).toInt := by rw [(fl143 96 (by decide)).1]
                        have s155 : (h142.1 96 19).toInt = (h11.1 96 19).toInt := by rw [(fl143 96 (by decide)).1]
                        have s156 : (h142.1 96 18).toInt = (h11.1 96 18).toInt := by rw [(fl143 96 (by decide)).1]
                        have s157 : (h142.1 96 20).toInt = (h11.1 96 20).toInt := by rw [(fl143 96 (by decide)).1]
                        have s158 : (h142.1 96 46).toInt = (h11.1 96 46).toInt := by rw [(fl143 96 (by decide)).1]
                        have s159 : (h142.1 96 44).toInt = (h11.1 96 44).toInt := by rw [(fl143 96 (by decide)).1]
                        have s160 : (h142.1 96 47).toInt = (h11.1 96 47).toInt := by rw [(fl143 96 (by decide)).1]
                        have s161 : (h142.1 96 48).toInt = (h11.1 96 48).toInt := by rw [(fl143 96 (by decide)).1]
                        have s162 : (h142.1 96 51).toInt = (h11.1 96 51).toInt := by rw [(fl143 96 (by decide)).1]
                        have fl12 : FR [96, 107, 108, 109, 117, 118] h h142 := fl12.trans fl143 (by decide)
                        have hE := m152
                        have hK : kyOf h142 = kyOf h142 := rfl
                        refine R_iload_n (k := 3) rfl rfl rfl ?_
                        refine R_aload_n (k := 0) rfl rfl rfl ?_
                        refine R_getf_i (j := 18) rfl ft_9_253 sh_96 rfl ?_
                        refine N_icmp_ge (a := x144.toInt) (b := (h142.1 96 18).toInt) 224 rfl rfl rfl rfl (fun c163 => ?_) (fun c163 => ?_)
                        · have hF : kyOf h142 = zSecond (evOf h) a0 a1 (kyOf h) := m151.trans (by rw [show x144 = (evOf h).2.2.2.2.1 from i_of _ (by omega)]; rfl)
                          exact R_vret rfl rfl ⟨hI, fr, ⟨by omega, by omega, by omega, by omega, by omega, by omega, by omega, by omega, by omega, by omega, hF, hE, trivial⟩, rfl⟩
                        · refine R_aload_n (k := 0) rfl rfl rfl ?_
                          refine R_getf_r (j := 22) rfl ft_9_46 sh_96 rfl ?_
                          refine R_aload_n (k := 0) rfl rfl rfl ?_
                          refine R_getf_r (j := 17) rfl ft_9_40 sh_96 rfl ?_
                          refine R_iload_n (k := 3) rfl rfl rfl ?_
                          refine R_iald rfl sh_105 ⟨by omega, by omega⟩ ?_
                          refine N_eq (fun x164 e165 => ?_)
                          have q166 : 0 ≤ x164.toInt ∧ x164.toInt ≤ 5 := by rw [e165]; exact hI.1 105 _
                          have e167 : x164 = (evOf h).2.2.2.1 x144.toNatClampNeg := by rw [e165]; exact congrFun (congrArg (fun q : EV => q.2.2.2.1) hE) _
                          refine R_iald rfl sh_107 ⟨by omega, by omega⟩ ?_
                          refine N_eq (fun x168 e169 => ?_)
                          have e170 : x168 = ((kyOf h142).1) x164.toNatClampNeg := by rw [e169]; exact (ky_at107 (nlt ⟨by omega, by omega⟩)).trans (congrFun (congrArg (fun q : KY => q.1) hK) _)
                          refine R_iconst (-1) rfl rfl ?_
                          refine N_icmp_eq (a := x168.toInt) (b := (-1)) 218 rfl rfl rfl (by decide) (fun c171 => ?_) (fun c171 => ?_)
                          · refine N_iinc (a := x144.toInt) (c := 1) (fun w => [(3, .inl w), (0, .inr (.inr (.inl 96))), (1, .inl a0), (2, .inl a1)]) rfl rfl (fun _ => rfl) (by decide) rfl (by decide) (by omega) (fun x172 q173 => ?_)
                            refine R_goto 166 rfl rfl ?_
                            exact RUN_weak (psub_cons rfl (psub_cons rfl (psub_cons rfl (psub_cons rfl (psub_nil _))))) (ih145 h142 x172 hI fr fl143 (by omega) (by omega) (by rw [zHolds_s (x := x144) (x' := x172) (by omega) (by omega), ← m151]; refine hK.trans ?_; subst e170 e167; simp only [zHold1, eLine] <;> (repeat' split) <;> first | (exfalso; omega) | rfl) (hE) (by omega))
                          · refine R_aload_n (k := 0) rfl rfl rfl ?_
                            refine R_aload_n (k := 0) rfl rfl rfl ?_
                            refine R_getf_r (j := 17) rfl ft_9_40 sh_96 rfl ?_
                            refine R_iload_n (k := 3) rfl rfl rfl ?_
                            refine R_iald rfl sh_105 ⟨by omega, by omega⟩ ?_
                            refine N_eq (fun x174 e175 => ?_)
                            have q176 : 0 ≤ x174.toInt ∧ x174.toInt ≤ 5 := by rw [e175]; exact hI.1 105 _
                            have e177 : x174 = (evOf h).2.2.2.1 x144.toNatClampNeg := by rw [e175]; exact congrFun (congrArg (fun q : EV => q.2.2.2.1) hE) _
                            refine R_iload_n (k := 1) rfl rfl rfl ?_
                            refine R_callV (v := .inr (.inr (.inl 96))) (As := [.inl x174, .inl a0]) (rest := []) rfl mt_9_i271 pp_X9_doesRest (by decide) rfl rfl rfl (Nat.le_of_ble_eq_true rfl) (Nat.le_of_ble_eq_true rfl) ((g_X9_doesRest h142 hI x174 a0 (by omega) (by omega)).mono (fun r178 h179 p180 => ?_))
                            obtain ⟨rfl, x182, rfl, (q183 | q183 | q183), zq181, -⟩ := p180
                            · rw [hE] at zq181
                              exfalso; omega
                            · rw [hE] at zq181
                              show RUN d_X9_goSecond 200 [(3, .inl x144), (0, .inr (.inr (.inl 96))), (1, .inl a0), (2, .inl a1)] [.inl x182] h142 _
                              refine N_if_ne (a := x182.toInt) 218 rfl rfl rfl (fun c184 => ?_) (fun c184 => ?_)
                              · exfalso; omega
                              · refine R_aload_n (k := 0) rfl rfl rfl ?_
                                refine R_getf_r (j := 22) rfl ft_9_46 sh_96 rfl ?_
                                refine R_aload_n (k := 0) rfl rfl rfl ?_
                                refine R_getf_r (j := 17) rfl ft_9_40 sh_96 rfl ?_
                                refine R_iload_n (k := 3) rfl rfl rfl ?_
                                refine R_iald rfl sh_105 ⟨by omega, by omega⟩ ?_
                                refine N_eq (fun x185 e186 => ?_)
                                have q187 : 0 ≤ x185.toInt ∧ x185.toInt ≤ 5 := by rw [e186]; exact hI.1 105 _
                                have e188 : x185 = (evOf h).2.2.2.1 x144.toNatClampNeg := by rw [e186]; exact congrFun (congrArg (fun q : EV => q.2.2.2.1) hE) _
                                refine R_dup2 rfl ?_
                                refine R_iald rfl sh_107 ⟨by omega, by omega⟩ ?_
                                refine N_eq (fun x189 e190 => ?_)
                                have e191 : x189 = ((kyOf h142).1) x185.toNatClampNeg := by rw [e190]; exact (ky_at107 (nlt ⟨by omega, by omega⟩)).trans (congrFun (congrArg (fun q : KY => q.1) hK) _)
                                refine R_iconst 1 rfl rfl ?_
                                have b192 := i_rng x189
                                refine R_iadd rfl ?_
                                refine N_eq (fun x193 e194 => ?_)
                                refine K_iast (a := x185.toInt) (lo := (-2147483648)) (hi' := 2147483647) rfl sh_107 rfl ⟨by omega, by omega⟩ hI (by decide) rfl (i_rng _) fr (by decide) (fun h195 g196 hI fr => ?_)
                                have fl143 : FR [107] h11 h195 := by rw [g196]; exact FR_wI _ _ fl143 (by decide)
                                have fl12 : FR [96, 107, 108, 109, 117, 118] h h195 := by rw [g196]; exact FR_wI _ _ fl12 (by decide)
                                have s197 : (h195.1 96 41).toInt = (h142.1 96 41).toInt := by rw [g196, wI_ne _ _ _ (by decide)]
                                have s198 : (h195.1 96 42).toInt = (h142.1 96 42).toInt := by rw [g196, wI_ne _ _ _ (by decide)]
                                have s199 : (h195.1 96 19).toInt = (h142.1 96 19).toInt := by rw [g196, wI_ne _ _ _ (by decide)]
                                have s200 : (h195.1 96 18).toInt = (h142.1 96 18).toInt := by rw [g196, wI_ne _ _ _ (by decide)]
                                have s201 : (h195.1 96 20).toInt = (h142.1 96 20).toInt := by rw [g196, wI_ne _ _ _ (by decide)]
                                have s202 : (h195.1 96 46).toInt = (h142.1 96 46).toInt := by rw [g196, wI_ne _ _ _ (by decide)]
                                have s203 : (h195.1 96 44).toInt = (h142.1 96 44).toInt := by rw [g196, wI_ne _ _ _ (by decide)]
                                have s204 : (h195.1 96 47).toInt = (h142.1 96 47).toInt := by rw [g196, wI_ne _ _ _ (by decide)]
                                have s205 : (h195.1 96 48).toInt = (h142.1 96 48).toInt := by rw [g196, wI_ne _ _ _ (by decide)]
                                have s206 : (h195.1 96 51).toInt = (h142.1 96 51).toInt := by rw [g196, wI_ne _ _ _ (by decide)]
                                have hK : kyOf h195 = (upd ((kyOf h142).1) x185.toNatClampNeg x193, (kyOf h142).2.1, (kyOf h142).2.2.1, (kyOf h142).2.2.2) := by rw [g196, ky_107 (nlt ⟨by omega, by omega⟩), hK] <;> rfl
                                have hE : evOf h195 = evOf h := by rw [g196, ev_o (by decide), hE]
                                refine N_iinc (a := x144.toInt) (c := 1) (fun w => [(3, .inl w), (0, .inr (.inr (.inl 96))), (1, .inl a0), (2, .inl a1)]) rfl rfl (fun _ => rfl) (by decide) rfl (by decide) (by omega) (fun x207 q208 => ?_)
                                refine R_goto 166 rfl rfl ?_
                                exact RUN_weak (psub_cons rfl (psub_cons rfl (psub_cons rfl (psub_cons rfl (psub_nil _))))) (ih145 h195 x207 hI fr fl143 (by omega) (by omega) (by rw [zHolds_s (x := x144) (x' := x207) (by omega) (by omega), ← m151]; refine hK.trans ?_; subst e194 e191 e188 e177 e170 e167; simp only [zHold1, eLine] <;> (repeat' split) <;> first | (exfalso; omega) | rfl) (hE) (by omega))
                            · rw [hE] at zq181
                              show RUN d_X9_goSecond 200 [(3, .inl x144), (0, .inr (.inr (.inl 96))), (1, .inl a0), (2, .inl a1)] [.inl x182] h142 _
                              refine N_if_ne (a := x182.toInt) 218 rfl rfl rfl (fun c209 => ?_) (fun c209 => ?_)
                              · refine N_iinc (a := x144.toInt) (c := 1) (fun w => [(3, .inl w), (0, .inr (.inr (.inl 96))), (1, .inl a0), (2, .inl a1)]) rfl rfl (fun _ => rfl) (by decide) rfl (by decide) (by omega) (fun x210 q211 => ?_)
                                refine R_goto 166 rfl rfl ?_
                                exact RUN_weak (psub_cons rfl (psub_cons rfl (psub_cons rfl (psub_cons rfl (psub_nil _))))) (ih145 h142 x210 hI fr fl143 (by omega) (by omega) (by rw [zHolds_s (x := x144) (x' := x210) (by omega) (by omega), ← m151]; refine hK.trans ?_; subst e177 e170 e167; simp only [zHold1, eLine] <;> (repeat' split) <;> first | (exfalso; omega) | rfl) (hE) (by omega))
                              · exfalso; omega
                    have k212 : (0 : Int32).toInt = 0 := by decide
                    exact lp141 _ h11 (0 : Int32) hI fr (FR.rf _ _) (by decide) (by omega) (by rw [hK]; rfl) (hE) (Nat.lt_succ_self _)
                  · refine R_aload_n (k := 0) rfl rfl rfl ?_
                    refine R_getf_r (j := 24) rfl ft_9_52 sh_96 rfl ?_
                    refine R_iconst 0 rfl rfl ?_
                    refine R_dup2 rfl ?_
                    refine R_iald rfl sh_109 (by decide) ?_
                    refine N_eq (fun x213 e214 => ?_)
                    have e215 : x213 = ((zMid (evOf h) a0 a1 (kyOf h)).2.2.1) (0 : Int32).toNatClampNeg := by rw [e214]; exact (ky_at109 (by decide)).trans (congrFun (congrArg (fun q : KY => q.2.2.1) hK) _)
                    refine R_iconst 1 rfl rfl ?_
                    have b216 := i_rng x213
                    refine R_isub rfl ?_
                    refine N_eq (fun x217 e218 => ?_)
                    refine K_iast (a := 0) (lo := (-2147483648)) (hi' := 2147483647) rfl sh_109 (by decide) (by decide) hI (by decide) rfl (i_rng _) fr (by decide) (fun h219 g220 hI fr => ?_)
                    have fl12 : FR [96, 107, 108, 109, 117, 118] h h219 := by rw [g220]; exact FR_wI _ _ fl12 (by decide)
                    have s221 : (h219.1 96 41).toInt = (h11.1 96 41).toInt := by rw [g220, wI_ne _ _ _ (by decide)]
                    have s222 : (h219.1 96 42).toInt = (h11.1 96 42).toInt := by rw [g220, wI_ne _ _ _ (by decide)]
                    have s223 : (h219.1 96 19).toInt = (h11.1 96 19).toInt := by rw [g220, wI_ne _ _ _ (by decide)]
                    have s224 : (h219.1 96 18).toInt = (h11.1 96 18).toInt := by rw [g220, wI_ne _ _ _ (by decide)]
                    have s225 : (h219.1 96 20).toInt = (h11.1 96 20).toInt := by rw [g220, wI_ne _ _ _ (by decide)]
                    have s226 : (h219.1 96 46).toInt = (h11.1 96 46).toInt := by rw [g220, wI_ne _ _ _ (by decide)]
                    have s227 : (h219.1 96 44).toInt = (h11.1 96 44).toInt := by rw [g220, wI_ne _ _ _ (by decide)]
                    have s228 : (h219.1 96 47).toInt = (h11.1 96 47).toInt := by rw [g220, wI_ne _ _ _ (by decide)]
                    have s229 : (h219.1 96 48).toInt = (h11.1 96 48).toInt := by rw [g220, wI_ne _ _ _ (by decide)]
                    have s230 : (h219.1 96 51).toInt = (h11.1 96 51).toInt := by rw [g220, wI_ne _ _ _ (by decide)]
                    have hK : kyOf h219 = ((zMid (evOf h) a0 a1 (kyOf h)).1, (zMid (evOf h) a0 a1 (kyOf h)).2.1, upd ((zMid (evOf h) a0 a1 (kyOf h)).2.2.1) (0 : Int32).toNatClampNeg x217, (zMid (evOf h) a0 a1 (kyOf h)).2.2.2) := by rw [g220, ky_109 (by decide), hK] <;> rfl
                    have hE : evOf h219 = evOf h := by rw [g220, ev_o (by decide), hE]
                    refine R_aload_n (k := 0) rfl rfl rfl ?_
                    refine R_getf_r (j := 22) rfl ft_9_46 sh_96 rfl ?_
                    refine R_aload_n (k := 0) rfl rfl rfl ?_
                    refine R_getf_r (j := 17) rfl ft_9_40 sh_96 rfl ?_
                    refine R_iconst 0 rfl rfl ?_
                    refine R_iald rfl sh_105 (by decide) ?_
                    refine N_eq (fun x231 e232 => ?_)
                    have q233 : 0 ≤ x231.toInt ∧ x231.toInt ≤ 5 := by rw [e232]; exact hI.1 105 _
                    have e234 : x231 = (evOf h).2.2.2.1 (0 : Int32).toNatClampNeg := by rw [e232]; exact congrFun (congrArg (fun q : EV => q.2.2.2.1) hE) _
                    refine R_iconst 0 rfl rfl ?_
                    refine K_iast (a := x231.toInt) (lo := (-2147483648)) (hi' := 2147483647) rfl sh_107 rfl ⟨by omega, by omega⟩ hI (by decide) rfl (by decide) fr (by decide) (fun h235 g236 hI fr => ?_)
                    have fl12 : FR [96, 107, 108, 109, 117, 118] h h235 := by rw [g236]; exact FR_wI _ _ fl12 (by decide)
                    have s237 : (h235.1 96 41).toInt = (h219.1 96 41).toInt := by rw [g236, wI_ne _ _ _ (by decide)]
                    have s238 : (h235.1 96 42).toInt = (h219.1 96 42).toInt := by rw [g236, wI_ne _ _ _ (by decide)]
                    have s239 : (h235.1 96 19).toInt = (h219.1 96 19).toInt := by rw [g236, wI_ne _ _ _ (by decide)]
                    have s240 : (h235.1 96 18).toInt = (h219.1 96 18).toInt := by rw [g236, wI_ne _ _ _ (by decide)]
                    have s241 : (h235.1 96 20).toInt = (h219.1 96 20).toInt := by rw [g236, wI_ne _ _ _ (by decide)]
                    have s242 : (h235.1 96 46).toInt = (h219.1 96 46).toInt := by rw [g236, wI_ne _ _ _ (by decide)]
                    have s243 : (h235.1 96 44).toInt = (h219.1 96 44).toInt := by rw [g236, wI_ne _ _ _ (by decide)]
                    have s244 : (h235.1 96 47).toInt = (h219.1 96 47).toInt := by rw [g236, wI_ne _ _ _ (by decide)]
                    have s245 : (h235.1 96 48).toInt = (h219.1 96 48).toInt := by rw [g236, wI_ne _ _ _ (by decide)]
                    have s246 : (h235.1 96 51).toInt = (h219.1 96 51).toInt := by rw [g236, wI_ne _ _ _ (by decide)]
                    have hK : kyOf h235 = (upd ((zMid (evOf h) a0 a1 (kyOf h)).1) x231.toNatClampNeg (0), (zMid (evOf h) a0 a1 (kyOf h)).2.1, upd ((zMid (evOf h) a0 a1 (kyOf h)).2.2.1) (0 : Int32).toNatClampNeg x217, (zMid (evOf h) a0 a1 (kyOf h)).2.2.2) := by rw [g236, ky_107 (nlt ⟨by omega, by omega⟩), hK] <;> rfl
                    have hE : evOf h235 = evOf h := by rw [g236, ev_o (by decide), hE]
                    refine R_aload_n (k := 0) rfl rfl rfl ?_
                    refine R_getf_r (j := 23) rfl ft_9_49 sh_96 rfl ?_
                    refine R_aload_n (k := 0) rfl rfl rfl ?_
                    refine R_getf_r (j := 17) rfl ft_9_40 sh_96 rfl ?_
                    refine R_iconst 0 rfl rfl ?_
                    refine R_iald rfl sh_105 (by decide) ?_
                    refine N_eq (fun x247 e248 => ?_)
                    have q249 : 0 ≤ x247.toInt ∧ x247.toInt ≤ 5 := by rw [e248]; exact hI.1 105 _
                    have e250 : x247 = (evOf h).2.2.2.1 (0 : Int32).toNatClampNeg := by rw [e248]; exact congrFun (congrArg (fun q : EV => q.2.2.2.1) hE) _
                    refine R_aload_n (k := 0) rfl rfl rfl ?_
                    refine R_getf_i (j := 20) rfl ft_9_259 sh_96 rfl ?_
                    refine N_eq (fun x251 e252 => ?_)
                    have e253 : x251 = (evOf h).2.2.2.2.2.1 := by rw [e252]; exact congrArg (fun q : EV => q.2.2.2.2.2.1) hE
                    refine K_iast (a := x247.toInt) (lo := (-2147483648)) (hi' := 2147483647) rfl sh_108 rfl ⟨by omega, by omega⟩ hI (by decide) rfl (i_rng _) fr (by decide) (fun h254 g255 hI fr => ?_)
                    have fl12 : FR [96, 107, 108, 109, 117, 118] h h254 := by rw [g255]; exact FR_wI _ _ fl12 (by decide)
                    have s256 : (h254.1 96 41).toInt = (h235.1 96 41).toInt := by rw [g255, wI_ne _ _ _ (by decide)]
                    have s257 : (h254.1 96 42).toInt = (h235.1 96 42).toInt := by rw [g255, wI_ne _ _ _ (by decide)]
                    have s258 : (h254.1 96 19).toInt = (h235.1 96 19).toInt := by rw [g255, wI_ne _ _ _ (by decide)]
                    have s259 : (h254.1 96 18).toInt = (h235.1 96 18).toInt := by rw [g255, wI_ne _ _ _ (by decide)]
                    have s260 : (h254.1 96 20).toInt = (h235.1 96 20).toInt := by rw [g255, wI_ne _ _ _ (by decide)]
                    have s261 : (h254.1 96 46).toInt = (h235.1 96 46).toInt := by rw [g255, wI_ne _ _ _ (by decide)]
                    have s262 : (h254.1 96 44).toInt = (h235.1 96 44).toInt := by rw [g255, wI_ne _ _ _ (by decide)]
                    have s263 : (h254.1 96 47).toInt = (h235.1 96 47).toInt := by rw [g255, wI_ne _ _ _ (by decide)]
                    have s264 : (h254.1 96 48).toInt = (h235.1 96 48).toInt := by rw [g255, wI_ne _ _ _ (by decide)]
                    have s265 : (h254.1 96 51).toInt = (h235.1 96 51).toInt := by rw [g255, wI_ne _ _ _ (by decide)]
                    have hK : kyOf h254 = (upd ((zMid (evOf h) a0 a1 (kyOf h)).1) x231.toNatClampNeg (0), upd ((zMid (evOf h) a0 a1 (kyOf h)).2.1) x247.toNatClampNeg x251, upd ((zMid (evOf h) a0 a1 (kyOf h)).2.2.1) (0 : Int32).toNatClampNeg x217, (zMid (evOf h) a0 a1 (kyOf h)).2.2.2) := by rw [g255, ky_108 (nlt ⟨by omega, by omega⟩), hK] <;> rfl
                    have hE : evOf h254 = evOf h := by rw [g255, ev_o (by decide), hE]
                    have hK : kyOf h254 = zTake (evOf h) a0 (zMid (evOf h) a0 a1 (kyOf h)) := by
                      refine hK.trans ?_
                      subst e253 e250 e234 e218 e215 e138 e128 e50 e47
                      simp only [zTake, zTake1, eMany, eLine, eFull] <;> (repeat' split) <;> first | (exfalso; omega) | rfl
                    refine R_iconst 0 rfl rfl ?_
                    refine R_istore_n (k := 3) rfl [(3, .inl 0), (0, .inr (.inr (.inl 96))), (1, .inl a0), (2, .inl a1)] rfl rfl (by decide) ?_
                    have lp267 : ∀ (n266 : Nat) (h268 : PH) (x270 : Int32), INV h268 → FR [96, 107, 108, 109, 117, 118] h h268 → FR [107] h254 h268 → 0 ≤ x270.toInt ∧ x270.toInt ≤ 6 → x270.toInt ≤ (h254.1 96 18).toInt + 0 → (kyOf h268 = zHolds (evOf h) a0 x270.toNatClampNeg (zTake (evOf h) a0 (zMid (evOf h) a0 a1 (kyOf h)))) → (evOf h268 = evOf h) → (6 - x270.toInt).toNat < n266 → RUN d_X9_goSecond 166 [(3, .inl x270), (0, .inr (.inr (.inl 96))), (1, .inl a0), (2, .inl a1)] [] h268 (qg_X9_goSecond h a0 a1) := by
                      intro n266
                      induction n266 with
                      | zero => intro h268 x270 m272 m273 m274 m275 m276 m277 m278 hz; exact absurd hz (Nat.not_lt_zero _)
                      | succ n266 ih271 =>
                        intro h268 x270 hI fr fl269 m275 m276 m277 m278 hz
                        have s279 : (h268.1 96 41).toInt = (h254.1 96 41).toInt := by rw [(fl269 96 (by decide)).1]
                        have s280 : (h268.1 96 42).toInt = (h254.1 96 42).toInt := by rw [(fl269 96 (by decide)).1]
                        have s281 : (h268.1 96 19).toInt = (h254.1 96 19).toInt := by rw [(fl269 96 (by decide)).1]
                        have s282 : (h268.1 96 18).toInt = (h254.1 96 18).toInt := by rw [(fl269 96 (by decide)).1]
                        have s283 : (h268.1 96 20).toInt = (h254.1 96 20).toInt := by rw [(fl269 96 (by decide)).1]
                        have s284 : (h268.1 96 46).toInt = (h254.1 96 46).toInt := by rw [(fl269 96 (by decide)).1]
                        have s285 : (h268.1 96 44).toInt = (h254.1 96 44).toInt := by rw [(fl269 96 (by decide)).1]
                        have s286 : (h268.1 96 47).toInt = (h254.1 96 47).toInt := by rw [(fl269 96 (by decide)).1]
                        have s287 : (h268.1 96 48).toInt = (h254.1 96 48).toInt := by rw [(fl269 96 (by decide)).1]
                        have s288 : (h268.1 96 51).toInt = (h254.1 96 51).toInt := by rw [(fl269 96 (by decide)).1]
                        have fl12 : FR [96, 107, 108, 109, 117, 118] h h268 := fl12.trans fl269 (by decide)
                        have hE := m278
                        have hK : kyOf h268 = kyOf h268 := rfl
                        refine R_iload_n (k := 3) rfl rfl rfl ?_
                        refine R_aload_n (k := 0) rfl rfl rfl ?_
                        refine R_getf_i (j := 18) rfl ft_9_253 sh_96 rfl ?_
                        refine N_icmp_ge (a := x270.toInt) (b := (h268.1 96 18).toInt) 224 rfl rfl rfl rfl (fun c289 => ?_) (fun c289 => ?_)
                        · have hF : kyOf h268 = zSecond (evOf h) a0 a1 (kyOf h) := m277.trans (by rw [show x270 = (evOf h).2.2.2.2.1 from i_of _ (by omega)]; rfl)
                          exact R_vret rfl rfl ⟨hI, fr, ⟨by omega, by omega, by omega, by omega, by omega, by omega, by omega, by omega, by omega, by omega, hF, hE, trivial⟩, rfl⟩
                        · refine R_aload_n (k := 0) rfl rfl rfl ?_
                          refine R_getf_r (j := 22) rfl ft_9_46 sh_96 rfl ?_
                          refine R_aload_n (k := 0) rfl rfl rfl ?_
                          refine R_getf_r (j := 17) rfl ft_9_40 sh_96 rfl ?_
                          refine R_iload_n (k := 3) rfl rfl rfl ?_
                          refine R_iald rfl sh_105 ⟨by omega, by omega⟩ ?_
                          refine N_eq (fun x290 e291 => ?_)
                          have q292 : 0 ≤ x290.toInt ∧ x290.toInt ≤ 5 := by rw [e291]; exact hI.1 105 _
                          have e293 : x290 = (evOf h).2.2.2.1 x270.toNatClampNeg := by rw [e291]; exact congrFun (congrArg (fun q : EV => q.2.2.2.1) hE) _
                          refine R_iald rfl sh_107 ⟨by omega, by omega⟩ ?_
                          refine N_eq (fun x294 e295 => ?_)
                          have e296 : x294 = ((kyOf h268).1) x290.toNatClampNeg := by rw [e295]; exact (ky_at107 (nlt ⟨by omega, by omega⟩)).trans (congrFun (congrArg (fun q : KY => q.1) hK) _)
                          refine R_iconst (-1) rfl rfl ?_
                          refine N_icmp_eq (a := x294.toInt) (b := (-1)) 218 rfl rfl rfl (by decide) (fun c297 => ?_) (fun c297 => ?_)
                          · refine N_iinc (a := x270.toInt) (c := 1) (fun w => [(3, .inl w), (0, .inr (.inr (.inl 96))), (1, .inl a0), (2, .inl a1)]) rfl rfl (fun _ => rfl) (by decide) rfl (by decide) (by omega) (fun x298 q299 => ?_)
                            refine R_goto 166 rfl rfl ?_
                            exact RUN_weak (psub_cons rfl (psub_cons rfl (psub_cons rfl (psub_cons rfl (psub_nil _))))) (ih271 h268 x298 hI fr fl269 (by omega) (by omega) (by rw [zHolds_s (x := x270) (x' := x298) (by omega) (by omega), ← m277]; refine hK.trans ?_; subst e296 e293; simp only [zHold1, eLine] <;> (repeat' split) <;> first | (exfalso; omega) | rfl) (hE) (by omega))
                          · refine R_aload_n (k := 0) rfl rfl rfl ?_
                            refine R_aload_n (k := 0) rfl rfl rfl ?_
                            refine R_getf_r (j := 17) rfl ft_9_40 sh_96 rfl ?_
                            refine R_iload_n (k := 3) rfl rfl rfl ?_
                            refine R_iald rfl sh_105 ⟨by omega, by omega⟩ ?_
                            refine N_eq (fun x300 e301 => ?_)
                            have q302 : 0 ≤ x300.toInt ∧ x300.toInt ≤ 5 := by rw [e301]; exact hI.1 105 _
                            have e303 : x300 = (evOf h).2.2.2.1 x270.toNatClampNeg := by rw [e301]; exact congrFun (congrArg (fun q : EV => q.2.2.2.1) hE) _
                            refine R_iload_n (k := 1) rfl rfl rfl ?_
                            refine R_callV (v := .inr (.inr (.inl 96))) (As := [.inl x300, .inl a0]) (rest := []) rfl mt_9_i271 pp_X9_doesRest (by decide) rfl rfl rfl (Nat.le_of_ble_eq_true rfl) (Nat.le_of_ble_eq_true rfl) ((g_X9_doesRest h268 hI x300 a0 (by omega) (by omega)).mono (fun r304 h305 p306 => ?_))
                            obtain ⟨rfl, x308, rfl, (q309 | q309 | q309), zq307, -⟩ := p306
                            · rw [hE] at zq307
                              exfalso; omega
                            · rw [hE] at zq307
                              show RUN d_X9_goSecond 200 [(3, .inl x270), (0, .inr (.inr (.inl 96))), (1, .inl a0), (2, .inl a1)] [.inl x308] h268 _
                              refine N_if_ne (a := x308.toInt) 218 rfl rfl rfl (fun c310 => ?_) (fun c310 => ?_)
                              · exfalso; omega
                              · refine R_aload_n (k := 0) rfl rfl rfl ?_
                                refine R_getf_r (j := 22) rfl ft_9_46 sh_96 rfl ?_
                                refine R_aload_n (k := 0) rfl rfl rfl ?_
                                refine R_getf_r (j := 17) rfl ft_9_40 sh_96 rfl ?_
                                refine R_iload_n (k := 3) rfl rfl rfl ?_
                                refine R_iald rfl sh_105 ⟨by omega, by omega⟩ ?_
                                refine N_eq (fun x311 e312 => ?_)
                                have q313 : 0 ≤ x311.toInt ∧ x311.toInt ≤ 5 := by rw [e312]; exact hI.1 105 _
                                have e314 : x311 = (evOf h).2.2.2.1 x270.toNatClampNeg := by rw [e312]; exact congrFun (congrArg (fun q : EV => q.2.2.2.1) hE) _
                                refine R_dup2 rfl ?_
                                refine R_iald rfl sh_107 ⟨by omega, by omega⟩ ?_
                                refine N_eq (fun x315 e316 => ?_)
                                have e317 : x315 = ((kyOf h268).1) x311.toNatClampNeg := by rw [e316]; exact (ky_at107 (nlt ⟨by omega, by omega⟩)).trans (congrFun (congrArg (fun q : KY => q.1) hK) _)
                                refine R_iconst 1 rfl rfl ?_
                                have b318 := i_rng x315
                                refine R_iadd rfl ?_
                                refine N_eq (fun x319 e320 => ?_)
                                refine K_iast (a := x311.toInt) (lo := (-2147483648)) (hi' := 2147483647) rfl sh_107 rfl ⟨by omega, by omega⟩ hI (by decide) rfl (i_rng _) fr (by decide) (fun h321 g322 hI fr => ?_)
                                have fl269 : FR [107] h254 h321 := by rw [g322]; exact FR_wI _ _ fl269 (by decide)
                                have fl12 : FR [96, 107, 108, 109, 117, 118] h h321 := by rw [g322]; exact FR_wI _ _ fl12 (by decide)
                                have s323 : (h321.1 96 41).toInt = (h268.1 96 41).toInt := by rw [g322, wI_ne _ _ _ (by decide)]
                                have s324 : (h321.1 96 42).toInt = (h268.1 96 42).toInt := by rw [g322, wI_ne _ _ _ (by decide)]
                                have s325 : (h321.1 96 19).toInt = (h268.1 96 19).toInt := by rw [g322, wI_ne _ _ _ (by decide)]
                                have s326 : (h321.1 96 18).toInt = (h268.1 96 18).toInt := by rw [g322, wI_ne _ _ _ (by decide)]
                                have s327 : (h321.1 96 20).toInt = (h268.1 96 20).toInt := by rw [g322, wI_ne _ _ _ (by decide)]
                                have s328 : (h321.1 96 46).toInt = (h268.1 96 46).toInt := by rw [g322, wI_ne _ _ _ (by decide)]
                                have s329 : (h321.1 96 44).toInt = (h268.1 96 44).toInt := by rw [g322, wI_ne _ _ _ (by decide)]
                                have s330 : (h321.1 96 47).toInt = (h268.1 96 47).toInt := by rw [g322, wI_ne _ _ _ (by decide)]
                                have s331 : (h321.1 96 48).toInt = (h268.1 96 48).toInt := by rw [g322, wI_ne _ _ _ (by decide)]
                                have s332 : (h321.1 96 51).toInt = (h268.1 96 51).toInt := by rw [g322, wI_ne _ _ _ (by decide)]
                                have hK : kyOf h321 = (upd ((kyOf h268).1) x311.toNatClampNeg x319, (kyOf h268).2.1, (kyOf h268).2.2.1, (kyOf h268).2.2.2) := by rw [g322, ky_107 (nlt ⟨by omega, by omega⟩), hK] <;> rfl
                                have hE : evOf h321 = evOf h := by rw [g322, ev_o (by decide), hE]
                                refine N_iinc (a := x270.toInt) (c := 1) (fun w => [(3, .inl w), (0, .inr (.inr (.inl 96))), (1, .inl a0), (2, .inl a1)]) rfl rfl (fun _ => rfl) (by decide) rfl (by decide) (by omega) (fun x333 q334 => ?_)
                                refine R_goto 166 rfl rfl ?_
                                exact RUN_weak (psub_cons rfl (psub_cons rfl (psub_cons rfl (psub_cons rfl (psub_nil _))))) (ih271 h321 x333 hI fr fl269 (by omega) (by omega) (by rw [zHolds_s (x := x270) (x' := x333) (by omega) (by omega), ← m277]; refine hK.trans ?_; subst e320 e317 e314 e303 e296 e293; simp only [zHold1, eLine] <;> (repeat' split) <;> first | (exfalso; omega) | rfl) (hE) (by omega))
                            · rw [hE] at zq307
                              show RUN d_X9_goSecond 200 [(3, .inl x270), (0, .inr (.inr (.inl 96))), (1, .inl a0), (2, .inl a1)] [.inl x308] h268 _
                              refine N_if_ne (a := x308.toInt) 218 rfl rfl rfl (fun c335 => ?_) (fun c335 => ?_)
                              · refine N_iinc (a := x270.toInt) (c := 1) (fun w => [(3, .inl w), (0, .inr (.inr (.inl 96))), (1, .inl a0), (2, .inl a1)]) rfl rfl (fun _ => rfl) (by decide) rfl (by decide) (by omega) (fun x336 q337 => ?_)
                                refine R_goto 166 rfl rfl ?_
                                exact RUN_weak (psub_cons rfl (psub_cons rfl (psub_cons rfl (psub_cons rfl (psub_nil _))))) (ih271 h268 x336 hI fr fl269 (by omega) (by omega) (by rw [zHolds_s (x := x270) (x' := x336) (by omega) (by omega), ← m277]; refine hK.trans ?_; subst e303 e296 e293; simp only [zHold1, eLine] <;> (repeat' split) <;> first | (exfalso; omega) | rfl) (hE) (by omega))
                              · exfalso; omega
                    have k338 : (0 : Int32).toInt = 0 := by decide
                    exact lp267 _ h254 (0 : Int32) hI fr (FR.rf _ _) (by decide) (by omega) (by rw [hK]; rfl) (hE) (Nat.lt_succ_self _)
              · rw [hE] at zq132
                show RUN d_X9_goSecond 115 [(3, .inl x13), (0, .inr (.inr (.inl 96))), (1, .inl a0), (2, .inl a1)] [.inl x133] h11 _
                refine N_if_ne (a := x133.toInt) 164 rfl rfl rfl (fun c339 => ?_) (fun c339 => ?_)
                · have hK : kyOf h11 = zTake (evOf h) a0 (zMid (evOf h) a0 a1 (kyOf h)) := by
                    refine hK.trans ?_
                    subst e128 e50 e47
                    simp only [zTake, zTake1, eMany, eLine, eFull] <;> (repeat' split) <;> first | (exfalso; omega) | rfl
                  refine R_iconst 0 rfl rfl ?_
                  refine R_istore_n (k := 3) rfl [(3, .inl 0), (0, .inr (.inr (.inl 96))), (1, .inl a0), (2, .inl a1)] rfl rfl (by decide) ?_
                  have lp341 : ∀ (n340 : Nat) (h342 : PH) (x344 : Int32), INV h342 → FR [96, 107, 108, 109, 117, 118] h h342 → FR [107] h11 h342 → 0 ≤ x344.toInt ∧ x344.toInt ≤ 6 → x344.toInt ≤ (h11.1 96 18).toInt + 0 → (kyOf h342 = zHolds (evOf h) a0 x344.toNatClampNeg (zTake (evOf h) a0 (zMid (evOf h) a0 a1 (kyOf h)))) → (evOf h342 = evOf h) → (6 - x344.toInt).toNat < n340 → RUN d_X9_goSecond 166 [(3, .inl x344), (0, .inr (.inr (.inl 96))), (1, .inl a0), (2, .inl a1)] [] h342 (qg_X9_goSecond h a0 a1) := by
                    intro n340
                    induction n340 with
                    | zero => intro h342 x344 m346 m347 m348 m349 m350 m351 m352 hz; exact absurd hz (Nat.not_lt_zero _)
                    | succ n340 ih345 =>
                      intro h342 x344 hI fr fl343 m349 m350 m351 m352 hz
                      have s353 : (h342.1 96 41).toInt = (h11.1 96 41).toInt := by rw [(fl343 96 (by decide)).1]
                      have s354 : (h342.1 96 42).toInt = (h11.1 96 42).toInt := by rw [(fl343 96 (by decide)).1]
                      have s355 : (h342.1 96 19).toInt = (h11.1 96 19).toInt := by rw [(fl343 96 (by decide)).1]
                      have s356 : (h342.1 96 18).toInt = (h11.1 96 18).toInt := by rw [(fl343 96 (by decide)).1]
                      have s357 : (h342.1 96 20).toInt = (h11.1 96 20).toInt := by rw [(fl343 96 (by decide)).1]
                      have s358 : (h342.1 96 46).toInt = (h11.1 96 46).toInt := by rw [(fl343 96 (by decide)).1]
                      have s359 : (h342.1 96 44).toInt = (h11.1 96 44).toInt := by rw [(fl343 96 (by decide)).1]
                      have s360 : (h342.1 96 47).toInt = (h11.1 96 47).toInt := by rw [(fl343 96 (by decide)).1]
                      have s361 : (h342.1 96 48).toInt = (h11.1 96 48).toInt := by rw [(fl343 96 (by decide)).1]
                      have s362 : (h342.1 96 51).toInt = (h11.1 96 51).toInt := by rw [(fl343 96 (by decide)).1]
                      have fl12 : FR [96, 107, 108, 109, 117, 118] h h342 := fl12.trans fl343 (by decide)
                      have hE := m352
                      have hK : kyOf h342 = kyOf h342 := rfl
                      refine R_iload_n (k := 3) rfl rfl rfl ?_
                      refine R_aload_n (k := 0) rfl rfl rfl ?_
                      refine R_getf_i (j := 18) rfl ft_9_253 sh_96 rfl ?_
                      refine N_icmp_ge (a := x344.toInt) (b := (h342.1 96 18).toInt) 224 rfl rfl rfl rfl (fun c363 => ?_) (fun c363 => ?_)
                      · have hF : kyOf h342 = zSecond (evOf h) a0 a1 (kyOf h) := m351.trans (by rw [show x344 = (evOf h).2.2.2.2.1 from i_of _ (by omega)]; rfl)
                        exact R_vret rfl rfl ⟨hI, fr, ⟨by omega, by omega, by omega, by omega, by omega, by omega, by omega, by omega, by omega, by omega, hF, hE, trivial⟩, rfl⟩
                      · refine R_aload_n (k := 0) rfl rfl rfl ?_
                        refine R_getf_r (j := 22) rfl ft_9_46 sh_96 rfl ?_
                        refine R_aload_n (k := 0) rfl rfl rfl ?_
                        refine R_getf_r (j := 17) rfl ft_9_40 sh_96 rfl ?_
                        refine R_iload_n (k := 3) rfl rfl rfl ?_
                        refine R_iald rfl sh_105 ⟨by omega, by omega⟩ ?_
                        refine N_eq (fun x364 e365 => ?_)
                        have q366 : 0 ≤ x364.toInt ∧ x364.toInt ≤ 5 := by rw [e365]; exact hI.1 105 _
                        have e367 : x364 = (evOf h).2.2.2.1 x344.toNatClampNeg := by rw [e365]; exact congrFun (congrArg (fun q : EV => q.2.2.2.1) hE) _
                        refine R_iald rfl sh_107 ⟨by omega, by omega⟩ ?_
                        refine N_eq (fun x368 e369 => ?_)
                        have e370 : x368 = ((kyOf h342).1) x364.toNatClampNeg := by rw [e369]; exact (ky_at107 (nlt ⟨by omega, by omega⟩)).trans (congrFun (congrArg (fun q : KY => q.1) hK) _)
                        refine R_iconst (-1) rfl rfl ?_
                        refine N_icmp_eq (a := x368.toInt) (b := (-1)) 218 rfl rfl rfl (by decide) (fun c371 => ?_) (fun c371 => ?_)
                        · refine N_iinc (a := x344.toInt) (c := 1) (fun w => [(3, .inl w), (0, .inr (.inr (.inl 96))), (1, .inl a0), (2, .inl a1)]) rfl rfl (fun _ => rfl) (by decide) rfl (by decide) (by omega) (fun x372 q373 => ?_)
                          refine R_goto 166 rfl rfl ?_
                          exact RUN_weak (psub_cons rfl (psub_cons rfl (psub_cons rfl (psub_cons rfl (psub_nil _))))) (ih345 h342 x372 hI fr fl343 (by omega) (by omega) (by rw [zHolds_s (x := x344) (x' := x372) (by omega) (by omega), ← m351]; refine hK.trans ?_; subst e370 e367; simp only [zHold1, eLine] <;> (repeat' split) <;> first | (exfalso; omega) | rfl) (hE) (by omega))
                        · refine R_aload_n (k := 0) rfl rfl rfl ?_
                          refine R_aload_n (k := 0) rfl rfl rfl ?_
                          refine R_getf_r (j := 17) rfl ft_9_40 sh_96 rfl ?_
                          refine R_iload_n (k := 3) rfl rfl rfl ?_
                          refine R_iald rfl sh_105 ⟨by omega, by omega⟩ ?_
                          refine N_eq (fun x374 e375 => ?_)
                          have q376 : 0 ≤ x374.toInt ∧ x374.toInt ≤ 5 := by rw [e375]; exact hI.1 105 _
                          have e377 : x374 = (evOf h).2.2.2.1 x344.toNatClampNeg := by rw [e375]; exact congrFun (congrArg (fun q : EV => q.2.2.2.1) hE) _
                          refine R_iload_n (k := 1) rfl rfl rfl ?_
                          refine R_callV (v := .inr (.inr (.inl 96))) (As := [.inl x374, .inl a0]) (rest := []) rfl mt_9_i271 pp_X9_doesRest (by decide) rfl rfl rfl (Nat.le_of_ble_eq_true rfl) (Nat.le_of_ble_eq_true rfl) ((g_X9_doesRest h342 hI x374 a0 (by omega) (by omega)).mono (fun r378 h379 p380 => ?_))
                          obtain ⟨rfl, x382, rfl, (q383 | q383 | q383), zq381, -⟩ := p380
                          · rw [hE] at zq381
                            exfalso; omega
                          · rw [hE] at zq381
                            show RUN d_X9_goSecond 200 [(3, .inl x344), (0, .inr (.inr (.inl 96))), (1, .inl a0), (2, .inl a1)] [.inl x382] h342 _
                            refine N_if_ne (a := x382.toInt) 218 rfl rfl rfl (fun c384 => ?_) (fun c384 => ?_)
                            · exfalso; omega
                            · refine R_aload_n (k := 0) rfl rfl rfl ?_
                              refine R_getf_r (j := 22) rfl ft_9_46 sh_96 rfl ?_
                              refine R_aload_n (k := 0) rfl rfl rfl ?_
                              refine R_getf_r (j := 17) rfl ft_9_40 sh_96 rfl ?_
                              refine R_iload_n (k := 3) rfl rfl rfl ?_
                              refine R_iald rfl sh_105 ⟨by omega, by omega⟩ ?_
                              refine N_eq (fun x385 e386 => ?_)
                              have q387 : 0 ≤ x385.toInt ∧ x385.toInt ≤ 5 := by rw [e386]; exact hI.1 105 _
                              have e388 : x385 = (evOf h).2.2.2.1 x344.toNatClampNeg := by rw [e386]; exact congrFun (congrArg (fun q : EV => q.2.2.2.1) hE) _
                              refine R_dup2 rfl ?_
                              refine R_iald rfl sh_107 ⟨by omega, by omega⟩ ?_
                              refine N_eq (fun x389 e390 => ?_)
                              have e391 : x389 = ((kyOf h342).1) x385.toNatClampNeg := by rw [e390]; exact (ky_at107 (nlt ⟨by omega, by omega⟩)).trans (congrFun (congrArg (fun q : KY => q.1) hK) _)
                              refine R_iconst 1 rfl rfl ?_
                              have b392 := i_rng x389
                              refine R_iadd rfl ?_
                              refine N_eq (fun x393 e394 => ?_)
                              refine K_iast (a := x385.toInt) (lo := (-2147483648)) (hi' := 2147483647) rfl sh_107 rfl ⟨by omega, by omega⟩ hI (by decide) rfl (i_rng _) fr (by decide) (fun h395 g396 hI fr => ?_)
                              have fl343 : FR [107] h11 h395 := by rw [g396]; exact FR_wI _ _ fl343 (by decide)
                              have fl12 : FR [96, 107, 108, 109, 117, 118] h h395 := by rw [g396]; exact FR_wI _ _ fl12 (by decide)
                              have s397 : (h395.1 96 41).toInt = (h342.1 96 41).toInt := by rw [g396, wI_ne _ _ _ (by decide)]
                              have s398 : (h395.1 96 42).toInt = (h342.1 96 42).toInt := by rw [g396, wI_ne _ _ _ (by decide)]
                              have s399 : (h395.1 96 19).toInt = (h342.1 96 19).toInt := by rw [g396, wI_ne _ _ _ (by decide)]
                              have s400 : (h395.1 96 18).toInt = (h342.1 96 18).toInt := by rw [g396, wI_ne _ _ _ (by decide)]
                              have s401 : (h395.1 96 20).toInt = (h342.1 96 20).toInt := by rw [g396, wI_ne _ _ _ (by decide)]
                              have s402 : (h395.1 96 46).toInt = (h342.1 96 46).toInt := by rw [g396, wI_ne _ _ _ (by decide)]
                              have s403 : (h395.1 96 44).toInt = (h342.1 96 44).toInt := by rw [g396, wI_ne _ _ _ (by decide)]
                              have s404 : (h395.1 96 47).toInt = (h342.1 96 47).toInt := by rw [g396, wI_ne _ _ _ (by decide)]
                              have s405 : (h395.1 96 48).toInt = (h342.1 96 48).toInt := by rw [g396, wI_ne _ _ _ (by decide)]
                              have s406 : (h395.1 96 51).toInt = (h342.1 96 51).toInt := by rw [g396, wI_ne _ _ _ (by decide)]
                              have hK : kyOf h395 = (upd ((kyOf h342).1) x385.toNatClampNeg x393, (kyOf h342).2.1, (kyOf h342).2.2.1, (kyOf h342).2.2.2) := by rw [g396, ky_107 (nlt ⟨by omega, by omega⟩), hK] <;> rfl
                              have hE : evOf h395 = evOf h := by rw [g396, ev_o (by decide), hE]
                              refine N_iinc (a := x344.toInt) (c := 1) (fun w => [(3, .inl w), (0, .inr (.inr (.inl 96))), (1, .inl a0), (2, .inl a1)]) rfl rfl (fun _ => rfl) (by decide) rfl (by decide) (by omega) (fun x407 q408 => ?_)
                              refine R_goto 166 rfl rfl ?_
                              exact RUN_weak (psub_cons rfl (psub_cons rfl (psub_cons rfl (psub_cons rfl (psub_nil _))))) (ih345 h395 x407 hI fr fl343 (by omega) (by omega) (by rw [zHolds_s (x := x344) (x' := x407) (by omega) (by omega), ← m351]; refine hK.trans ?_; subst e394 e391 e388 e377 e370 e367; simp only [zHold1, eLine] <;> (repeat' split) <;> first | (exfalso; omega) | rfl) (hE) (by omega))
                          · rw [hE] at zq381
                            show RUN d_X9_goSecond 200 [(3, .inl x344), (0, .inr (.inr (.inl 96))), (1, .inl a0), (2, .inl a1)] [.inl x382] h342 _
                            refine N_if_ne (a := x382.toInt) 218 rfl rfl rfl (fun c409 => ?_) (fun c409 => ?_)
                            · refine N_iinc (a := x344.toInt) (c := 1) (fun w => [(3, .inl w), (0, .inr (.inr (.inl 96))), (1, .inl a0), (2, .inl a1)]) rfl rfl (fun _ => rfl) (by decide) rfl (by decide) (by omega) (fun x410 q411 => ?_)
                              refine R_goto 166 rfl rfl ?_
                              exact RUN_weak (psub_cons rfl (psub_cons rfl (psub_cons rfl (psub_cons rfl (psub_nil _))))) (ih345 h342 x410 hI fr fl343 (by omega) (by omega) (by rw [zHolds_s (x := x344) (x' := x410) (by omega) (by omega), ← m351]; refine hK.trans ?_; subst e377 e370 e367; simp only [zHold1, eLine] <;> (repeat' split) <;> first | (exfalso; omega) | rfl) (hE) (by omega))
                            · exfalso; omega
                  have k412 : (0 : Int32).toInt = 0 := by decide
                  exact lp341 _ h11 (0 : Int32) hI fr (FR.rf _ _) (by decide) (by omega) (by rw [hK]; rfl) (hE) (Nat.lt_succ_self _)
                · exfalso; omega
        · refine R_iload_n (k := 2) rfl rfl rfl ?_
          refine N_if_ne (a := a1.toInt) 82 rfl rfl rfl (fun c413 => ?_) (fun c413 => ?_)
          · have hK : kyOf h11 = zMid (evOf h) a0 a1 (kyOf h) := by
              unfold zMid
              split
              · first | (exfalso; omega) | (have hA := m31; rw [show (x13.toInt + 1).toNat = 0 by omega] at hA; exact hA)
              · exact m32 (by omega)
            refine R_aload_n (k := 0) rfl rfl rfl ?_
            refine R_getf_i (j := 18) rfl ft_9_253 sh_96 rfl ?_
            refine N_if_le (a := (h11.1 96 18).toInt) 164 rfl rfl rfl (fun c414 => ?_) (fun c414 => ?_)
            · exfalso; omega
            · refine R_aload_n (k := 0) rfl rfl rfl ?_
              refine R_getf_r (j := 22) rfl ft_9_46 sh_96 rfl ?_
              refine R_aload_n (k := 0) rfl rfl rfl ?_
              refine R_getf_r (j := 17) rfl ft_9_40 sh_96 rfl ?_
              refine R_iconst 0 rfl rfl ?_
              refine R_iald rfl sh_105 (by decide) ?_
              refine N_eq (fun x415 e416 => ?_)
              have q417 : 0 ≤ x415.toInt ∧ x415.toInt ≤ 5 := by rw [e416]; exact hI.1 105 _
              have e418 : x415 = (evOf h).2.2.2.1 (0 : Int32).toNatClampNeg := by rw [e416]; exact congrFun (congrArg (fun q : EV => q.2.2.2.1) hE) _
              refine R_iald rfl sh_107 ⟨by omega, by omega⟩ ?_
              refine N_eq (fun x419 e420 => ?_)
              have e421 : x419 = ((zMid (evOf h) a0 a1 (kyOf h)).1) x415.toNatClampNeg := by rw [e420]; exact (ky_at107 (nlt ⟨by omega, by omega⟩)).trans (congrFun (congrArg (fun q : KY => q.1) hK) _)
              refine R_iconst (-1) rfl rfl ?_
              refine N_icmp_ne (a := x419.toInt) (b := (-1)) 164 rfl rfl rfl (by decide) (fun c422 => ?_) (fun c422 => ?_)
              · have hK : kyOf h11 = zTake (evOf h) a0 (zMid (evOf h) a0 a1 (kyOf h)) := by
                  refine hK.trans ?_
                  subst e421 e418
                  simp only [zTake, zTake1, eMany, eLine, eFull] <;> (repeat' split) <;> first | (exfalso; omega) | rfl
                refine R_iconst 0 rfl rfl ?_
                refine R_istore_n (k := 3) rfl [(3, .inl 0), (0, .inr (.inr (.inl 96))), (1, .inl a0), (2, .inl a1)] rfl rfl (by decide) ?_
                have lp424 : ∀ (n423 : Nat) (h425 : PH) (x427 : Int32), INV h425 → FR [96, 107, 108, 109, 117, 118] h h425 → FR [107] h11 h425 → 0 ≤ x427.toInt ∧ x427.toInt ≤ 6 → x427.toInt ≤ (h11.1 96 18).toInt + 0 → (kyOf h425 = zHolds (evOf h) a0 x427.toNatClampNeg (zTake (evOf h) a0 (zMid (evOf h) a0 a1 (kyOf h)))) → (evOf h425 = evOf h) → (6 - x427.toInt).toNat < n423 → RUN d_X9_goSecond 166 [(3, .inl x427), (0, .inr (.inr (.inl 96))), (1, .inl a0), (2, .inl a1)] [] h425 (qg_X9_goSecond h a0 a1) := by
                  intro n423
                  induction n423 with
                  | zero => intro h425 x427 m429 m430 m431 m432 m433 m434 m435 hz; exact absurd hz (Nat.not_lt_zero _)
                  | succ n423 ih428 =>
                    intro h425 x427 hI fr fl426 m432 m433 m434 m435 hz
                    have s436 : (h425.1 96 41).toInt = (h11.1 96 41).toInt := by rw [(fl426 96 (by decide)).1]
                    have s437 : (h425.1 96 42).toInt = (h11.1 96 42).toInt := by rw [(fl426 96 (by decide)).1]
                    have s438 : (h425.1 96 19).toInt = (h11.1 96 19).toInt := by rw [(fl426 96 (by decide)).1]
                    have s439 : (h425.1 96 18).toInt = (h11.1 96 18).toInt := by rw [(fl426 96 (by decide)).1]
                    have s440 : (h425.1 96 20).toInt = (h11.1 96 20).toInt := by rw [(fl426 96 (by decide)).1]
                    have s441 : (h425.1 96 46).toInt = (h11.1 96 46).toInt := by rw [(fl426 96 (by decide)).1]
                    have s442 : (h425.1 96 44).toInt = (h11.1 96 44).toInt := by rw [(fl426 96 (by decide)).1]
                    have s443 : (h425.1 96 47).toInt = (h11.1 96 47).toInt := by rw [(fl426 96 (by decide)).1]
                    have s444 : (h425.1 96 48).toInt = (h11.1 96 48).toInt := by rw [(fl426 96 (by decide)).1]
                    have s445 : (h425.1 96 51).toInt = (h11.1 96 51).toInt := by rw [(fl426 96 (by decide)).1]
                    have fl12 : FR [96, 107, 108, 109, 117, 118] h h425 := fl12.trans fl426 (by decide)
                    have hE := m435
                    have hK : kyOf h425 = kyOf h425 := rfl
                    refine R_iload_n (k := 3) rfl rfl rfl ?_
                    refine R_aload_n (k := 0) rfl rfl rfl ?_
                    refine R_getf_i (j := 18) rfl ft_9_253 sh_96 rfl ?_
                    refine N_icmp_ge (a := x427.toInt) (b := (h425.1 96 18).toInt) 224 rfl rfl rfl rfl (fun c446 => ?_) (fun c446 => ?_)
                    · have hF : kyOf h425 = zSecond (evOf h) a0 a1 (kyOf h) := m434.trans (by rw [show x427 = (evOf h).2.2.2.2.1 from i_of _ (by omega)]; rfl)
                      exact R_vret rfl rfl ⟨hI, fr, ⟨by omega, by omega, by omega, by omega, by omega, by omega, by omega, by omega, by omega, by omega, hF, hE, trivial⟩, rfl⟩
                    · refine R_aload_n (k := 0) rfl rfl rfl ?_
                      refine R_getf_r (j := 22) rfl ft_9_46 sh_96 rfl ?_
                      refine R_aload_n (k := 0) rfl rfl rfl ?_
                      refine R_getf_r (j := 17) rfl ft_9_40 sh_96 rfl ?_
                      refine R_iload_n (k := 3) rfl rfl rfl ?_
                      refine R_iald rfl sh_105 ⟨by omega, by omega⟩ ?_
                      refine N_eq (fun x447 e448 => ?_)
                      have q449 : 0 ≤ x447.toInt ∧ x447.toInt ≤ 5 := by rw [e448]; exact hI.1 105 _
                      have e450 : x447 = (evOf h).2.2.2.1 x427.toNatClampNeg := by rw [e448]; exact congrFun (congrArg (fun q : EV => q.2.2.2.1) hE) _
                      refine R_iald rfl sh_107 ⟨by omega, by omega⟩ ?_
                      refine N_eq (fun x451 e452 => ?_)
                      have e453 : x451 = ((kyOf h425).1) x447.toNatClampNeg := by rw [e452]; exact (ky_at107 (nlt ⟨by omega, by omega⟩)).trans (congrFun (congrArg (fun q : KY => q.1) hK) _)
                      refine R_iconst (-1) rfl rfl ?_
                      refine N_icmp_eq (a := x451.toInt) (b := (-1)) 218 rfl rfl rfl (by decide) (fun c454 => ?_) (fun c454 => ?_)
                      · refine N_iinc (a := x427.toInt) (c := 1) (fun w => [(3, .inl w), (0, .inr (.inr (.inl 96))), (1, .inl a0), (2, .inl a1)]) rfl rfl (fun _ => rfl) (by decide) rfl (by decide) (by omega) (fun x455 q456 => ?_)
                        refine R_goto 166 rfl rfl ?_
                        exact RUN_weak (psub_cons rfl (psub_cons rfl (psub_cons rfl (psub_cons rfl (psub_nil _))))) (ih428 h425 x455 hI fr fl426 (by omega) (by omega) (by rw [zHolds_s (x := x427) (x' := x455) (by omega) (by omega), ← m434]; refine hK.trans ?_; subst e453 e450; simp only [zHold1, eLine] <;> (repeat' split) <;> first | (exfalso; omega) | rfl) (hE) (by omega))
                      · refine R_aload_n (k := 0) rfl rfl rfl ?_
                        refine R_aload_n (k := 0) rfl rfl rfl ?_
                        refine R_getf_r (j := 17) rfl ft_9_40 sh_96 rfl ?_
                        refine R_iload_n (k := 3) rfl rfl rfl ?_
                        refine R_iald rfl sh_105 ⟨by omega, by omega⟩ ?_
                        refine N_eq (fun x457 e458 => ?_)
                        have q459 : 0 ≤ x457.toInt ∧ x457.toInt ≤ 5 := by rw [e458]; exact hI.1 105 _
                        have e460 : x457 = (evOf h).2.2.2.1 x427.toNatClampNeg := by rw [e458]; exact congrFun (congrArg (fun q : EV => q.2.2.2.1) hE) _
                        refine R_iload_n (k := 1) rfl rfl rfl ?_
                        refine R_callV (v := .inr (.inr (.inl 96))) (As := [.inl x457, .inl a0]) (rest := []) rfl mt_9_i271 pp_X9_doesRest (by decide) rfl rfl rfl (Nat.le_of_ble_eq_true rfl) (Nat.le_of_ble_eq_true rfl) ((g_X9_doesRest h425 hI x457 a0 (by omega) (by omega)).mono (fun r461 h462 p463 => ?_))
                        obtain ⟨rfl, x465, rfl, (q466 | q466 | q466), zq464, -⟩ := p463
                        · rw [hE] at zq464
                          exfalso; omega
                        · rw [hE] at zq464
                          show RUN d_X9_goSecond 200 [(3, .inl x427), (0, .inr (.inr (.inl 96))), (1, .inl a0), (2, .inl a1)] [.inl x465] h425 _
                          refine N_if_ne (a := x465.toInt) 218 rfl rfl rfl (fun c467 => ?_) (fun c467 => ?_)
                          · exfalso; omega
                          · refine R_aload_n (k := 0) rfl rfl rfl ?_
                            refine R_getf_r (j := 22) rfl ft_9_46 sh_96 rfl ?_
                            refine R_aload_n (k := 0) rfl rfl rfl ?_
                            refine R_getf_r (j := 17) rfl ft_9_40 sh_96 rfl ?_
                            refine R_iload_n (k := 3) rfl rfl rfl ?_
                            refine R_iald rfl sh_105 ⟨by omega, by omega⟩ ?_
                            refine N_eq (fun x468 e469 => ?_)
                            have q470 : 0 ≤ x468.toInt ∧ x468.toInt ≤ 5 := by rw [e469]; exact hI.1 105 _
                            have e471 : x468 = (evOf h).2.2.2.1 x427.toNatClampNeg := by rw [e469]; exact congrFun (congrArg (fun q : EV => q.2.2.2.1) hE) _
                            refine R_dup2 rfl ?_
                            refine R_iald rfl sh_107 ⟨by omega, by omega⟩ ?_
                            refine N_eq (fun x472 e473 => ?_)
                            have e474 : x472 = ((kyOf h425).1) x468.toNatClampNeg := by rw [e473]; exact (ky_at107 (nlt ⟨by omega, by omega⟩)).trans (congrFun (congrArg (fun q : KY => q.1) hK) _)
                            refine R_iconst 1 rfl rfl ?_
                            have b475 := i_rng x472
                            refine R_iadd rfl ?_
                            refine N_eq (fun x476 e477 => ?_)
                            refine K_iast (a := x468.toInt) (lo := (-2147483648)) (hi' := 2147483647) rfl sh_107 rfl ⟨by omega, by omega⟩ hI (by decide) rfl (i_rng _) fr (by decide) (fun h478 g479 hI fr => ?_)
                            have fl426 : FR [107] h11 h478 := by rw [g479]; exact FR_wI _ _ fl426 (by decide)
                            have fl12 : FR [96, 107, 108, 109, 117, 118] h h478 := by rw [g479]; exact FR_wI _ _ fl12 (by decide)
                            have s480 : (h478.1 96 41).toInt = (h425.1 96 41).toInt := by rw [g479, wI_ne _ _ _ (by decide)]
                            have s481 : (h478.1 96 42).toInt = (h425.1 96 42).toInt := by rw [g479, wI_ne _ _ _ (by decide)]
                            have s482 : (h478.1 96 19).toInt = (h425.1 96 19).toInt := by rw [g479, wI_ne _ _ _ (by decide)]
                            have s483 : (h478.1 96 18).toInt = (h425.1 96 18).toInt := by rw [g479, wI_ne _ _ _ (by decide)]
                            have s484 : (h478.1 96 20).toInt = (h425.1 96 20).toInt := by rw [g479, wI_ne _ _ _ (by decide)]
                            have s485 : (h478.1 96 46).toInt = (h425.1 96 46).toInt := by rw [g479, wI_ne _ _ _ (by decide)]
                            have s486 : (h478.1 96 44).toInt = (h425.1 96 44).toInt := by rw [g479, wI_ne _ _ _ (by decide)]
                            have s487 : (h478.1 96 47).toInt = (h425.1 96 47).toInt := by rw [g479, wI_ne _ _ _ (by decide)]
                            have s488 : (h478.1 96 48).toInt = (h425.1 96 48).toInt := by rw [g479, wI_ne _ _ _ (by decide)]
                            have s489 : (h478.1 96 51).toInt = (h425.1 96 51).toInt := by rw [g479, wI_ne _ _ _ (by decide)]
                            have hK : kyOf h478 = (upd ((kyOf h425).1) x468.toNatClampNeg x476, (kyOf h425).2.1, (kyOf h425).2.2.1, (kyOf h425).2.2.2) := by rw [g479, ky_107 (nlt ⟨by omega, by omega⟩), hK] <;> rfl
                            have hE : evOf h478 = evOf h := by rw [g479, ev_o (by decide), hE]
                            refine N_iinc (a := x427.toInt) (c := 1) (fun w => [(3, .inl w), (0, .inr (.inr (.inl 96))), (1, .inl a0), (2, .inl a1)]) rfl rfl (fun _ => rfl) (by decide) rfl (by decide) (by omega) (fun x490 q491 => ?_)
                            refine R_goto 166 rfl rfl ?_
                            exact RUN_weak (psub_cons rfl (psub_cons rfl (psub_cons rfl (psub_cons rfl (psub_nil _))))) (ih428 h478 x490 hI fr fl426 (by omega) (by omega) (by rw [zHolds_s (x := x427) (x' := x490) (by omega) (by omega), ← m434]; refine hK.trans ?_; subst e477 e474 e471 e460 e453 e450; simp only [zHold1, eLine] <;> (repeat' split) <;> first | (exfalso; omega) | rfl) (hE) (by omega))
                        · rw [hE] at zq464
                          show RUN d_X9_goSecond 200 [(3, .inl x427), (0, .inr (.inr (.inl 96))), (1, .inl a0), (2, .inl a1)] [.inl x465] h425 _
                          refine N_if_ne (a := x465.toInt) 218 rfl rfl rfl (fun c492 => ?_) (fun c492 => ?_)
                          · refine N_iinc (a := x427.toInt) (c := 1) (fun w => [(3, .inl w), (0, .inr (.inr (.inl 96))), (1, .inl a0), (2, .inl a1)]) rfl rfl (fun _ => rfl) (by decide) rfl (by decide) (by omega) (fun x493 q494 => ?_)
                            refine R_goto 166 rfl rfl ?_
                            exact RUN_weak (psub_cons rfl (psub_cons rfl (psub_cons rfl (psub_cons rfl (psub_nil _))))) (ih428 h425 x493 hI fr fl426 (by omega) (by omega) (by rw [zHolds_s (x := x427) (x' := x493) (by omega) (by omega), ← m434]; refine hK.trans ?_; subst e460 e453 e450; simp only [zHold1, eLine] <;> (repeat' split) <;> first | (exfalso; omega) | rfl) (hE) (by omega))
                          · exfalso; omega
                have k495 : (0 : Int32).toInt = 0 := by decide
                exact lp424 _ h11 (0 : Int32) hI fr (FR.rf _ _) (by decide) (by omega) (by rw [hK]; rfl) (hE) (Nat.lt_succ_self _)
              · refine R_aload_n (k := 0) rfl rfl rfl ?_
                refine R_aload_n (k := 0) rfl rfl rfl ?_
                refine R_getf_r (j := 17) rfl ft_9_40 sh_96 rfl ?_
                refine R_iconst 0 rfl rfl ?_
                refine R_iald rfl sh_105 (by decide) ?_
                refine N_eq (fun x496 e497 => ?_)
                have q498 : 0 ≤ x496.toInt ∧ x496.toInt ≤ 5 := by rw [e497]; exact hI.1 105 _
                have e499 : x496 = (evOf h).2.2.2.1 (0 : Int32).toNatClampNeg := by rw [e497]; exact congrFun (congrArg (fun q : EV => q.2.2.2.1) hE) _
                refine R_iload_n (k := 1) rfl rfl rfl ?_
                refine R_callV (v := .inr (.inr (.inl 96))) (As := [.inl x496, .inl a0]) (rest := []) rfl mt_9_i271 pp_X9_doesRest (by decide) rfl rfl rfl (Nat.le_of_ble_eq_true rfl) (Nat.le_of_ble_eq_true rfl) ((g_X9_doesRest h11 hI x496 a0 (by omega) (by omega)).mono (fun r500 h501 p502 => ?_))
                obtain ⟨rfl, x504, rfl, (q505 | q505 | q505), zq503, -⟩ := p502
                · rw [hE] at zq503
                  exfalso; omega
                · rw [hE] at zq503
                  show RUN d_X9_goSecond 115 [(3, .inl x13), (0, .inr (.inr (.inl 96))), (1, .inl a0), (2, .inl a1)] [.inl x504] h11 _
                  refine N_if_ne (a := x504.toInt) 164 rfl rfl rfl (fun c506 => ?_) (fun c506 => ?_)
                  · exfalso; omega
                  · refine R_aload_n (k := 0) rfl rfl rfl ?_
                    refine R_getf_r (j := 24) rfl ft_9_52 sh_96 rfl ?_
                    refine R_iconst 0 rfl rfl ?_
                    refine R_iald rfl sh_109 (by decide) ?_
                    refine N_eq (fun x507 e508 => ?_)
                    have e509 : x507 = ((zMid (evOf h) a0 a1 (kyOf h)).2.2.1) (0 : Int32).toNatClampNeg := by rw [e508]; exact (ky_at109 (by decide)).trans (congrFun (congrArg (fun q : KY => q.2.2.1) hK) _)
                    refine N_if_le (a := x507.toInt) 164 rfl rfl rfl (fun c510 => ?_) (fun c510 => ?_)
                    · have hK : kyOf h11 = zTake (evOf h) a0 (zMid (evOf h) a0 a1 (kyOf h)) := by
                        refine hK.trans ?_
                        subst e509 e499 e421 e418
                        simp only [zTake, zTake1, eMany, eLine, eFull] <;> (repeat' split) <;> first | (exfalso; omega) | rfl
                      refine R_iconst 0 rfl rfl ?_
                      refine R_istore_n (k := 3) rfl [(3, .inl 0), (0, .inr (.inr (.inl 96))), (1, .inl a0), (2, .inl a1)] rfl rfl (by decide) ?_
                      have lp512 : ∀ (n511 : Nat) (h513 : PH) (x515 : Int32), INV h513 → FR [96, 107, 108, 109, 117, 118] h h513 → FR [107] h11 h513 → 0 ≤ x515.toInt ∧ x515.toInt ≤ 6 → x515.toInt ≤ (h11.1 96 18).toInt + 0 → (kyOf h513 = zHolds (evOf h) a0 x515.toNatClampNeg (zTake (evOf h) a0 (zMid (evOf h) a0 a1 (kyOf h)))) → (evOf h513 = evOf h) → (6 - x515.toInt).toNat < n511 → RUN d_X9_goSecond 166 [(3, .inl x515), (0, .inr (.inr (.inl 96))), (1, .inl a0), (2, .inl a1)] [] h513 (qg_X9_goSecond h a0 a1) := by
                        intro n511
                        induction n511 with
                        | zero => intro h513 x515 m517 m518 m519 m520 m521 m522 m523 hz; exact absurd hz (Nat.not_lt_zero _)
                        | succ n511 ih516 =>
                          intro h513 x515 hI fr fl514 m520 m521 m522 m523 hz
                          have s524 : (h513.1 96 41).toInt = (h11.1 96 41).toInt := by rw [(fl514 96 (by decide)).1]
                          have s525 : (h513.1 96 42).toInt = (h11.1 96 42).toInt := by rw [(fl514 96 (by decide)).1]
                          have s526 : (h513.1 96 19).toInt = (h11.1 96 19).toInt := by rw [(fl514 96 (by decide)).1]
                          have s527 : (h513.1 96 18).toInt = (h11.1 96 18).toInt := by rw [(fl514 96 (by decide)).1]
                          have s528 : (h513.1 96 20).toInt = (h11.1 96 20).toInt := by rw [(fl514 96 (by decide)).1]
                          have s529 : (h513.1 96 46).toInt = (h11.1 96 46).toInt := by rw [(fl514 96 (by decide)).1]
                          have s530 : (h513.1 96 44).toInt = (h11.1 96 44).toInt := by rw [(fl514 96 (by decide)).1]
                          have s531 : (h513.1 96 47).toInt = (h11.1 96 47).toInt := by rw [(fl514 96 (by decide)).1]
                          have s532 : (h513.1 96 48).toInt = (h11.1 96 48).toInt := by rw [(fl514 96 (by decide)).1]
                          have s533 : (h513.1 96 51).toInt = (h11.1 96 51).toInt := by rw [(fl514 96 (by decide)).1]
                          have fl12 : FR [96, 107, 108, 109, 117, 118] h h513 := fl12.trans fl514 (by decide)
                          have hE := m523
                          have hK : kyOf h513 = kyOf h513 := rfl
                          refine R_iload_n (k := 3) rfl rfl rfl ?_
                          refine R_aload_n (k := 0) rfl rfl rfl ?_
                          refine R_getf_i (j := 18) rfl ft_9_253 sh_96 rfl ?_
                          refine N_icmp_ge (a := x515.toInt) (b := (h513.1 96 18).toInt) 224 rfl rfl rfl rfl (fun c534 => ?_) (fun c534 => ?_)
                          · have hF : kyOf h513 = zSecond (evOf h) a0 a1 (kyOf h) := m522.trans (by rw [show x515 = (evOf h).2.2.2.2.1 from i_of _ (by omega)]; rfl)
                            exact R_vret rfl rfl ⟨hI, fr, ⟨by omega, by omega, by omega, by omega, by omega, by omega, by omega, by omega, by omega, by omega, hF, hE, trivial⟩, rfl⟩
                          · refine R_aload_n (k := 0) rfl rfl rfl ?_
                            refine R_getf_r (j := 22) rfl ft_9_46 sh_96 rfl ?_
                            refine R_aload_n (k := 0) rfl rfl rfl ?_
                            refine R_getf_r (j := 17) rfl ft_9_40 sh_96 rfl ?_
                            refine R_iload_n (k := 3) rfl rfl rfl ?_
                            refine R_iald rfl sh_105 ⟨by omega, by omega⟩ ?_
                            refine N_eq (fun x535 e536 => ?_)
                            have q537 : 0 ≤ x535.toInt ∧ x535.toInt ≤ 5 := by rw [e536]; exact hI.1 105 _
                            have e538 : x535 = (evOf h).2.2.2.1 x515.toNatClampNeg := by rw [e536]; exact congrFun (congrArg (fun q : EV => q.2.2.2.1) hE) _
                            refine R_iald rfl sh_107 ⟨by omega, by omega⟩ ?_
                            refine N_eq (fun x539 e540 => ?_)
                            have e541 : x539 = ((kyOf h513).1) x535.toNatClampNeg := by rw [e540]; exact (ky_at107 (nlt ⟨by omega, by omega⟩)).trans (congrFun (congrArg (fun q : KY => q.1) hK) _)
                            refine R_iconst (-1) rfl rfl ?_
                            refine N_icmp_eq (a := x539.toInt) (b := (-1)) 218 rfl rfl rfl (by decide) (fun c542 => ?_) (fun c542 => ?_)
                            · refine N_iinc (a := x515.toInt) (c := 1) (fun w => [(3, .inl w), (0, .inr (.inr (.inl 96))), (1, .inl a0), (2, .inl a1)]) rfl rfl (fun _ => rfl) (by decide) rfl (by decide) (by omega) (fun x543 q544 => ?_)
                              refine R_goto 166 rfl rfl ?_
                              exact RUN_weak (psub_cons rfl (psub_cons rfl (psub_cons rfl (psub_cons rfl (psub_nil _))))) (ih516 h513 x543 hI fr fl514 (by omega) (by omega) (by rw [zHolds_s (x := x515) (x' := x543) (by omega) (by omega), ← m522]; refine hK.trans ?_; subst e541 e538; simp only [zHold1, eLine] <;> (repeat' split) <;> first | (exfalso; omega) | rfl) (hE) (by omega))
                            · refine R_aload_n (k := 0) rfl rfl rfl ?_
                              refine R_aload_n (k := 0) rfl rfl rfl ?_
                              refine R_getf_r (j := 17) rfl ft_9_40 sh_96 rfl ?_
                              refine R_iload_n (k := 3) rfl rfl rfl ?_
                              refine R_iald rfl sh_105 ⟨by omega, by omega⟩ ?_
                              refine N_eq (fun x545 e546 => ?_)
                              have q547 : 0 ≤ x545.toInt ∧ x545.toInt ≤ 5 := by rw [e546]; exact hI.1 105 _
                              have e548 : x545 = (evOf h).2.2.2.1 x515.toNatClampNeg := by rw [e546]; exact congrFun (congrArg (fun q : EV => q.2.2.2.1) hE) _
                              refine R_iload_n (k := 1) rfl rfl rfl ?_
                              refine R_callV (v := .inr (.inr (.inl 96))) (As := [.inl x545, .inl a0]) (rest := []) rfl mt_9_i271 pp_X9_doesRest (by decide) rfl rfl rfl (Nat.le_of_ble_eq_true rfl) (Nat.le_of_ble_eq_true rfl) ((g_X9_doesRest h513 hI x545 a0 (by omega) (by omega)).mono (fun r549 h550 p551 => ?_))
                              obtain ⟨rfl, x553, rfl, (q554 | q554 | q554), zq552, -⟩ := p551
                              · rw [hE] at zq552
                                exfalso; omega
                              · rw [hE] at zq552
                                show RUN d_X9_goSecond 200 [(3, .inl x515), (0, .inr (.inr (.inl 96))), (1, .inl a0), (2, .inl a1)] [.inl x553] h513 _
                                refine N_if_ne (a := x553.toInt) 218 rfl rfl rfl (fun c555 => ?_) (fun c555 => ?_)
                                · exfalso; omega
                                · refine R_aload_n (k := 0) rfl rfl rfl ?_
                                  refine R_getf_r (j := 22) rfl ft_9_46 sh_96 rfl ?_
                                  refine R_aload_n (k := 0) rfl rfl rfl ?_
                                  refine R_getf_r (j := 17) rfl ft_9_40 sh_96 rfl ?_
                                  refine R_iload_n (k := 3) rfl rfl rfl ?_
                                  refine R_iald rfl sh_105 ⟨by omega, by omega⟩ ?_
                                  refine N_eq (fun x556 e557 => ?_)
                                  have q558 : 0 ≤ x556.toInt ∧ x556.toInt ≤ 5 := by rw [e557]; exact hI.1 105 _
                                  have e559 : x556 = (evOf h).2.2.2.1 x515.toNatClampNeg := by rw [e557]; exact congrFun (congrArg (fun q : EV => q.2.2.2.1) hE) _
                                  refine R_dup2 rfl ?_
                                  refine R_iald rfl sh_107 ⟨by omega, by omega⟩ ?_
                                  refine N_eq (fun x560 e561 => ?_)
                                  have e562 : x560 = ((kyOf h513).1) x556.toNatClampNeg := by rw [e561]; exact (ky_at107 (nlt ⟨by omega, by omega⟩)).trans (congrFun (congrArg (fun q : KY => q.1) hK) _)
                                  refine R_iconst 1 rfl rfl ?_
                                  have b563 := i_rng x560
                                  refine R_iadd rfl ?_
                                  refine N_eq (fun x564 e565 => ?_)
                                  refine K_iast (a := x556.toInt) (lo := (-2147483648)) (hi' := 2147483647) rfl sh_107 rfl ⟨by omega, by omega⟩ hI (by decide) rfl (i_rng _) fr (by decide) (fun h566 g567 hI fr => ?_)
                                  have fl514 : FR [107] h11 h566 := by rw [g567]; exact FR_wI _ _ fl514 (by decide)
                                  have fl12 : FR [96, 107, 108, 109, 117, 118] h h566 := by rw [g567]; exact FR_wI _ _ fl12 (by decide)
                                  have s568 : (h566.1 96 41).toInt = (h513.1 96 41).toInt := by rw [g567, wI_ne _ _ _ (by decide)]
                                  have s569 : (h566.1 96 42).toInt = (h513.1 96 42).toInt := by rw [g567, wI_ne _ _ _ (by decide)]
                                  have s570 : (h566.1 96 19).toInt = (h513.1 96 19).toInt := by rw [g567, wI_ne _ _ _ (by decide)]
                                  have s571 : (h566.1 96 18).toInt = (h513.1 96 18).toInt := by rw [g567, wI_ne _ _ _ (by decide)]
                                  have s572 : (h566.1 96 20).toInt = (h513.1 96 20).toInt := by rw [g567, wI_ne _ _ _ (by decide)]
                                  have s573 : (h566.1 96 46).toInt = (h513.1 96 46).toInt := by rw [g567, wI_ne _ _ _ (by decide)]
                                  have s574 : (h566.1 96 44).toInt = (h513.1 96 44).toInt := by rw [g567, wI_ne _ _ _ (by decide)]
                                  have s575 : (h566.1 96 47).toInt = (h513.1 96 47).toInt := by rw [g567, wI_ne _ _ _ (by decide)]
                                  have s576 : (h566.1 96 48).toInt = (h513.1 96 48).toInt := by rw [g567, wI_ne _ _ _ (by decide)]
                                  have s577 : (h566.1 96 51).toInt = (h513.1 96 51).toInt := by rw [g567, wI_ne _ _ _ (by decide)]
                                  have hK : kyOf h566 = (upd ((kyOf h513).1) x556.toNatClampNeg x564, (kyOf h513).2.1, (kyOf h513).2.2.1, (kyOf h513).2.2.2) := by rw [g567, ky_107 (nlt ⟨by omega, by omega⟩), hK] <;> rfl
                                  have hE : evOf h566 = evOf h := by rw [g567, ev_o (by decide), hE]
                                  refine N_iinc (a := x515.toInt) (c := 1) (fun w => [(3, .inl w), (0, .inr (.inr (.inl 96))), (1, .inl a0), (2, .inl a1)]) rfl rfl (fun _ => rfl) (by decide) rfl (by decide) (by omega) (fun x578 q579 => ?_)
                                  refine R_goto 166 rfl rfl ?_
                                  exact RUN_weak (psub_cons rfl (psub_cons rfl (psub_cons rfl (psub_cons rfl (psub_nil _))))) (ih516 h566 x578 hI fr fl514 (by omega) (by omega) (by rw [zHolds_s (x := x515) (x' := x578) (by omega) (by omega), ← m522]; refine hK.trans ?_; subst e565 e562 e559 e548 e541 e538; simp only [zHold1, eLine] <;> (repeat' split) <;> first | (exfalso; omega) | rfl) (hE) (by omega))
                              · rw [hE] at zq552
                                show RUN d_X9_goSecond 200 [(3, .inl x515), (0, .inr (.inr (.inl 96))), (1, .inl a0), (2, .inl a1)] [.inl x553] h513 _
                                refine N_if_ne (a := x553.toInt) 218 rfl rfl rfl (fun c580 => ?_) (fun c580 => ?_)
                                · refine N_iinc (a := x515.toInt) (c := 1) (fun w => [(3, .inl w), (0, .inr (.inr (.inl 96))), (1, .inl a0), (2, .inl a1)]) rfl rfl (fun _ => rfl) (by decide) rfl (by decide) (by omega) (fun x581 q582 => ?_)
                                  refine R_goto 166 rfl rfl ?_
                                  exact RUN_weak (psub_cons rfl (psub_cons rfl (psub_cons rfl (psub_cons rfl (psub_nil _))))) (ih516 h513 x581 hI fr fl514 (by omega) (by omega) (by rw [zHolds_s (x := x515) (x' := x581) (by omega) (by omega), ← m522]; refine hK.trans ?_; subst e548 e541 e538; simp only [zHold1, eLine] <;> (repeat' split) <;> first | (exfalso; omega) | rfl) (hE) (by omega))
                                · exfalso; omega
                      have k583 : (0 : Int32).toInt = 0 := by decide
                      exact lp512 _ h11 (0 : Int32) hI fr (FR.rf _ _) (by decide) (by omega) (by rw [hK]; rfl) (hE) (Nat.lt_succ_self _)
                    · refine R_aload_n (k := 0) rfl rfl rfl ?_
                      refine R_getf_r (j := 24) rfl ft_9_52 sh_96 rfl ?_
                      refine R_iconst 0 rfl rfl ?_
                      refine R_dup2 rfl ?_
                      refine R_iald rfl sh_109 (by decide) ?_
                      refine N_eq (fun x584 e585 => ?_)
                      have e586 : x584 = ((zMid (evOf h) a0 a1 (kyOf h)).2.2.1) (0 : Int32).toNatClampNeg := by rw [e585]; exact (ky_at109 (by decide)).trans (congrFun (congrArg (fun q : KY => q.2.2.1) hK) _)
                      refine R_iconst 1 rfl rfl ?_
                      have b587 := i_rng x584
                      refine R_isub rfl ?_
                      refine N_eq (fun x588 e589 => ?_)
                      refine K_iast (a := 0) (lo := (-2147483648)) (hi' := 2147483647) rfl sh_109 (by decide) (by decide) hI (by decide) rfl (i_rng _) fr (by decide) (fun h590 g591 hI fr => ?_)
                      have fl12 : FR [96, 107, 108, 109, 117, 118] h h590 := by rw [g591]; exact FR_wI _ _ fl12 (by decide)
                      have s592 : (h590.1 96 41).toInt = (h11.1 96 41).toInt := by rw [g591, wI_ne _ _ _ (by decide)]
                      have s593 : (h590.1 96 42).toInt = (h11.1 96 42).toInt := by rw [g591, wI_ne _ _ _ (by decide)]
                      have s594 : (h590.1 96 19).toInt = (h11.1 96 19).toInt := by rw [g591, wI_ne _ _ _ (by decide)]
                      have s595 : (h590.1 96 18).toInt = (h11.1 96 18).toInt := by rw [g591, wI_ne _ _ _ (by decide)]
                      have s596 : (h590.1 96 20).toInt = (h11.1 96 20).toInt := by rw [g591, wI_ne _ _ _ (by decide)]
                      have s597 : (h590.1 96 46).toInt = (h11.1 96 46).toInt := by rw [g591, wI_ne _ _ _ (by decide)]
                      have s598 : (h590.1 96 44).toInt = (h11.1 96 44).toInt := by rw [g591, wI_ne _ _ _ (by decide)]
                      have s599 : (h590.1 96 47).toInt = (h11.1 96 47).toInt := by rw [g591, wI_ne _ _ _ (by decide)]
                      have s600 : (h590.1 96 48).toInt = (h11.1 96 48).toInt := by rw [g591, wI_ne _ _ _ (by decide)]
                      have s601 : (h590.1 96 51).toInt = (h11.1 96 51).toInt := by rw [g591, wI_ne _ _ _ (by decide)]
                      have hK : kyOf h590 = ((zMid (evOf h) a0 a1 (kyOf h)).1, (zMid (evOf h) a0 a1 (kyOf h)).2.1, upd ((zMid (evOf h) a0 a1 (kyOf h)).2.2.1) (0 : Int32).toNatClampNeg x588, (zMid (evOf h) a0 a1 (kyOf h)).2.2.2) := by rw [g591, ky_109 (by decide), hK] <;> rfl
                      have hE : evOf h590 = evOf h := by rw [g591, ev_o (by decide), hE]
                      refine R_aload_n (k := 0) rfl rfl rfl ?_
                      refine R_getf_r (j := 22) rfl ft_9_46 sh_96 rfl ?_
                      refine R_aload_n (k := 0) rfl rfl rfl ?_
                      refine R_getf_r (j := 17) rfl ft_9_40 sh_96 rfl ?_
                      refine R_iconst 0 rfl rfl ?_
                      refine R_iald rfl sh_105 (by decide) ?_
                      refine N_eq (fun x602 e603 => ?_)
                      have q604 : 0 ≤ x602.toInt ∧ x602.toInt ≤ 5 := by rw [e603]; exact hI.1 105 _
                      have e605 : x602 = (evOf h).2.2.2.1 (0 : Int32).toNatClampNeg := by rw [e603]; exact congrFun (congrArg (fun q : EV => q.2.2.2.1) hE) _
                      refine R_iconst 0 rfl rfl ?_
                      refine K_iast (a := x602.toInt) (lo := (-2147483648)) (hi' := 2147483647) rfl sh_107 rfl ⟨by omega, by omega⟩ hI (by decide) rfl (by decide) fr (by decide) (fun h606 g607 hI fr => ?_)
                      have fl12 : FR [96, 107, 108, 109, 117, 118] h h606 := by rw [g607]; exact FR_wI _ _ fl12 (by decide)
                      have s608 : (h606.1 96 41).toInt = (h590.1 96 41).toInt := by rw [g607, wI_ne _ _ _ (by decide)]
                      have s609 : (h606.1 96 42).toInt = (h590.1 96 42).toInt := by rw [g607, wI_ne _ _ _ (by decide)]
                      have s610 : (h606.1 96 19).toInt = (h590.1 96 19).toInt := by rw [g607, wI_ne _ _ _ (by decide)]
                      have s611 : (h606.1 96 18).toInt = (h590.1 96 18).toInt := by rw [g607, wI_ne _ _ _ (by decide)]
                      have s612 : (h606.1 96 20).toInt = (h590.1 96 20).toInt := by rw [g607, wI_ne _ _ _ (by decide)]
                      have s613 : (h606.1 96 46).toInt = (h590.1 96 46).toInt := by rw [g607, wI_ne _ _ _ (by decide)]
                      have s614 : (h606.1 96 44).toInt = (h590.1 96 44).toInt := by rw [g607, wI_ne _ _ _ (by decide)]
                      have s615 : (h606.1 96 47).toInt = (h590.1 96 47).toInt := by rw [g607, wI_ne _ _ _ (by decide)]
                      have s616 : (h606.1 96 48).toInt = (h590.1 96 48).toInt := by rw [g607, wI_ne _ _ _ (by decide)]
                      have s617 : (h606.1 96 51).toInt = (h590.1 96 51).toInt := by rw [g607, wI_ne _ _ _ (by decide)]
                      have hK : kyOf h606 = (upd ((zMid (evOf h) a0 a1 (kyOf h)).1) x602.toNatClampNeg (0), (zMid (evOf h) a0 a1 (kyOf h)).2.1, upd ((zMid (evOf h) a0 a1 (kyOf h)).2.2.1) (0 : Int32).toNatClampNeg x588, (zMid (evOf h) a0 a1 (kyOf h)).2.2.2) := by rw [g607, ky_107 (nlt ⟨by omega, by omega⟩), hK] <;> rfl
                      have hE : evOf h606 = evOf h := by rw [g607, ev_o (by decide), hE]
                      refine R_aload_n (k := 0) rfl rfl rfl ?_
                      refine R_getf_r (j := 23) rfl ft_9_49 sh_96 rfl ?_
                      refine R_aload_n (k := 0) rfl rfl rfl ?_
                      refine R_getf_r (j := 17) rfl ft_9_40 sh_96 rfl ?_
                      refine R_iconst 0 rfl rfl ?_
                      refine R_iald rfl sh_105 (by decide) ?_
                      refine N_eq (fun x618 e619 => ?_)
                      have q620 : 0 ≤ x618.toInt ∧ x618.toInt ≤ 5 := by rw [e619]; exact hI.1 105 _
                      have e621 : x618 = (evOf h).2.2.2.1 (0 : Int32).toNatClampNeg := by rw [e619]; exact congrFun (congrArg (fun q : EV => q.2.2.2.1) hE) _
                      refine R_aload_n (k := 0) rfl rfl rfl ?_
                      refine R_getf_i (j := 20) rfl ft_9_259 sh_96 rfl ?_
                      refine N_eq (fun x622 e623 => ?_)
                      have e624 : x622 = (evOf h).2.2.2.2.2.1 := by rw [e623]; exact congrArg (fun q : EV => q.2.2.2.2.2.1) hE
                      refine K_iast (a := x618.toInt) (lo := (-2147483648)) (hi' := 2147483647) rfl sh_108 rfl ⟨by omega, by omega⟩ hI (by decide) rfl (i_rng _) fr (by decide) (fun h625 g626 hI fr => ?_)
                      have fl12 : FR [96, 107, 108, 109, 117, 118] h h625 := by rw [g626]; exact FR_wI _ _ fl12 (by decide)
                      have s627 : (h625.1 96 41).toInt = (h606.1 96 41).toInt := by rw [g626, wI_ne _ _ _ (by decide)]
                      have s628 : (h625.1 96 42).toInt = (h606.1 96 42).toInt := by rw [g626, wI_ne _ _ _ (by decide)]
                      have s629 : (h625.1 96 19).toInt = (h606.1 96 19).toInt := by rw [g626, wI_ne _ _ _ (by decide)]
                      have s630 : (h625.1 96 18).toInt = (h606.1 96 18).toInt := by rw [g626, wI_ne _ _ _ (by decide)]
                      have s631 : (h625.1 96 20).toInt = (h606.1 96 20).toInt := by rw [g626, wI_ne _ _ _ (by decide)]
                      have s632 : (h625.1 96 46).toInt = (h606.1 96 46).toInt := by rw [g626, wI_ne _ _ _ (by decide)]
                      have s633 : (h625.1 96 44).toInt = (h606.1 96 44).toInt := by rw [g626, wI_ne _ _ _ (by decide)]
                      have s634 : (h625.1 96 47).toInt = (h606.1 96 47).toInt := by rw [g626, wI_ne _ _ _ (by decide)]
                      have s635 : (h625.1 96 48).toInt = (h606.1 96 48).toInt := by rw [g626, wI_ne _ _ _ (by decide)]
                      have s636 : (h625.1 96 51).toInt = (h606.1 96 51).toInt := by rw [g626, wI_ne _ _ _ (by decide)]
                      have hK : kyOf h625 = (upd ((zMid (evOf h) a0 a1 (kyOf h)).1) x602.toNatClampNeg (0), upd ((zMid (evOf h) a0 a1 (kyOf h)).2.1) x618.toNatClampNeg x622, upd ((zMid (evOf h) a0 a1 (kyOf h)).2.2.1) (0 : Int32).toNatClampNeg x588, (zMid (evOf h) a0 a1 (kyOf h)).2.2.2) := by rw [g626, ky_108 (nlt ⟨by omega, by omega⟩), hK] <;> rfl
                      have hE : evOf h625 = evOf h := by rw [g626, ev_o (by decide), hE]
                      have hK : kyOf h625 = zTake (evOf h) a0 (zMid (evOf h) a0 a1 (kyOf h)) := by
                        refine hK.trans ?_
                        subst e624 e621 e605 e589 e586 e509 e499 e421 e418
                        simp only [zTake, zTake1, eMany, eLine, eFull] <;> (repeat' split) <;> first | (exfalso; omega) | rfl
                      refine R_iconst 0 rfl rfl ?_
                      refine R_istore_n (k := 3) rfl [(3, .inl 0), (0, .inr (.inr (.inl 96))), (1, .inl a0), (2, .inl a1)] rfl rfl (by decide) ?_
                      have lp638 : ∀ (n637 : Nat) (h639 : PH) (x641 : Int32), INV h639 → FR [96, 107, 108, 109, 117, 118] h h639 → FR [107] h625 h639 → 0 ≤ x641.toInt ∧ x641.toInt ≤ 6 → x641.toInt ≤ (h625.1 96 18).toInt + 0 → (kyOf h639 = zHolds (evOf h) a0 x641.toNatClampNeg (zTake (evOf h) a0 (zMid (evOf h) a0 a1 (kyOf h)))) → (evOf h639 = evOf h) → (6 - x641.toInt).toNat < n637 → RUN d_X9_goSecond 166 [(3, .inl x641), (0, .inr (.inr (.inl 96))), (1, .inl a0), (2, .inl a1)] [] h639 (qg_X9_goSecond h a0 a1) := by
                        intro n637
                        induction n637 with
                        | zero => intro h639 x641 m643 m644 m645 m646 m647 m648 m649 hz; exact absurd hz (Nat.not_lt_zero _)
                        | succ n637 ih642 =>
                          intro h639 x641 hI fr fl640 m646 m647 m648 m649 hz
                          have s650 : (h639.1 96 41).toInt = (h625.1 96 41).toInt := by rw [(fl640 96 (by decide)).1]
                          have s651 : (h639.1 96 42).toInt = (h625.1 96 42).toInt := by rw [(fl640 96 (by decide)).1]
                          have s652 : (h639.1 96 19).toInt = (h625.1 96 19).toInt := by rw [(fl640 96 (by decide)).1]
                          have s653 : (h639.1 96 18).toInt = (h625.1 96 18).toInt := by rw [(fl640 96 (by decide)).1]
                          have s654 : (h639.1 96 20).toInt = (h625.1 96 20).toInt := by rw [(fl640 96 (by decide)).1]
                          have s655 : (h639.1 96 46).toInt = (h625.1 96 46).toInt := by rw [(fl640 96 (by decide)).1]
                          have s656 : (h639.1 96 44).toInt = (h625.1 96 44).toInt := by rw [(fl640 96 (by decide)).1]
                          have s657 : (h639.1 96 47).toInt = (h625.1 96 47).toInt := by rw [(fl640 96 (by decide)).1]
                          have s658 : (h639.1 96 48).toInt = (h625.1 96 48).toInt := by rw [(fl640 96 (by decide)).1]
                          have s659 : (h639.1 96 51).toInt = (h625.1 96 51).toInt := by rw [(fl640 96 (by decide)).1]
                          have fl12 : FR [96, 107, 108, 109, 117, 118] h h639 := fl12.trans fl640 (by decide)
                          have hE := m649
                          have hK : kyOf h639 = kyOf h639 := rfl
                          refine R_iload_n (k := 3) rfl rfl rfl ?_
                          refine R_aload_n (k := 0) rfl rfl rfl ?_
                          refine R_getf_i (j := 18) rfl ft_9_253 sh_96 rfl ?_
                          refine N_icmp_ge (a := x641.toInt) (b := (h639.1 96 18).toInt) 224 rfl rfl rfl rfl (fun c660 => ?_) (fun c660 => ?_)
                          · have hF : kyOf h639 = zSecond (evOf h) a0 a1 (kyOf h) := m648.trans (by rw [show x641 = (evOf h).2.2.2.2.1 from i_of _ (by omega)]; rfl)
                            exact R_vret rfl rfl ⟨hI, fr, ⟨by omega, by omega, by omega, by omega, by omega, by omega, by omega, by omega, by omega, by omega, hF, hE, trivial⟩, rfl⟩
                          · refine R_aload_n (k := 0) rfl rfl rfl ?_
                            refine R_getf_r (j := 22) rfl ft_9_46 sh_96 rfl ?_
                            refine R_aload_n (k := 0) rfl rfl rfl ?_
                            refine R_getf_r (j := 17) rfl ft_9_40 sh_96 rfl ?_
                            refine R_iload_n (k := 3) rfl rfl rfl ?_
                            refine R_iald rfl sh_105 ⟨by omega, by omega⟩ ?_
                            refine N_eq (fun x661 e662 => ?_)
                            have q663 : 0 ≤ x661.toInt ∧ x661.toInt ≤ 5 := by rw [e662]; exact hI.1 105 _
                            have e664 : x661 = (evOf h).2.2.2.1 x641.toNatClampNeg := by rw [e662]; exact congrFun (congrArg (fun q : EV => q.2.2.2.1) hE) _
                            refine R_iald rfl sh_107 ⟨by omega, by omega⟩ ?_
                            refine N_eq (fun x665 e666 => ?_)
                            have e667 : x665 = ((kyOf h639).1) x661.toNatClampNeg := by rw [e666]; exact (ky_at107 (nlt ⟨by omega, by omega⟩)).trans (congrFun (congrArg (fun q : KY => q.1) hK) _)
                            refine R_iconst (-1) rfl rfl ?_
                            refine N_icmp_eq (a := x665.toInt) (b := (-1)) 218 rfl rfl rfl (by decide) (fun c668 => ?_) (fun c668 => ?_)
                            · refine N_iinc (a := x641.toInt) (c := 1) (fun w => [(3, .inl w), (0, .inr (.inr (.inl 96))), (1, .inl a0), (2, .inl a1)]) rfl rfl (fun _ => rfl) (by decide) rfl (by decide) (by omega) (fun x669 q670 => ?_)
                              refine R_goto 166 rfl rfl ?_
                              exact RUN_weak (psub_cons rfl (psub_cons rfl (psub_cons rfl (psub_cons rfl (psub_nil _))))) (ih642 h639 x669 hI fr fl640 (by omega) (by omega) (by rw [zHolds_s (x := x641) (x' := x669) (by omega) (by omega), ← m648]; refine hK.trans ?_; subst e667 e664; simp only [zHold1, eLine] <;> (repeat' split) <;> first | (exfalso; omega) | rfl) (hE) (by omega))
                            · refine R_aload_n (k := 0) rfl rfl rfl ?_
                              refine R_aload_n (k := 0) rfl rfl rfl ?_
                              refine R_getf_r (j := 17) rfl ft_9_40 sh_96 rfl ?_
                              refine R_iload_n (k := 3) rfl rfl rfl ?_
                              refine R_iald rfl sh_105 ⟨by omega, by omega⟩ ?_
                              refine N_eq (fun x671 e672 => ?_)
                              have q673 : 0 ≤ x671.toInt ∧ x671.toInt ≤ 5 := by rw [e672]; exact hI.1 105 _
                              have e674 : x671 = (evOf h).2.2.2.1 x641.toNatClampNeg := by rw [e672]; exact congrFun (congrArg (fun q : EV => q.2.2.2.1) hE) _
                              refine R_iload_n (k := 1) rfl rfl rfl ?_
                              refine R_callV (v := .inr (.inr (.inl 96))) (As := [.inl x671, .inl a0]) (rest := []) rfl mt_9_i271 pp_X9_doesRest (by decide) rfl rfl rfl (Nat.le_of_ble_eq_true rfl) (Nat.le_of_ble_eq_true rfl) ((g_X9_doesRest h639 hI x671 a0 (by omega) (by omega)).mono (fun r675 h676 p677 => ?_))
                              obtain ⟨rfl, x679, rfl, (q680 | q680 | q680), zq678, -⟩ := p677
                              · rw [hE] at zq678
                                exfalso; omega
                              · rw [hE] at zq678
                                show RUN d_X9_goSecond 200 [(3, .inl x641), (0, .inr (.inr (.inl 96))), (1, .inl a0), (2, .inl a1)] [.inl x679] h639 _
                                refine N_if_ne (a := x679.toInt) 218 rfl rfl rfl (fun c681 => ?_) (fun c681 => ?_)
                                · exfalso; omega
                                · refine R_aload_n (k := 0) rfl rfl rfl ?_
                                  refine R_getf_r (j := 22) rfl ft_9_46 sh_96 rfl ?_
                                  refine R_aload_n (k := 0) rfl rfl rfl ?_
                                  refine R_getf_r (j := 17) rfl ft_9_40 sh_96 rfl ?_
                                  refine R_iload_n (k := 3) rfl rfl rfl ?_
                                  refine R_iald rfl sh_105 ⟨by omega, by omega⟩ ?_
                                  refine N_eq (fun x682 e683 => ?_)
                                  have q684 : 0 ≤ x682.toInt ∧ x682.toInt ≤ 5 := by rw [e683]; exact hI.1 105 _
                                  have e685 : x682 = (evOf h).2.2.2.1 x641.toNatClampNeg := by rw [e683]; exact congrFun (congrArg (fun q : EV => q.2.2.2.1) hE) _
                                  refine R_dup2 rfl ?_
                                  refine R_iald rfl sh_107 ⟨by omega, by omega⟩ ?_
                                  refine N_eq (fun x686 e687 => ?_)
                                  have e688 : x686 = ((kyOf h639).1) x682.toNatClampNeg := by rw [e687]; exact (ky_at107 (nlt ⟨by omega, by omega⟩)).trans (congrFun (congrArg (fun q : KY => q.1) hK) _)
                                  refine R_iconst 1 rfl rfl ?_
                                  have b689 := i_rng x686
                                  refine R_iadd rfl ?_
                                  refine N_eq (fun x690 e691 => ?_)
                                  refine K_iast (a := x682.toInt) (lo := (-2147483648)) (hi' := 2147483647) rfl sh_107 rfl ⟨by omega, by omega⟩ hI (by decide) rfl (i_rng _) fr (by decide) (fun h692 g693 hI fr => ?_)
                                  have fl640 : FR [107] h625 h692 := by rw [g693]; exact FR_wI _ _ fl640 (by decide)
                                  have fl12 : FR [96, 107, 108, 109, 117, 118] h h692 := by rw [g693]; exact FR_wI _ _ fl12 (by decide)
                                  have s694 : (h692.1 96 41).toInt = (h639.1 96 41).toInt := by rw [g693, wI_ne _ _ _ (by decide)]
                                  have s695 : (h692.1 96 42).toInt = (h639.1 96 42).toInt := by rw [g693, wI_ne _ _ _ (by decide)]
                                  have s696 : (h692.1 96 19).toInt = (h639.1 96 19).toInt := by rw [g693, wI_ne _ _ _ (by decide)]
                                  have s697 : (h692.1 96 18).toInt = (h639.1 96 18).toInt := by rw [g693, wI_ne _ _ _ (by decide)]
                                  have s698 : (h692.1 96 20).toInt = (h639.1 96 20).toInt := by rw [g693, wI_ne _ _ _ (by decide)]
                                  have s699 : (h692.1 96 46).toInt = (h639.1 96 46).toInt := by rw [g693, wI_ne _ _ _ (by decide)]
                                  have s700 : (h692.1 96 44).toInt = (h639.1 96 44).toInt := by rw [g693, wI_ne _ _ _ (by decide)]
                                  have s701 : (h692.1 96 47).toInt = (h639.1 96 47).toInt := by rw [g693, wI_ne _ _ _ (by decide)]
                                  have s702 : (h692.1 96 48).toInt = (h639.1 96 48).toInt := by rw [g693, wI_ne _ _ _ (by decide)]
                                  have s703 : (h692.1 96 51).toInt = (h639.1 96 51).toInt := by rw [g693, wI_ne _ _ _ (by decide)]
                                  have hK : kyOf h692 = (upd ((kyOf h639).1) x682.toNatClampNeg x690, (kyOf h639).2.1, (kyOf h639).2.2.1, (kyOf h639).2.2.2) := by rw [g693, ky_107 (nlt ⟨by omega, by omega⟩), hK] <;> rfl
                                  have hE : evOf h692 = evOf h := by rw [g693, ev_o (by decide), hE]
                                  refine N_iinc (a := x641.toInt) (c := 1) (fun w => [(3, .inl w), (0, .inr (.inr (.inl 96))), (1, .inl a0), (2, .inl a1)]) rfl rfl (fun _ => rfl) (by decide) rfl (by decide) (by omega) (fun x704 q705 => ?_)
                                  refine R_goto 166 rfl rfl ?_
                                  exact RUN_weak (psub_cons rfl (psub_cons rfl (psub_cons rfl (psub_cons rfl (psub_nil _))))) (ih642 h692 x704 hI fr fl640 (by omega) (by omega) (by rw [zHolds_s (x := x641) (x' := x704) (by omega) (by omega), ← m648]; refine hK.trans ?_; subst e691 e688 e685 e674 e667 e664; simp only [zHold1, eLine] <;> (repeat' split) <;> first | (exfalso; omega) | rfl) (hE) (by omega))
                              · rw [hE] at zq678
                                show RUN d_X9_goSecond 200 [(3, .inl x641), (0, .inr (.inr (.inl 96))), (1, .inl a0), (2, .inl a1)] [.inl x679] h639 _
                                refine N_if_ne (a := x679.toInt) 218 rfl rfl rfl (fun c706 => ?_) (fun c706 => ?_)
                                · refine N_iinc (a := x641.toInt) (c := 1) (fun w => [(3, .inl w), (0, .inr (.inr (.inl 96))), (1, .inl a0), (2, .inl a1)]) rfl rfl (fun _ => rfl) (by decide) rfl (by decide) (by omega) (fun x707 q708 => ?_)
                                  refine R_goto 166 rfl rfl ?_
                                  exact RUN_weak (psub_cons rfl (psub_cons rfl (psub_cons rfl (psub_cons rfl (psub_nil _))))) (ih642 h639 x707 hI fr fl640 (by omega) (by omega) (by rw [zHolds_s (x := x641) (x' := x707) (by omega) (by omega), ← m648]; refine hK.trans ?_; subst e674 e667 e664; simp only [zHold1, eLine] <;> (repeat' split) <;> first | (exfalso; omega) | rfl) (hE) (by omega))
                                · exfalso; omega
                      have k709 : (0 : Int32).toInt = 0 := by decide
                      exact lp638 _ h625 (0 : Int32) hI fr (FR.rf _ _) (by decide) (by omega) (by rw [hK]; rfl) (hE) (Nat.lt_succ_self _)
                · rw [hE] at zq503
                  show RUN d_X9_goSecond 115 [(3, .inl x13), (0, .inr (.inr (.inl 96))), (1, .inl a0), (2, .inl a1)] [.inl x504] h11 _
                  refine N_if_ne (a := x504.toInt) 164 rfl rfl rfl (fun c710 => ?_) (fun c710 => ?_)
                  · have hK : kyOf h11 = zTake (evOf h) a0 (zMid (evOf h) a0 a1 (kyOf h)) := by
                      refine hK.trans ?_
                      subst e499 e421 e418
                      simp only [zTake, zTake1, eMany, eLine, eFull] <;> (repeat' split) <;> first | (exfalso; omega) | rfl
                    refine R_iconst 0 rfl rfl ?_
                    refine R_istore_n (k := 3) rfl [(3, .inl 0), (0, .inr (.inr (.inl 96))), (1, .inl a0), (2, .inl a1)] rfl rfl (by decide) ?_
                    have lp712 : ∀ (n711 : Nat) (h713 : PH) (x715 : Int32), INV h713 → FR [96, 107, 108, 109, 117, 118] h h713 → FR [107] h11 h713 → 0 ≤ x715.toInt ∧ x715.toInt ≤ 6 → x715.toInt ≤ (h11.1 96 18).toInt + 0 → (kyOf h713 = zHolds (evOf h) a0 x715.toNatClampNeg (zTake (evOf h) a0 (zMid (evOf h) a0 a1 (kyOf h)))) → (evOf h713 = evOf h) → (6 - x715.toInt).toNat < n711 → RUN d_X9_goSecond 166 [(3, .inl x715), (0, .inr (.inr (.inl 96))), (1, .inl a0), (2, .inl a1)] [] h713 (qg_X9_goSecond h a0 a1) := by
                      intro n711
                      induction n711 with
                      | zero => intro h713 x715 m717 m718 m719 m720 m721 m722 m723 hz; exact absurd hz (Nat.not_lt_zero _)
                      | succ n711 ih716 =>
                        intro h713 x715 hI fr fl714 m720 m721 m722 m723 hz
                        have s724 : (h713.1 96 41).toInt = (h11.1 96 41).toInt := by rw [(fl714 96 (by decide)).1]
                        have s725 : (h713.1 96 42).toInt = (h11.1 96 42).toInt := by rw [(fl714 96 (by decide)).1]
                        have s726 : (h713.1 96 19).toInt = (h11.1 96 19).toInt := by rw [(fl714 96 (by decide)).1]
                        have s727 : (h713.1 96 18).toInt = (h11.1 96 18).toInt := by rw [(fl714 96 (by decide)).1]
                        have s728 : (h713.1 96 20).toInt = (h11.1 96 20).toInt := by rw [(fl714 96 (by decide)).1]
                        have s729 : (h713.1 96 46).toInt = (h11.1 96 46).toInt := by rw [(fl714 96 (by decide)).1]
                        have s730 : (h713.1 96 44).toInt = (h11.1 96 44).toInt := by rw [(fl714 96 (by decide)).1]
                        have s731 : (h713.1 96 47).toInt = (h11.1 96 47).toInt := by rw [(fl714 96 (by decide)).1]
                        have s732 : (h713.1 96 48).toInt = (h11.1 96 48).toInt := by rw [(fl714 96 (by decide)).1]
                        have s733 : (h713.1 96 51).toInt = (h11.1 96 51).toInt := by rw [(fl714 96 (by decide)).1]
                        have fl12 : FR [96, 107, 108, 109, 117, 118] h h713 := fl12.trans fl714 (by decide)
                        have hE := m723
                        have hK : kyOf h713 = kyOf h713 := rfl
                        refine R_iload_n (k := 3) rfl rfl rfl ?_
                        refine R_aload_n (k := 0) rfl rfl rfl ?_
                        refine R_getf_i (j := 18) rfl ft_9_253 sh_96 rfl ?_
                        refine N_icmp_ge (a := x715.toInt) (b := (h713.1 96 18).toInt) 224 rfl rfl rfl rfl (fun c734 => ?_) (fun c734 => ?_)
                        · have hF : kyOf h713 = zSecond (evOf h) a0 a1 (kyOf h) := m722.trans (by rw [show x715 = (evOf h).2.2.2.2.1 from i_of _ (by omega)]; rfl)
                          exact R_vret rfl rfl ⟨hI, fr, ⟨by omega, by omega, by omega, by omega, by omega, by omega, by omega, by omega, by omega, by omega, hF, hE, trivial⟩, rfl⟩
                        · refine R_aload_n (k := 0) rfl rfl rfl ?_
                          refine R_getf_r (j := 22) rfl ft_9_46 sh_96 rfl ?_
                          refine R_aload_n (k := 0) rfl rfl rfl ?_
                          refine R_getf_r (j := 17) rfl ft_9_40 sh_96 rfl ?_
                          refine R_iload_n (k := 3) rfl rfl rfl ?_
                          refine R_iald rfl sh_105 ⟨by omega, by omega⟩ ?_
                          refine N_eq (fun x735 e736 => ?_)
                          have q737 : 0 ≤ x735.toInt ∧ x735.toInt ≤ 5 := by rw [e736]; exact hI.1 105 _
                          have e738 : x735 = (evOf h).2.2.2.1 x715.toNatClampNeg := by rw [e736]; exact congrFun (congrArg (fun q : EV => q.2.2.2.1) hE) _
                          refine R_iald rfl sh_107 ⟨by omega, by omega⟩ ?_
                          refine N_eq (fun x739 e740 => ?_)
                          have e741 : x739 = ((kyOf h713).1) x735.toNatClampNeg := by rw [e740]; exact (ky_at107 (nlt ⟨by omega, by omega⟩)).trans (congrFun (congrArg (fun q : KY => q.1) hK) _)
                          refine R_iconst (-1) rfl rfl ?_
                          refine N_icmp_eq (a := x739.toInt) (b := (-1)) 218 rfl rfl rfl (by decide) (fun c742 => ?_) (fun c742 => ?_)
                          · refine N_iinc (a := x715.toInt) (c := 1) (fun w => [(3, .inl w), (0, .inr (.inr (.inl 96))), (1, .inl a0), (2, .inl a1)]) rfl rfl (fun _ => rfl) (by decide) rfl (by decide) (by omega) (fun x743 q744 => ?_)
                            refine R_goto 166 rfl rfl ?_
                            exact RUN_weak (psub_cons rfl (psub_cons rfl (psub_cons rfl (psub_cons rfl (psub_nil _))))) (ih716 h713 x743 hI fr fl714 (by omega) (by omega) (by rw [zHolds_s (x := x715) (x' := x743) (by omega) (by omega), ← m722]; refine hK.trans ?_; subst e741 e738; simp only [zHold1, eLine] <;> (repeat' split) <;> first | (exfalso; omega) | rfl) (hE) (by omega))
                          · refine R_aload_n (k := 0) rfl rfl rfl ?_
                            refine R_aload_n (k := 0) rfl rfl rfl ?_
                            refine R_getf_r (j := 17) rfl ft_9_40 sh_96 rfl ?_
                            refine R_iload_n (k := 3) rfl rfl rfl ?_
                            refine R_iald rfl sh_105 ⟨by omega, by omega⟩ ?_
                            refine N_eq (fun x745 e746 => ?_)
                            have q747 : 0 ≤ x745.toInt ∧ x745.toInt ≤ 5 := by rw [e746]; exact hI.1 105 _
                            have e748 : x745 = (evOf h).2.2.2.1 x715.toNatClampNeg := by rw [e746]; exact congrFun (congrArg (fun q : EV => q.2.2.2.1) hE) _
                            refine R_iload_n (k := 1) rfl rfl rfl ?_
                            refine R_callV (v := .inr (.inr (.inl 96))) (As := [.inl x745, .inl a0]) (rest := []) rfl mt_9_i271 pp_X9_doesRest (by decide) rfl rfl rfl (Nat.le_of_ble_eq_true rfl) (Nat.le_of_ble_eq_true rfl) ((g_X9_doesRest h713 hI x745 a0 (by omega) (by omega)).mono (fun r749 h750 p751 => ?_))
                            obtain ⟨rfl, x753, rfl, (q754 | q754 | q754), zq752, -⟩ := p751
                            · rw [hE] at zq752
                              exfalso; omega
                            · rw [hE] at zq752
                              show RUN d_X9_goSecond 200 [(3, .inl x715), (0, .inr (.inr (.inl 96))), (1, .inl a0), (2, .inl a1)] [.inl x753] h713 _
                              refine N_if_ne (a := x753.toInt) 218 rfl rfl rfl (fun c755 => ?_) (fun c755 => ?_)
                              · exfalso; omega
                              · refine R_aload_n (k := 0) rfl rfl rfl ?_
                                refine R_getf_r (j := 22) rfl ft_9_46 sh_96 rfl ?_
                                refine R_aload_n (k := 0) rfl rfl rfl ?_
                                refine R_getf_r (j := 17) rfl ft_9_40 sh_96 rfl ?_
                                refine R_iload_n (k := 3) rfl rfl rfl ?_
                                refine R_iald rfl sh_105 ⟨by omega, by omega⟩ ?_
                                refine N_eq (fun x756 e757 => ?_)
                                have q758 : 0 ≤ x756.toInt ∧ x756.toInt ≤ 5 := by rw [e757]; exact hI.1 105 _
                                have e759 : x756 = (evOf h).2.2.2.1 x715.toNatClampNeg := by rw [e757]; exact congrFun (congrArg (fun q : EV => q.2.2.2.1) hE) _
                                refine R_dup2 rfl ?_
                                refine R_iald rfl sh_107 ⟨by omega, by omega⟩ ?_
                                refine N_eq (fun x760 e761 => ?_)
                                have e762 : x760 = ((kyOf h713).1) x756.toNatClampNeg := by rw [e761]; exact (ky_at107 (nlt ⟨by omega, by omega⟩)).trans (congrFun (congrArg (fun q : KY => q.1) hK) _)
                                refine R_iconst 1 rfl rfl ?_
                                have b763 := i_rng x760
                                refine R_iadd rfl ?_
                                refine N_eq (fun x764 e765 => ?_)
                                refine K_iast (a := x756.toInt) (lo := (-2147483648)) (hi' := 2147483647) rfl sh_107 rfl ⟨by omega, by omega⟩ hI (by decide) rfl (i_rng _) fr (by decide) (fun h766 g767 hI fr => ?_)
                                have fl714 : FR [107] h11 h766 := by rw [g767]; exact FR_wI _ _ fl714 (by decide)
                                have fl12 : FR [96, 107, 108, 109, 117, 118] h h766 := by rw [g767]; exact FR_wI _ _ fl12 (by decide)
                                have s768 : (h766.1 96 41).toInt = (h713.1 96 41).toInt := by rw [g767, wI_ne _ _ _ (by decide)]
                                have s769 : (h766.1 96 42).toInt = (h713.1 96 42).toInt := by rw [g767, wI_ne _ _ _ (by decide)]
                                have s770 : (h766.1 96 19).toInt = (h713.1 96 19).toInt := by rw [g767, wI_ne _ _ _ (by decide)]
                                have s771 : (h766.1 96 18).toInt = (h713.1 96 18).toInt := by rw [g767, wI_ne _ _ _ (by decide)]
                                have s772 : (h766.1 96 20).toInt = (h713.1 96 20).toInt := by rw [g767, wI_ne _ _ _ (by decide)]
                                have s773 : (h766.1 96 46).toInt = (h713.1 96 46).toInt := by rw [g767, wI_ne _ _ _ (by decide)]
                                have s774 : (h766.1 96 44).toInt = (h713.1 96 44).toInt := by rw [g767, wI_ne _ _ _ (by decide)]
                                have s775 : (h766.1 96 47).toInt = (h713.1 96 47).toInt := by rw [g767, wI_ne _ _ _ (by decide)]
                                have s776 : (h766.1 96 48).toInt = (h713.1 96 48).toInt := by rw [g767, wI_ne _ _ _ (by decide)]
                                have s777 : (h766.1 96 51).toInt = (h713.1 96 51).toInt := by rw [g767, wI_ne _ _ _ (by decide)]
                                have hK : kyOf h766 = (upd ((kyOf h713).1) x756.toNatClampNeg x764, (kyOf h713).2.1, (kyOf h713).2.2.1, (kyOf h713).2.2.2) := by rw [g767, ky_107 (nlt ⟨by omega, by omega⟩), hK] <;> rfl
                                have hE : evOf h766 = evOf h := by rw [g767, ev_o (by decide), hE]
                                refine N_iinc (a := x715.toInt) (c := 1) (fun w => [(3, .inl w), (0, .inr (.inr (.inl 96))), (1, .inl a0), (2, .inl a1)]) rfl rfl (fun _ => rfl) (by decide) rfl (by decide) (by omega) (fun x778 q779 => ?_)
                                refine R_goto 166 rfl rfl ?_
                                exact RUN_weak (psub_cons rfl (psub_cons rfl (psub_cons rfl (psub_cons rfl (psub_nil _))))) (ih716 h766 x778 hI fr fl714 (by omega) (by omega) (by rw [zHolds_s (x := x715) (x' := x778) (by omega) (by omega), ← m722]; refine hK.trans ?_; subst e765 e762 e759 e748 e741 e738; simp only [zHold1, eLine] <;> (repeat' split) <;> first | (exfalso; omega) | rfl) (hE) (by omega))
                            · rw [hE] at zq752
                              show RUN d_X9_goSecond 200 [(3, .inl x715), (0, .inr (.inr (.inl 96))), (1, .inl a0), (2, .inl a1)] [.inl x753] h713 _
                              refine N_if_ne (a := x753.toInt) 218 rfl rfl rfl (fun c780 => ?_) (fun c780 => ?_)
                              · refine N_iinc (a := x715.toInt) (c := 1) (fun w => [(3, .inl w), (0, .inr (.inr (.inl 96))), (1, .inl a0), (2, .inl a1)]) rfl rfl (fun _ => rfl) (by decide) rfl (by decide) (by omega) (fun x781 q782 => ?_)
                                refine R_goto 166 rfl rfl ?_
                                exact RUN_weak (psub_cons rfl (psub_cons rfl (psub_cons rfl (psub_cons rfl (psub_nil _))))) (ih716 h713 x781 hI fr fl714 (by omega) (by omega) (by rw [zHolds_s (x := x715) (x' := x781) (by omega) (by omega), ← m722]; refine hK.trans ?_; subst e748 e741 e738; simp only [zHold1, eLine] <;> (repeat' split) <;> first | (exfalso; omega) | rfl) (hE) (by omega))
                              · exfalso; omega
                    have k783 : (0 : Int32).toInt = 0 := by decide
                    exact lp712 _ h11 (0 : Int32) hI fr (FR.rf _ _) (by decide) (by omega) (by rw [hK]; rfl) (hE) (Nat.lt_succ_self _)
                  · exfalso; omega
          · refine R_aload_n (k := 0) rfl rfl rfl ?_
            refine R_iload_n (k := 3) rfl rfl rfl ?_
            refine R_iload_n (k := 1) rfl rfl rfl ?_
            refine R_callV (v := .inr (.inr (.inl 96))) (As := [.inl x13, .inl a0]) (rest := []) rfl mt_9_i278 pp_X9_goPlace (by decide) rfl rfl rfl (Nat.le_of_ble_eq_true rfl) (Nat.le_of_ble_eq_true rfl) ((g_X9_goPlace h11 hI x13 a0 (by omega) (by omega) (by omega)).mono (fun r784 h785 p786 => ?_))
            obtain ⟨hJ, fj, ⟨kp787, kp788, kp789, kp790, kp791, kp792, kp793, kp794, kp795, kp796, xq797, xq798, -⟩, rfl⟩ := p786
            have f799 := fj
            have fr := fr.trans fj (by decide)
            have hI := hJ
            have fl12 : FR [96, 107, 108, 109, 117, 118] h h785 := fl12.trans fj (by decide)
            have hK : kyOf h785 = zPlace (evOf h) x13 a0 (kyOf h11) := by rw [xq797, hE, hK]
            have hE : evOf h785 = evOf h := xq798.trans hE
            show RUN d_X9_goSecond 76 [(3, .inl x13), (0, .inr (.inr (.inl 96))), (1, .inl a0), (2, .inl a1)] [] h785 _
            refine N_iinc (a := x13.toInt) (c := (-1)) (fun w => [(3, .inl w), (0, .inr (.inr (.inl 96))), (1, .inl a0), (2, .inl a1)]) rfl rfl (fun _ => rfl) (by decide) rfl (by decide) (by omega) (fun x800 q801 => ?_)
            refine R_goto 62 rfl rfl ?_
            exact RUN_weak (psub_cons rfl (psub_cons rfl (psub_cons rfl (psub_cons rfl (psub_nil _))))) (ih14 h785 x800 hI fr fl12 (by omega) (by omega) (by omega) (by omega) (by omega) (by omega) (by omega) (by omega) (by omega) (by omega) (by omega) (by omega) (by omega) (by rw [hK, ← zPlaces_s (x := x13) (x' := x800) (by omega) (by omega)]; exact m31) (fun hc => absurd (show a1.toInt = 0 by omega) hc) (hE) (by omega))
    exact lp10 _ h x6 hI fr (FR.rf _ _) (by omega) rfl rfl rfl rfl rfl rfl rfl rfl rfl rfl (by omega) (by omega) ((congrArg (fun q => zPlaces (evOf h) a0 (x6.toInt + 1).toNat q) hK).trans (by rw [tn1 (x := x6) (y := (evOf h).2.2.2.2.1) (by omega) (by omega)])) (fun _ => hK) (hE) (Nat.lt_succ_self _)
  · refine R_aload_n (k := 0) rfl rfl rfl ?_
    refine R_getf_r (j := 24) rfl ft_9_52 sh_96 rfl ?_
    refine R_iconst 0 rfl rfl ?_
    refine R_dup2 rfl ?_
    refine R_iald rfl sh_109 (by decide) ?_
    refine N_eq (fun x802 e803 => ?_)
    have e804 : x802 = ((kyOf h).2.2.1) (0 : Int32).toNatClampNeg := by rw [e803]; exact (ky_at109 (by decide)).trans (congrFun (congrArg (fun q : KY => q.2.2.1) hK) _)
    refine R_aload_n (k := 0) rfl rfl rfl ?_
    refine R_getf_r (j := 24) rfl ft_9_52 sh_96 rfl ?_
    refine R_iconst 1 rfl rfl ?_
    refine R_iald rfl sh_109 (by decide) ?_
    refine N_eq (fun x805 e806 => ?_)
    have e807 : x805 = ((kyOf h).2.2.1) (1 : Int32).toNatClampNeg := by rw [e806]; exact (ky_at109 (by decide)).trans (congrFun (congrArg (fun q : KY => q.2.2.1) hK) _)
    have b808 := i_rng x802
    have b809 := i_rng x805
    refine R_iadd rfl ?_
    refine N_eq (fun x810 e811 => ?_)
    refine K_iast (a := 0) (lo := (-2147483648)) (hi' := 2147483647) rfl sh_109 (by decide) (by decide) hI (by decide) rfl (i_rng _) fr (by decide) (fun h812 g813 hI fr => ?_)
    have s814 : (h812.1 96 34).toInt = (h.1 96 34).toInt := by rw [g813, wI_ne _ _ _ (by decide)]
    have s815 : (h812.1 96 36).toInt = (h.1 96 36).toInt := by rw [g813, wI_ne _ _ _ (by decide)]
    have s816 : (h812.1 96 41).toInt = (h.1 96 41).toInt := by rw [g813, wI_ne _ _ _ (by decide)]
    have s817 : (h812.1 96 42).toInt = (h.1 96 42).toInt := by rw [g813, wI_ne _ _ _ (by decide)]
    have s818 : (h812.1 96 19).toInt = (h.1 96 19).toInt := by rw [g813, wI_ne _ _ _ (by decide)]
    have s819 : (h812.1 96 18).toInt = (h.1 96 18).toInt := by rw [g813, wI_ne _ _ _ (by decide)]
    have s820 : (h812.1 96 20).toInt = (h.1 96 20).toInt := by rw [g813, wI_ne _ _ _ (by decide)]
    have s821 : (h812.1 96 46).toInt = (h.1 96 46).toInt := by rw [g813, wI_ne _ _ _ (by decide)]
    have s822 : (h812.1 96 44).toInt = (h.1 96 44).toInt := by rw [g813, wI_ne _ _ _ (by decide)]
    have s823 : (h812.1 96 47).toInt = (h.1 96 47).toInt := by rw [g813, wI_ne _ _ _ (by decide)]
    have s824 : (h812.1 96 48).toInt = (h.1 96 48).toInt := by rw [g813, wI_ne _ _ _ (by decide)]
    have s825 : (h812.1 96 51).toInt = (h.1 96 51).toInt := by rw [g813, wI_ne _ _ _ (by decide)]
    have hK : kyOf h812 = ((kyOf h).1, (kyOf h).2.1, upd ((kyOf h).2.2.1) (0 : Int32).toNatClampNeg x810, (kyOf h).2.2.2) := by rw [g813, ky_109 (by decide), hK] <;> rfl
    have hE : evOf h812 = evOf h := by rw [g813, ev_o (by decide), hE]
    refine R_iconst 1 rfl rfl ?_
    refine R_istore_n (k := 3) rfl [(3, .inl 1), (0, .inr (.inr (.inl 96))), (1, .inl a0), (2, .inl a1)] rfl rfl (by decide) ?_
    have lp827 : ∀ (n826 : Nat) (h828 : PH) (x830 : Int32), INV h828 → FR [96, 107, 108, 109, 117, 118] h h828 → FR [96, 107, 108, 109, 117, 118] h812 h828 → 1 ≤ x830.toInt ∧ x830.toInt ≤ 22 → (h828.1 96 41).toInt = (h812.1 96 41).toInt → (h828.1 96 42).toInt = (h812.1 96 42).toInt → (h828.1 96 19).toInt = (h812.1 96 19).toInt → (h828.1 96 18).toInt = (h812.1 96 18).toInt → (h828.1 96 20).toInt = (h812.1 96 20).toInt → (h828.1 96 46).toInt = (h812.1 96 46).toInt → (h828.1 96 44).toInt = (h812.1 96 44).toInt → (h828.1 96 47).toInt = (h812.1 96 47).toInt → (h828.1 96 48).toInt = (h812.1 96 48).toInt → (h828.1 96 51).toInt = (h812.1 96 51).toInt → True → True → (kyOf h828 = ((kyOf h).1, (kyOf h).2.1, zShN (kyOf h).2.2.1 x830.toNatClampNeg, (kyOf h).2.2.2)) → (evOf h828 = evOf h) → (22 - x830.toInt).toNat < n826 → RUN d_X9_goSecond 21 [(3, .inl x830), (0, .inr (.inr (.inl 96))), (1, .inl a0), (2, .inl a1)] [] h828 (qg_X9_goSecond h a0 a1) := by
      intro n826
      induction n826 with
      | zero => intro h828 x830 m832 m833 m834 m835 m836 m837 m838 m839 m840 m841 m842 m843 m844 m845 m846 m847 m848 m849 hz; exact absurd hz (Nat.not_lt_zero _)
      | succ n826 ih831 =>
        intro h828 x830 hI fr fl829 m835 m836 m837 m838 m839 m840 m841 m842 m843 m844 m845 m846 m847 m848 m849 hz
        have hE := m849
        have hK : kyOf h828 = kyOf h828 := rfl
        refine R_iload_n (k := 3) rfl rfl rfl ?_
        refine R_bipush 22 rfl rfl ?_
        refine N_icmp_ge (a := x830.toInt) (b := 22) 47 rfl rfl rfl (by decide) (fun c850 => ?_) (fun c850 => ?_)
        · refine R_aload_n (k := 0) rfl rfl rfl ?_
          refine R_getf_r (j := 24) rfl ft_9_52 sh_96 rfl ?_
          refine R_bipush 22 rfl rfl ?_
          refine R_iconst 0 rfl rfl ?_
          refine K_iast (a := 22) (lo := (-2147483648)) (hi' := 2147483647) rfl sh_109 (by decide) (by decide) hI (by decide) rfl (by decide) fr (by decide) (fun h851 g852 hI fr => ?_)
          have fl829 : FR [96, 107, 108, 109, 117, 118] h812 h851 := by rw [g852]; exact FR_wI _ _ fl829 (by decide)
          have s853 : (h851.1 96 34).toInt = (h828.1 96 34).toInt := by rw [g852, wI_ne _ _ _ (by decide)]
          have s854 : (h851.1 96 36).toInt = (h828.1 96 36).toInt := by rw [g852, wI_ne _ _ _ (by decide)]
          have s855 : (h851.1 96 41).toInt = (h828.1 96 41).toInt := by rw [g852, wI_ne _ _ _ (by decide)]
          have s856 : (h851.1 96 42).toInt = (h828.1 96 42).toInt := by rw [g852, wI_ne _ _ _ (by decide)]
          have s857 : (h851.1 96 19).toInt = (h828.1 96 19).toInt := by rw [g852, wI_ne _ _ _ (by decide)]
          have s858 : (h851.1 96 18).toInt = (h828.1 96 18).toInt := by rw [g852, wI_ne _ _ _ (by decide)]
          have s859 : (h851.1 96 20).toInt = (h828.1 96 20).toInt := by rw [g852, wI_ne _ _ _ (by decide)]
          have s860 : (h851.1 96 46).toInt = (h828.1 96 46).toInt := by rw [g852, wI_ne _ _ _ (by decide)]
          have s861 : (h851.1 96 44).toInt = (h828.1 96 44).toInt := by rw [g852, wI_ne _ _ _ (by decide)]
          have s862 : (h851.1 96 47).toInt = (h828.1 96 47).toInt := by rw [g852, wI_ne _ _ _ (by decide)]
          have s863 : (h851.1 96 48).toInt = (h828.1 96 48).toInt := by rw [g852, wI_ne _ _ _ (by decide)]
          have s864 : (h851.1 96 51).toInt = (h828.1 96 51).toInt := by rw [g852, wI_ne _ _ _ (by decide)]
          have hK : kyOf h851 = ((kyOf h828).1, (kyOf h828).2.1, upd ((kyOf h828).2.2.1) (22 : Int32).toNatClampNeg (0), (kyOf h828).2.2.2) := by rw [g852, ky_109 (by decide), hK] <;> rfl
          have hE : evOf h851 = evOf h := by rw [g852, ev_o (by decide), hE]
          have hK : kyOf h851 = zPre a0 (kyOf h) := by refine hK.trans ?_; rw [m848, show x830 = 22 from i_of 22 (by rw [show (22 : Int32).toInt = 22 from rfl]; omega)]; unfold zPre; rw [if_pos (by omega)]; rfl
          refine R_aload_n (k := 0) rfl rfl rfl ?_
          refine R_getf_i (j := 18) rfl ft_9_253 sh_96 rfl ?_
          refine R_iconst 1 rfl rfl ?_
          refine R_isub rfl ?_
          refine N_eq (fun x865 e866 => ?_)
          have q867 : x865.toInt = (h851.1 96 18).toInt - 1 := by rw [e866]; exact i_sub rfl (by decide) (by omega)
          refine R_istore_n (k := 3) rfl [(3, .inl x865), (0, .inr (.inr (.inl 96))), (1, .inl a0), (2, .inl a1)] rfl rfl (by decide) ?_
          have lp869 : ∀ (n868 : Nat) (h870 : PH) (x872 : Int32), INV h870 → FR [96, 107, 108, 109, 117, 118] h h870 → FR [96, 107, 108, 109, 117, 118] h851 h870 → (-1) ≤ x872.toInt ∧ x872.toInt ≤ 5 → (h870.1 96 41).toInt = (h851.1 96 41).toInt → (h870.1 96 42).toInt = (h851.1 96 42).toInt → (h870.1 96 19).toInt = (h851.1 96 19).toInt → (h870.1 96 18).toInt = (h851.1 96 18).toInt → (h870.1 96 20).toInt = (h851.1 96 20).toInt → (h870.1 96 46).toInt = (h851.1 96 46).toInt → (h870.1 96 44).toInt = (h851.1 96 44).toInt → (h870.1 96 47).toInt = (h851.1 96 47).toInt → (h870.1 96 48).toInt = (h851.1 96 48).toInt → (h870.1 96 51).toInt = (h851.1 96 51).toInt → x872.toInt ≤ (h851.1 96 18).toInt + (-1) → x872.toInt ≤ (h851.1 96 18).toInt + 0 → (zPlaces (evOf h) a0 (x872.toInt + 1).toNat (kyOf h870) = zPlaces (evOf h) a0 (evOf h).2.2.2.2.1.toNatClampNeg (zPre a0 (kyOf h))) → (¬ a1.toInt = 0 → kyOf h870 = zPre a0 (kyOf h)) → (evOf h870 = evOf h) → (x872.toInt - (-1)).toNat < n868 → RUN d_X9_goSecond 62 [(3, .inl x872), (0, .inr (.inr (.inl 96))), (1, .inl a0), (2, .inl a1)] [] h870 (qg_X9_goSecond h a0 a1) := by
            intro n868
            induction n868 with
            | zero => intro h870 x872 m874 m875 m876 m877 m878 m879 m880 m881 m882 m883 m884 m885 m886 m887 m888 m889 m890 m891 m892 hz; exact absurd hz (Nat.not_lt_zero _)
            | succ n868 ih873 =>
              intro h870 x872 hI fr fl871 m877 m878 m879 m880 m881 m882 m883 m884 m885 m886 m887 m888 m889 m890 m891 m892 hz
              have fl829 : FR [96, 107, 108, 109, 117, 118] h812 h870 := fl829.trans fl871 (by decide)
              have hE := m892
              have hK : kyOf h870 = kyOf h870 := rfl
              refine R_iload_n (k := 3) rfl rfl rfl ?_
              refine N_if_lt (a := x872.toInt) 82 rfl rfl rfl (fun c893 => ?_) (fun c893 => ?_)
              · have hK : kyOf h870 = zMid (evOf h) a0 a1 (kyOf h) := by
                  unfold zMid
                  split
                  · first | (exfalso; omega) | (have hA := m890; rw [show (x872.toInt + 1).toNat = 0 by omega] at hA; exact hA)
                  · exact m891 (by omega)
                refine R_aload_n (k := 0) rfl rfl rfl ?_
                refine R_getf_i (j := 18) rfl ft_9_253 sh_96 rfl ?_
                refine N_if_le (a := (h870.1 96 18).toInt) 164 rfl rfl rfl (fun c894 => ?_) (fun c894 => ?_)
                · have hK : kyOf h870 = zTake (evOf h) a0 (zMid (evOf h) a0 a1 (kyOf h)) := by
                    refine hK.trans ?_
                    simp only [zTake, zTake1, eMany, eLine, eFull] <;> (repeat' split) <;> first | (exfalso; omega) | rfl
                  refine R_iconst 0 rfl rfl ?_
                  refine R_istore_n (k := 3) rfl [(3, .inl 0), (0, .inr (.inr (.inl 96))), (1, .inl a0), (2, .inl a1)] rfl rfl (by decide) ?_
                  have lp896 : ∀ (n895 : Nat) (x897 : Int32), 0 ≤ x897.toInt ∧ x897.toInt ≤ 0 → (kyOf h870 = zHolds (evOf h) a0 x897.toNatClampNeg (zTake (evOf h) a0 (zMid (evOf h) a0 a1 (kyOf h)))) → 0 < n895 → RUN d_X9_goSecond 166 [(3, .inl x897), (0, .inr (.inr (.inl 96))), (1, .inl a0), (2, .inl a1)] [] h870 (qg_X9_goSecond h a0 a1) := by
                    intro n895
                    induction n895 with
                    | zero => intro x897 m899 m900 hz; exact absurd hz (Nat.not_lt_zero _)
                    | succ n895 ih898 =>
                      intro x897 m899 m900 hz
                      refine R_iload_n (k := 3) rfl rfl rfl ?_
                      refine R_aload_n (k := 0) rfl rfl rfl ?_
                      refine R_getf_i (j := 18) rfl ft_9_253 sh_96 rfl ?_
                      refine N_icmp_ge (a := x897.toInt) (b := (h870.1 96 18).toInt) 224 rfl rfl rfl rfl (fun c901 => ?_) (fun c901 => ?_)
                      · have hF : kyOf h870 = zSecond (evOf h) a0 a1 (kyOf h) := m900.trans (by rw [show x897 = (evOf h).2.2.2.2.1 from i_of _ (by omega)]; rfl)
                        exact R_vret rfl rfl ⟨hI, fr, ⟨by omega, by omega, by omega, by omega, by omega, by omega, by omega, by omega, by omega, by omega, hF, hE, trivial⟩, rfl⟩
                      · exfalso; omega
                  have k902 : (0 : Int32).toInt = 0 := by decide
                  exact lp896 _ (0 : Int32) (by decide) (by rw [hK]; rfl) (Nat.lt_succ_self _)
                · refine R_aload_n (k := 0) rfl rfl rfl ?_
                  refine R_getf_r (j := 22) rfl ft_9_46 sh_96 rfl ?_
                  refine R_aload_n (k := 0) rfl rfl rfl ?_
                  refine R_getf_r (j := 17) rfl ft_9_40 sh_96 rfl ?_
                  refine R_iconst 0 rfl rfl ?_
                  refine R_iald rfl sh_105 (by decide) ?_
                  refine N_eq (fun x903 e904 => ?_)
                  have q905 : 0 ≤ x903.toInt ∧ x903.toInt ≤ 5 := by rw [e904]; exact hI.1 105 _
                  have e906 : x903 = (evOf h).2.2.2.1 (0 : Int32).toNatClampNeg := by rw [e904]; exact congrFun (congrArg (fun q : EV => q.2.2.2.1) hE) _
                  refine R_iald rfl sh_107 ⟨by omega, by omega⟩ ?_
                  refine N_eq (fun x907 e908 => ?_)
                  have e909 : x907 = ((zMid (evOf h) a0 a1 (kyOf h)).1) x903.toNatClampNeg := by rw [e908]; exact (ky_at107 (nlt ⟨by omega, by omega⟩)).trans (congrFun (congrArg (fun q : KY => q.1) hK) _)
                  refine R_iconst (-1) rfl rfl ?_
                  refine N_icmp_ne (a := x907.toInt) (b := (-1)) 164 rfl rfl rfl (by decide) (fun c910 => ?_) (fun c910 => ?_)
                  · have hK : kyOf h870 = zTake (evOf h) a0 (zMid (evOf h) a0 a1 (kyOf h)) := by
                      refine hK.trans ?_
                      subst e909 e906
                      simp only [zTake, zTake1, eMany, eLine, eFull] <;> (repeat' split) <;> first | (exfalso; omega) | rfl
                    refine R_iconst 0 rfl rfl ?_
                    refine R_istore_n (k := 3) rfl [(3, .inl 0), (0, .inr (.inr (.inl 96))), (1, .inl a0), (2, .inl a1)] rfl rfl (by decide) ?_
                    have lp912 : ∀ (n911 : Nat) (h913 : PH) (x915 : Int32), INV h913 → FR [96, 107, 108, 109, 117, 118] h h913 → FR [107] h870 h913 → 0 ≤ x915.toInt ∧ x915.toInt ≤ 6 → x915.toInt ≤ (h870.1 96 18).toInt + 0 → (kyOf h913 = zHolds (evOf h) a0 x915.toNatClampNeg (zTake (evOf h) a0 (zMid (evOf h) a0 a1 (kyOf h)))) → (evOf h913 = evOf h) → (6 - x915.toInt).toNat < n911 → RUN d_X9_goSecond 166 [(3, .inl x915), (0, .inr (.inr (.inl 96))), (1, .inl a0), (2, .inl a1)] [] h913 (qg_X9_goSecond h a0 a1) := by
                      intro n911
                      induction n911 with
                      | zero => intro h913 x915 m917 m918 m919 m920 m921 m922 m923 hz; exact absurd hz (Nat.not_lt_zero _)
                      | succ n911 ih916 =>
                        intro h913 x915 hI fr fl914 m920 m921 m922 m923 hz
                        have s924 : (h913.1 96 41).toInt = (h870.1 96 41).toInt := by rw [(fl914 96 (by decide)).1]
                        have s925 : (h913.1 96 42).toInt = (h870.1 96 42).toInt := by rw [(fl914 96 (by decide)).1]
                        have s926 : (h913.1 96 19).toInt = (h870.1 96 19).toInt := by rw [(fl914 96 (by decide)).1]
                        have s927 : (h913.1 96 18).toInt = (h870.1 96 18).toInt := by rw [(fl914 96 (by decide)).1]
                        have s928 : (h913.1 96 20).toInt = (h870.1 96 20).toInt := by rw [(fl914 96 (by decide)).1]
                        have s929 : (h913.1 96 46).toInt = (h870.1 96 46).toInt := by rw [(fl914 96 (by decide)).1]
                        have s930 : (h913.1 96 44).toInt = (h870.1 96 44).toInt := by rw [(fl914 96 (by decide)).1]
                        have s931 : (h913.1 96 47).toInt = (h870.1 96 47).toInt := by rw [(fl914 96 (by decide)).1]
                        have s932 : (h913.1 96 48).toInt = (h870.1 96 48).toInt := by rw [(fl914 96 (by decide)).1]
                        have s933 : (h913.1 96 51).toInt = (h870.1 96 51).toInt := by rw [(fl914 96 (by decide)).1]
                        have fl871 : FR [96, 107, 108, 109, 117, 118] h851 h913 := fl871.trans fl914 (by decide)
                        have fl829 : FR [96, 107, 108, 109, 117, 118] h812 h913 := fl829.trans fl914 (by decide)
                        have hE := m923
                        have hK : kyOf h913 = kyOf h913 := rfl
                        refine R_iload_n (k := 3) rfl rfl rfl ?_
                        refine R_aload_n (k := 0) rfl rfl rfl ?_
                        refine R_getf_i (j := 18) rfl ft_9_253 sh_96 rfl ?_
                        refine N_icmp_ge (a := x915.toInt) (b := (h913.1 96 18).toInt) 224 rfl rfl rfl rfl (fun c934 => ?_) (fun c934 => ?_)
                        · have hF : kyOf h913 = zSecond (evOf h) a0 a1 (kyOf h) := m922.trans (by rw [show x915 = (evOf h).2.2.2.2.1 from i_of _ (by omega)]; rfl)
                          exact R_vret rfl rfl ⟨hI, fr, ⟨by omega, by omega, by omega, by omega, by omega, by omega, by omega, by omega, by omega, by omega, hF, hE, trivial⟩, rfl⟩
                        · refine R_aload_n (k := 0) rfl rfl rfl ?_
                          refine R_getf_r (j := 22) rfl ft_9_46 sh_96 rfl ?_
                          refine R_aload_n (k := 0) rfl rfl rfl ?_
                          refine R_getf_r (j := 17) rfl ft_9_40 sh_96 rfl ?_
                          refine R_iload_n (k := 3) rfl rfl rfl ?_
                          refine R_iald rfl sh_105 ⟨by omega, by omega⟩ ?_
                          refine N_eq (fun x935 e936 => ?_)
                          have q937 : 0 ≤ x935.toInt ∧ x935.toInt ≤ 5 := by rw [e936]; exact hI.1 105 _
                          have e938 : x935 = (evOf h).2.2.2.1 x915.toNatClampNeg := by rw [e936]; exact congrFun (congrArg (fun q : EV => q.2.2.2.1) hE) _
                          refine R_iald rfl sh_107 ⟨by omega, by omega⟩ ?_
                          refine N_eq (fun x939 e940 => ?_)
                          have e941 : x939 = ((kyOf h913).1) x935.toNatClampNeg := by rw [e940]; exact (ky_at107 (nlt ⟨by omega, by omega⟩)).trans (congrFun (congrArg (fun q : KY => q.1) hK) _)
                          refine R_iconst (-1) rfl rfl ?_
                          refine N_icmp_eq (a := x939.toInt) (b := (-1)) 218 rfl rfl rfl (by decide) (fun c942 => ?_) (fun c942 => ?_)
                          · refine N_iinc (a := x915.toInt) (c := 1) (fun w => [(3, .inl w), (0, .inr (.inr (.inl 96))), (1, .inl a0), (2, .inl a1)]) rfl rfl (fun _ => rfl) (by decide) rfl (by decide) (by omega) (fun x943 q944 => ?_)
                            refine R_goto 166 rfl rfl ?_
                            exact RUN_weak (psub_cons rfl (psub_cons rfl (psub_cons rfl (psub_cons rfl (psub_nil _))))) (ih916 h913 x943 hI fr fl914 (by omega) (by omega) (by rw [zHolds_s (x := x915) (x' := x943) (by omega) (by omega), ← m922]; refine hK.trans ?_; subst e941 e938; simp only [zHold1, eLine] <;> (repeat' split) <;> first | (exfalso; omega) | rfl) (hE) (by omega))
                          · refine R_aload_n (k := 0) rfl rfl rfl ?_
                            refine R_aload_n (k := 0) rfl rfl rfl ?_
                            refine R_getf_r (j := 17) rfl ft_9_40 sh_96 rfl ?_
                            refine R_iload_n (k := 3) rfl rfl rfl ?_
                            refine R_iald rfl sh_105 ⟨by omega, by omega⟩ ?_
                            refine N_eq (fun x945 e946 => ?_)
                            have q947 : 0 ≤ x945.toInt ∧ x945.toInt ≤ 5 := by rw [e946]; exact hI.1 105 _
                            have e948 : x945 = (evOf h).2.2.2.1 x915.toNatClampNeg := by rw [e946]; exact congrFun (congrArg (fun q : EV => q.2.2.2.1) hE) _
                            refine R_iload_n (k := 1) rfl rfl rfl ?_
                            have b949 := i_rng a0
                            refine R_callV (v := .inr (.inr (.inl 96))) (As := [.inl x945, .inl a0]) (rest := []) rfl mt_9_i271 pp_X9_doesRest (by decide) rfl rfl rfl (Nat.le_of_ble_eq_true rfl) (Nat.le_of_ble_eq_true rfl) ((g_X9_doesRest h913 hI x945 a0 (by omega) (by omega)).mono (fun r950 h951 p952 => ?_))
                            obtain ⟨rfl, x954, rfl, (q955 | q955 | q955), zq953, -⟩ := p952
                            · rw [hE] at zq953
                              show RUN d_X9_goSecond 200 [(3, .inl x915), (0, .inr (.inr (.inl 96))), (1, .inl a0), (2, .inl a1)] [.inl x954] h913 _
                              refine N_if_ne (a := x954.toInt) 218 rfl rfl rfl (fun c956 => ?_) (fun c956 => ?_)
                              · exfalso; omega
                              · refine R_aload_n (k := 0) rfl rfl rfl ?_
                                refine R_getf_r (j := 22) rfl ft_9_46 sh_96 rfl ?_
                                refine R_aload_n (k := 0) rfl rfl rfl ?_
                                refine R_getf_r (j := 17) rfl ft_9_40 sh_96 rfl ?_
                                refine R_iload_n (k := 3) rfl rfl rfl ?_
                                refine R_iald rfl sh_105 ⟨by omega, by omega⟩ ?_
                                refine N_eq (fun x957 e958 => ?_)
                                have q959 : 0 ≤ x957.toInt ∧ x957.toInt ≤ 5 := by rw [e958]; exact hI.1 105 _
                                have e960 : x957 = (evOf h).2.2.2.1 x915.toNatClampNeg := by rw [e958]; exact congrFun (congrArg (fun q : EV => q.2.2.2.1) hE) _
                                refine R_dup2 rfl ?_
                                refine R_iald rfl sh_107 ⟨by omega, by omega⟩ ?_
                                refine N_eq (fun x961 e962 => ?_)
                                have e963 : x961 = ((kyOf h913).1) x957.toNatClampNeg := by rw [e962]; exact (ky_at107 (nlt ⟨by omega, by omega⟩)).trans (congrFun (congrArg (fun q : KY => q.1) hK) _)
                                refine R_iconst 1 rfl rfl ?_
                                have b964 := i_rng x961
                                refine R_iadd rfl ?_
                                refine N_eq (fun x965 e966 => ?_)
                                refine K_iast (a := x957.toInt) (lo := (-2147483648)) (hi' := 2147483647) rfl sh_107 rfl ⟨by omega, by omega⟩ hI (by decide) rfl (i_rng _) fr (by decide) (fun h967 g968 hI fr => ?_)
                                have fl914 : FR [107] h870 h967 := by rw [g968]; exact FR_wI _ _ fl914 (by decide)
                                have fl871 : FR [96, 107, 108, 109, 117, 118] h851 h967 := by rw [g968]; exact FR_wI _ _ fl871 (by decide)
                                have fl829 : FR [96, 107, 108, 109, 117, 118] h812 h967 := by rw [g968]; exact FR_wI _ _ fl829 (by decide)
                                have s969 : (h967.1 96 41).toInt = (h913.1 96 41).toInt := by rw [g968, wI_ne _ _ _ (by decide)]
                                have s970 : (h967.1 96 42).toInt = (h913.1 96 42).toInt := by rw [g968, wI_ne _ _ _ (by decide)]
                                have s971 : (h967.1 96 19).toInt = (h913.1 96 19).toInt := by rw [g968, wI_ne _ _ _ (by decide)]
                                have s972 : (h967.1 96 18).toInt = (h913.1 96 18).toInt := by rw [g968, wI_ne _ _ _ (by decide)]
                                have s973 : (h967.1 96 20).toInt = (h913.1 96 20).toInt := by rw [g968, wI_ne _ _ _ (by decide)]
                                have s974 : (h967.1 96 46).toInt = (h913.1 96 46).toInt := by rw [g968, wI_ne _ _ _ (by decide)]
                                have s975 : (h967.1 96 44).toInt = (h913.1 96 44).toInt := by rw [g968, wI_ne _ _ _ (by decide)]
                                have s976 : (h967.1 96 47).toInt = (h913.1 96 47).toInt := by rw [g968, wI_ne _ _ _ (by decide)]
                                have s977 : (h967.1 96 48).toInt = (h913.1 96 48).toInt := by rw [g968, wI_ne _ _ _ (by decide)]
                                have s978 : (h967.1 96 51).toInt = (h913.1 96 51).toInt := by rw [g968, wI_ne _ _ _ (by decide)]
                                have hK : kyOf h967 = (upd ((kyOf h913).1) x957.toNatClampNeg x965, (kyOf h913).2.1, (kyOf h913).2.2.1, (kyOf h913).2.2.2) := by rw [g968, ky_107 (nlt ⟨by omega, by omega⟩), hK] <;> rfl
                                have hE : evOf h967 = evOf h := by rw [g968, ev_o (by decide), hE]
                                refine N_iinc (a := x915.toInt) (c := 1) (fun w => [(3, .inl w), (0, .inr (.inr (.inl 96))), (1, .inl a0), (2, .inl a1)]) rfl rfl (fun _ => rfl) (by decide) rfl (by decide) (by omega) (fun x979 q980 => ?_)
                                refine R_goto 166 rfl rfl ?_
                                exact RUN_weak (psub_cons rfl (psub_cons rfl (psub_cons rfl (psub_cons rfl (psub_nil _))))) (ih916 h967 x979 hI fr fl914 (by omega) (by omega) (by rw [zHolds_s (x := x915) (x' := x979) (by omega) (by omega), ← m922]; refine hK.trans ?_; subst e966 e963 e960 e948 e941 e938; simp only [zHold1, eLine] <;> (repeat' split) <;> first | (exfalso; omega) | rfl) (hE) (by omega))
                            · rw [hE] at zq953
                              show RUN d_X9_goSecond 200 [(3, .inl x915), (0, .inr (.inr (.inl 96))), (1, .inl a0), (2, .inl a1)] [.inl x954] h913 _
                              refine N_if_ne (a := x954.toInt) 218 rfl rfl rfl (fun c981 => ?_) (fun c981 => ?_)
                              · exfalso; omega
                              · refine R_aload_n (k := 0) rfl rfl rfl ?_
                                refine R_getf_r (j := 22) rfl ft_9_46 sh_96 rfl ?_
                                refine R_aload_n (k := 0) rfl rfl rfl ?_
                                refine R_getf_r (j := 17) rfl ft_9_40 sh_96 rfl ?_
                                refine R_iload_n (k := 3) rfl rfl rfl ?_
                                refine R_iald rfl sh_105 ⟨by omega, by omega⟩ ?_
                                refine N_eq (fun x982 e983 => ?_)
                                have q984 : 0 ≤ x982.toInt ∧ x982.toInt ≤ 5 := by rw [e983]; exact hI.1 105 _
                                have e985 : x982 = (evOf h).2.2.2.1 x915.toNatClampNeg := by rw [e983]; exact congrFun (congrArg (fun q : EV => q.2.2.2.1) hE) _
                                refine R_dup2 rfl ?_
                                refine R_iald rfl sh_107 ⟨by omega, by omega⟩ ?_
                                refine N_eq (fun x986 e987 => ?_)
                                have e988 : x986 = ((kyOf h913).1) x982.toNatClampNeg := by rw [e987]; exact (ky_at107 (nlt ⟨by omega, by omega⟩)).trans (congrFun (congrArg (fun q : KY => q.1) hK) _)
                                refine R_iconst 1 rfl rfl ?_
                                have b989 := i_rng x986
                                refine R_iadd rfl ?_
                                refine N_eq (fun x990 e991 => ?_)
                                refine K_iast (a := x982.toInt) (lo := (-2147483648)) (hi' := 2147483647) rfl sh_107 rfl ⟨by omega, by omega⟩ hI (by decide) rfl (i_rng _) fr (by decide) (fun h992 g993 hI fr => ?_)
                                have fl914 : FR [107] h870 h992 := by rw [g993]; exact FR_wI _ _ fl914 (by decide)
                                have fl871 : FR [96, 107, 108, 109, 117, 118] h851 h992 := by rw [g993]; exact FR_wI _ _ fl871 (by decide)
                                have fl829 : FR [96, 107, 108, 109, 117, 118] h812 h992 := by rw [g993]; exact FR_wI _ _ fl829 (by decide)
                                have s994 : (h992.1 96 41).toInt = (h913.1 96 41).toInt := by rw [g993, wI_ne _ _ _ (by decide)]
                                have s995 : (h992.1 96 42).toInt = (h913.1 96 42).toInt := by rw [g993, wI_ne _ _ _ (by decide)]
                                have s996 : (h992.1 96 19).toInt = (h913.1 96 19).toInt := by rw [g993, wI_ne _ _ _ (by decide)]
                                have s997 : (h992.1 96 18).toInt = (h913.1 96 18).toInt := by rw [g993, wI_ne _ _ _ (by decide)]
                                have s998 : (h992.1 96 20).toInt = (h913.1 96 20).toInt := by rw [g993, wI_ne _ _ _ (by decide)]
                                have s999 : (h992.1 96 46).toInt = (h913.1 96 46).toInt := by rw [g993, wI_ne _ _ _ (by decide)]
                                have s1000 : (h992.1 96 44).toInt = (h913.1 96 44).toInt := by rw [g993, wI_ne _ _ _ (by decide)]
                                have s1001 : (h992.1 96 47).toInt = (h913.1 96 47).toInt := by rw [g993, wI_ne _ _ _ (by decide)]
                                have s1002 : (h992.1 96 48).toInt = (h913.1 96 48).toInt := by rw [g993, wI_ne _ _ _ (by decide)]
                                have s1003 : (h992.1 96 51).toInt = (h913.1 96 51).toInt := by rw [g993, wI_ne _ _ _ (by decide)]
                                have hK : kyOf h992 = (upd ((kyOf h913).1) x982.toNatClampNeg x990, (kyOf h913).2.1, (kyOf h913).2.2.1, (kyOf h913).2.2.2) := by rw [g993, ky_107 (nlt ⟨by omega, by omega⟩), hK] <;> rfl
                                have hE : evOf h992 = evOf h := by rw [g993, ev_o (by decide), hE]
                                refine N_iinc (a := x915.toInt) (c := 1) (fun w => [(3, .inl w), (0, .inr (.inr (.inl 96))), (1, .inl a0), (2, .inl a1)]) rfl rfl (fun _ => rfl) (by decide) rfl (by decide) (by omega) (fun x1004 q1005 => ?_)
                                refine R_goto 166 rfl rfl ?_
                                exact RUN_weak (psub_cons rfl (psub_cons rfl (psub_cons rfl (psub_cons rfl (psub_nil _))))) (ih916 h992 x1004 hI fr fl914 (by omega) (by omega) (by rw [zHolds_s (x := x915) (x' := x1004) (by omega) (by omega), ← m922]; refine hK.trans ?_; subst e991 e988 e985 e948 e941 e938; simp only [zHold1, eLine] <;> (repeat' split) <;> first | (exfalso; omega) | rfl) (hE) (by omega))
                            · rw [hE] at zq953
                              show RUN d_X9_goSecond 200 [(3, .inl x915), (0, .inr (.inr (.inl 96))), (1, .inl a0), (2, .inl a1)] [.inl x954] h913 _
                              refine N_if_ne (a := x954.toInt) 218 rfl rfl rfl (fun c1006 => ?_) (fun c1006 => ?_)
                              · refine N_iinc (a := x915.toInt) (c := 1) (fun w => [(3, .inl w), (0, .inr (.inr (.inl 96))), (1, .inl a0), (2, .inl a1)]) rfl rfl (fun _ => rfl) (by decide) rfl (by decide) (by omega) (fun x1007 q1008 => ?_)
                                refine R_goto 166 rfl rfl ?_
                                exact RUN_weak (psub_cons rfl (psub_cons rfl (psub_cons rfl (psub_cons rfl (psub_nil _))))) (ih916 h913 x1007 hI fr fl914 (by omega) (by omega) (by rw [zHolds_s (x := x915) (x' := x1007) (by omega) (by omega), ← m922]; refine hK.trans ?_; subst e948 e941 e938; simp only [zHold1, eLine] <;> (repeat' split) <;> first | (exfalso; omega) | rfl) (hE) (by omega))
                              · exfalso; omega
                    have k1009 : (0 : Int32).toInt = 0 := by decide
                    exact lp912 _ h870 (0 : Int32) hI fr (FR.rf _ _) (by decide) (by omega) (by rw [hK]; rfl) (hE) (Nat.lt_succ_self _)
                  · refine R_aload_n (k := 0) rfl rfl rfl ?_
                    refine R_aload_n (k := 0) rfl rfl rfl ?_
                    refine R_getf_r (j := 17) rfl ft_9_40 sh_96 rfl ?_
                    refine R_iconst 0 rfl rfl ?_
                    refine R_iald rfl sh_105 (by decide) ?_
                    refine N_eq (fun x1010 e1011 => ?_)
                    have q1012 : 0 ≤ x1010.toInt ∧ x1010.toInt ≤ 5 := by rw [e1011]; exact hI.1 105 _
                    have e1013 : x1010 = (evOf h).2.2.2.1 (0 : Int32).toNatClampNeg := by rw [e1011]; exact congrFun (congrArg (fun q : EV => q.2.2.2.1) hE) _
                    refine R_iload_n (k := 1) rfl rfl rfl ?_
                    have b1014 := i_rng a0
                    refine R_callV (v := .inr (.inr (.inl 96))) (As := [.inl x1010, .inl a0]) (rest := []) rfl mt_9_i271 pp_X9_doesRest (by decide) rfl rfl rfl (Nat.le_of_ble_eq_true rfl) (Nat.le_of_ble_eq_true rfl) ((g_X9_doesRest h870 hI x1010 a0 (by omega) (by omega)).mono (fun r1015 h1016 p1017 => ?_))
                    obtain ⟨rfl, x1019, rfl, (q1020 | q1020 | q1020), zq1018, -⟩ := p1017
                    · rw [hE] at zq1018
                      show RUN d_X9_goSecond 115 [(3, .inl x872), (0, .inr (.inr (.inl 96))), (1, .inl a0), (2, .inl a1)] [.inl x1019] h870 _
                      refine N_if_ne (a := x1019.toInt) 164 rfl rfl rfl (fun c1021 => ?_) (fun c1021 => ?_)
                      · exfalso; omega
                      · refine R_aload_n (k := 0) rfl rfl rfl ?_
                        refine R_getf_r (j := 24) rfl ft_9_52 sh_96 rfl ?_
                        refine R_iconst 0 rfl rfl ?_
                        refine R_iald rfl sh_109 (by decide) ?_
                        refine N_eq (fun x1022 e1023 => ?_)
                        have e1024 : x1022 = ((zMid (evOf h) a0 a1 (kyOf h)).2.2.1) (0 : Int32).toNatClampNeg := by rw [e1023]; exact (ky_at109 (by decide)).trans (congrFun (congrArg (fun q : KY => q.2.2.1) hK) _)
                        refine N_if_le (a := x1022.toInt) 164 rfl rfl rfl (fun c1025 => ?_) (fun c1025 => ?_)
                        · have hK : kyOf h870 = zTake (evOf h) a0 (zMid (evOf h) a0 a1 (kyOf h)) := by
                            refine hK.trans ?_
                            subst e1024 e1013 e909 e906
                            simp only [zTake, zTake1, eMany, eLine, eFull] <;> (repeat' split) <;> first | (exfalso; omega) | rfl
                          refine R_iconst 0 rfl rfl ?_
                          refine R_istore_n (k := 3) rfl [(3, .inl 0), (0, .inr (.inr (.inl 96))), (1, .inl a0), (2, .inl a1)] rfl rfl (by decide) ?_
                          have lp1027 : ∀ (n1026 : Nat) (h1028 : PH) (x1030 : Int32), INV h1028 → FR [96, 107, 108, 109, 117, 118] h h1028 → FR [107] h870 h1028 → 0 ≤ x1030.toInt ∧ x1030.toInt ≤ 6 → x1030.toInt ≤ (h870.1 96 18).toInt + 0 → (kyOf h1028 = zHolds (evOf h) a0 x1030.toNatClampNeg (zTake (evOf h) a0 (zMid (evOf h) a0 a1 (kyOf h)))) → (evOf h1028 = evOf h) → (6 - x1030.toInt).toNat < n1026 → RUN d_X9_goSecond 166 [(3, .inl x1030), (0, .inr (.inr (.inl 96))), (1, .inl a0), (2, .inl a1)] [] h1028 (qg_X9_goSecond h a0 a1) := by
                            intro n1026
                            induction n1026 with
                            | zero => intro h1028 x1030 m1032 m1033 m1034 m1035 m1036 m1037 m1038 hz; exact absurd hz (Nat.not_lt_zero _)
                            | succ n1026 ih1031 =>
                              intro h1028 x1030 hI fr fl1029 m1035 m1036 m1037 m1038 hz
                              have s1039 : (h1028.1 96 41).toInt = (h870.1 96 41).toInt := by rw [(fl1029 96 (by decide)).1]
                              have s1040 : (h1028.1 96 42).toInt = (h870.1 96 42).toInt := by rw [(fl1029 96 (by decide)).1]
                              have s1041 : (h1028.1 96 19).toInt = (h870.1 96 19).toInt := by rw [(fl1029 96 (by decide)).1]
                              have s1042 : (h1028.1 96 18).toInt = (h870.1 96 18).toInt := by rw [(fl1029 96 (by decide)).1]
                              have s1043 : (h1028.1 96 20).toInt = (h870.1 96 20).toInt := by rw [(fl1029 96 (by decide)).1]
                              have s1044 : (h1028.1 96 46).toInt = (h870.1 96 46).toInt := by rw [(fl1029 96 (by decide)).1]
                              have s1045 : (h1028.1 96 44).toInt = (h870.1 96 44).toInt := by rw [(fl1029 96 (by decide)).1]
                              have s1046 : (h1028.1 96 47).toInt = (h870.1 96 47).toInt := by rw [(fl1029 96 (by decide)).1]
                              have s1047 : (h1028.1 96 48).toInt = (h870.1 96 48).toInt := by rw [(fl1029 96 (by decide)).1]
                              have s1048 : (h1028.1 96 51).toInt = (h870.1 96 51).toInt := by rw [(fl1029 96 (by decide)).1]
                              have fl871 : FR [96, 107, 108, 109, 117, 118] h851 h1028 := fl871.trans fl1029 (by decide)
                              have fl829 : FR [96, 107, 108, 109, 117, 118] h812 h1028 := fl829.trans fl1029 (by decide)
                              have hE := m1038
                              have hK : kyOf h1028 = kyOf h1028 := rfl
                              refine R_iload_n (k := 3) rfl rfl rfl ?_
                              refine R_aload_n (k := 0) rfl rfl rfl ?_
                              refine R_getf_i (j := 18) rfl ft_9_253 sh_96 rfl ?_
                              refine N_icmp_ge (a := x1030.toInt) (b := (h1028.1 96 18).toInt) 224 rfl rfl rfl rfl (fun c1049 => ?_) (fun c1049 => ?_)
                              · have hF : kyOf h1028 = zSecond (evOf h) a0 a1 (kyOf h) := m1037.trans (by rw [show x1030 = (evOf h).2.2.2.2.1 from i_of _ (by omega)]; rfl)
                                exact R_vret rfl rfl ⟨hI, fr, ⟨by omega, by omega, by omega, by omega, by omega, by omega, by omega, by omega, by omega, by omega, hF, hE, trivial⟩, rfl⟩
                              · refine R_aload_n (k := 0) rfl rfl rfl ?_
                                refine R_getf_r (j := 22) rfl ft_9_46 sh_96 rfl ?_
                                refine R_aload_n (k := 0) rfl rfl rfl ?_
                                refine R_getf_r (j := 17) rfl ft_9_40 sh_96 rfl ?_
                                refine R_iload_n (k := 3) rfl rfl rfl ?_
                                refine R_iald rfl sh_105 ⟨by omega, by omega⟩ ?_
                                refine N_eq (fun x1050 e1051 => ?_)
                                have q1052 : 0 ≤ x1050.toInt ∧ x1050.toInt ≤ 5 := by rw [e1051]; exact hI.1 105 _
                                have e1053 : x1050 = (evOf h).2.2.2.1 x1030.toNatClampNeg := by rw [e1051]; exact congrFun (congrArg (fun q : EV => q.2.2.2.1) hE) _
                                refine R_iald rfl sh_107 ⟨by omega, by omega⟩ ?_
                                refine N_eq (fun x1054 e1055 => ?_)
                                have e1056 : x1054 = ((kyOf h1028).1) x1050.toNatClampNeg := by rw [e1055]; exact (ky_at107 (nlt ⟨by omega, by omega⟩)).trans (congrFun (congrArg (fun q : KY => q.1) hK) _)
                                refine R_iconst (-1) rfl rfl ?_
                                refine N_icmp_eq (a := x1054.toInt) (b := (-1)) 218 rfl rfl rfl (by decide) (fun c1057 => ?_) (fun c1057 => ?_)
                                · refine N_iinc (a := x1030.toInt) (c := 1) (fun w => [(3, .inl w), (0, .inr (.inr (.inl 96))), (1, .inl a0), (2, .inl a1)]) rfl rfl (fun _ => rfl) (by decide) rfl (by decide) (by omega) (fun x1058 q1059 => ?_)
                                  refine R_goto 166 rfl rfl ?_
                                  exact RUN_weak (psub_cons rfl (psub_cons rfl (psub_cons rfl (psub_cons rfl (psub_nil _))))) (ih1031 h1028 x1058 hI fr fl1029 (by omega) (by omega) (by rw [zHolds_s (x := x1030) (x' := x1058) (by omega) (by omega), ← m1037]; refine hK.trans ?_; subst e1056 e1053; simp only [zHold1, eLine] <;> (repeat' split) <;> first | (exfalso; omega) | rfl) (hE) (by omega))
                                · refine R_aload_n (k := 0) rfl rfl rfl ?_
                                  refine R_aload_n (k := 0) rfl rfl rfl ?_
                                  refine R_getf_r (j := 17) rfl ft_9_40 sh_96 rfl ?_
                                  refine R_iload_n (k := 3) rfl rfl rfl ?_
                                  refine R_iald rfl sh_105 ⟨by omega, by omega⟩ ?_
                                  refine N_eq (fun x1060 e1061 => ?_)
                                  have q1062 : 0 ≤ x1060.toInt ∧ x1060.toInt ≤ 5 := by rw [e1061]; exact hI.1 105 _
                                  have e1063 : x1060 = (evOf h).2.2.2.1 x1030.toNatClampNeg := by rw [e1061]; exact congrFun (congrArg (fun q : EV => q.2.2.2.1) hE) _
                                  refine R_iload_n (k := 1) rfl rfl rfl ?_
                                  have b1064 := i_rng a0
                                  refine R_callV (v := .inr (.inr (.inl 96))) (As := [.inl x1060, .inl a0]) (rest := []) rfl mt_9_i271 pp_X9_doesRest (by decide) rfl rfl rfl (Nat.le_of_ble_eq_true rfl) (Nat.le_of_ble_eq_true rfl) ((g_X9_doesRest h1028 hI x1060 a0 (by omega) (by omega)).mono (fun r1065 h1066 p1067 => ?_))
                                  obtain ⟨rfl, x1069, rfl, (q1070 | q1070 | q1070), zq1068, -⟩ := p1067
                                  · rw [hE] at zq1068
                                    show RUN d_X9_goSecond 200 [(3, .inl x1030), (0, .inr (.inr (.inl 96))), (1, .inl a0), (2, .inl a1)] [.inl x1069] h1028 _
                                    refine N_if_ne (a := x1069.toInt) 218 rfl rfl rfl (fun c1071 => ?_) (fun c1071 => ?_)
                                    · exfalso; omega
                                    · refine R_aload_n (k := 0) rfl rfl rfl ?_
                                      refine R_getf_r (j := 22) rfl ft_9_46 sh_96 rfl ?_
                                      refine R_aload_n (k := 0) rfl rfl rfl ?_
                                      refine R_getf_r (j := 17) rfl ft_9_40 sh_96 rfl ?_
                                      refine R_iload_n (k := 3) rfl rfl rfl ?_
                                      refine R_iald rfl sh_105 ⟨by omega, by omega⟩ ?_
                                      refine N_eq (fun x1072 e1073 => ?_)
                                      have q1074 : 0 ≤ x1072.toInt ∧ x1072.toInt ≤ 5 := by rw [e1073]; exact hI.1 105 _
                                      have e1075 : x1072 = (evOf h).2.2.2.1 x1030.toNatClampNeg := by rw [e1073]; exact congrFun (congrArg (fun q : EV => q.2.2.2.1) hE) _
                                      refine R_dup2 rfl ?_
                                      refine R_iald rfl sh_107 ⟨by omega, by omega⟩ ?_
                                      refine N_eq (fun x1076 e1077 => ?_)
                                      have e1078 : x1076 = ((kyOf h1028).1) x1072.toNatClampNeg := by rw [e1077]; exact (ky_at107 (nlt ⟨by omega, by omega⟩)).trans (congrFun (congrArg (fun q : KY => q.1) hK) _)
                                      refine R_iconst 1 rfl rfl ?_
                                      have b1079 := i_rng x1076
                                      refine R_iadd rfl ?_
                                      refine N_eq (fun x1080 e1081 => ?_)
                                      refine K_iast (a := x1072.toInt) (lo := (-2147483648)) (hi' := 2147483647) rfl sh_107 rfl ⟨by omega, by omega⟩ hI (by decide) rfl (i_rng _) fr (by decide) (fun h1082 g1083 hI fr => ?_)
                                      have fl1029 : FR [107] h870 h1082 := by rw [g1083]; exact FR_wI _ _ fl1029 (by decide)
                                      have fl871 : FR [96, 107, 108, 109, 117, 118] h851 h1082 := by rw [g1083]; exact FR_wI _ _ fl871 (by decide)
                                      have fl829 : FR [96, 107, 108, 109, 117, 118] h812 h1082 := by rw [g1083]; exact FR_wI _ _ fl829 (by decide)
                                      have s1084 : (h1082.1 96 41).toInt = (h1028.1 96 41).toInt := by rw [g1083, wI_ne _ _ _ (by decide)]
                                      have s1085 : (h1082.1 96 42).toInt = (h1028.1 96 42).toInt := by rw [g1083, wI_ne _ _ _ (by decide)]
                                      have s1086 : (h1082.1 96 19).toInt = (h1028.1 96 19).toInt := by rw [g1083, wI_ne _ _ _ (by decide)]
                                      have s1087 : (h1082.1 96 18).toInt = (h1028.1 96 18).toInt := by rw [g1083, wI_ne _ _ _ (by decide)]
                                      have s1088 : (h1082.1 96 20).toInt = (h1028.1 96 20).toInt := by rw [g1083, wI_ne _ _ _ (by decide)]
                                      have s1089 : (h1082.1 96 46).toInt = (h1028.1 96 46).toInt := by rw [g1083, wI_ne _ _ _ (by decide)]
                                      have s1090 : (h1082.1 96 44).toInt = (h1028.1 96 44).toInt := by rw [g1083, wI_ne _ _ _ (by decide)]
                                      have s1091 : (h1082.1 96 47).toInt = (h1028.1 96 47).toInt := by rw [g1083, wI_ne _ _ _ (by decide)]
                                      have s1092 : (h1082.1 96 48).toInt = (h1028.1 96 48).toInt := by rw [g1083, wI_ne _ _ _ (by decide)]
                                      have s1093 : (h1082.1 96 51).toInt = (h1028.1 96 51).toInt := by rw [g1083, wI_ne _ _ _ (by decide)]
                                      have hK : kyOf h1082 = (upd ((kyOf h1028).1) x1072.toNatClampNeg x1080, (kyOf h1028).2.1, (kyOf h1028).2.2.1, (kyOf h1028).2.2.2) := by rw [g1083, ky_107 (nlt ⟨by omega, by omega⟩), hK] <;> rfl
                                      have hE : evOf h1082 = evOf h := by rw [g1083, ev_o (by decide), hE]
                                      refine N_iinc (a := x1030.toInt) (c := 1) (fun w => [(3, .inl w), (0, .inr (.inr (.inl 96))), (1, .inl a0), (2, .inl a1)]) rfl rfl (fun _ => rfl) (by decide) rfl (by decide) (by omega) (fun x1094 q1095 => ?_)
                                      refine R_goto 166 rfl rfl ?_
                                      exact RUN_weak (psub_cons rfl (psub_cons rfl (psub_cons rfl (psub_cons rfl (psub_nil _))))) (ih1031 h1082 x1094 hI fr fl1029 (by omega) (by omega) (by rw [zHolds_s (x := x1030) (x' := x1094) (by omega) (by omega), ← m1037]; refine hK.trans ?_; subst e1081 e1078 e1075 e1063 e1056 e1053; simp only [zHold1, eLine] <;> (repeat' split) <;> first | (exfalso; omega) | rfl) (hE) (by omega))
                                  · rw [hE] at zq1068
                                    exfalso; omega
                                  · rw [hE] at zq1068
                                    exfalso; omega
                          have k1096 : (0 : Int32).toInt = 0 := by decide
                          exact lp1027 _ h870 (0 : Int32) hI fr (FR.rf _ _) (by decide) (by omega) (by rw [hK]; rfl) (hE) (Nat.lt_succ_self _)
                        · refine R_aload_n (k := 0) rfl rfl rfl ?_
                          refine R_getf_r (j := 24) rfl ft_9_52 sh_96 rfl ?_
                          refine R_iconst 0 rfl rfl ?_
                          refine R_dup2 rfl ?_
                          refine R_iald rfl sh_109 (by decide) ?_
                          refine N_eq (fun x1097 e1098 => ?_)
                          have e1099 : x1097 = ((zMid (evOf h) a0 a1 (kyOf h)).2.2.1) (0 : Int32).toNatClampNeg := by rw [e1098]; exact (ky_at109 (by decide)).trans (congrFun (congrArg (fun q : KY => q.2.2.1) hK) _)
                          refine R_iconst 1 rfl rfl ?_
                          have b1100 := i_rng x1097
                          refine R_isub rfl ?_
                          refine N_eq (fun x1101 e1102 => ?_)
                          refine K_iast (a := 0) (lo := (-2147483648)) (hi' := 2147483647) rfl sh_109 (by decide) (by decide) hI (by decide) rfl (i_rng _) fr (by decide) (fun h1103 g1104 hI fr => ?_)
                          have fl871 : FR [96, 107, 108, 109, 117, 118] h851 h1103 := by rw [g1104]; exact FR_wI _ _ fl871 (by decide)
                          have fl829 : FR [96, 107, 108, 109, 117, 118] h812 h1103 := by rw [g1104]; exact FR_wI _ _ fl829 (by decide)
                          have s1105 : (h1103.1 96 41).toInt = (h870.1 96 41).toInt := by rw [g1104, wI_ne _ _ _ (by decide)]
                          have s1106 : (h1103.1 96 42).toInt = (h870.1 96 42).toInt := by rw [g1104, wI_ne _ _ _ (by decide)]
                          have s1107 : (h1103.1 96 19).toInt = (h870.1 96 19).toInt := by rw [g1104, wI_ne _ _ _ (by decide)]
                          have s1108 : (h1103.1 96 18).toInt = (h870.1 96 18).toInt := by rw [g1104, wI_ne _ _ _ (by decide)]
                          have s1109 : (h1103.1 96 20).toInt = (h870.1 96 20).toInt := by rw [g1104, wI_ne _ _ _ (by decide)]
                          have s1110 : (h1103.1 96 46).toInt = (h870.1 96 46).toInt := by rw [g1104, wI_ne _ _ _ (by decide)]
                          have s1111 : (h1103.1 96 44).toInt = (h870.1 96 44).toInt := by rw [g1104, wI_ne _ _ _ (by decide)]
                          have s1112 : (h1103.1 96 47).toInt = (h870.1 96 47).toInt := by rw [g1104, wI_ne _ _ _ (by decide)]
                          have s1113 : (h1103.1 96 48).toInt = (h870.1 96 48).toInt := by rw [g1104, wI_ne _ _ _ (by decide)]
                          have s1114 : (h1103.1 96 51).toInt = (h870.1 96 51).toInt := by rw [g1104, wI_ne _ _ _ (by decide)]
                          have hK : kyOf h1103 = ((zMid (evOf h) a0 a1 (kyOf h)).1, (zMid (evOf h) a0 a1 (kyOf h)).2.1, upd ((zMid (evOf h) a0 a1 (kyOf h)).2.2.1) (0 : Int32).toNatClampNeg x1101, (zMid (evOf h) a0 a1 (kyOf h)).2.2.2) := by rw [g1104, ky_109 (by decide), hK] <;> rfl
                          have hE : evOf h1103 = evOf h := by rw [g1104, ev_o (by decide), hE]
                          refine R_aload_n (k := 0) rfl rfl rfl ?_
                          refine R_getf_r (j := 22) rfl ft_9_46 sh_96 rfl ?_
                          refine R_aload_n (k := 0) rfl rfl rfl ?_
                          refine R_getf_r (j := 17) rfl ft_9_40 sh_96 rfl ?_
                          refine R_iconst 0 rfl rfl ?_
                          refine R_iald rfl sh_105 (by decide) ?_
                          refine N_eq (fun x1115 e1116 => ?_)
                          have q1117 : 0 ≤ x1115.toInt ∧ x1115.toInt ≤ 5 := by rw [e1116]; exact hI.1 105 _
                          have e1118 : x1115 = (evOf h).2.2.2.1 (0 : Int32).toNatClampNeg := by rw [e1116]; exact congrFun (congrArg (fun q : EV => q.2.2.2.1) hE) _
                          refine R_iconst 0 rfl rfl ?_
                          refine K_iast (a := x1115.toInt) (lo := (-2147483648)) (hi' := 2147483647) rfl sh_107 rfl ⟨by omega, by omega⟩ hI (by decide) rfl (by decide) fr (by decide) (fun h1119 g1120 hI fr => ?_)
                          have fl871 : FR [96, 107, 108, 109, 117, 118] h851 h1119 := by rw [g1120]; exact FR_wI _ _ fl871 (by decide)
                          have fl829 : FR [96, 107, 108, 109, 117, 118] h812 h1119 := by rw [g1120]; exact FR_wI _ _ fl829 (by decide)
                          have s1121 : (h1119.1 96 41).toInt = (h1103.1 96 41).toInt := by rw [g1120, wI_ne _ _ _ (by decide)]
                          have s1122 : (h1119.1 96 42).toInt = (h1103.1 96 42).toInt := by rw [g1120, wI_ne _ _ _ (by decide)]
                          have s1123 : (h1119.1 96 19).toInt = (h1103.1 96 19).toInt := by rw [g1120, wI_ne _ _ _ (by decide)]
                          have s1124 : (h1119.1 96 18).toInt = (h1103.1 96 18).toInt := by rw [g1120, wI_ne _ _ _ (by decide)]
                          have s1125 : (h1119.1 96 20).toInt = (h1103.1 96 20).toInt := by rw [g1120, wI_ne _ _ _ (by decide)]
                          have s1126 : (h1119.1 96 46).toInt = (h1103.1 96 46).toInt := by rw [g1120, wI_ne _ _ _ (by decide)]
                          have s1127 : (h1119.1 96 44).toInt = (h1103.1 96 44).toInt := by rw [g1120, wI_ne _ _ _ (by decide)]
                          have s1128 : (h1119.1 96 47).toInt = (h1103.1 96 47).toInt := by rw [g1120, wI_ne _ _ _ (by decide)]
                          have s1129 : (h1119.1 96 48).toInt = (h1103.1 96 48).toInt := by rw [g1120, wI_ne _ _ _ (by decide)]
                          have s1130 : (h1119.1 96 51).toInt = (h1103.1 96 51).toInt := by rw [g1120, wI_ne _ _ _ (by decide)]
                          have hK : kyOf h1119 = (upd ((zMid (evOf h) a0 a1 (kyOf h)).1) x1115.toNatClampNeg (0), (zMid (evOf h) a0 a1 (kyOf h)).2.1, upd ((zMid (evOf h) a0 a1 (kyOf h)).2.2.1) (0 : Int32).toNatClampNeg x1101, (zMid (evOf h) a0 a1 (kyOf h)).2.2.2) := by rw [g1120, ky_107 (nlt ⟨by omega, by omega⟩), hK] <;> rfl
                          have hE : evOf h1119 = evOf h := by rw [g1120, ev_o (by decide), hE]
                          refine R_aload_n (k := 0) rfl rfl rfl ?_
                          refine R_getf_r (j := 23) rfl ft_9_49 sh_96 rfl ?_
                          refine R_aload_n (k := 0) rfl rfl rfl ?_
                          refine R_getf_r (j := 17) rfl ft_9_40 sh_96 rfl ?_
                          refine R_iconst 0 rfl rfl ?_
                          refine R_iald rfl sh_105 (by decide) ?_
                          refine N_eq (fun x1131 e1132 => ?_)
                          have q1133 : 0 ≤ x1131.toInt ∧ x1131.toInt ≤ 5 := by rw [e1132]; exact hI.1 105 _
                          have e1134 : x1131 = (evOf h).2.2.2.1 (0 : Int32).toNatClampNeg := by rw [e1132]; exact congrFun (congrArg (fun q : EV => q.2.2.2.1) hE) _
                          refine R_aload_n (k := 0) rfl rfl rfl ?_
                          refine R_getf_i (j := 20) rfl ft_9_259 sh_96 rfl ?_
                          refine N_eq (fun x1135 e1136 => ?_)
                          have e1137 : x1135 = (evOf h).2.2.2.2.2.1 := by rw [e1136]; exact congrArg (fun q : EV => q.2.2.2.2.2.1) hE
                          refine K_iast (a := x1131.toInt) (lo := (-2147483648)) (hi' := 2147483647) rfl sh_108 rfl ⟨by omega, by omega⟩ hI (by decide) rfl (i_rng _) fr (by decide) (fun h1138 g1139 hI fr => ?_)
                          have fl871 : FR [96, 107, 108, 109, 117, 118] h851 h1138 := by rw [g1139]; exact FR_wI _ _ fl871 (by decide)
                          have fl829 : FR [96, 107, 108, 109, 117, 118] h812 h1138 := by rw [g1139]; exact FR_wI _ _ fl829 (by decide)
                          have s1140 : (h1138.1 96 41).toInt = (h1119.1 96 41).toInt := by rw [g1139, wI_ne _ _ _ (by decide)]
                          have s1141 : (h1138.1 96 42).toInt = (h1119.1 96 42).toInt := by rw [g1139, wI_ne _ _ _ (by decide)]
                          have s1142 : (h1138.1 96 19).toInt = (h1119.1 96 19).toInt := by rw [g1139, wI_ne _ _ _ (by decide)]
                          have s1143 : (h1138.1 96 18).toInt = (h1119.1 96 18).toInt := by rw [g1139, wI_ne _ _ _ (by decide)]
                          have s1144 : (h1138.1 96 20).toInt = (h1119.1 96 20).toInt := by rw [g1139, wI_ne _ _ _ (by decide)]
                          have s1145 : (h1138.1 96 46).toInt = (h1119.1 96 46).toInt := by rw [g1139, wI_ne _ _ _ (by decide)]
                          have s1146 : (h1138.1 96 44).toInt = (h1119.1 96 44).toInt := by rw [g1139, wI_ne _ _ _ (by decide)]
                          have s1147 : (h1138.1 96 47).toInt = (h1119.1 96 47).toInt := by rw [g1139, wI_ne _ _ _ (by decide)]
                          have s1148 : (h1138.1 96 48).toInt = (h1119.1 96 48).toInt := by rw [g1139, wI_ne _ _ _ (by decide)]
                          have s1149 : (h1138.1 96 51).toInt = (h1119.1 96 51).toInt := by rw [g1139, wI_ne _ _ _ (by decide)]
                          have hK : kyOf h1138 = (upd ((zMid (evOf h) a0 a1 (kyOf h)).1) x1115.toNatClampNeg (0), upd ((zMid (evOf h) a0 a1 (kyOf h)).2.1) x1131.toNatClampNeg x1135, upd ((zMid (evOf h) a0 a1 (kyOf h)).2.2.1) (0 : Int32).toNatClampNeg x1101, (zMid (evOf h) a0 a1 (kyOf h)).2.2.2) := by rw [g1139, ky_108 (nlt ⟨by omega, by omega⟩), hK] <;> rfl
                          have hE : evOf h1138 = evOf h := by rw [g1139, ev_o (by decide), hE]
                          have hK : kyOf h1138 = zTake (evOf h) a0 (zMid (evOf h) a0 a1 (kyOf h)) := by
                            refine hK.trans ?_
                            subst e1137 e1134 e1118 e1102 e1099 e1024 e1013 e909 e906
                            simp only [zTake, zTake1, eMany, eLine, eFull] <;> (repeat' split) <;> first | (exfalso; omega) | rfl
                          refine R_iconst 0 rfl rfl ?_
                          refine R_istore_n (k := 3) rfl [(3, .inl 0), (0, .inr (.inr (.inl 96))), (1, .inl a0), (2, .inl a1)] rfl rfl (by decide) ?_
                          have lp1151 : ∀ (n1150 : Nat) (h1152 : PH) (x1154 : Int32), INV h1152 → FR [96, 107, 108, 109, 117, 118] h h1152 → FR [107] h1138 h1152 → 0 ≤ x1154.toInt ∧ x1154.toInt ≤ 6 → x1154.toInt ≤ (h1138.1 96 18).toInt + 0 → (kyOf h1152 = zHolds (evOf h) a0 x1154.toNatClampNeg (zTake (evOf h) a0 (zMid (evOf h) a0 a1 (kyOf h)))) → (evOf h1152 = evOf h) → (6 - x1154.toInt).toNat < n1150 → RUN d_X9_goSecond 166 [(3, .inl x1154), (0, .inr (.inr (.inl 96))), (1, .inl a0), (2, .inl a1)] [] h1152 (qg_X9_goSecond h a0 a1) := by
                            intro n1150
                            induction n1150 with
                            | zero => intro h1152 x1154 m1156 m1157 m1158 m1159 m1160 m1161 m1162 hz; exact absurd hz (Nat.not_lt_zero _)
                            | succ n1150 ih1155 =>
                              intro h1152 x1154 hI fr fl1153 m1159 m1160 m1161 m1162 hz
                              have s1163 : (h1152.1 96 41).toInt = (h1138.1 96 41).toInt := by rw [(fl1153 96 (by decide)).1]
                              have s1164 : (h1152.1 96 42).toInt = (h1138.1 96 42).toInt := by rw [(fl1153 96 (by decide)).1]
                              have s1165 : (h1152.1 96 19).toInt = (h1138.1 96 19).toInt := by rw [(fl1153 96 (by decide)).1]
                              have s1166 : (h1152.1 96 18).toInt = (h1138.1 96 18).toInt := by rw [(fl1153 96 (by decide)).1]
                              have s1167 : (h1152.1 96 20).toInt = (h1138.1 96 20).toInt := by rw [(fl1153 96 (by decide)).1]
                              have s1168 : (h1152.1 96 46).toInt = (h1138.1 96 46).toInt := by rw [(fl1153 96 (by decide)).1]
                              have s1169 : (h1152.1 96 44).toInt = (h1138.1 96 44).toInt := by rw [(fl1153 96 (by decide)).1]
                              have s1170 : (h1152.1 96 47).toInt = (h1138.1 96 47).toInt := by rw [(fl1153 96 (by decide)).1]
                              have s1171 : (h1152.1 96 48).toInt = (h1138.1 96 48).toInt := by rw [(fl1153 96 (by decide)).1]
                              have s1172 : (h1152.1 96 51).toInt = (h1138.1 96 51).toInt := by rw [(fl1153 96 (by decide)).1]
                              have fl871 : FR [96, 107, 108, 109, 117, 118] h851 h1152 := fl871.trans fl1153 (by decide)
                              have fl829 : FR [96, 107, 108, 109, 117, 118] h812 h1152 := fl829.trans fl1153 (by decide)
                              have hE := m1162
                              have hK : kyOf h1152 = kyOf h1152 := rfl
                              refine R_iload_n (k := 3) rfl rfl rfl ?_
                              refine R_aload_n (k := 0) rfl rfl rfl ?_
                              refine R_getf_i (j := 18) rfl ft_9_253 sh_96 rfl ?_
                              refine N_icmp_ge (a := x1154.toInt) (b := (h1152.1 96 18).toInt) 224 rfl rfl rfl rfl (fun c1173 => ?_) (fun c1173 => ?_)
                              · have hF : kyOf h1152 = zSecond (evOf h) a0 a1 (kyOf h) := m1161.trans (by rw [show x1154 = (evOf h).2.2.2.2.1 from i_of _ (by omega)]; rfl)
                                exact R_vret rfl rfl ⟨hI, fr, ⟨by omega, by omega, by omega, by omega, by omega, by omega, by omega, by omega, by omega, by omega, hF, hE, trivial⟩, rfl⟩
                              · refine R_aload_n (k := 0) rfl rfl rfl ?_
                                refine R_getf_r (j := 22) rfl ft_9_46 sh_96 rfl ?_
                                refine R_aload_n (k := 0) rfl rfl rfl ?_
                                refine R_getf_r (j := 17) rfl ft_9_40 sh_96 rfl ?_
                                refine R_iload_n (k := 3) rfl rfl rfl ?_
                                refine R_iald rfl sh_105 ⟨by omega, by omega⟩ ?_
                                refine N_eq (fun x1174 e1175 => ?_)
                                have q1176 : 0 ≤ x1174.toInt ∧ x1174.toInt ≤ 5 := by rw [e1175]; exact hI.1 105 _
                                have e1177 : x1174 = (evOf h).2.2.2.1 x1154.toNatClampNeg := by rw [e1175]; exact congrFun (congrArg (fun q : EV => q.2.2.2.1) hE) _
                                refine R_iald rfl sh_107 ⟨by omega, by omega⟩ ?_
                                refine N_eq (fun x1178 e1179 => ?_)
                                have e1180 : x1178 = ((kyOf h1152).1) x1174.toNatClampNeg := by rw [e1179]; exact (ky_at107 (nlt ⟨by omega, by omega⟩)).trans (congrFun (congrArg (fun q : KY => q.1) hK) _)
                                refine R_iconst (-1) rfl rfl ?_
                                refine N_icmp_eq (a := x1178.toInt) (b := (-1)) 218 rfl rfl rfl (by decide) (fun c1181 => ?_) (fun c1181 => ?_)
                                · refine N_iinc (a := x1154.toInt) (c := 1) (fun w => [(3, .inl w), (0, .inr (.inr (.inl 96))), (1, .inl a0), (2, .inl a1)]) rfl rfl (fun _ => rfl) (by decide) rfl (by decide) (by omega) (fun x1182 q1183 => ?_)
                                  refine R_goto 166 rfl rfl ?_
                                  exact RUN_weak (psub_cons rfl (psub_cons rfl (psub_cons rfl (psub_cons rfl (psub_nil _))))) (ih1155 h1152 x1182 hI fr fl1153 (by omega) (by omega) (by rw [zHolds_s (x := x1154) (x' := x1182) (by omega) (by omega), ← m1161]; refine hK.trans ?_; subst e1180 e1177; simp only [zHold1, eLine] <;> (repeat' split) <;> first | (exfalso; omega) | rfl) (hE) (by omega))
                                · refine R_aload_n (k := 0) rfl rfl rfl ?_
                                  refine R_aload_n (k := 0) rfl rfl rfl ?_
                                  refine R_getf_r (j := 17) rfl ft_9_40 sh_96 rfl ?_
                                  refine R_iload_n (k := 3) rfl rfl rfl ?_
                                  refine R_iald rfl sh_105 ⟨by omega, by omega⟩ ?_
                                  refine N_eq (fun x1184 e1185 => ?_)
                                  have q1186 : 0 ≤ x1184.toInt ∧ x1184.toInt ≤ 5 := by rw [e1185]; exact hI.1 105 _
                                  have e1187 : x1184 = (evOf h).2.2.2.1 x1154.toNatClampNeg := by rw [e1185]; exact congrFun (congrArg (fun q : EV => q.2.2.2.1) hE) _
                                  refine R_iload_n (k := 1) rfl rfl rfl ?_
                                  have b1188 := i_rng a0
                                  refine R_callV (v := .inr (.inr (.inl 96))) (As := [.inl x1184, .inl a0]) (rest := []) rfl mt_9_i271 pp_X9_doesRest (by decide) rfl rfl rfl (Nat.le_of_ble_eq_true rfl) (Nat.le_of_ble_eq_true rfl) ((g_X9_doesRest h1152 hI x1184 a0 (by omega) (by omega)).mono (fun r1189 h1190 p1191 => ?_))
                                  obtain ⟨rfl, x1193, rfl, (q1194 | q1194 | q1194), zq1192, -⟩ := p1191
                                  · rw [hE] at zq1192
                                    show RUN d_X9_goSecond 200 [(3, .inl x1154), (0, .inr (.inr (.inl 96))), (1, .inl a0), (2, .inl a1)] [.inl x1193] h1152 _
                                    refine N_if_ne (a := x1193.toInt) 218 rfl rfl rfl (fun c1195 => ?_) (fun c1195 => ?_)
                                    · exfalso; omega
                                    · refine R_aload_n (k := 0) rfl rfl rfl ?_
                                      refine R_getf_r (j := 22) rfl ft_9_46 sh_96 rfl ?_
                                      refine R_aload_n (k := 0) rfl rfl rfl ?_
                                      refine R_getf_r (j := 17) rfl ft_9_40 sh_96 rfl ?_
                                      refine R_iload_n (k := 3) rfl rfl rfl ?_
                                      refine R_iald rfl sh_105 ⟨by omega, by omega⟩ ?_
                                      refine N_eq (fun x1196 e1197 => ?_)
                                      have q1198 : 0 ≤ x1196.toInt ∧ x1196.toInt ≤ 5 := by rw [e1197]; exact hI.1 105 _
                                      have e1199 : x1196 = (evOf h).2.2.2.1 x1154.toNatClampNeg := by rw [e1197]; exact congrFun (congrArg (fun q : EV => q.2.2.2.1) hE) _
                                      refine R_dup2 rfl ?_
                                      refine R_iald rfl sh_107 ⟨by omega, by omega⟩ ?_
                                      refine N_eq (fun x1200 e1201 => ?_)
                                      have e1202 : x1200 = ((kyOf h1152).1) x1196.toNatClampNeg := by rw [e1201]; exact (ky_at107 (nlt ⟨by omega, by omega⟩)).trans (congrFun (congrArg (fun q : KY => q.1) hK) _)
                                      refine R_iconst 1 rfl rfl ?_
                                      have b1203 := i_rng x1200
                                      refine R_iadd rfl ?_
                                      refine N_eq (fun x1204 e1205 => ?_)
                                      refine K_iast (a := x1196.toInt) (lo := (-2147483648)) (hi' := 2147483647) rfl sh_107 rfl ⟨by omega, by omega⟩ hI (by decide) rfl (i_rng _) fr (by decide) (fun h1206 g1207 hI fr => ?_)
                                      have fl1153 : FR [107] h1138 h1206 := by rw [g1207]; exact FR_wI _ _ fl1153 (by decide)
                                      have fl871 : FR [96, 107, 108, 109, 117, 118] h851 h1206 := by rw [g1207]; exact FR_wI _ _ fl871 (by decide)
                                      have fl829 : FR [96, 107, 108, 109, 117, 118] h812 h1206 := by rw [g1207]; exact FR_wI _ _ fl829 (by decide)
                                      have s1208 : (h1206.1 96 41).toInt = (h1152.1 96 41).toInt := by rw [g1207, wI_ne _ _ _ (by decide)]
                                      have s1209 : (h1206.1 96 42).toInt = (h1152.1 96 42).toInt := by rw [g1207, wI_ne _ _ _ (by decide)]
                                      have s1210 : (h1206.1 96 19).toInt = (h1152.1 96 19).toInt := by rw [g1207, wI_ne _ _ _ (by decide)]
                                      have s1211 : (h1206.1 96 18).toInt = (h1152.1 96 18).toInt := by rw [g1207, wI_ne _ _ _ (by decide)]
                                      have s1212 : (h1206.1 96 20).toInt = (h1152.1 96 20).toInt := by rw [g1207, wI_ne _ _ _ (by decide)]
                                      have s1213 : (h1206.1 96 46).toInt = (h1152.1 96 46).toInt := by rw [g1207, wI_ne _ _ _ (by decide)]
                                      have s1214 : (h1206.1 96 44).toInt = (h1152.1 96 44).toInt := by rw [g1207, wI_ne _ _ _ (by decide)]
                                      have s1215 : (h1206.1 96 47).toInt = (h1152.1 96 47).toInt := by rw [g1207, wI_ne _ _ _ (by decide)]
                                      have s1216 : (h1206.1 96 48).toInt = (h1152.1 96 48).toInt := by rw [g1207, wI_ne _ _ _ (by decide)]
                                      have s1217 : (h1206.1 96 51).toInt = (h1152.1 96 51).toInt := by rw [g1207, wI_ne _ _ _ (by decide)]
                                      have hK : kyOf h1206 = (upd ((kyOf h1152).1) x1196.toNatClampNeg x1204, (kyOf h1152).2.1, (kyOf h1152).2.2.1, (kyOf h1152).2.2.2) := by rw [g1207, ky_107 (nlt ⟨by omega, by omega⟩), hK] <;> rfl
                                      have hE : evOf h1206 = evOf h := by rw [g1207, ev_o (by decide), hE]
                                      refine N_iinc (a := x1154.toInt) (c := 1) (fun w => [(3, .inl w), (0, .inr (.inr (.inl 96))), (1, .inl a0), (2, .inl a1)]) rfl rfl (fun _ => rfl) (by decide) rfl (by decide) (by omega) (fun x1218 q1219 => ?_)
                                      refine R_goto 166 rfl rfl ?_
                                      exact RUN_weak (psub_cons rfl (psub_cons rfl (psub_cons rfl (psub_cons rfl (psub_nil _))))) (ih1155 h1206 x1218 hI fr fl1153 (by omega) (by omega) (by rw [zHolds_s (x := x1154) (x' := x1218) (by omega) (by omega), ← m1161]; refine hK.trans ?_; subst e1205 e1202 e1199 e1187 e1180 e1177; simp only [zHold1, eLine] <;> (repeat' split) <;> first | (exfalso; omega) | rfl) (hE) (by omega))
                                  · rw [hE] at zq1192
                                    exfalso; omega
                                  · rw [hE] at zq1192
                                    exfalso; omega
                          have k1220 : (0 : Int32).toInt = 0 := by decide
                          exact lp1151 _ h1138 (0 : Int32) hI fr (FR.rf _ _) (by decide) (by omega) (by rw [hK]; rfl) (hE) (Nat.lt_succ_self _)
                    · rw [hE] at zq1018
                      show RUN d_X9_goSecond 115 [(3, .inl x872), (0, .inr (.inr (.inl 96))), (1, .inl a0), (2, .inl a1)] [.inl x1019] h870 _
                      refine N_if_ne (a := x1019.toInt) 164 rfl rfl rfl (fun c1221 => ?_) (fun c1221 => ?_)
                      · exfalso; omega
                      · refine R_aload_n (k := 0) rfl rfl rfl ?_
                        refine R_getf_r (j := 24) rfl ft_9_52 sh_96 rfl ?_
                        refine R_iconst 0 rfl rfl ?_
                        refine R_iald rfl sh_109 (by decide) ?_
                        refine N_eq (fun x1222 e1223 => ?_)
                        have e1224 : x1222 = ((zMid (evOf h) a0 a1 (kyOf h)).2.2.1) (0 : Int32).toNatClampNeg := by rw [e1223]; exact (ky_at109 (by decide)).trans (congrFun (congrArg (fun q : KY => q.2.2.1) hK) _)
                        refine N_if_le (a := x1222.toInt) 164 rfl rfl rfl (fun c1225 => ?_) (fun c1225 => ?_)
                        · have hK : kyOf h870 = zTake (evOf h) a0 (zMid (evOf h) a0 a1 (kyOf h)) := by
                            refine hK.trans ?_
                            subst e1224 e1013 e909 e906
                            simp only [zTake, zTake1, eMany, eLine, eFull] <;> (repeat' split) <;> first | (exfalso; omega) | rfl
                          refine R_iconst 0 rfl rfl ?_
                          refine R_istore_n (k := 3) rfl [(3, .inl 0), (0, .inr (.inr (.inl 96))), (1, .inl a0), (2, .inl a1)] rfl rfl (by decide) ?_
                          have lp1227 : ∀ (n1226 : Nat) (h1228 : PH) (x1230 : Int32), INV h1228 → FR [96, 107, 108, 109, 117, 118] h h1228 → FR [107] h870 h1228 → 0 ≤ x1230.toInt ∧ x1230.toInt ≤ 6 → x1230.toInt ≤ (h870.1 96 18).toInt + 0 → (kyOf h1228 = zHolds (evOf h) a0 x1230.toNatClampNeg (zTake (evOf h) a0 (zMid (evOf h) a0 a1 (kyOf h)))) → (evOf h1228 = evOf h) → (6 - x1230.toInt).toNat < n1226 → RUN d_X9_goSecond 166 [(3, .inl x1230), (0, .inr (.inr (.inl 96))), (1, .inl a0), (2, .inl a1)] [] h1228 (qg_X9_goSecond h a0 a1) := by
                            intro n1226
                            induction n1226 with
                            | zero => intro h1228 x1230 m1232 m1233 m1234 m1235 m1236 m1237 m1238 hz; exact absurd hz (Nat.not_lt_zero _)
                            | succ n1226 ih1231 =>
                              intro h1228 x1230 hI fr fl1229 m1235 m1236 m1237 m1238 hz
                              have s1239 : (h1228.1 96 41).toInt = (h870.1 96 41).toInt := by rw [(fl1229 96 (by decide)).1]
                              have s1240 : (h1228.1 96 42).toInt = (h870.1 96 42).toInt := by rw [(fl1229 96 (by decide)).1]
                              have s1241 : (h1228.1 96 19).toInt = (h870.1 96 19).toInt := by rw [(fl1229 96 (by decide)).1]
                              have s1242 : (h1228.1 96 18).toInt = (h870.1 96 18).toInt := by rw [(fl1229 96 (by decide)).1]
                              have s1243 : (h1228.1 96 20).toInt = (h870.1 96 20).toInt := by rw [(fl1229 96 (by decide)).1]
                              have s1244 : (h1228.1 96 46).toInt = (h870.1 96 46).toInt := by rw [(fl1229 96 (by decide)).1]
                              have s1245 : (h1228.1 96 44).toInt = (h870.1 96 44).toInt := by rw [(fl1229 96 (by decide)).1]
                              have s1246 : (h1228.1 96 47).toInt = (h870.1 96 47).toInt := by rw [(fl1229 96 (by decide)).1]
                              have s1247 : (h1228.1 96 48).toInt = (h870.1 96 48).toInt := by rw [(fl1229 96 (by decide)).1]
                              have s1248 : (h1228.1 96 51).toInt = (h870.1 96 51).toInt := by rw [(fl1229 96 (by decide)).1]
                              have fl871 : FR [96, 107, 108, 109, 117, 118] h851 h1228 := fl871.trans fl1229 (by decide)
                              have fl829 : FR [96, 107, 108, 109, 117, 118] h812 h1228 := fl829.trans fl1229 (by decide)
                              have hE := m1238
                              have hK : kyOf h1228 = kyOf h1228 := rfl
                              refine R_iload_n (k := 3) rfl rfl rfl ?_
                              refine R_aload_n (k := 0) rfl rfl rfl ?_
                              refine R_getf_i (j := 18) rfl ft_9_253 sh_96 rfl ?_
                              refine N_icmp_ge (a := x1230.toInt) (b := (h1228.1 96 18).toInt) 224 rfl rfl rfl rfl (fun c1249 => ?_) (fun c1249 => ?_)
                              · have hF : kyOf h1228 = zSecond (evOf h) a0 a1 (kyOf h) := m1237.trans (by rw [show x1230 = (evOf h).2.2.2.2.1 from i_of _ (by omega)]; rfl)
                                exact R_vret rfl rfl ⟨hI, fr, ⟨by omega, by omega, by omega, by omega, by omega, by omega, by omega, by omega, by omega, by omega, hF, hE, trivial⟩, rfl⟩
                              · refine R_aload_n (k := 0) rfl rfl rfl ?_
                                refine R_getf_r (j := 22) rfl ft_9_46 sh_96 rfl ?_
                                refine R_aload_n (k := 0) rfl rfl rfl ?_
                                refine R_getf_r (j := 17) rfl ft_9_40 sh_96 rfl ?_
                                refine R_iload_n (k := 3) rfl rfl rfl ?_
                                refine R_iald rfl sh_105 ⟨by omega, by omega⟩ ?_
                                refine N_eq (fun x1250 e1251 => ?_)
                                have q1252 : 0 ≤ x1250.toInt ∧ x1250.toInt ≤ 5 := by rw [e1251]; exact hI.1 105 _
                                have e1253 : x1250 = (evOf h).2.2.2.1 x1230.toNatClampNeg := by rw [e1251]; exact congrFun (congrArg (fun q : EV => q.2.2.2.1) hE) _
                                refine R_iald rfl sh_107 ⟨by omega, by omega⟩ ?_
                                refine N_eq (fun x1254 e1255 => ?_)
                                have e1256 : x1254 = ((kyOf h1228).1) x1250.toNatClampNeg := by rw [e1255]; exact (ky_at107 (nlt ⟨by omega, by omega⟩)).trans (congrFun (congrArg (fun q : KY => q.1) hK) _)
                                refine R_iconst (-1) rfl rfl ?_
                                refine N_icmp_eq (a := x1254.toInt) (b := (-1)) 218 rfl rfl rfl (by decide) (fun c1257 => ?_) (fun c1257 => ?_)
                                · refine N_iinc (a := x1230.toInt) (c := 1) (fun w => [(3, .inl w), (0, .inr (.inr (.inl 96))), (1, .inl a0), (2, .inl a1)]) rfl rfl (fun _ => rfl) (by decide) rfl (by decide) (by omega) (fun x1258 q1259 => ?_)
                                  refine R_goto 166 rfl rfl ?_
                                  exact RUN_weak (psub_cons rfl (psub_cons rfl (psub_cons rfl (psub_cons rfl (psub_nil _))))) (ih1231 h1228 x1258 hI fr fl1229 (by omega) (by omega) (by rw [zHolds_s (x := x1230) (x' := x1258) (by omega) (by omega), ← m1237]; refine hK.trans ?_; subst e1256 e1253; simp only [zHold1, eLine] <;> (repeat' split) <;> first | (exfalso; omega) | rfl) (hE) (by omega))
                                · refine R_aload_n (k := 0) rfl rfl rfl ?_
                                  refine R_aload_n (k := 0) rfl rfl rfl ?_
                                  refine R_getf_r (j := 17) rfl ft_9_40 sh_96 rfl ?_
                                  refine R_iload_n (k := 3) rfl rfl rfl ?_
                                  refine R_iald rfl sh_105 ⟨by omega, by omega⟩ ?_
                                  refine N_eq (fun x1260 e1261 => ?_)
                                  have q1262 : 0 ≤ x1260.toInt ∧ x1260.toInt ≤ 5 := by rw [e1261]; exact hI.1 105 _
                                  have e1263 : x1260 = (evOf h).2.2.2.1 x1230.toNatClampNeg := by rw [e1261]; exact congrFun (congrArg (fun q : EV => q.2.2.2.1) hE) _
                                  refine R_iload_n (k := 1) rfl rfl rfl ?_
                                  refine R_callV (v := .inr (.inr (.inl 96))) (As := [.inl x1260, .inl a0]) (rest := []) rfl mt_9_i271 pp_X9_doesRest (by decide) rfl rfl rfl (Nat.le_of_ble_eq_true rfl) (Nat.le_of_ble_eq_true rfl) ((g_X9_doesRest h1228 hI x1260 a0 (by omega) (by omega)).mono (fun r1264 h1265 p1266 => ?_))
                                  obtain ⟨rfl, x1268, rfl, (q1269 | q1269 | q1269), zq1267, -⟩ := p1266
                                  · rw [hE] at zq1267
                                    exfalso; omega
                                  · rw [hE] at zq1267
                                    show RUN d_X9_goSecond 200 [(3, .inl x1230), (0, .inr (.inr (.inl 96))), (1, .inl a0), (2, .inl a1)] [.inl x1268] h1228 _
                                    refine N_if_ne (a := x1268.toInt) 218 rfl rfl rfl (fun c1270 => ?_) (fun c1270 => ?_)
                                    · exfalso; omega
                                    · refine R_aload_n (k := 0) rfl rfl rfl ?_
                                      refine R_getf_r (j := 22) rfl ft_9_46 sh_96 rfl ?_
                                      refine R_aload_n (k := 0) rfl rfl rfl ?_
                                      refine R_getf_r (j := 17) rfl ft_9_40 sh_96 rfl ?_
                                      refine R_iload_n (k := 3) rfl rfl rfl ?_
                                      refine R_iald rfl sh_105 ⟨by omega, by omega⟩ ?_
                                      refine N_eq (fun x1271 e1272 => ?_)
                                      have q1273 : 0 ≤ x1271.toInt ∧ x1271.toInt ≤ 5 := by rw [e1272]; exact hI.1 105 _
                                      have e1274 : x1271 = (evOf h).2.2.2.1 x1230.toNatClampNeg := by rw [e1272]; exact congrFun (congrArg (fun q : EV => q.2.2.2.1) hE) _
                                      refine R_dup2 rfl ?_
                                      refine R_iald rfl sh_107 ⟨by omega, by omega⟩ ?_
                                      refine N_eq (fun x1275 e1276 => ?_)
                                      have e1277 : x1275 = ((kyOf h1228).1) x1271.toNatClampNeg := by rw [e1276]; exact (ky_at107 (nlt ⟨by omega, by omega⟩)).trans (congrFun (congrArg (fun q : KY => q.1) hK) _)
                                      refine R_iconst 1 rfl rfl ?_
                                      have b1278 := i_rng x1275
                                      refine R_iadd rfl ?_
                                      refine N_eq (fun x1279 e1280 => ?_)
                                      refine K_iast (a := x1271.toInt) (lo := (-2147483648)) (hi' := 2147483647) rfl sh_107 rfl ⟨by omega, by omega⟩ hI (by decide) rfl (i_rng _) fr (by decide) (fun h1281 g1282 hI fr => ?_)
                                      have fl1229 : FR [107] h870 h1281 := by rw [g1282]; exact FR_wI _ _ fl1229 (by decide)
                                      have fl871 : FR [96, 107, 108, 109, 117, 118] h851 h1281 := by rw [g1282]; exact FR_wI _ _ fl871 (by decide)
                                      have fl829 : FR [96, 107, 108, 109, 117, 118] h812 h1281 := by rw [g1282]; exact FR_wI _ _ fl829 (by decide)
                                      have s1283 : (h1281.1 96 41).toInt = (h1228.1 96 41).toInt := by rw [g1282, wI_ne _ _ _ (by decide)]
                                      have s1284 : (h1281.1 96 42).toInt = (h1228.1 96 42).toInt := by rw [g1282, wI_ne _ _ _ (by decide)]
                                      have s1285 : (h1281.1 96 19).toInt = (h1228.1 96 19).toInt := by rw [g1282, wI_ne _ _ _ (by decide)]
                                      have s1286 : (h1281.1 96 18).toInt = (h1228.1 96 18).toInt := by rw [g1282, wI_ne _ _ _ (by decide)]
                                      have s1287 : (h1281.1 96 20).toInt = (h1228.1 96 20).toInt := by rw [g1282, wI_ne _ _ _ (by decide)]
                                      have s1288 : (h1281.1 96 46).toInt = (h1228.1 96 46).toInt := by rw [g1282, wI_ne _ _ _ (by decide)]
                                      have s1289 : (h1281.1 96 44).toInt = (h1228.1 96 44).toInt := by rw [g1282, wI_ne _ _ _ (by decide)]
                                      have s1290 : (h1281.1 96 47).toInt = (h1228.1 96 47).toInt := by rw [g1282, wI_ne _ _ _ (by decide)]
                                      have s1291 : (h1281.1 96 48).toInt = (h1228.1 96 48).toInt := by rw [g1282, wI_ne _ _ _ (by decide)]
                                      have s1292 : (h1281.1 96 51).toInt = (h1228.1 96 51).toInt := by rw [g1282, wI_ne _ _ _ (by decide)]
                                      have hK : kyOf h1281 = (upd ((kyOf h1228).1) x1271.toNatClampNeg x1279, (kyOf h1228).2.1, (kyOf h1228).2.2.1, (kyOf h1228).2.2.2) := by rw [g1282, ky_107 (nlt ⟨by omega, by omega⟩), hK] <;> rfl
                                      have hE : evOf h1281 = evOf h := by rw [g1282, ev_o (by decide), hE]
                                      refine N_iinc (a := x1230.toInt) (c := 1) (fun w => [(3, .inl w), (0, .inr (.inr (.inl 96))), (1, .inl a0), (2, .inl a1)]) rfl rfl (fun _ => rfl) (by decide) rfl (by decide) (by omega) (fun x1293 q1294 => ?_)
                                      refine R_goto 166 rfl rfl ?_
                                      exact RUN_weak (psub_cons rfl (psub_cons rfl (psub_cons rfl (psub_cons rfl (psub_nil _))))) (ih1231 h1281 x1293 hI fr fl1229 (by omega) (by omega) (by rw [zHolds_s (x := x1230) (x' := x1293) (by omega) (by omega), ← m1237]; refine hK.trans ?_; subst e1280 e1277 e1274 e1263 e1256 e1253; simp only [zHold1, eLine] <;> (repeat' split) <;> first | (exfalso; omega) | rfl) (hE) (by omega))
                                  · rw [hE] at zq1267
                                    show RUN d_X9_goSecond 200 [(3, .inl x1230), (0, .inr (.inr (.inl 96))), (1, .inl a0), (2, .inl a1)] [.inl x1268] h1228 _
                                    refine N_if_ne (a := x1268.toInt) 218 rfl rfl rfl (fun c1295 => ?_) (fun c1295 => ?_)
                                    · refine N_iinc (a := x1230.toInt) (c := 1) (fun w => [(3, .inl w), (0, .inr (.inr (.inl 96))), (1, .inl a0), (2, .inl a1)]) rfl rfl (fun _ => rfl) (by decide) rfl (by decide) (by omega) (fun x1296 q1297 => ?_)
                                      refine R_goto 166 rfl rfl ?_
                                      exact RUN_weak (psub_cons rfl (psub_cons rfl (psub_cons rfl (psub_cons rfl (psub_nil _))))) (ih1231 h1228 x1296 hI fr fl1229 (by omega) (by omega) (by rw [zHolds_s (x := x1230) (x' := x1296) (by omega) (by omega), ← m1237]; refine hK.trans ?_; subst e1263 e1256 e1253; simp only [zHold1, eLine] <;> (repeat' split) <;> first | (exfalso; omega) | rfl) (hE) (by omega))
                                    · exfalso; omega
                          have k1298 : (0 : Int32).toInt = 0 := by decide
                          exact lp1227 _ h870 (0 : Int32) hI fr (FR.rf _ _) (by decide) (by omega) (by rw [hK]; rfl) (hE) (Nat.lt_succ_self _)
                        · refine R_aload_n (k := 0) rfl rfl rfl ?_
                          refine R_getf_r (j := 24) rfl ft_9_52 sh_96 rfl ?_
                          refine R_iconst 0 rfl rfl ?_
                          refine R_dup2 rfl ?_
                          refine R_iald rfl sh_109 (by decide) ?_
                          refine N_eq (fun x1299 e1300 => ?_)
                          have e1301 : x1299 = ((zMid (evOf h) a0 a1 (kyOf h)).2.2.1) (0 : Int32).toNatClampNeg := by rw [e1300]; exact (ky_at109 (by decide)).trans (congrFun (congrArg (fun q : KY => q.2.2.1) hK) _)
                          refine R_iconst 1 rfl rfl ?_
                          have b1302 := i_rng x1299
                          refine R_isub rfl ?_
                          refine N_eq (fun x1303 e1304 => ?_)
                          refine K_iast (a := 0) (lo := (-2147483648)) (hi' := 2147483647) rfl sh_109 (by decide) (by decide) hI (by decide) rfl (i_rng _) fr (by decide) (fun h1305 g1306 hI fr => ?_)
                          have fl871 : FR [96, 107, 108, 109, 117, 118] h851 h1305 := by rw [g1306]; exact FR_wI _ _ fl871 (by decide)
                          have fl829 : FR [96, 107, 108, 109, 117, 118] h812 h1305 := by rw [g1306]; exact FR_wI _ _ fl829 (by decide)
                          have s1307 : (h1305.1 96 41).toInt = (h870.1 96 41).toInt := by rw [g1306, wI_ne _ _ _ (by decide)]
                          have s1308 : (h1305.1 96 42).toInt = (h870.1 96 42).toInt := by rw [g1306, wI_ne _ _ _ (by decide)]
                          have s1309 : (h1305.1 96 19).toInt = (h870.1 96 19).toInt := by rw [g1306, wI_ne _ _ _ (by decide)]
                          have s1310 : (h1305.1 96 18).toInt = (h870.1 96 18).toInt := by rw [g1306, wI_ne _ _ _ (by decide)]
                          have s1311 : (h1305.1 96 20).toInt = (h870.1 96 20).toInt := by rw [g1306, wI_ne _ _ _ (by decide)]
                          have s1312 : (h1305.1 96 46).toInt = (h870.1 96 46).toInt := by rw [g1306, wI_ne _ _ _ (by decide)]
                          have s1313 : (h1305.1 96 44).toInt = (h870.1 96 44).toInt := by rw [g1306, wI_ne _ _ _ (by decide)]
                          have s1314 : (h1305.1 96 47).toInt = (h870.1 96 47).toInt := by rw [g1306, wI_ne _ _ _ (by decide)]
                          have s1315 : (h1305.1 96 48).toInt = (h870.1 96 48).toInt := by rw [g1306, wI_ne _ _ _ (by decide)]
                          have s1316 : (h1305.1 96 51).toInt = (h870.1 96 51).toInt := by rw [g1306, wI_ne _ _ _ (by decide)]
                          have hK : kyOf h1305 = ((zMid (evOf h) a0 a1 (kyOf h)).1, (zMid (evOf h) a0 a1 (kyOf h)).2.1, upd ((zMid (evOf h) a0 a1 (kyOf h)).2.2.1) (0 : Int32).toNatClampNeg x1303, (zMid (evOf h) a0 a1 (kyOf h)).2.2.2) := by rw [g1306, ky_109 (by decide), hK] <;> rfl
                          have hE : evOf h1305 = evOf h := by rw [g1306, ev_o (by decide), hE]
                          refine R_aload_n (k := 0) rfl rfl rfl ?_
                          refine R_getf_r (j := 22) rfl ft_9_46 sh_96 rfl ?_
                          refine R_aload_n (k := 0) rfl rfl rfl ?_
                          refine R_getf_r (j := 17) rfl ft_9_40 sh_96 rfl ?_
                          refine R_iconst 0 rfl rfl ?_
                          refine R_iald rfl sh_105 (by decide) ?_
                          refine N_eq (fun x1317 e1318 => ?_)
                          have q1319 : 0 ≤ x1317.toInt ∧ x1317.toInt ≤ 5 := by rw [e1318]; exact hI.1 105 _
                          have e1320 : x1317 = (evOf h).2.2.2.1 (0 : Int32).toNatClampNeg := by rw [e1318]; exact congrFun (congrArg (fun q : EV => q.2.2.2.1) hE) _
                          refine R_iconst 0 rfl rfl ?_
                          refine K_iast (a := x1317.toInt) (lo := (-2147483648)) (hi' := 2147483647) rfl sh_107 rfl ⟨by omega, by omega⟩ hI (by decide) rfl (by decide) fr (by decide) (fun h1321 g1322 hI fr => ?_)
                          have fl871 : FR [96, 107, 108, 109, 117, 118] h851 h1321 := by rw [g1322]; exact FR_wI _ _ fl871 (by decide)
                          have fl829 : FR [96, 107, 108, 109, 117, 118] h812 h1321 := by rw [g1322]; exact FR_wI _ _ fl829 (by decide)
                          have s1323 : (h1321.1 96 41).toInt = (h1305.1 96 41).toInt := by rw [g1322, wI_ne _ _ _ (by decide)]
                          have s1324 : (h1321.1 96 42).toInt = (h1305.1 96 42).toInt := by rw [g1322, wI_ne _ _ _ (by decide)]
                          have s1325 : (h1321.1 96 19).toInt = (h1305.1 96 19).toInt := by rw [g1322, wI_ne _ _ _ (by decide)]
                          have s1326 : (h1321.1 96 18).toInt = (h1305.1 96 18).toInt := by rw [g1322, wI_ne _ _ _ (by decide)]
                          have s1327 : (h1321.1 96 20).toInt = (h1305.1 96 20).toInt := by rw [g1322, wI_ne _ _ _ (by decide)]
                          have s1328 : (h1321.1 96 46).toInt = (h1305.1 96 46).toInt := by rw [g1322, wI_ne _ _ _ (by decide)]
                          have s1329 : (h1321.1 96 44).toInt = (h1305.1 96 44).toInt := by rw [g1322, wI_ne _ _ _ (by decide)]
                          have s1330 : (h1321.1 96 47).toInt = (h1305.1 96 47).toInt := by rw [g1322, wI_ne _ _ _ (by decide)]
                          have s1331 : (h1321.1 96 48).toInt = (h1305.1 96 48).toInt := by rw [g1322, wI_ne _ _ _ (by decide)]
                          have s1332 : (h1321.1 96 51).toInt = (h1305.1 96 51).toInt := by rw [g1322, wI_ne _ _ _ (by decide)]
                          have hK : kyOf h1321 = (upd ((zMid (evOf h) a0 a1 (kyOf h)).1) x1317.toNatClampNeg (0), (zMid (evOf h) a0 a1 (kyOf h)).2.1, upd ((zMid (evOf h) a0 a1 (kyOf h)).2.2.1) (0 : Int32).toNatClampNeg x1303, (zMid (evOf h) a0 a1 (kyOf h)).2.2.2) := by rw [g1322, ky_107 (nlt ⟨by omega, by omega⟩), hK] <;> rfl
                          have hE : evOf h1321 = evOf h := by rw [g1322, ev_o (by decide), hE]
                          refine R_aload_n (k := 0) rfl rfl rfl ?_
                          refine R_getf_r (j := 23) rfl ft_9_49 sh_96 rfl ?_
                          refine R_aload_n (k := 0) rfl rfl rfl ?_
                          refine R_getf_r (j := 17) rfl ft_9_40 sh_96 rfl ?_
                          refine R_iconst 0 rfl rfl ?_
                          refine R_iald rfl sh_105 (by decide) ?_
                          refine N_eq (fun x1333 e1334 => ?_)
                          have q1335 : 0 ≤ x1333.toInt ∧ x1333.toInt ≤ 5 := by rw [e1334]; exact hI.1 105 _
                          have e1336 : x1333 = (evOf h).2.2.2.1 (0 : Int32).toNatClampNeg := by rw [e1334]; exact congrFun (congrArg (fun q : EV => q.2.2.2.1) hE) _
                          refine R_aload_n (k := 0) rfl rfl rfl ?_
                          refine R_getf_i (j := 20) rfl ft_9_259 sh_96 rfl ?_
                          refine N_eq (fun x1337 e1338 => ?_)
                          have e1339 : x1337 = (evOf h).2.2.2.2.2.1 := by rw [e1338]; exact congrArg (fun q : EV => q.2.2.2.2.2.1) hE
                          refine K_iast (a := x1333.toInt) (lo := (-2147483648)) (hi' := 2147483647) rfl sh_108 rfl ⟨by omega, by omega⟩ hI (by decide) rfl (i_rng _) fr (by decide) (fun h1340 g1341 hI fr => ?_)
                          have fl871 : FR [96, 107, 108, 109, 117, 118] h851 h1340 := by rw [g1341]; exact FR_wI _ _ fl871 (by decide)
                          have fl829 : FR [96, 107, 108, 109, 117, 118] h812 h1340 := by rw [g1341]; exact FR_wI _ _ fl829 (by decide)
                          have s1342 : (h1340.1 96 41).toInt = (h1321.1 96 41).toInt := by rw [g1341, wI_ne _ _ _ (by decide)]
                          have s1343 : (h1340.1 96 42).toInt = (h1321.1 96 42).toInt := by rw [g1341, wI_ne _ _ _ (by decide)]
                          have s1344 : (h1340.1 96 19).toInt = (h1321.1 96 19).toInt := by rw [g1341, wI_ne _ _ _ (by decide)]
                          have s1345 : (h1340.1 96 18).toInt = (h1321.1 96 18).toInt := by rw [g1341, wI_ne _ _ _ (by decide)]
                          have s1346 : (h1340.1 96 20).toInt = (h1321.1 96 20).toInt := by rw [g1341, wI_ne _ _ _ (by decide)]
                          have s1347 : (h1340.1 96 46).toInt = (h1321.1 96 46).toInt := by rw [g1341, wI_ne _ _ _ (by decide)]
                          have s1348 : (h1340.1 96 44).toInt = (h1321.1 96 44).toInt := by rw [g1341, wI_ne _ _ _ (by decide)]
                          have s1349 : (h1340.1 96 47).toInt = (h1321.1 96 47).toInt := by rw [g1341, wI_ne _ _ _ (by decide)]
                          have s1350 : (h1340.1 96 48).toInt = (h1321.1 96 48).toInt := by rw [g1341, wI_ne _ _ _ (by decide)]
                          have s1351 : (h1340.1 96 51).toInt = (h1321.1 96 51).toInt := by rw [g1341, wI_ne _ _ _ (by decide)]
                          have hK : kyOf h1340 = (upd ((zMid (evOf h) a0 a1 (kyOf h)).1) x1317.toNatClampNeg (0), upd ((zMid (evOf h) a0 a1 (kyOf h)).2.1) x1333.toNatClampNeg x1337, upd ((zMid (evOf h) a0 a1 (kyOf h)).2.2.1) (0 : Int32).toNatClampNeg x1303, (zMid (evOf h) a0 a1 (kyOf h)).2.2.2) := by rw [g1341, ky_108 (nlt ⟨by omega, by omega⟩), hK] <;> rfl
                          have hE : evOf h1340 = evOf h := by rw [g1341, ev_o (by decide), hE]
                          have hK : kyOf h1340 = zTake (evOf h) a0 (zMid (evOf h) a0 a1 (kyOf h)) := by
                            refine hK.trans ?_
                            subst e1339 e1336 e1320 e1304 e1301 e1224 e1013 e909 e906
                            simp only [zTake, zTake1, eMany, eLine, eFull] <;> (repeat' split) <;> first | (exfalso; omega) | rfl
                          refine R_iconst 0 rfl rfl ?_
                          refine R_istore_n (k := 3) rfl [(3, .inl 0), (0, .inr (.inr (.inl 96))), (1, .inl a0), (2, .inl a1)] rfl rfl (by decide) ?_
                          have lp1353 : ∀ (n1352 : Nat) (h1354 : PH) (x1356 : Int32), INV h1354 → FR [96, 107, 108, 109, 117, 118] h h1354 → FR [107] h1340 h1354 → 0 ≤ x1356.toInt ∧ x1356.toInt ≤ 6 → x1356.toInt ≤ (h1340.1 96 18).toInt + 0 → (kyOf h1354 = zHolds (evOf h) a0 x1356.toNatClampNeg (zTake (evOf h) a0 (zMid (evOf h) a0 a1 (kyOf h)))) → (evOf h1354 = evOf h) → (6 - x1356.toInt).toNat < n1352 → RUN d_X9_goSecond 166 [(3, .inl x1356), (0, .inr (.inr (.inl 96))), (1, .inl a0), (2, .inl a1)] [] h1354 (qg_X9_goSecond h a0 a1) := by
                            intro n1352
                            induction n1352 with
                            | zero => intro h1354 x1356 m1358 m1359 m1360 m1361 m1362 m1363 m1364 hz; exact absurd hz (Nat.not_lt_zero _)
                            | succ n1352 ih1357 =>
                              intro h1354 x1356 hI fr fl1355 m1361 m1362 m1363 m1364 hz
                              have s1365 : (h1354.1 96 41).toInt = (h1340.1 96 41).toInt := by rw [(fl1355 96 (by decide)).1]
                              have s1366 : (h1354.1 96 42).toInt = (h1340.1 96 42).toInt := by rw [(fl1355 96 (by decide)).1]
                              have s1367 : (h1354.1 96 19).toInt = (h1340.1 96 19).toInt := by rw [(fl1355 96 (by decide)).1]
                              have s1368 : (h1354.1 96 18).toInt = (h1340.1 96 18).toInt := by rw [(fl1355 96 (by decide)).1]
                              have s1369 : (h1354.1 96 20).toInt = (h1340.1 96 20).toInt := by rw [(fl1355 96 (by decide)).1]
                              have s1370 : (h1354.1 96 46).toInt = (h1340.1 96 46).toInt := by rw [(fl1355 96 (by decide)).1]
                              have s1371 : (h1354.1 96 44).toInt = (h1340.1 96 44).toInt := by rw [(fl1355 96 (by decide)).1]
                              have s1372 : (h1354.1 96 47).toInt = (h1340.1 96 47).toInt := by rw [(fl1355 96 (by decide)).1]
                              have s1373 : (h1354.1 96 48).toInt = (h1340.1 96 48).toInt := by rw [(fl1355 96 (by decide)).1]
                              have s1374 : (h1354.1 96 51).toInt = (h1340.1 96 51).toInt := by rw [(fl1355 96 (by decide)).1]
                              have fl871 : FR [96, 107, 108, 109, 117, 118] h851 h1354 := fl871.trans fl1355 (by decide)
                              have fl829 : FR [96, 107, 108, 109, 117, 118] h812 h1354 := fl829.trans fl1355 (by decide)
                              have hE := m1364
                              have hK : kyOf h1354 = kyOf h1354 := rfl
                              refine R_iload_n (k := 3) rfl rfl rfl ?_
                              refine R_aload_n (k := 0) rfl rfl rfl ?_
                              refine R_getf_i (j := 18) rfl ft_9_253 sh_96 rfl ?_
                              refine N_icmp_ge (a := x1356.toInt) (b := (h1354.1 96 18).toInt) 224 rfl rfl rfl rfl (fun c1375 => ?_) (fun c1375 => ?_)
                              · have hF : kyOf h1354 = zSecond (evOf h) a0 a1 (kyOf h) := m1363.trans (by rw [show x1356 = (evOf h).2.2.2.2.1 from i_of _ (by omega)]; rfl)
                                exact R_vret rfl rfl ⟨hI, fr, ⟨by omega, by omega, by omega, by omega, by omega, by omega, by omega, by omega, by omega, by omega, hF, hE, trivial⟩, rfl⟩
                              · refine R_aload_n (k := 0) rfl rfl rfl ?_
                                refine R_getf_r (j := 22) rfl ft_9_46 sh_96 rfl ?_
                                refine R_aload_n (k := 0) rfl rfl rfl ?_
                                refine R_getf_r (j := 17) rfl ft_9_40 sh_96 rfl ?_
                                refine R_iload_n (k := 3) rfl rfl rfl ?_
                                refine R_iald rfl sh_105 ⟨by omega, by omega⟩ ?_
                                refine N_eq (fun x1376 e1377 => ?_)
                                have q1378 : 0 ≤ x1376.toInt ∧ x1376.toInt ≤ 5 := by rw [e1377]; exact hI.1 105 _
                                have e1379 : x1376 = (evOf h).2.2.2.1 x1356.toNatClampNeg := by rw [e1377]; exact congrFun (congrArg (fun q : EV => q.2.2.2.1) hE) _
                                refine R_iald rfl sh_107 ⟨by omega, by omega⟩ ?_
                                refine N_eq (fun x1380 e1381 => ?_)
                                have e1382 : x1380 = ((kyOf h1354).1) x1376.toNatClampNeg := by rw [e1381]; exact (ky_at107 (nlt ⟨by omega, by omega⟩)).trans (congrFun (congrArg (fun q : KY => q.1) hK) _)
                                refine R_iconst (-1) rfl rfl ?_
                                refine N_icmp_eq (a := x1380.toInt) (b := (-1)) 218 rfl rfl rfl (by decide) (fun c1383 => ?_) (fun c1383 => ?_)
                                · refine N_iinc (a := x1356.toInt) (c := 1) (fun w => [(3, .inl w), (0, .inr (.inr (.inl 96))), (1, .inl a0), (2, .inl a1)]) rfl rfl (fun _ => rfl) (by decide) rfl (by decide) (by omega) (fun x1384 q1385 => ?_)
                                  refine R_goto 166 rfl rfl ?_
                                  exact RUN_weak (psub_cons rfl (psub_cons rfl (psub_cons rfl (psub_cons rfl (psub_nil _))))) (ih1357 h1354 x1384 hI fr fl1355 (by omega) (by omega) (by rw [zHolds_s (x := x1356) (x' := x1384) (by omega) (by omega), ← m1363]; refine hK.trans ?_; subst e1382 e1379; simp only [zHold1, eLine] <;> (repeat' split) <;> first | (exfalso; omega) | rfl) (hE) (by omega))
                                · refine R_aload_n (k := 0) rfl rfl rfl ?_
                                  refine R_aload_n (k := 0) rfl rfl rfl ?_
                                  refine R_getf_r (j := 17) rfl ft_9_40 sh_96 rfl ?_
                                  refine R_iload_n (k := 3) rfl rfl rfl ?_
                                  refine R_iald rfl sh_105 ⟨by omega, by omega⟩ ?_
                                  refine N_eq (fun x1386 e1387 => ?_)
                                  have q1388 : 0 ≤ x1386.toInt ∧ x1386.toInt ≤ 5 := by rw [e1387]; exact hI.1 105 _
                                  have e1389 : x1386 = (evOf h).2.2.2.1 x1356.toNatClampNeg := by rw [e1387]; exact congrFun (congrArg (fun q : EV => q.2.2.2.1) hE) _
                                  refine R_iload_n (k := 1) rfl rfl rfl ?_
                                  refine R_callV (v := .inr (.inr (.inl 96))) (As := [.inl x1386, .inl a0]) (rest := []) rfl mt_9_i271 pp_X9_doesRest (by decide) rfl rfl rfl (Nat.le_of_ble_eq_true rfl) (Nat.le_of_ble_eq_true rfl) ((g_X9_doesRest h1354 hI x1386 a0 (by omega) (by omega)).mono (fun r1390 h1391 p1392 => ?_))
                                  obtain ⟨rfl, x1394, rfl, (q1395 | q1395 | q1395), zq1393, -⟩ := p1392
                                  · rw [hE] at zq1393
                                    exfalso; omega
                                  · rw [hE] at zq1393
                                    show RUN d_X9_goSecond 200 [(3, .inl x1356), (0, .inr (.inr (.inl 96))), (1, .inl a0), (2, .inl a1)] [.inl x1394] h1354 _
                                    refine N_if_ne (a := x1394.toInt) 218 rfl rfl rfl (fun c1396 => ?_) (fun c1396 => ?_)
                                    · exfalso; omega
                                    · refine R_aload_n (k := 0) rfl rfl rfl ?_
                                      refine R_getf_r (j := 22) rfl ft_9_46 sh_96 rfl ?_
                                      refine R_aload_n (k := 0) rfl rfl rfl ?_
                                      refine R_getf_r (j := 17) rfl ft_9_40 sh_96 rfl ?_
                                      refine R_iload_n (k := 3) rfl rfl rfl ?_
                                      refine R_iald rfl sh_105 ⟨by omega, by omega⟩ ?_
                                      refine N_eq (fun x1397 e1398 => ?_)
                                      have q1399 : 0 ≤ x1397.toInt ∧ x1397.toInt ≤ 5 := by rw [e1398]; exact hI.1 105 _
                                      have e1400 : x1397 = (evOf h).2.2.2.1 x1356.toNatClampNeg := by rw [e1398]; exact congrFun (congrArg (fun q : EV => q.2.2.2.1) hE) _
                                      refine R_dup2 rfl ?_
                                      refine R_iald rfl sh_107 ⟨by omega, by omega⟩ ?_
                                      refine N_eq (fun x1401 e1402 => ?_)
                                      have e1403 : x1401 = ((kyOf h1354).1) x1397.toNatClampNeg := by rw [e1402]; exact (ky_at107 (nlt ⟨by omega, by omega⟩)).trans (congrFun (congrArg (fun q : KY => q.1) hK) _)
                                      refine R_iconst 1 rfl rfl ?_
                                      have b1404 := i_rng x1401
                                      refine R_iadd rfl ?_
                                      refine N_eq (fun x1405 e1406 => ?_)
                                      refine K_iast (a := x1397.toInt) (lo := (-2147483648)) (hi' := 2147483647) rfl sh_107 rfl ⟨by omega, by omega⟩ hI (by decide) rfl (i_rng _) fr (by decide) (fun h1407 g1408 hI fr => ?_)
                                      have fl1355 : FR [107] h1340 h1407 := by rw [g1408]; exact FR_wI _ _ fl1355 (by decide)
                                      have fl871 : FR [96, 107, 108, 109, 117, 118] h851 h1407 := by rw [g1408]; exact FR_wI _ _ fl871 (by decide)
                                      have fl829 : FR [96, 107, 108, 109, 117, 118] h812 h1407 := by rw [g1408]; exact FR_wI _ _ fl829 (by decide)
                                      have s1409 : (h1407.1 96 41).toInt = (h1354.1 96 41).toInt := by rw [g1408, wI_ne _ _ _ (by decide)]
                                      have s1410 : (h1407.1 96 42).toInt = (h1354.1 96 42).toInt := by rw [g1408, wI_ne _ _ _ (by decide)]
                                      have s1411 : (h1407.1 96 19).toInt = (h1354.1 96 19).toInt := by rw [g1408, wI_ne _ _ _ (by decide)]
                                      have s1412 : (h1407.1 96 18).toInt = (h1354.1 96 18).toInt := by rw [g1408, wI_ne _ _ _ (by decide)]
                                      have s1413 : (h1407.1 96 20).toInt = (h1354.1 96 20).toInt := by rw [g1408, wI_ne _ _ _ (by decide)]
                                      have s1414 : (h1407.1 96 46).toInt = (h1354.1 96 46).toInt := by rw [g1408, wI_ne _ _ _ (by decide)]
                                      have s1415 : (h1407.1 96 44).toInt = (h1354.1 96 44).toInt := by rw [g1408, wI_ne _ _ _ (by decide)]
                                      have s1416 : (h1407.1 96 47).toInt = (h1354.1 96 47).toInt := by rw [g1408, wI_ne _ _ _ (by decide)]
                                      have s1417 : (h1407.1 96 48).toInt = (h1354.1 96 48).toInt := by rw [g1408, wI_ne _ _ _ (by decide)]
                                      have s1418 : (h1407.1 96 51).toInt = (h1354.1 96 51).toInt := by rw [g1408, wI_ne _ _ _ (by decide)]
                                      have hK : kyOf h1407 = (upd ((kyOf h1354).1) x1397.toNatClampNeg x1405, (kyOf h1354).2.1, (kyOf h1354).2.2.1, (kyOf h1354).2.2.2) := by rw [g1408, ky_107 (nlt ⟨by omega, by omega⟩), hK] <;> rfl
                                      have hE : evOf h1407 = evOf h := by rw [g1408, ev_o (by decide), hE]
                                      refine N_iinc (a := x1356.toInt) (c := 1) (fun w => [(3, .inl w), (0, .inr (.inr (.inl 96))), (1, .inl a0), (2, .inl a1)]) rfl rfl (fun _ => rfl) (by decide) rfl (by decide) (by omega) (fun x1419 q1420 => ?_)
                                      refine R_goto 166 rfl rfl ?_
                                      exact RUN_weak (psub_cons rfl (psub_cons rfl (psub_cons rfl (psub_cons rfl (psub_nil _))))) (ih1357 h1407 x1419 hI fr fl1355 (by omega) (by omega) (by rw [zHolds_s (x := x1356) (x' := x1419) (by omega) (by omega), ← m1363]; refine hK.trans ?_; subst e1406 e1403 e1400 e1389 e1382 e1379; simp only [zHold1, eLine] <;> (repeat' split) <;> first | (exfalso; omega) | rfl) (hE) (by omega))
                                  · rw [hE] at zq1393
                                    show RUN d_X9_goSecond 200 [(3, .inl x1356), (0, .inr (.inr (.inl 96))), (1, .inl a0), (2, .inl a1)] [.inl x1394] h1354 _
                                    refine N_if_ne (a := x1394.toInt) 218 rfl rfl rfl (fun c1421 => ?_) (fun c1421 => ?_)
                                    · refine N_iinc (a := x1356.toInt) (c := 1) (fun w => [(3, .inl w), (0, .inr (.inr (.inl 96))), (1, .inl a0), (2, .inl a1)]) rfl rfl (fun _ => rfl) (by decide) rfl (by decide) (by omega) (fun x1422 q1423 => ?_)
                                      refine R_goto 166 rfl rfl ?_
                                      exact RUN_weak (psub_cons rfl (psub_cons rfl (psub_cons rfl (psub_cons rfl (psub_nil _))))) (ih1357 h1354 x1422 hI fr fl1355 (by omega) (by omega) (by rw [zHolds_s (x := x1356) (x' := x1422) (by omega) (by omega), ← m1363]; refine hK.trans ?_; subst e1389 e1382 e1379; simp only [zHold1, eLine] <;> (repeat' split) <;> first | (exfalso; omega) | rfl) (hE) (by omega))
                                    · exfalso; omega
                          have k1424 : (0 : Int32).toInt = 0 := by decide
                          exact lp1353 _ h1340 (0 : Int32) hI fr (FR.rf _ _) (by decide) (by omega) (by rw [hK]; rfl) (hE) (Nat.lt_succ_self _)
                    · rw [hE] at zq1018
                      show RUN d_X9_goSecond 115 [(3, .inl x872), (0, .inr (.inr (.inl 96))), (1, .inl a0), (2, .inl a1)] [.inl x1019] h870 _
                      refine N_if_ne (a := x1019.toInt) 164 rfl rfl rfl (fun c1425 => ?_) (fun c1425 => ?_)
                      · have hK : kyOf h870 = zTake (evOf h) a0 (zMid (evOf h) a0 a1 (kyOf h)) := by
                          refine hK.trans ?_
                          subst e1013 e909 e906
                          simp only [zTake, zTake1, eMany, eLine, eFull] <;> (repeat' split) <;> first | (exfalso; omega) | rfl
                        refine R_iconst 0 rfl rfl ?_
                        refine R_istore_n (k := 3) rfl [(3, .inl 0), (0, .inr (.inr (.inl 96))), (1, .inl a0), (2, .inl a1)] rfl rfl (by decide) ?_
                        have lp1427 : ∀ (n1426 : Nat) (h1428 : PH) (x1430 : Int32), INV h1428 → FR [96, 107, 108, 109, 117, 118] h h1428 → FR [107] h870 h1428 → 0 ≤ x1430.toInt ∧ x1430.toInt ≤ 6 → x1430.toInt ≤ (h870.1 96 18).toInt + 0 → (kyOf h1428 = zHolds (evOf h) a0 x1430.toNatClampNeg (zTake (evOf h) a0 (zMid (evOf h) a0 a1 (kyOf h)))) → (evOf h1428 = evOf h) → (6 - x1430.toInt).toNat < n1426 → RUN d_X9_goSecond 166 [(3, .inl x1430), (0, .inr (.inr (.inl 96))), (1, .inl a0), (2, .inl a1)] [] h1428 (qg_X9_goSecond h a0 a1) := by
                          intro n1426
                          induction n1426 with
                          | zero => intro h1428 x1430 m1432 m1433 m1434 m1435 m1436 m1437 m1438 hz; exact absurd hz (Nat.not_lt_zero _)
                          | succ n1426 ih1431 =>
                            intro h1428 x1430 hI fr fl1429 m1435 m1436 m1437 m1438 hz
                            have s1439 : (h1428.1 96 41).toInt = (h870.1 96 41).toInt := by rw [(fl1429 96 (by decide)).1]
                            have s1440 : (h1428.1 96 42).toInt = (h870.1 96 42).toInt := by rw [(fl1429 96 (by decide)).1]
                            have s1441 : (h1428.1 96 19).toInt = (h870.1 96 19).toInt := by rw [(fl1429 96 (by decide)).1]
                            have s1442 : (h1428.1 96 18).toInt = (h870.1 96 18).toInt := by rw [(fl1429 96 (by decide)).1]
                            have s1443 : (h1428.1 96 20).toInt = (h870.1 96 20).toInt := by rw [(fl1429 96 (by decide)).1]
                            have s1444 : (h1428.1 96 46).toInt = (h870.1 96 46).toInt := by rw [(fl1429 96 (by decide)).1]
                            have s1445 : (h1428.1 96 44).toInt = (h870.1 96 44).toInt := by rw [(fl1429 96 (by decide)).1]
                            have s1446 : (h1428.1 96 47).toInt = (h870.1 96 47).toInt := by rw [(fl1429 96 (by decide)).1]
                            have s1447 : (h1428.1 96 48).toInt = (h870.1 96 48).toInt := by rw [(fl1429 96 (by decide)).1]
                            have s1448 : (h1428.1 96 51).toInt = (h870.1 96 51).toInt := by rw [(fl1429 96 (by decide)).1]
                            have fl871 : FR [96, 107, 108, 109, 117, 118] h851 h1428 := fl871.trans fl1429 (by decide)
                            have fl829 : FR [96, 107, 108, 109, 117, 118] h812 h1428 := fl829.trans fl1429 (by decide)
                            have hE := m1438
                            have hK : kyOf h1428 = kyOf h1428 := rfl
                            refine R_iload_n (k := 3) rfl rfl rfl ?_
                            refine R_aload_n (k := 0) rfl rfl rfl ?_
                            refine R_getf_i (j := 18) rfl ft_9_253 sh_96 rfl ?_
                            refine N_icmp_ge (a := x1430.toInt) (b := (h1428.1 96 18).toInt) 224 rfl rfl rfl rfl (fun c1449 => ?_) (fun c1449 => ?_)
                            · have hF : kyOf h1428 = zSecond (evOf h) a0 a1 (kyOf h) := m1437.trans (by rw [show x1430 = (evOf h).2.2.2.2.1 from i_of _ (by omega)]; rfl)
                              exact R_vret rfl rfl ⟨hI, fr, ⟨by omega, by omega, by omega, by omega, by omega, by omega, by omega, by omega, by omega, by omega, hF, hE, trivial⟩, rfl⟩
                            · refine R_aload_n (k := 0) rfl rfl rfl ?_
                              refine R_getf_r (j := 22) rfl ft_9_46 sh_96 rfl ?_
                              refine R_aload_n (k := 0) rfl rfl rfl ?_
                              refine R_getf_r (j := 17) rfl ft_9_40 sh_96 rfl ?_
                              refine R_iload_n (k := 3) rfl rfl rfl ?_
                              refine R_iald rfl sh_105 ⟨by omega, by omega⟩ ?_
                              refine N_eq (fun x1450 e1451 => ?_)
                              have q1452 : 0 ≤ x1450.toInt ∧ x1450.toInt ≤ 5 := by rw [e1451]; exact hI.1 105 _
                              have e1453 : x1450 = (evOf h).2.2.2.1 x1430.toNatClampNeg := by rw [e1451]; exact congrFun (congrArg (fun q : EV => q.2.2.2.1) hE) _
                              refine R_iald rfl sh_107 ⟨by omega, by omega⟩ ?_
                              refine N_eq (fun x1454 e1455 => ?_)
                              have e1456 : x1454 = ((kyOf h1428).1) x1450.toNatClampNeg := by rw [e1455]; exact (ky_at107 (nlt ⟨by omega, by omega⟩)).trans (congrFun (congrArg (fun q : KY => q.1) hK) _)
                              refine R_iconst (-1) rfl rfl ?_
                              refine N_icmp_eq (a := x1454.toInt) (b := (-1)) 218 rfl rfl rfl (by decide) (fun c1457 => ?_) (fun c1457 => ?_)
                              · refine N_iinc (a := x1430.toInt) (c := 1) (fun w => [(3, .inl w), (0, .inr (.inr (.inl 96))), (1, .inl a0), (2, .inl a1)]) rfl rfl (fun _ => rfl) (by decide) rfl (by decide) (by omega) (fun x1458 q1459 => ?_)
                                refine R_goto 166 rfl rfl ?_
                                exact RUN_weak (psub_cons rfl (psub_cons rfl (psub_cons rfl (psub_cons rfl (psub_nil _))))) (ih1431 h1428 x1458 hI fr fl1429 (by omega) (by omega) (by rw [zHolds_s (x := x1430) (x' := x1458) (by omega) (by omega), ← m1437]; refine hK.trans ?_; subst e1456 e1453; simp only [zHold1, eLine] <;> (repeat' split) <;> first | (exfalso; omega) | rfl) (hE) (by omega))
                              · refine R_aload_n (k := 0) rfl rfl rfl ?_
                                refine R_aload_n (k := 0) rfl rfl rfl ?_
                                refine R_getf_r (j := 17) rfl ft_9_40 sh_96 rfl ?_
                                refine R_iload_n (k := 3) rfl rfl rfl ?_
                                refine R_iald rfl sh_105 ⟨by omega, by omega⟩ ?_
                                refine N_eq (fun x1460 e1461 => ?_)
                                have q1462 : 0 ≤ x1460.toInt ∧ x1460.toInt ≤ 5 := by rw [e1461]; exact hI.1 105 _
                                have e1463 : x1460 = (evOf h).2.2.2.1 x1430.toNatClampNeg := by rw [e1461]; exact congrFun (congrArg (fun q : EV => q.2.2.2.1) hE) _
                                refine R_iload_n (k := 1) rfl rfl rfl ?_
                                refine R_callV (v := .inr (.inr (.inl 96))) (As := [.inl x1460, .inl a0]) (rest := []) rfl mt_9_i271 pp_X9_doesRest (by decide) rfl rfl rfl (Nat.le_of_ble_eq_true rfl) (Nat.le_of_ble_eq_true rfl) ((g_X9_doesRest h1428 hI x1460 a0 (by omega) (by omega)).mono (fun r1464 h1465 p1466 => ?_))
                                obtain ⟨rfl, x1468, rfl, (q1469 | q1469 | q1469), zq1467, -⟩ := p1466
                                · rw [hE] at zq1467
                                  exfalso; omega
                                · rw [hE] at zq1467
                                  show RUN d_X9_goSecond 200 [(3, .inl x1430), (0, .inr (.inr (.inl 96))), (1, .inl a0), (2, .inl a1)] [.inl x1468] h1428 _
                                  refine N_if_ne (a := x1468.toInt) 218 rfl rfl rfl (fun c1470 => ?_) (fun c1470 => ?_)
                                  · exfalso; omega
                                  · refine R_aload_n (k := 0) rfl rfl rfl ?_
                                    refine R_getf_r (j := 22) rfl ft_9_46 sh_96 rfl ?_
                                    refine R_aload_n (k := 0) rfl rfl rfl ?_
                                    refine R_getf_r (j := 17) rfl ft_9_40 sh_96 rfl ?_
                                    refine R_iload_n (k := 3) rfl rfl rfl ?_
                                    refine R_iald rfl sh_105 ⟨by omega, by omega⟩ ?_
                                    refine N_eq (fun x1471 e1472 => ?_)
                                    have q1473 : 0 ≤ x1471.toInt ∧ x1471.toInt ≤ 5 := by rw [e1472]; exact hI.1 105 _
                                    have e1474 : x1471 = (evOf h).2.2.2.1 x1430.toNatClampNeg := by rw [e1472]; exact congrFun (congrArg (fun q : EV => q.2.2.2.1) hE) _
                                    refine R_dup2 rfl ?_
                                    refine R_iald rfl sh_107 ⟨by omega, by omega⟩ ?_
                                    refine N_eq (fun x1475 e1476 => ?_)
                                    have e1477 : x1475 = ((kyOf h1428).1) x1471.toNatClampNeg := by rw [e1476]; exact (ky_at107 (nlt ⟨by omega, by omega⟩)).trans (congrFun (congrArg (fun q : KY => q.1) hK) _)
                                    refine R_iconst 1 rfl rfl ?_
                                    have b1478 := i_rng x1475
                                    refine R_iadd rfl ?_
                                    refine N_eq (fun x1479 e1480 => ?_)
                                    refine K_iast (a := x1471.toInt) (lo := (-2147483648)) (hi' := 2147483647) rfl sh_107 rfl ⟨by omega, by omega⟩ hI (by decide) rfl (i_rng _) fr (by decide) (fun h1481 g1482 hI fr => ?_)
                                    have fl1429 : FR [107] h870 h1481 := by rw [g1482]; exact FR_wI _ _ fl1429 (by decide)
                                    have fl871 : FR [96, 107, 108, 109, 117, 118] h851 h1481 := by rw [g1482]; exact FR_wI _ _ fl871 (by decide)
                                    have fl829 : FR [96, 107, 108, 109, 117, 118] h812 h1481 := by rw [g1482]; exact FR_wI _ _ fl829 (by decide)
                                    have s1483 : (h1481.1 96 41).toInt = (h1428.1 96 41).toInt := by rw [g1482, wI_ne _ _ _ (by decide)]
                                    have s1484 : (h1481.1 96 42).toInt = (h1428.1 96 42).toInt := by rw [g1482, wI_ne _ _ _ (by decide)]
                                    have s1485 : (h1481.1 96 19).toInt = (h1428.1 96 19).toInt := by rw [g1482, wI_ne _ _ _ (by decide)]
                                    have s1486 : (h1481.1 96 18).toInt = (h1428.1 96 18).toInt := by rw [g1482, wI_ne _ _ _ (by decide)]
                                    have s1487 : (h1481.1 96 20).toInt = (h1428.1 96 20).toInt := by rw [g1482, wI_ne _ _ _ (by decide)]
                                    have s1488 : (h1481.1 96 46).toInt = (h1428.1 96 46).toInt := by rw [g1482, wI_ne _ _ _ (by decide)]
                                    have s1489 : (h1481.1 96 44).toInt = (h1428.1 96 44).toInt := by rw [g1482, wI_ne _ _ _ (by decide)]
                                    have s1490 : (h1481.1 96 47).toInt = (h1428.1 96 47).toInt := by rw [g1482, wI_ne _ _ _ (by decide)]
                                    have s1491 : (h1481.1 96 48).toInt = (h1428.1 96 48).toInt := by rw [g1482, wI_ne _ _ _ (by decide)]
                                    have s1492 : (h1481.1 96 51).toInt = (h1428.1 96 51).toInt := by rw [g1482, wI_ne _ _ _ (by decide)]
                                    have hK : kyOf h1481 = (upd ((kyOf h1428).1) x1471.toNatClampNeg x1479, (kyOf h1428).2.1, (kyOf h1428).2.2.1, (kyOf h1428).2.2.2) := by rw [g1482, ky_107 (nlt ⟨by omega, by omega⟩), hK] <;> rfl
                                    have hE : evOf h1481 = evOf h := by rw [g1482, ev_o (by decide), hE]
                                    refine N_iinc (a := x1430.toInt) (c := 1) (fun w => [(3, .inl w), (0, .inr (.inr (.inl 96))), (1, .inl a0), (2, .inl a1)]) rfl rfl (fun _ => rfl) (by decide) rfl (by decide) (by omega) (fun x1493 q1494 => ?_)
                                    refine R_goto 166 rfl rfl ?_
                                    exact RUN_weak (psub_cons rfl (psub_cons rfl (psub_cons rfl (psub_cons rfl (psub_nil _))))) (ih1431 h1481 x1493 hI fr fl1429 (by omega) (by omega) (by rw [zHolds_s (x := x1430) (x' := x1493) (by omega) (by omega), ← m1437]; refine hK.trans ?_; subst e1480 e1477 e1474 e1463 e1456 e1453; simp only [zHold1, eLine] <;> (repeat' split) <;> first | (exfalso; omega) | rfl) (hE) (by omega))
                                · rw [hE] at zq1467
                                  show RUN d_X9_goSecond 200 [(3, .inl x1430), (0, .inr (.inr (.inl 96))), (1, .inl a0), (2, .inl a1)] [.inl x1468] h1428 _
                                  refine N_if_ne (a := x1468.toInt) 218 rfl rfl rfl (fun c1495 => ?_) (fun c1495 => ?_)
                                  · refine N_iinc (a := x1430.toInt) (c := 1) (fun w => [(3, .inl w), (0, .inr (.inr (.inl 96))), (1, .inl a0), (2, .inl a1)]) rfl rfl (fun _ => rfl) (by decide) rfl (by decide) (by omega) (fun x1496 q1497 => ?_)
                                    refine R_goto 166 rfl rfl ?_
                                    exact RUN_weak (psub_cons rfl (psub_cons rfl (psub_cons rfl (psub_cons rfl (psub_nil _))))) (ih1431 h1428 x1496 hI fr fl1429 (by omega) (by omega) (by rw [zHolds_s (x := x1430) (x' := x1496) (by omega) (by omega), ← m1437]; refine hK.trans ?_; subst e1463 e1456 e1453; simp only [zHold1, eLine] <;> (repeat' split) <;> first | (exfalso; omega) | rfl) (hE) (by omega))
                                  · exfalso; omega
                        have k1498 : (0 : Int32).toInt = 0 := by decide
                        exact lp1427 _ h870 (0 : Int32) hI fr (FR.rf _ _) (by decide) (by omega) (by rw [hK]; rfl) (hE) (Nat.lt_succ_self _)
                      · exfalso; omega
              · refine R_iload_n (k := 2) rfl rfl rfl ?_
                refine N_if_ne (a := a1.toInt) 82 rfl rfl rfl (fun c1499 => ?_) (fun c1499 => ?_)
                · have hK : kyOf h870 = zMid (evOf h) a0 a1 (kyOf h) := by
                    unfold zMid
                    split
                    · first | (exfalso; omega) | (have hA := m890; rw [show (x872.toInt + 1).toNat = 0 by omega] at hA; exact hA)
                    · exact m891 (by omega)
                  refine R_aload_n (k := 0) rfl rfl rfl ?_
                  refine R_getf_i (j := 18) rfl ft_9_253 sh_96 rfl ?_
                  refine N_if_le (a := (h870.1 96 18).toInt) 164 rfl rfl rfl (fun c1500 => ?_) (fun c1500 => ?_)
                  · exfalso; omega
                  · refine R_aload_n (k := 0) rfl rfl rfl ?_
                    refine R_getf_r (j := 22) rfl ft_9_46 sh_96 rfl ?_
                    refine R_aload_n (k := 0) rfl rfl rfl ?_
                    refine R_getf_r (j := 17) rfl ft_9_40 sh_96 rfl ?_
                    refine R_iconst 0 rfl rfl ?_
                    refine R_iald rfl sh_105 (by decide) ?_
                    refine N_eq (fun x1501 e1502 => ?_)
                    have q1503 : 0 ≤ x1501.toInt ∧ x1501.toInt ≤ 5 := by rw [e1502]; exact hI.1 105 _
                    have e1504 : x1501 = (evOf h).2.2.2.1 (0 : Int32).toNatClampNeg := by rw [e1502]; exact congrFun (congrArg (fun q : EV => q.2.2.2.1) hE) _
                    refine R_iald rfl sh_107 ⟨by omega, by omega⟩ ?_
                    refine N_eq (fun x1505 e1506 => ?_)
                    have e1507 : x1505 = ((zMid (evOf h) a0 a1 (kyOf h)).1) x1501.toNatClampNeg := by rw [e1506]; exact (ky_at107 (nlt ⟨by omega, by omega⟩)).trans (congrFun (congrArg (fun q : KY => q.1) hK) _)
                    refine R_iconst (-1) rfl rfl ?_
                    refine N_icmp_ne (a := x1505.toInt) (b := (-1)) 164 rfl rfl rfl (by decide) (fun c1508 => ?_) (fun c1508 => ?_)
                    · have hK : kyOf h870 = zTake (evOf h) a0 (zMid (evOf h) a0 a1 (kyOf h)) := by
                        refine hK.trans ?_
                        subst e1507 e1504
                        simp only [zTake, zTake1, eMany, eLine, eFull] <;> (repeat' split) <;> first | (exfalso; omega) | rfl
                      refine R_iconst 0 rfl rfl ?_
                      refine R_istore_n (k := 3) rfl [(3, .inl 0), (0, .inr (.inr (.inl 96))), (1, .inl a0), (2, .inl a1)] rfl rfl (by decide) ?_
                      have lp1510 : ∀ (n1509 : Nat) (h1511 : PH) (x1513 : Int32), INV h1511 → FR [96, 107, 108, 109, 117, 118] h h1511 → FR [107] h870 h1511 → 0 ≤ x1513.toInt ∧ x1513.toInt ≤ 6 → x1513.toInt ≤ (h870.1 96 18).toInt + 0 → (kyOf h1511 = zHolds (evOf h) a0 x1513.toNatClampNeg (zTake (evOf h) a0 (zMid (evOf h) a0 a1 (kyOf h)))) → (evOf h1511 = evOf h) → (6 - x1513.toInt).toNat < n1509 → RUN d_X9_goSecond 166 [(3, .inl x1513), (0, .inr (.inr (.inl 96))), (1, .inl a0), (2, .inl a1)] [] h1511 (qg_X9_goSecond h a0 a1) := by
                        intro n1509
                        induction n1509 with
                        | zero => intro h1511 x1513 m1515 m1516 m1517 m1518 m1519 m1520 m1521 hz; exact absurd hz (Nat.not_lt_zero _)
                        | succ n1509 ih1514 =>
                          intro h1511 x1513 hI fr fl1512 m1518 m1519 m1520 m1521 hz
                          have s1522 : (h1511.1 96 41).toInt = (h870.1 96 41).toInt := by rw [(fl1512 96 (by decide)).1]
                          have s1523 : (h1511.1 96 42).toInt = (h870.1 96 42).toInt := by rw [(fl1512 96 (by decide)).1]
                          have s1524 : (h1511.1 96 19).toInt = (h870.1 96 19).toInt := by rw [(fl1512 96 (by decide)).1]
                          have s1525 : (h1511.1 96 18).toInt = (h870.1 96 18).toInt := by rw [(fl1512 96 (by decide)).1]
                          have s1526 : (h1511.1 96 20).toInt = (h870.1 96 20).toInt := by rw [(fl1512 96 (by decide)).1]
                          have s1527 : (h1511.1 96 46).toInt = (h870.1 96 46).toInt := by rw [(fl1512 96 (by decide)).1]
                          have s1528 : (h1511.1 96 44).toInt = (h870.1 96 44).toInt := by rw [(fl1512 96 (by decide)).1]
                          have s1529 : (h1511.1 96 47).toInt = (h870.1 96 47).toInt := by rw [(fl1512 96 (by decide)).1]
                          have s1530 : (h1511.1 96 48).toInt = (h870.1 96 48).toInt := by rw [(fl1512 96 (by decide)).1]
                          have s1531 : (h1511.1 96 51).toInt = (h870.1 96 51).toInt := by rw [(fl1512 96 (by decide)).1]
                          have fl871 : FR [96, 107, 108, 109, 117, 118] h851 h1511 := fl871.trans fl1512 (by decide)
                          have fl829 : FR [96, 107, 108, 109, 117, 118] h812 h1511 := fl829.trans fl1512 (by decide)
                          have hE := m1521
                          have hK : kyOf h1511 = kyOf h1511 := rfl
                          refine R_iload_n (k := 3) rfl rfl rfl ?_
                          refine R_aload_n (k := 0) rfl rfl rfl ?_
                          refine R_getf_i (j := 18) rfl ft_9_253 sh_96 rfl ?_
                          refine N_icmp_ge (a := x1513.toInt) (b := (h1511.1 96 18).toInt) 224 rfl rfl rfl rfl (fun c1532 => ?_) (fun c1532 => ?_)
                          · have hF : kyOf h1511 = zSecond (evOf h) a0 a1 (kyOf h) := m1520.trans (by rw [show x1513 = (evOf h).2.2.2.2.1 from i_of _ (by omega)]; rfl)
                            exact R_vret rfl rfl ⟨hI, fr, ⟨by omega, by omega, by omega, by omega, by omega, by omega, by omega, by omega, by omega, by omega, hF, hE, trivial⟩, rfl⟩
                          · refine R_aload_n (k := 0) rfl rfl rfl ?_
                            refine R_getf_r (j := 22) rfl ft_9_46 sh_96 rfl ?_
                            refine R_aload_n (k := 0) rfl rfl rfl ?_
                            refine R_getf_r (j := 17) rfl ft_9_40 sh_96 rfl ?_
                            refine R_iload_n (k := 3) rfl rfl rfl ?_
                            refine R_iald rfl sh_105 ⟨by omega, by omega⟩ ?_
                            refine N_eq (fun x1533 e1534 => ?_)
                            have q1535 : 0 ≤ x1533.toInt ∧ x1533.toInt ≤ 5 := by rw [e1534]; exact hI.1 105 _
                            have e1536 : x1533 = (evOf h).2.2.2.1 x1513.toNatClampNeg := by rw [e1534]; exact congrFun (congrArg (fun q : EV => q.2.2.2.1) hE) _
                            refine R_iald rfl sh_107 ⟨by omega, by omega⟩ ?_
                            refine N_eq (fun x1537 e1538 => ?_)
                            have e1539 : x1537 = ((kyOf h1511).1) x1533.toNatClampNeg := by rw [e1538]; exact (ky_at107 (nlt ⟨by omega, by omega⟩)).trans (congrFun (congrArg (fun q : KY => q.1) hK) _)
                            refine R_iconst (-1) rfl rfl ?_
                            refine N_icmp_eq (a := x1537.toInt) (b := (-1)) 218 rfl rfl rfl (by decide) (fun c1540 => ?_) (fun c1540 => ?_)
                            · refine N_iinc (a := x1513.toInt) (c := 1) (fun w => [(3, .inl w), (0, .inr (.inr (.inl 96))), (1, .inl a0), (2, .inl a1)]) rfl rfl (fun _ => rfl) (by decide) rfl (by decide) (by omega) (fun x1541 q1542 => ?_)
                              refine R_goto 166 rfl rfl ?_
                              exact RUN_weak (psub_cons rfl (psub_cons rfl (psub_cons rfl (psub_cons rfl (psub_nil _))))) (ih1514 h1511 x1541 hI fr fl1512 (by omega) (by omega) (by rw [zHolds_s (x := x1513) (x' := x1541) (by omega) (by omega), ← m1520]; refine hK.trans ?_; subst e1539 e1536; simp only [zHold1, eLine] <;> (repeat' split) <;> first | (exfalso; omega) | rfl) (hE) (by omega))
                            · refine R_aload_n (k := 0) rfl rfl rfl ?_
                              refine R_aload_n (k := 0) rfl rfl rfl ?_
                              refine R_getf_r (j := 17) rfl ft_9_40 sh_96 rfl ?_
                              refine R_iload_n (k := 3) rfl rfl rfl ?_
                              refine R_iald rfl sh_105 ⟨by omega, by omega⟩ ?_
                              refine N_eq (fun x1543 e1544 => ?_)
                              have q1545 : 0 ≤ x1543.toInt ∧ x1543.toInt ≤ 5 := by rw [e1544]; exact hI.1 105 _
                              have e1546 : x1543 = (evOf h).2.2.2.1 x1513.toNatClampNeg := by rw [e1544]; exact congrFun (congrArg (fun q : EV => q.2.2.2.1) hE) _
                              refine R_iload_n (k := 1) rfl rfl rfl ?_
                              have b1547 := i_rng a0
                              refine R_callV (v := .inr (.inr (.inl 96))) (As := [.inl x1543, .inl a0]) (rest := []) rfl mt_9_i271 pp_X9_doesRest (by decide) rfl rfl rfl (Nat.le_of_ble_eq_true rfl) (Nat.le_of_ble_eq_true rfl) ((g_X9_doesRest h1511 hI x1543 a0 (by omega) (by omega)).mono (fun r1548 h1549 p1550 => ?_))
                              obtain ⟨rfl, x1552, rfl, (q1553 | q1553 | q1553), zq1551, -⟩ := p1550
                              · rw [hE] at zq1551
                                show RUN d_X9_goSecond 200 [(3, .inl x1513), (0, .inr (.inr (.inl 96))), (1, .inl a0), (2, .inl a1)] [.inl x1552] h1511 _
                                refine N_if_ne (a := x1552.toInt) 218 rfl rfl rfl (fun c1554 => ?_) (fun c1554 => ?_)
                                · exfalso; omega
                                · refine R_aload_n (k := 0) rfl rfl rfl ?_
                                  refine R_getf_r (j := 22) rfl ft_9_46 sh_96 rfl ?_
                                  refine R_aload_n (k := 0) rfl rfl rfl ?_
                                  refine R_getf_r (j := 17) rfl ft_9_40 sh_96 rfl ?_
                                  refine R_iload_n (k := 3) rfl rfl rfl ?_
                                  refine R_iald rfl sh_105 ⟨by omega, by omega⟩ ?_
                                  refine N_eq (fun x1555 e1556 => ?_)
                                  have q1557 : 0 ≤ x1555.toInt ∧ x1555.toInt ≤ 5 := by rw [e1556]; exact hI.1 105 _
                                  have e1558 : x1555 = (evOf h).2.2.2.1 x1513.toNatClampNeg := by rw [e1556]; exact congrFun (congrArg (fun q : EV => q.2.2.2.1) hE) _
                                  refine R_dup2 rfl ?_
                                  refine R_iald rfl sh_107 ⟨by omega, by omega⟩ ?_
                                  refine N_eq (fun x1559 e1560 => ?_)
                                  have e1561 : x1559 = ((kyOf h1511).1) x1555.toNatClampNeg := by rw [e1560]; exact (ky_at107 (nlt ⟨by omega, by omega⟩)).trans (congrFun (congrArg (fun q : KY => q.1) hK) _)
                                  refine R_iconst 1 rfl rfl ?_
                                  have b1562 := i_rng x1559
                                  refine R_iadd rfl ?_
                                  refine N_eq (fun x1563 e1564 => ?_)
                                  refine K_iast (a := x1555.toInt) (lo := (-2147483648)) (hi' := 2147483647) rfl sh_107 rfl ⟨by omega, by omega⟩ hI (by decide) rfl (i_rng _) fr (by decide) (fun h1565 g1566 hI fr => ?_)
                                  have fl1512 : FR [107] h870 h1565 := by rw [g1566]; exact FR_wI _ _ fl1512 (by decide)
                                  have fl871 : FR [96, 107, 108, 109, 117, 118] h851 h1565 := by rw [g1566]; exact FR_wI _ _ fl871 (by decide)
                                  have fl829 : FR [96, 107, 108, 109, 117, 118] h812 h1565 := by rw [g1566]; exact FR_wI _ _ fl829 (by decide)
                                  have s1567 : (h1565.1 96 41).toInt = (h1511.1 96 41).toInt := by rw [g1566, wI_ne _ _ _ (by decide)]
                                  have s1568 : (h1565.1 96 42).toInt = (h1511.1 96 42).toInt := by rw [g1566, wI_ne _ _ _ (by decide)]
                                  have s1569 : (h1565.1 96 19).toInt = (h1511.1 96 19).toInt := by rw [g1566, wI_ne _ _ _ (by decide)]
                                  have s1570 : (h1565.1 96 18).toInt = (h1511.1 96 18).toInt := by rw [g1566, wI_ne _ _ _ (by decide)]
                                  have s1571 : (h1565.1 96 20).toInt = (h1511.1 96 20).toInt := by rw [g1566, wI_ne _ _ _ (by decide)]
                                  have s1572 : (h1565.1 96 46).toInt = (h1511.1 96 46).toInt := by rw [g1566, wI_ne _ _ _ (by decide)]
                                  have s1573 : (h1565.1 96 44).toInt = (h1511.1 96 44).toInt := by rw [g1566, wI_ne _ _ _ (by decide)]
                                  have s1574 : (h1565.1 96 47).toInt = (h1511.1 96 47).toInt := by rw [g1566, wI_ne _ _ _ (by decide)]
                                  have s1575 : (h1565.1 96 48).toInt = (h1511.1 96 48).toInt := by rw [g1566, wI_ne _ _ _ (by decide)]
                                  have s1576 : (h1565.1 96 51).toInt = (h1511.1 96 51).toInt := by rw [g1566, wI_ne _ _ _ (by decide)]
                                  have hK : kyOf h1565 = (upd ((kyOf h1511).1) x1555.toNatClampNeg x1563, (kyOf h1511).2.1, (kyOf h1511).2.2.1, (kyOf h1511).2.2.2) := by rw [g1566, ky_107 (nlt ⟨by omega, by omega⟩), hK] <;> rfl
                                  have hE : evOf h1565 = evOf h := by rw [g1566, ev_o (by decide), hE]
                                  refine N_iinc (a := x1513.toInt) (c := 1) (fun w => [(3, .inl w), (0, .inr (.inr (.inl 96))), (1, .inl a0), (2, .inl a1)]) rfl rfl (fun _ => rfl) (by decide) rfl (by decide) (by omega) (fun x1577 q1578 => ?_)
                                  refine R_goto 166 rfl rfl ?_
                                  exact RUN_weak (psub_cons rfl (psub_cons rfl (psub_cons rfl (psub_cons rfl (psub_nil _))))) (ih1514 h1565 x1577 hI fr fl1512 (by omega) (by omega) (by rw [zHolds_s (x := x1513) (x' := x1577) (by omega) (by omega), ← m1520]; refine hK.trans ?_; subst e1564 e1561 e1558 e1546 e1539 e1536; simp only [zHold1, eLine] <;> (repeat' split) <;> first | (exfalso; omega) | rfl) (hE) (by omega))
                              · rw [hE] at zq1551
                                show RUN d_X9_goSecond 200 [(3, .inl x1513), (0, .inr (.inr (.inl 96))), (1, .inl a0), (2, .inl a1)] [.inl x1552] h1511 _
                                refine N_if_ne (a := x1552.toInt) 218 rfl rfl rfl (fun c1579 => ?_) (fun c1579 => ?_)
                                · exfalso; omega
                                · refine R_aload_n (k := 0) rfl rfl rfl ?_
                                  refine R_getf_r (j := 22) rfl ft_9_46 sh_96 rfl ?_
                                  refine R_aload_n (k := 0) rfl rfl rfl ?_
                                  refine R_getf_r (j := 17) rfl ft_9_40 sh_96 rfl ?_
                                  refine R_iload_n (k := 3) rfl rfl rfl ?_
                                  refine R_iald rfl sh_105 ⟨by omega, by omega⟩ ?_
                                  refine N_eq (fun x1580 e1581 => ?_)
                                  have q1582 : 0 ≤ x1580.toInt ∧ x1580.toInt ≤ 5 := by rw [e1581]; exact hI.1 105 _
                                  have e1583 : x1580 = (evOf h).2.2.2.1 x1513.toNatClampNeg := by rw [e1581]; exact congrFun (congrArg (fun q : EV => q.2.2.2.1) hE) _
                                  refine R_dup2 rfl ?_
                                  refine R_iald rfl sh_107 ⟨by omega, by omega⟩ ?_
                                  refine N_eq (fun x1584 e1585 => ?_)
                                  have e1586 : x1584 = ((kyOf h1511).1) x1580.toNatClampNeg := by rw [e1585]; exact (ky_at107 (nlt ⟨by omega, by omega⟩)).trans (congrFun (congrArg (fun q : KY => q.1) hK) _)
                                  refine R_iconst 1 rfl rfl ?_
                                  have b1587 := i_rng x1584
                                  refine R_iadd rfl ?_
                                  refine N_eq (fun x1588 e1589 => ?_)
                                  refine K_iast (a := x1580.toInt) (lo := (-2147483648)) (hi' := 2147483647) rfl sh_107 rfl ⟨by omega, by omega⟩ hI (by decide) rfl (i_rng _) fr (by decide) (fun h1590 g1591 hI fr => ?_)
                                  have fl1512 : FR [107] h870 h1590 := by rw [g1591]; exact FR_wI _ _ fl1512 (by decide)
                                  have fl871 : FR [96, 107, 108, 109, 117, 118] h851 h1590 := by rw [g1591]; exact FR_wI _ _ fl871 (by decide)
                                  have fl829 : FR [96, 107, 108, 109, 117, 118] h812 h1590 := by rw [g1591]; exact FR_wI _ _ fl829 (by decide)
                                  have s1592 : (h1590.1 96 41).toInt = (h1511.1 96 41).toInt := by rw [g1591, wI_ne _ _ _ (by decide)]
                                  have s1593 : (h1590.1 96 42).toInt = (h1511.1 96 42).toInt := by rw [g1591, wI_ne _ _ _ (by decide)]
                                  have s1594 : (h1590.1 96 19).toInt = (h1511.1 96 19).toInt := by rw [g1591, wI_ne _ _ _ (by decide)]
                                  have s1595 : (h1590.1 96 18).toInt = (h1511.1 96 18).toInt := by rw [g1591, wI_ne _ _ _ (by decide)]
                                  have s1596 : (h1590.1 96 20).toInt = (h1511.1 96 20).toInt := by rw [g1591, wI_ne _ _ _ (by decide)]
                                  have s1597 : (h1590.1 96 46).toInt = (h1511.1 96 46).toInt := by rw [g1591, wI_ne _ _ _ (by decide)]
                                  have s1598 : (h1590.1 96 44).toInt = (h1511.1 96 44).toInt := by rw [g1591, wI_ne _ _ _ (by decide)]
                                  have s1599 : (h1590.1 96 47).toInt = (h1511.1 96 47).toInt := by rw [g1591, wI_ne _ _ _ (by decide)]
                                  have s1600 : (h1590.1 96 48).toInt = (h1511.1 96 48).toInt := by rw [g1591, wI_ne _ _ _ (by decide)]
                                  have s1601 : (h1590.1 96 51).toInt = (h1511.1 96 51).toInt := by rw [g1591, wI_ne _ _ _ (by decide)]
                                  have hK : kyOf h1590 = (upd ((kyOf h1511).1) x1580.toNatClampNeg x1588, (kyOf h1511).2.1, (kyOf h1511).2.2.1, (kyOf h1511).2.2.2) := by rw [g1591, ky_107 (nlt ⟨by omega, by omega⟩), hK] <;> rfl
                                  have hE : evOf h1590 = evOf h := by rw [g1591, ev_o (by decide), hE]
                                  refine N_iinc (a := x1513.toInt) (c := 1) (fun w => [(3, .inl w), (0, .inr (.inr (.inl 96))), (1, .inl a0), (2, .inl a1)]) rfl rfl (fun _ => rfl) (by decide) rfl (by decide) (by omega) (fun x1602 q1603 => ?_)
                                  refine R_goto 166 rfl rfl ?_
                                  exact RUN_weak (psub_cons rfl (psub_cons rfl (psub_cons rfl (psub_cons rfl (psub_nil _))))) (ih1514 h1590 x1602 hI fr fl1512 (by omega) (by omega) (by rw [zHolds_s (x := x1513) (x' := x1602) (by omega) (by omega), ← m1520]; refine hK.trans ?_; subst e1589 e1586 e1583 e1546 e1539 e1536; simp only [zHold1, eLine] <;> (repeat' split) <;> first | (exfalso; omega) | rfl) (hE) (by omega))
                              · rw [hE] at zq1551
                                show RUN d_X9_goSecond 200 [(3, .inl x1513), (0, .inr (.inr (.inl 96))), (1, .inl a0), (2, .inl a1)] [.inl x1552] h1511 _
                                refine N_if_ne (a := x1552.toInt) 218 rfl rfl rfl (fun c1604 => ?_) (fun c1604 => ?_)
                                · refine N_iinc (a := x1513.toInt) (c := 1) (fun w => [(3, .inl w), (0, .inr (.inr (.inl 96))), (1, .inl a0), (2, .inl a1)]) rfl rfl (fun _ => rfl) (by decide) rfl (by decide) (by omega) (fun x1605 q1606 => ?_)
                                  refine R_goto 166 rfl rfl ?_
                                  exact RUN_weak (psub_cons rfl (psub_cons rfl (psub_cons rfl (psub_cons rfl (psub_nil _))))) (ih1514 h1511 x1605 hI fr fl1512 (by omega) (by omega) (by rw [zHolds_s (x := x1513) (x' := x1605) (by omega) (by omega), ← m1520]; refine hK.trans ?_; subst e1546 e1539 e1536; simp only [zHold1, eLine] <;> (repeat' split) <;> first | (exfalso; omega) | rfl) (hE) (by omega))
                                · exfalso; omega
                      have k1607 : (0 : Int32).toInt = 0 := by decide
                      exact lp1510 _ h870 (0 : Int32) hI fr (FR.rf _ _) (by decide) (by omega) (by rw [hK]; rfl) (hE) (Nat.lt_succ_self _)
                    · refine R_aload_n (k := 0) rfl rfl rfl ?_
                      refine R_aload_n (k := 0) rfl rfl rfl ?_
                      refine R_getf_r (j := 17) rfl ft_9_40 sh_96 rfl ?_
                      refine R_iconst 0 rfl rfl ?_
                      refine R_iald rfl sh_105 (by decide) ?_
                      refine N_eq (fun x1608 e1609 => ?_)
                      have q1610 : 0 ≤ x1608.toInt ∧ x1608.toInt ≤ 5 := by rw [e1609]; exact hI.1 105 _
                      have e1611 : x1608 = (evOf h).2.2.2.1 (0 : Int32).toNatClampNeg := by rw [e1609]; exact congrFun (congrArg (fun q : EV => q.2.2.2.1) hE) _
                      refine R_iload_n (k := 1) rfl rfl rfl ?_
                      have b1612 := i_rng a0
                      refine R_callV (v := .inr (.inr (.inl 96))) (As := [.inl x1608, .inl a0]) (rest := []) rfl mt_9_i271 pp_X9_doesRest (by decide) rfl rfl rfl (Nat.le_of_ble_eq_true rfl) (Nat.le_of_ble_eq_true rfl) ((g_X9_doesRest h870 hI x1608 a0 (by omega) (by omega)).mono (fun r1613 h1614 p1615 => ?_))
                      obtain ⟨rfl, x1617, rfl, (q1618 | q1618 | q1618), zq1616, -⟩ := p1615
                      · rw [hE] at zq1616
                        show RUN d_X9_goSecond 115 [(3, .inl x872), (0, .inr (.inr (.inl 96))), (1, .inl a0), (2, .inl a1)] [.inl x1617] h870 _
                        refine N_if_ne (a := x1617.toInt) 164 rfl rfl rfl (fun c1619 => ?_) (fun c1619 => ?_)
                        · exfalso; omega
                        · refine R_aload_n (k := 0) rfl rfl rfl ?_
                          refine R_getf_r (j := 24) rfl ft_9_52 sh_96 rfl ?_
                          refine R_iconst 0 rfl rfl ?_
                          refine R_iald rfl sh_109 (by decide) ?_
                          refine N_eq (fun x1620 e1621 => ?_)
                          have e1622 : x1620 = ((zMid (evOf h) a0 a1 (kyOf h)).2.2.1) (0 : Int32).toNatClampNeg := by rw [e1621]; exact (ky_at109 (by decide)).trans (congrFun (congrArg (fun q : KY => q.2.2.1) hK) _)
                          refine N_if_le (a := x1620.toInt) 164 rfl rfl rfl (fun c1623 => ?_) (fun c1623 => ?_)
                          · have hK : kyOf h870 = zTake (evOf h) a0 (zMid (evOf h) a0 a1 (kyOf h)) := by
                              refine hK.trans ?_
                              subst e1622 e1611 e1507 e1504
                              simp only [zTake, zTake1, eMany, eLine, eFull] <;> (repeat' split) <;> first | (exfalso; omega) | rfl
                            refine R_iconst 0 rfl rfl ?_
                            refine R_istore_n (k := 3) rfl [(3, .inl 0), (0, .inr (.inr (.inl 96))), (1, .inl a0), (2, .inl a1)] rfl rfl (by decide) ?_
                            have lp1625 : ∀ (n1624 : Nat) (h1626 : PH) (x1628 : Int32), INV h1626 → FR [96, 107, 108, 109, 117, 118] h h1626 → FR [107] h870 h1626 → 0 ≤ x1628.toInt ∧ x1628.toInt ≤ 6 → x1628.toInt ≤ (h870.1 96 18).toInt + 0 → (kyOf h1626 = zHolds (evOf h) a0 x1628.toNatClampNeg (zTake (evOf h) a0 (zMid (evOf h) a0 a1 (kyOf h)))) → (evOf h1626 = evOf h) → (6 - x1628.toInt).toNat < n1624 → RUN d_X9_goSecond 166 [(3, .inl x1628), (0, .inr (.inr (.inl 96))), (1, .inl a0), (2, .inl a1)] [] h1626 (qg_X9_goSecond h a0 a1) := by
                              intro n1624
                              induction n1624 with
                              | zero => intro h1626 x1628 m1630 m1631 m1632 m1633 m1634 m1635 m1636 hz; exact absurd hz (Nat.not_lt_zero _)
                              | succ n1624 ih1629 =>
                                intro h1626 x1628 hI fr fl1627 m1633 m1634 m1635 m1636 hz
                                have s1637 : (h1626.1 96 41).toInt = (h870.1 96 41).toInt := by rw [(fl1627 96 (by decide)).1]
                                have s1638 : (h1626.1 96 42).toInt = (h870.1 96 42).toInt := by rw [(fl1627 96 (by decide)).1]
                                have s1639 : (h1626.1 96 19).toInt = (h870.1 96 19).toInt := by rw [(fl1627 96 (by decide)).1]
                                have s1640 : (h1626.1 96 18).toInt = (h870.1 96 18).toInt := by rw [(fl1627 96 (by decide)).1]
                                have s1641 : (h1626.1 96 20).toInt = (h870.1 96 20).toInt := by rw [(fl1627 96 (by decide)).1]
                                have s1642 : (h1626.1 96 46).toInt = (h870.1 96 46).toInt := by rw [(fl1627 96 (by decide)).1]
                                have s1643 : (h1626.1 96 44).toInt = (h870.1 96 44).toInt := by rw [(fl1627 96 (by decide)).1]
                                have s1644 : (h1626.1 96 47).toInt = (h870.1 96 47).toInt := by rw [(fl1627 96 (by decide)).1]
                                have s1645 : (h1626.1 96 48).toInt = (h870.1 96 48).toInt := by rw [(fl1627 96 (by decide)).1]
                                have s1646 : (h1626.1 96 51).toInt = (h870.1 96 51).toInt := by rw [(fl1627 96 (by decide)).1]
                                have fl871 : FR [96, 107, 108, 109, 117, 118] h851 h1626 := fl871.trans fl1627 (by decide)
                                have fl829 : FR [96, 107, 108, 109, 117, 118] h812 h1626 := fl829.trans fl1627 (by decide)
                                have hE := m1636
                                have hK : kyOf h1626 = kyOf h1626 := rfl
                                refine R_iload_n (k := 3) rfl rfl rfl ?_
                                refine R_aload_n (k := 0) rfl rfl rfl ?_
                                refine R_getf_i (j := 18) rfl ft_9_253 sh_96 rfl ?_
                                refine N_icmp_ge (a := x1628.toInt) (b := (h1626.1 96 18).toInt) 224 rfl rfl rfl rfl (fun c1647 => ?_) (fun c1647 => ?_)
                                · have hF : kyOf h1626 = zSecond (evOf h) a0 a1 (kyOf h) := m1635.trans (by rw [show x1628 = (evOf h).2.2.2.2.1 from i_of _ (by omega)]; rfl)
                                  exact R_vret rfl rfl ⟨hI, fr, ⟨by omega, by omega, by omega, by omega, by omega, by omega, by omega, by omega, by omega, by omega, hF, hE, trivial⟩, rfl⟩
                                · refine R_aload_n (k := 0) rfl rfl rfl ?_
                                  refine R_getf_r (j := 22) rfl ft_9_46 sh_96 rfl ?_
                                  refine R_aload_n (k := 0) rfl rfl rfl ?_
                                  refine R_getf_r (j := 17) rfl ft_9_40 sh_96 rfl ?_
                                  refine R_iload_n (k := 3) rfl rfl rfl ?_
                                  refine R_iald rfl sh_105 ⟨by omega, by omega⟩ ?_
                                  refine N_eq (fun x1648 e1649 => ?_)
                                  have q1650 : 0 ≤ x1648.toInt ∧ x1648.toInt ≤ 5 := by rw [e1649]; exact hI.1 105 _
                                  have e1651 : x1648 = (evOf h).2.2.2.1 x1628.toNatClampNeg := by rw [e1649]; exact congrFun (congrArg (fun q : EV => q.2.2.2.1) hE) _
                                  refine R_iald rfl sh_107 ⟨by omega, by omega⟩ ?_
                                  refine N_eq (fun x1652 e1653 => ?_)
                                  have e1654 : x1652 = ((kyOf h1626).1) x1648.toNatClampNeg := by rw [e1653]; exact (ky_at107 (nlt ⟨by omega, by omega⟩)).trans (congrFun (congrArg (fun q : KY => q.1) hK) _)
                                  refine R_iconst (-1) rfl rfl ?_
                                  refine N_icmp_eq (a := x1652.toInt) (b := (-1)) 218 rfl rfl rfl (by decide) (fun c1655 => ?_) (fun c1655 => ?_)
                                  · refine N_iinc (a := x1628.toInt) (c := 1) (fun w => [(3, .inl w), (0, .inr (.inr (.inl 96))), (1, .inl a0), (2, .inl a1)]) rfl rfl (fun _ => rfl) (by decide) rfl (by decide) (by omega) (fun x1656 q1657 => ?_)
                                    refine R_goto 166 rfl rfl ?_
                                    exact RUN_weak (psub_cons rfl (psub_cons rfl (psub_cons rfl (psub_cons rfl (psub_nil _))))) (ih1629 h1626 x1656 hI fr fl1627 (by omega) (by omega) (by rw [zHolds_s (x := x1628) (x' := x1656) (by omega) (by omega), ← m1635]; refine hK.trans ?_; subst e1654 e1651; simp only [zHold1, eLine] <;> (repeat' split) <;> first | (exfalso; omega) | rfl) (hE) (by omega))
                                  · refine R_aload_n (k := 0) rfl rfl rfl ?_
                                    refine R_aload_n (k := 0) rfl rfl rfl ?_
                                    refine R_getf_r (j := 17) rfl ft_9_40 sh_96 rfl ?_
                                    refine R_iload_n (k := 3) rfl rfl rfl ?_
                                    refine R_iald rfl sh_105 ⟨by omega, by omega⟩ ?_
                                    refine N_eq (fun x1658 e1659 => ?_)
                                    have q1660 : 0 ≤ x1658.toInt ∧ x1658.toInt ≤ 5 := by rw [e1659]; exact hI.1 105 _
                                    have e1661 : x1658 = (evOf h).2.2.2.1 x1628.toNatClampNeg := by rw [e1659]; exact congrFun (congrArg (fun q : EV => q.2.2.2.1) hE) _
                                    refine R_iload_n (k := 1) rfl rfl rfl ?_
                                    have b1662 := i_rng a0
                                    refine R_callV (v := .inr (.inr (.inl 96))) (As := [.inl x1658, .inl a0]) (rest := []) rfl mt_9_i271 pp_X9_doesRest (by decide) rfl rfl rfl (Nat.le_of_ble_eq_true rfl) (Nat.le_of_ble_eq_true rfl) ((g_X9_doesRest h1626 hI x1658 a0 (by omega) (by omega)).mono (fun r1663 h1664 p1665 => ?_))
                                    obtain ⟨rfl, x1667, rfl, (q1668 | q1668 | q1668), zq1666, -⟩ := p1665
                                    · rw [hE] at zq1666
                                      show RUN d_X9_goSecond 200 [(3, .inl x1628), (0, .inr (.inr (.inl 96))), (1, .inl a0), (2, .inl a1)] [.inl x1667] h1626 _
                                      refine N_if_ne (a := x1667.toInt) 218 rfl rfl rfl (fun c1669 => ?_) (fun c1669 => ?_)
                                      · exfalso; omega
                                      · refine R_aload_n (k := 0) rfl rfl rfl ?_
                                        refine R_getf_r (j := 22) rfl ft_9_46 sh_96 rfl ?_
                                        refine R_aload_n (k := 0) rfl rfl rfl ?_
                                        refine R_getf_r (j := 17) rfl ft_9_40 sh_96 rfl ?_
                                        refine R_iload_n (k := 3) rfl rfl rfl ?_
                                        refine R_iald rfl sh_105 ⟨by omega, by omega⟩ ?_
                                        refine N_eq (fun x1670 e1671 => ?_)
                                        have q1672 : 0 ≤ x1670.toInt ∧ x1670.toInt ≤ 5 := by rw [e1671]; exact hI.1 105 _
                                        have e1673 : x1670 = (evOf h).2.2.2.1 x1628.toNatClampNeg := by rw [e1671]; exact congrFun (congrArg (fun q : EV => q.2.2.2.1) hE) _
                                        refine R_dup2 rfl ?_
                                        refine R_iald rfl sh_107 ⟨by omega, by omega⟩ ?_
                                        refine N_eq (fun x1674 e1675 => ?_)
                                        have e1676 : x1674 = ((kyOf h1626).1) x1670.toNatClampNeg := by rw [e1675]; exact (ky_at107 (nlt ⟨by omega, by omega⟩)).trans (congrFun (congrArg (fun q : KY => q.1) hK) _)
                                        refine R_iconst 1 rfl rfl ?_
                                        have b1677 := i_rng x1674
                                        refine R_iadd rfl ?_
                                        refine N_eq (fun x1678 e1679 => ?_)
                                        refine K_iast (a := x1670.toInt) (lo := (-2147483648)) (hi' := 2147483647) rfl sh_107 rfl ⟨by omega, by omega⟩ hI (by decide) rfl (i_rng _) fr (by decide) (fun h1680 g1681 hI fr => ?_)
                                        have fl1627 : FR [107] h870 h1680 := by rw [g1681]; exact FR_wI _ _ fl1627 (by decide)
                                        have fl871 : FR [96, 107, 108, 109, 117, 118] h851 h1680 := by rw [g1681]; exact FR_wI _ _ fl871 (by decide)
                                        have fl829 : FR [96, 107, 108, 109, 117, 118] h812 h1680 := by rw [g1681]; exact FR_wI _ _ fl829 (by decide)
                                        have s1682 : (h1680.1 96 41).toInt = (h1626.1 96 41).toInt := by rw [g1681, wI_ne _ _ _ (by decide)]
                                        have s1683 : (h1680.1 96 42).toInt = (h1626.1 96 42).toInt := by rw [g1681, wI_ne _ _ _ (by decide)]
                                        have s1684 : (h1680.1 96 19).toInt = (h1626.1 96 19).toInt := by rw [g1681, wI_ne _ _ _ (by decide)]
                                        have s1685 : (h1680.1 96 18).toInt = (h1626.1 96 18).toInt := by rw [g1681, wI_ne _ _ _ (by decide)]
                                        have s1686 : (h1680.1 96 20).toInt = (h1626.1 96 20).toInt := by rw [g1681, wI_ne _ _ _ (by decide)]
                                        have s1687 : (h1680.1 96 46).toInt = (h1626.1 96 46).toInt := by rw [g1681, wI_ne _ _ _ (by decide)]
                                        have s1688 : (h1680.1 96 44).toInt = (h1626.1 96 44).toInt := by rw [g1681, wI_ne _ _ _ (by decide)]
                                        have s1689 : (h1680.1 96 47).toInt = (h1626.1 96 47).toInt := by rw [g1681, wI_ne _ _ _ (by decide)]
                                        have s1690 : (h1680.1 96 48).toInt = (h1626.1 96 48).toInt := by rw [g1681, wI_ne _ _ _ (by decide)]
                                        have s1691 : (h1680.1 96 51).toInt = (h1626.1 96 51).toInt := by rw [g1681, wI_ne _ _ _ (by decide)]
                                        have hK : kyOf h1680 = (upd ((kyOf h1626).1) x1670.toNatClampNeg x1678, (kyOf h1626).2.1, (kyOf h1626).2.2.1, (kyOf h1626).2.2.2) := by rw [g1681, ky_107 (nlt ⟨by omega, by omega⟩), hK] <;> rfl
                                        have hE : evOf h1680 = evOf h := by rw [g1681, ev_o (by decide), hE]
                                        refine N_iinc (a := x1628.toInt) (c := 1) (fun w => [(3, .inl w), (0, .inr (.inr (.inl 96))), (1, .inl a0), (2, .inl a1)]) rfl rfl (fun _ => rfl) (by decide) rfl (by decide) (by omega) (fun x1692 q1693 => ?_)
                                        refine R_goto 166 rfl rfl ?_
                                        exact RUN_weak (psub_cons rfl (psub_cons rfl (psub_cons rfl (psub_cons rfl (psub_nil _))))) (ih1629 h1680 x1692 hI fr fl1627 (by omega) (by omega) (by rw [zHolds_s (x := x1628) (x' := x1692) (by omega) (by omega), ← m1635]; refine hK.trans ?_; subst e1679 e1676 e1673 e1661 e1654 e1651; simp only [zHold1, eLine] <;> (repeat' split) <;> first | (exfalso; omega) | rfl) (hE) (by omega))
                                    · rw [hE] at zq1666
                                      exfalso; omega
                                    · rw [hE] at zq1666
                                      exfalso; omega
                            have k1694 : (0 : Int32).toInt = 0 := by decide
                            exact lp1625 _ h870 (0 : Int32) hI fr (FR.rf _ _) (by decide) (by omega) (by rw [hK]; rfl) (hE) (Nat.lt_succ_self _)
                          · refine R_aload_n (k := 0) rfl rfl rfl ?_
                            refine R_getf_r (j := 24) rfl ft_9_52 sh_96 rfl ?_
                            refine R_iconst 0 rfl rfl ?_
                            refine R_dup2 rfl ?_
                            refine R_iald rfl sh_109 (by decide) ?_
                            refine N_eq (fun x1695 e1696 => ?_)
                            have e1697 : x1695 = ((zMid (evOf h) a0 a1 (kyOf h)).2.2.1) (0 : Int32).toNatClampNeg := by rw [e1696]; exact (ky_at109 (by decide)).trans (congrFun (congrArg (fun q : KY => q.2.2.1) hK) _)
                            refine R_iconst 1 rfl rfl ?_
                            have b1698 := i_rng x1695
                            refine R_isub rfl ?_
                            refine N_eq (fun x1699 e1700 => ?_)
                            refine K_iast (a := 0) (lo := (-2147483648)) (hi' := 2147483647) rfl sh_109 (by decide) (by decide) hI (by decide) rfl (i_rng _) fr (by decide) (fun h1701 g1702 hI fr => ?_)
                            have fl871 : FR [96, 107, 108, 109, 117, 118] h851 h1701 := by rw [g1702]; exact FR_wI _ _ fl871 (by decide)
                            have fl829 : FR [96, 107, 108, 109, 117, 118] h812 h1701 := by rw [g1702]; exact FR_wI _ _ fl829 (by decide)
                            have s1703 : (h1701.1 96 41).toInt = (h870.1 96 41).toInt := by rw [g1702, wI_ne _ _ _ (by decide)]
                            have s1704 : (h1701.1 96 42).toInt = (h870.1 96 42).toInt := by rw [g1702, wI_ne _ _ _ (by decide)]
                            have s1705 : (h1701.1 96 19).toInt = (h870.1 96 19).toInt := by rw [g1702, wI_ne _ _ _ (by decide)]
                            have s1706 : (h1701.1 96 18).toInt = (h870.1 96 18).toInt := by rw [g1702, wI_ne _ _ _ (by decide)]
                            have s1707 : (h1701.1 96 20).toInt = (h870.1 96 20).toInt := by rw [g1702, wI_ne _ _ _ (by decide)]
                            have s1708 : (h1701.1 96 46).toInt = (h870.1 96 46).toInt := by rw [g1702, wI_ne _ _ _ (by decide)]
                            have s1709 : (h1701.1 96 44).toInt = (h870.1 96 44).toInt := by rw [g1702, wI_ne _ _ _ (by decide)]
                            have s1710 : (h1701.1 96 47).toInt = (h870.1 96 47).toInt := by rw [g1702, wI_ne _ _ _ (by decide)]
                            have s1711 : (h1701.1 96 48).toInt = (h870.1 96 48).toInt := by rw [g1702, wI_ne _ _ _ (by decide)]
                            have s1712 : (h1701.1 96 51).toInt = (h870.1 96 51).toInt := by rw [g1702, wI_ne _ _ _ (by decide)]
                            have hK : kyOf h1701 = ((zMid (evOf h) a0 a1 (kyOf h)).1, (zMid (evOf h) a0 a1 (kyOf h)).2.1, upd ((zMid (evOf h) a0 a1 (kyOf h)).2.2.1) (0 : Int32).toNatClampNeg x1699, (zMid (evOf h) a0 a1 (kyOf h)).2.2.2) := by rw [g1702, ky_109 (by decide), hK] <;> rfl
                            have hE : evOf h1701 = evOf h := by rw [g1702, ev_o (by decide), hE]
                            refine R_aload_n (k := 0) rfl rfl rfl ?_
                            refine R_getf_r (j := 22) rfl ft_9_46 sh_96 rfl ?_
                            refine R_aload_n (k := 0) rfl rfl rfl ?_
                            refine R_getf_r (j := 17) rfl ft_9_40 sh_96 rfl ?_
                            refine R_iconst 0 rfl rfl ?_
                            refine R_iald rfl sh_105 (by decide) ?_
                            refine N_eq (fun x1713 e1714 => ?_)
                            have q1715 : 0 ≤ x1713.toInt ∧ x1713.toInt ≤ 5 := by rw [e1714]; exact hI.1 105 _
                            have e1716 : x1713 = (evOf h).2.2.2.1 (0 : Int32).toNatClampNeg := by rw [e1714]; exact congrFun (congrArg (fun q : EV => q.2.2.2.1) hE) _
                            refine R_iconst 0 rfl rfl ?_
                            refine K_iast (a := x1713.toInt) (lo := (-2147483648)) (hi' := 2147483647) rfl sh_107 rfl ⟨by omega, by omega⟩ hI (by decide) rfl (by decide) fr (by decide) (fun h1717 g1718 hI fr => ?_)
                            have fl871 : FR [96, 107, 108, 109, 117, 118] h851 h1717 := by rw [g1718]; exact FR_wI _ _ fl871 (by decide)
                            have fl829 : FR [96, 107, 108, 109, 117, 118] h812 h1717 := by rw [g1718]; exact FR_wI _ _ fl829 (by decide)
                            have s1719 : (h1717.1 96 41).toInt = (h1701.1 96 41).toInt := by rw [g1718, wI_ne _ _ _ (by decide)]
                            have s1720 : (h1717.1 96 42).toInt = (h1701.1 96 42).toInt := by rw [g1718, wI_ne _ _ _ (by decide)]
                            have s1721 : (h1717.1 96 19).toInt = (h1701.1 96 19).toInt := by rw [g1718, wI_ne _ _ _ (by decide)]
                            have s1722 : (h1717.1 96 18).toInt = (h1701.1 96 18).toInt := by rw [g1718, wI_ne _ _ _ (by decide)]
                            have s1723 : (h1717.1 96 20).toInt = (h1701.1 96 20).toInt := by rw [g1718, wI_ne _ _ _ (by decide)]
                            have s1724 : (h1717.1 96 46).toInt = (h1701.1 96 46).toInt := by rw [g1718, wI_ne _ _ _ (by decide)]
                            have s1725 : (h1717.1 96 44).toInt = (h1701.1 96 44).toInt := by rw [g1718, wI_ne _ _ _ (by decide)]
                            have s1726 : (h1717.1 96 47).toInt = (h1701.1 96 47).toInt := by rw [g1718, wI_ne _ _ _ (by decide)]
                            have s1727 : (h1717.1 96 48).toInt = (h1701.1 96 48).toInt := by rw [g1718, wI_ne _ _ _ (by decide)]
                            have s1728 : (h1717.1 96 51).toInt = (h1701.1 96 51).toInt := by rw [g1718, wI_ne _ _ _ (by decide)]
                            have hK : kyOf h1717 = (upd ((zMid (evOf h) a0 a1 (kyOf h)).1) x1713.toNatClampNeg (0), (zMid (evOf h) a0 a1 (kyOf h)).2.1, upd ((zMid (evOf h) a0 a1 (kyOf h)).2.2.1) (0 : Int32).toNatClampNeg x1699, (zMid (evOf h) a0 a1 (kyOf h)).2.2.2) := by rw [g1718, ky_107 (nlt ⟨by omega, by omega⟩), hK] <;> rfl
                            have hE : evOf h1717 = evOf h := by rw [g1718, ev_o (by decide), hE]
                            refine R_aload_n (k := 0) rfl rfl rfl ?_
                            refine R_getf_r (j := 23) rfl ft_9_49 sh_96 rfl ?_
                            refine R_aload_n (k := 0) rfl rfl rfl ?_
                            refine R_getf_r (j := 17) rfl ft_9_40 sh_96 rfl ?_
                            refine R_iconst 0 rfl rfl ?_
                            refine R_iald rfl sh_105 (by decide) ?_
                            refine N_eq (fun x1729 e1730 => ?_)
                            have q1731 : 0 ≤ x1729.toInt ∧ x1729.toInt ≤ 5 := by rw [e1730]; exact hI.1 105 _
                            have e1732 : x1729 = (evOf h).2.2.2.1 (0 : Int32).toNatClampNeg := by rw [e1730]; exact congrFun (congrArg (fun q : EV => q.2.2.2.1) hE) _
                            refine R_aload_n (k := 0) rfl rfl rfl ?_
                            refine R_getf_i (j := 20) rfl ft_9_259 sh_96 rfl ?_
                            refine N_eq (fun x1733 e1734 => ?_)
                            have e1735 : x1733 = (evOf h).2.2.2.2.2.1 := by rw [e1734]; exact congrArg (fun q : EV => q.2.2.2.2.2.1) hE
                            refine K_iast (a := x1729.toInt) (lo := (-2147483648)) (hi' := 2147483647) rfl sh_108 rfl ⟨by omega, by omega⟩ hI (by decide) rfl (i_rng _) fr (by decide) (fun h1736 g1737 hI fr => ?_)
                            have fl871 : FR [96, 107, 108, 109, 117, 118] h851 h1736 := by rw [g1737]; exact FR_wI _ _ fl871 (by decide)
                            have fl829 : FR [96, 107, 108, 109, 117, 118] h812 h1736 := by rw [g1737]; exact FR_wI _ _ fl829 (by decide)
                            have s1738 : (h1736.1 96 41).toInt = (h1717.1 96 41).toInt := by rw [g1737, wI_ne _ _ _ (by decide)]
                            have s1739 : (h1736.1 96 42).toInt = (h1717.1 96 42).toInt := by rw [g1737, wI_ne _ _ _ (by decide)]
                            have s1740 : (h1736.1 96 19).toInt = (h1717.1 96 19).toInt := by rw [g1737, wI_ne _ _ _ (by decide)]
                            have s1741 : (h1736.1 96 18).toInt = (h1717.1 96 18).toInt := by rw [g1737, wI_ne _ _ _ (by decide)]
                            have s1742 : (h1736.1 96 20).toInt = (h1717.1 96 20).toInt := by rw [g1737, wI_ne _ _ _ (by decide)]
                            have s1743 : (h1736.1 96 46).toInt = (h1717.1 96 46).toInt := by rw [g1737, wI_ne _ _ _ (by decide)]
                            have s1744 : (h1736.1 96 44).toInt = (h1717.1 96 44).toInt := by rw [g1737, wI_ne _ _ _ (by decide)]
                            have s1745 : (h1736.1 96 47).toInt = (h1717.1 96 47).toInt := by rw [g1737, wI_ne _ _ _ (by decide)]
                            have s1746 : (h1736.1 96 48).toInt = (h1717.1 96 48).toInt := by rw [g1737, wI_ne _ _ _ (by decide)]
                            have s1747 : (h1736.1 96 51).toInt = (h1717.1 96 51).toInt := by rw [g1737, wI_ne _ _ _ (by decide)]
                            have hK : kyOf h1736 = (upd ((zMid (evOf h) a0 a1 (kyOf h)).1) x1713.toNatClampNeg (0), upd ((zMid (evOf h) a0 a1 (kyOf h)).2.1) x1729.toNatClampNeg x1733, upd ((zMid (evOf h) a0 a1 (kyOf h)).2.2.1) (0 : Int32).toNatClampNeg x1699, (zMid (evOf h) a0 a1 (kyOf h)).2.2.2) := by rw [g1737, ky_108 (nlt ⟨by omega, by omega⟩), hK] <;> rfl
                            have hE : evOf h1736 = evOf h := by rw [g1737, ev_o (by decide), hE]
                            have hK : kyOf h1736 = zTake (evOf h) a0 (zMid (evOf h) a0 a1 (kyOf h)) := by
                              refine hK.trans ?_
                              subst e1735 e1732 e1716 e1700 e1697 e1622 e1611 e1507 e1504
                              simp only [zTake, zTake1, eMany, eLine, eFull] <;> (repeat' split) <;> first | (exfalso; omega) | rfl
                            refine R_iconst 0 rfl rfl ?_
                            refine R_istore_n (k := 3) rfl [(3, .inl 0), (0, .inr (.inr (.inl 96))), (1, .inl a0), (2, .inl a1)] rfl rfl (by decide) ?_
                            have lp1749 : ∀ (n1748 : Nat) (h1750 : PH) (x1752 : Int32), INV h1750 → FR [96, 107, 108, 109, 117, 118] h h1750 → FR [107] h1736 h1750 → 0 ≤ x1752.toInt ∧ x1752.toInt ≤ 6 → x1752.toInt ≤ (h1736.1 96 18).toInt + 0 → (kyOf h1750 = zHolds (evOf h) a0 x1752.toNatClampNeg (zTake (evOf h) a0 (zMid (evOf h) a0 a1 (kyOf h)))) → (evOf h1750 = evOf h) → (6 - x1752.toInt).toNat < n1748 → RUN d_X9_goSecond 166 [(3, .inl x1752), (0, .inr (.inr (.inl 96))), (1, .inl a0), (2, .inl a1)] [] h1750 (qg_X9_goSecond h a0 a1) := by
                              intro n1748
                              induction n1748 with
                              | zero => intro h1750 x1752 m1754 m1755 m1756 m1757 m1758 m1759 m1760 hz; exact absurd hz (Nat.not_lt_zero _)
                              | succ n1748 ih1753 =>
                                intro h1750 x1752 hI fr fl1751 m1757 m1758 m1759 m1760 hz
                                have s1761 : (h1750.1 96 41).toInt = (h1736.1 96 41).toInt := by rw [(fl1751 96 (by decide)).1]
                                have s1762 : (h1750.1 96 42).toInt = (h1736.1 96 42).toInt := by rw [(fl1751 96 (by decide)).1]
                                have s1763 : (h1750.1 96 19).toInt = (h1736.1 96 19).toInt := by rw [(fl1751 96 (by decide)).1]
                                have s1764 : (h1750.1 96 18).toInt = (h1736.1 96 18).toInt := by rw [(fl1751 96 (by decide)).1]
                                have s1765 : (h1750.1 96 20).toInt = (h1736.1 96 20).toInt := by rw [(fl1751 96 (by decide)).1]
                                have s1766 : (h1750.1 96 46).toInt = (h1736.1 96 46).toInt := by rw [(fl1751 96 (by decide)).1]
                                have s1767 : (h1750.1 96 44).toInt = (h1736.1 96 44).toInt := by rw [(fl1751 96 (by decide)).1]
                                have s1768 : (h1750.1 96 47).toInt = (h1736.1 96 47).toInt := by rw [(fl1751 96 (by decide)).1]
                                have s1769 : (h1750.1 96 48).toInt = (h1736.1 96 48).toInt := by rw [(fl1751 96 (by decide)).1]
                                have s1770 : (h1750.1 96 51).toInt = (h1736.1 96 51).toInt := by rw [(fl1751 96 (by decide)).1]
                                have fl871 : FR [96, 107, 108, 109, 117, 118] h851 h1750 := fl871.trans fl1751 (by decide)
                                have fl829 : FR [96, 107, 108, 109, 117, 118] h812 h1750 := fl829.trans fl1751 (by decide)
                                have hE := m1760
                                have hK : kyOf h1750 = kyOf h1750 := rfl
                                refine R_iload_n (k := 3) rfl rfl rfl ?_
                                refine R_aload_n (k := 0) rfl rfl rfl ?_
                                refine R_getf_i (j := 18) rfl ft_9_253 sh_96 rfl ?_
                                refine N_icmp_ge (a := x1752.toInt) (b := (h1750.1 96 18).toInt) 224 rfl rfl rfl rfl (fun c1771 => ?_) (fun c1771 => ?_)
                                · have hF : kyOf h1750 = zSecond (evOf h) a0 a1 (kyOf h) := m1759.trans (by rw [show x1752 = (evOf h).2.2.2.2.1 from i_of _ (by omega)]; rfl)
                                  exact R_vret rfl rfl ⟨hI, fr, ⟨by omega, by omega, by omega, by omega, by omega, by omega, by omega, by omega, by omega, by omega, hF, hE, trivial⟩, rfl⟩
                                · refine R_aload_n (k := 0) rfl rfl rfl ?_
                                  refine R_getf_r (j := 22) rfl ft_9_46 sh_96 rfl ?_
                                  refine R_aload_n (k := 0) rfl rfl rfl ?_
                                  refine R_getf_r (j := 17) rfl ft_9_40 sh_96 rfl ?_
                                  refine R_iload_n (k := 3) rfl rfl rfl ?_
                                  refine R_iald rfl sh_105 ⟨by omega, by omega⟩ ?_
                                  refine N_eq (fun x1772 e1773 => ?_)
                                  have q1774 : 0 ≤ x1772.toInt ∧ x1772.toInt ≤ 5 := by rw [e1773]; exact hI.1 105 _
                                  have e1775 : x1772 = (evOf h).2.2.2.1 x1752.toNatClampNeg := by rw [e1773]; exact congrFun (congrArg (fun q : EV => q.2.2.2.1) hE) _
                                  refine R_iald rfl sh_107 ⟨by omega, by omega⟩ ?_
                                  refine N_eq (fun x1776 e1777 => ?_)
                                  have e1778 : x1776 = ((kyOf h1750).1) x1772.toNatClampNeg := by rw [e1777]; exact (ky_at107 (nlt ⟨by omega, by omega⟩)).trans (congrFun (congrArg (fun q : KY => q.1) hK) _)
                                  refine R_iconst (-1) rfl rfl ?_
                                  refine N_icmp_eq (a := x1776.toInt) (b := (-1)) 218 rfl rfl rfl (by decide) (fun c1779 => ?_) (fun c1779 => ?_)
                                  · refine N_iinc (a := x1752.toInt) (c := 1) (fun w => [(3, .inl w), (0, .inr (.inr (.inl 96))), (1, .inl a0), (2, .inl a1)]) rfl rfl (fun _ => rfl) (by decide) rfl (by decide) (by omega) (fun x1780 q1781 => ?_)
                                    refine R_goto 166 rfl rfl ?_
                                    exact RUN_weak (psub_cons rfl (psub_cons rfl (psub_cons rfl (psub_cons rfl (psub_nil _))))) (ih1753 h1750 x1780 hI fr fl1751 (by omega) (by omega) (by rw [zHolds_s (x := x1752) (x' := x1780) (by omega) (by omega), ← m1759]; refine hK.trans ?_; subst e1778 e1775; simp only [zHold1, eLine] <;> (repeat' split) <;> first | (exfalso; omega) | rfl) (hE) (by omega))
                                  · refine R_aload_n (k := 0) rfl rfl rfl ?_
                                    refine R_aload_n (k := 0) rfl rfl rfl ?_
                                    refine R_getf_r (j := 17) rfl ft_9_40 sh_96 rfl ?_
                                    refine R_iload_n (k := 3) rfl rfl rfl ?_
                                    refine R_iald rfl sh_105 ⟨by omega, by omega⟩ ?_
                                    refine N_eq (fun x1782 e1783 => ?_)
                                    have q1784 : 0 ≤ x1782.toInt ∧ x1782.toInt ≤ 5 := by rw [e1783]; exact hI.1 105 _
                                    have e1785 : x1782 = (evOf h).2.2.2.1 x1752.toNatClampNeg := by rw [e1783]; exact congrFun (congrArg (fun q : EV => q.2.2.2.1) hE) _
                                    refine R_iload_n (k := 1) rfl rfl rfl ?_
                                    have b1786 := i_rng a0
                                    refine R_callV (v := .inr (.inr (.inl 96))) (As := [.inl x1782, .inl a0]) (rest := []) rfl mt_9_i271 pp_X9_doesRest (by decide) rfl rfl rfl (Nat.le_of_ble_eq_true rfl) (Nat.le_of_ble_eq_true rfl) ((g_X9_doesRest h1750 hI x1782 a0 (by omega) (by omega)).mono (fun r1787 h1788 p1789 => ?_))
                                    obtain ⟨rfl, x1791, rfl, (q1792 | q1792 | q1792), zq1790, -⟩ := p1789
                                    · rw [hE] at zq1790
                                      show RUN d_X9_goSecond 200 [(3, .inl x1752), (0, .inr (.inr (.inl 96))), (1, .inl a0), (2, .inl a1)] [.inl x1791] h1750 _
                                      refine N_if_ne (a := x1791.toInt) 218 rfl rfl rfl (fun c1793 => ?_) (fun c1793 => ?_)
                                      · exfalso; omega
                                      · refine R_aload_n (k := 0) rfl rfl rfl ?_
                                        refine R_getf_r (j := 22) rfl ft_9_46 sh_96 rfl ?_
                                        refine R_aload_n (k := 0) rfl rfl rfl ?_
                                        refine R_getf_r (j := 17) rfl ft_9_40 sh_96 rfl ?_
                                        refine R_iload_n (k := 3) rfl rfl rfl ?_
                                        refine R_iald rfl sh_105 ⟨by omega, by omega⟩ ?_
                                        refine N_eq (fun x1794 e1795 => ?_)
                                        have q1796 : 0 ≤ x1794.toInt ∧ x1794.toInt ≤ 5 := by rw [e1795]; exact hI.1 105 _
                                        have e1797 : x1794 = (evOf h).2.2.2.1 x1752.toNatClampNeg := by rw [e1795]; exact congrFun (congrArg (fun q : EV => q.2.2.2.1) hE) _
                                        refine R_dup2 rfl ?_
                                        refine R_iald rfl sh_107 ⟨by omega, by omega⟩ ?_
                                        refine N_eq (fun x1798 e1799 => ?_)
                                        have e1800 : x1798 = ((kyOf h1750).1) x1794.toNatClampNeg := by rw [e1799]; exact (ky_at107 (nlt ⟨by omega, by omega⟩)).trans (congrFun (congrArg (fun q : KY => q.1) hK) _)
                                        refine R_iconst 1 rfl rfl ?_
                                        have b1801 := i_rng x1798
                                        refine R_iadd rfl ?_
                                        refine N_eq (fun x1802 e1803 => ?_)
                                        refine K_iast (a := x1794.toInt) (lo := (-2147483648)) (hi' := 2147483647) rfl sh_107 rfl ⟨by omega, by omega⟩ hI (by decide) rfl (i_rng _) fr (by decide) (fun h1804 g1805 hI fr => ?_)
                                        have fl1751 : FR [107] h1736 h1804 := by rw [g1805]; exact FR_wI _ _ fl1751 (by decide)
                                        have fl871 : FR [96, 107, 108, 109, 117, 118] h851 h1804 := by rw [g1805]; exact FR_wI _ _ fl871 (by decide)
                                        have fl829 : FR [96, 107, 108, 109, 117, 118] h812 h1804 := by rw [g1805]; exact FR_wI _ _ fl829 (by decide)
                                        have s1806 : (h1804.1 96 41).toInt = (h1750.1 96 41).toInt := by rw [g1805, wI_ne _ _ _ (by decide)]
                                        have s1807 : (h1804.1 96 42).toInt = (h1750.1 96 42).toInt := by rw [g1805, wI_ne _ _ _ (by decide)]
                                        have s1808 : (h1804.1 96 19).toInt = (h1750.1 96 19).toInt := by rw [g1805, wI_ne _ _ _ (by decide)]
                                        have s1809 : (h1804.1 96 18).toInt = (h1750.1 96 18).toInt := by rw [g1805, wI_ne _ _ _ (by decide)]
                                        have s1810 : (h1804.1 96 20).toInt = (h1750.1 96 20).toInt := by rw [g1805, wI_ne _ _ _ (by decide)]
                                        have s1811 : (h1804.1 96 46).toInt = (h1750.1 96 46).toInt := by rw [g1805, wI_ne _ _ _ (by decide)]
                                        have s1812 : (h1804.1 96 44).toInt = (h1750.1 96 44).toInt := by rw [g1805, wI_ne _ _ _ (by decide)]
                                        have s1813 : (h1804.1 96 47).toInt = (h1750.1 96 47).toInt := by rw [g1805, wI_ne _ _ _ (by decide)]
                                        have s1814 : (h1804.1 96 48).toInt = (h1750.1 96 48).toInt := by rw [g1805, wI_ne _ _ _ (by decide)]
                                        have s1815 : (h1804.1 96 51).toInt = (h1750.1 96 51).toInt := by rw [g1805, wI_ne _ _ _ (by decide)]
                                        have hK : kyOf h1804 = (upd ((kyOf h1750).1) x1794.toNatClampNeg x1802, (kyOf h1750).2.1, (kyOf h1750).2.2.1, (kyOf h1750).2.2.2) := by rw [g1805, ky_107 (nlt ⟨by omega, by omega⟩), hK] <;> rfl
                                        have hE : evOf h1804 = evOf h := by rw [g1805, ev_o (by decide), hE]
                                        refine N_iinc (a := x1752.toInt) (c := 1) (fun w => [(3, .inl w), (0, .inr (.inr (.inl 96))), (1, .inl a0), (2, .inl a1)]) rfl rfl (fun _ => rfl) (by decide) rfl (by decide) (by omega) (fun x1816 q1817 => ?_)
                                        refine R_goto 166 rfl rfl ?_
                                        exact RUN_weak (psub_cons rfl (psub_cons rfl (psub_cons rfl (psub_cons rfl (psub_nil _))))) (ih1753 h1804 x1816 hI fr fl1751 (by omega) (by omega) (by rw [zHolds_s (x := x1752) (x' := x1816) (by omega) (by omega), ← m1759]; refine hK.trans ?_; subst e1803 e1800 e1797 e1785 e1778 e1775; simp only [zHold1, eLine] <;> (repeat' split) <;> first | (exfalso; omega) | rfl) (hE) (by omega))
                                    · rw [hE] at zq1790
                                      exfalso; omega
                                    · rw [hE] at zq1790
                                      exfalso; omega
                            have k1818 : (0 : Int32).toInt = 0 := by decide
                            exact lp1749 _ h1736 (0 : Int32) hI fr (FR.rf _ _) (by decide) (by omega) (by rw [hK]; rfl) (hE) (Nat.lt_succ_self _)
                      · rw [hE] at zq1616
                        show RUN d_X9_goSecond 115 [(3, .inl x872), (0, .inr (.inr (.inl 96))), (1, .inl a0), (2, .inl a1)] [.inl x1617] h870 _
                        refine N_if_ne (a := x1617.toInt) 164 rfl rfl rfl (fun c1819 => ?_) (fun c1819 => ?_)
                        · exfalso; omega
                        · refine R_aload_n (k := 0) rfl rfl rfl ?_
                          refine R_getf_r (j := 24) rfl ft_9_52 sh_96 rfl ?_
                          refine R_iconst 0 rfl rfl ?_
                          refine R_iald rfl sh_109 (by decide) ?_
                          refine N_eq (fun x1820 e1821 => ?_)
                          have e1822 : x1820 = ((zMid (evOf h) a0 a1 (kyOf h)).2.2.1) (0 : Int32).toNatClampNeg := by rw [e1821]; exact (ky_at109 (by decide)).trans (congrFun (congrArg (fun q : KY => q.2.2.1) hK) _)
                          refine N_if_le (a := x1820.toInt) 164 rfl rfl rfl (fun c1823 => ?_) (fun c1823 => ?_)
                          · have hK : kyOf h870 = zTake (evOf h) a0 (zMid (evOf h) a0 a1 (kyOf h)) := by
                              refine hK.trans ?_
                              subst e1822 e1611 e1507 e1504
                              simp only [zTake, zTake1, eMany, eLine, eFull] <;> (repeat' split) <;> first | (exfalso; omega) | rfl
                            refine R_iconst 0 rfl rfl ?_
                            refine R_istore_n (k := 3) rfl [(3, .inl 0), (0, .inr (.inr (.inl 96))), (1, .inl a0), (2, .inl a1)] rfl rfl (by decide) ?_
                            have lp1825 : ∀ (n1824 : Nat) (h1826 : PH) (x1828 : Int32), INV h1826 → FR [96, 107, 108, 109, 117, 118] h h1826 → FR [107] h870 h1826 → 0 ≤ x1828.toInt ∧ x1828.toInt ≤ 6 → x1828.toInt ≤ (h870.1 96 18).toInt + 0 → (kyOf h1826 = zHolds (evOf h) a0 x1828.toNatClampNeg (zTake (evOf h) a0 (zMid (evOf h) a0 a1 (kyOf h)))) → (evOf h1826 = evOf h) → (6 - x1828.toInt).toNat < n1824 → RUN d_X9_goSecond 166 [(3, .inl x1828), (0, .inr (.inr (.inl 96))), (1, .inl a0), (2, .inl a1)] [] h1826 (qg_X9_goSecond h a0 a1) := by
                              intro n1824
                              induction n1824 with
                              | zero => intro h1826 x1828 m1830 m1831 m1832 m1833 m1834 m1835 m1836 hz; exact absurd hz (Nat.not_lt_zero _)
                              | succ n1824 ih1829 =>
                                intro h1826 x1828 hI fr fl1827 m1833 m1834 m1835 m1836 hz
                                have s1837 : (h1826.1 96 41).toInt = (h870.1 96 41).toInt := by rw [(fl1827 96 (by decide)).1]
                                have s1838 : (h1826.1 96 42).toInt = (h870.1 96 42).toInt := by rw [(fl1827 96 (by decide)).1]
                                have s1839 : (h1826.1 96 19).toInt = (h870.1 96 19).toInt := by rw [(fl1827 96 (by decide)).1]
                                have s1840 : (h1826.1 96 18).toInt = (h870.1 96 18).toInt := by rw [(fl1827 96 (by decide)).1]
                                have s1841 : (h1826.1 96 20).toInt = (h870.1 96 20).toInt := by rw [(fl1827 96 (by decide)).1]
                                have s1842 : (h1826.1 96 46).toInt = (h870.1 96 46).toInt := by rw [(fl1827 96 (by decide)).1]
                                have s1843 : (h1826.1 96 44).toInt = (h870.1 96 44).toInt := by rw [(fl1827 96 (by decide)).1]
                                have s1844 : (h1826.1 96 47).toInt = (h870.1 96 47).toInt := by rw [(fl1827 96 (by decide)).1]
                                have s1845 : (h1826.1 96 48).toInt = (h870.1 96 48).toInt := by rw [(fl1827 96 (by decide)).1]
                                have s1846 : (h1826.1 96 51).toInt = (h870.1 96 51).toInt := by rw [(fl1827 96 (by decide)).1]
                                have fl871 : FR [96, 107, 108, 109, 117, 118] h851 h1826 := fl871.trans fl1827 (by decide)
                                have fl829 : FR [96, 107, 108, 109, 117, 118] h812 h1826 := fl829.trans fl1827 (by decide)
                                have hE := m1836
                                have hK : kyOf h1826 = kyOf h1826 := rfl
                                refine R_iload_n (k := 3) rfl rfl rfl ?_
                                refine R_aload_n (k := 0) rfl rfl rfl ?_
                                refine R_getf_i (j := 18) rfl ft_9_253 sh_96 rfl ?_
                                refine N_icmp_ge (a := x1828.toInt) (b := (h1826.1 96 18).toInt) 224 rfl rfl rfl rfl (fun c1847 => ?_) (fun c1847 => ?_)
                                · have hF : kyOf h1826 = zSecond (evOf h) a0 a1 (kyOf h) := m1835.trans (by rw [show x1828 = (evOf h).2.2.2.2.1 from i_of _ (by omega)]; rfl)
                                  exact R_vret rfl rfl ⟨hI, fr, ⟨by omega, by omega, by omega, by omega, by omega, by omega, by omega, by omega, by omega, by omega, hF, hE, trivial⟩, rfl⟩
                                · refine R_aload_n (k := 0) rfl rfl rfl ?_
                                  refine R_getf_r (j := 22) rfl ft_9_46 sh_96 rfl ?_
                                  refine R_aload_n (k := 0) rfl rfl rfl ?_
                                  refine R_getf_r (j := 17) rfl ft_9_40 sh_96 rfl ?_
                                  refine R_iload_n (k := 3) rfl rfl rfl ?_
                                  refine R_iald rfl sh_105 ⟨by omega, by omega⟩ ?_
                                  refine N_eq (fun x1848 e1849 => ?_)
                                  have q1850 : 0 ≤ x1848.toInt ∧ x1848.toInt ≤ 5 := by rw [e1849]; exact hI.1 105 _
                                  have e1851 : x1848 = (evOf h).2.2.2.1 x1828.toNatClampNeg := by rw [e1849]; exact congrFun (congrArg (fun q : EV => q.2.2.2.1) hE) _
                                  refine R_iald rfl sh_107 ⟨by omega, by omega⟩ ?_
                                  refine N_eq (fun x1852 e1853 => ?_)
                                  have e1854 : x1852 = ((kyOf h1826).1) x1848.toNatClampNeg := by rw [e1853]; exact (ky_at107 (nlt ⟨by omega, by omega⟩)).trans (congrFun (congrArg (fun q : KY => q.1) hK) _)
                                  refine R_iconst (-1) rfl rfl ?_
                                  refine N_icmp_eq (a := x1852.toInt) (b := (-1)) 218 rfl rfl rfl (by decide) (fun c1855 => ?_) (fun c1855 => ?_)
                                  · refine N_iinc (a := x1828.toInt) (c := 1) (fun w => [(3, .inl w), (0, .inr (.inr (.inl 96))), (1, .inl a0), (2, .inl a1)]) rfl rfl (fun _ => rfl) (by decide) rfl (by decide) (by omega) (fun x1856 q1857 => ?_)
                                    refine R_goto 166 rfl rfl ?_
                                    exact RUN_weak (psub_cons rfl (psub_cons rfl (psub_cons rfl (psub_cons rfl (psub_nil _))))) (ih1829 h1826 x1856 hI fr fl1827 (by omega) (by omega) (by rw [zHolds_s (x := x1828) (x' := x1856) (by omega) (by omega), ← m1835]; refine hK.trans ?_; subst e1854 e1851; simp only [zHold1, eLine] <;> (repeat' split) <;> first | (exfalso; omega) | rfl) (hE) (by omega))
                                  · refine R_aload_n (k := 0) rfl rfl rfl ?_
                                    refine R_aload_n (k := 0) rfl rfl rfl ?_
                                    refine R_getf_r (j := 17) rfl ft_9_40 sh_96 rfl ?_
                                    refine R_iload_n (k := 3) rfl rfl rfl ?_
                                    refine R_iald rfl sh_105 ⟨by omega, by omega⟩ ?_
                                    refine N_eq (fun x1858 e1859 => ?_)
                                    have q1860 : 0 ≤ x1858.toInt ∧ x1858.toInt ≤ 5 := by rw [e1859]; exact hI.1 105 _
                                    have e1861 : x1858 = (evOf h).2.2.2.1 x1828.toNatClampNeg := by rw [e1859]; exact congrFun (congrArg (fun q : EV => q.2.2.2.1) hE) _
                                    refine R_iload_n (k := 1) rfl rfl rfl ?_
                                    refine R_callV (v := .inr (.inr (.inl 96))) (As := [.inl x1858, .inl a0]) (rest := []) rfl mt_9_i271 pp_X9_doesRest (by decide) rfl rfl rfl (Nat.le_of_ble_eq_true rfl) (Nat.le_of_ble_eq_true rfl) ((g_X9_doesRest h1826 hI x1858 a0 (by omega) (by omega)).mono (fun r1862 h1863 p1864 => ?_))
                                    obtain ⟨rfl, x1866, rfl, (q1867 | q1867 | q1867), zq1865, -⟩ := p1864
                                    · rw [hE] at zq1865
                                      exfalso; omega
                                    · rw [hE] at zq1865
                                      show RUN d_X9_goSecond 200 [(3, .inl x1828), (0, .inr (.inr (.inl 96))), (1, .inl a0), (2, .inl a1)] [.inl x1866] h1826 _
                                      refine N_if_ne (a := x1866.toInt) 218 rfl rfl rfl (fun c1868 => ?_) (fun c1868 => ?_)
                                      · exfalso; omega
                                      · refine R_aload_n (k := 0) rfl rfl rfl ?_
                                        refine R_getf_r (j := 22) rfl ft_9_46 sh_96 rfl ?_
                                        refine R_aload_n (k := 0) rfl rfl rfl ?_
                                        refine R_getf_r (j := 17) rfl ft_9_40 sh_96 rfl ?_
                                        refine R_iload_n (k := 3) rfl rfl rfl ?_
                                        refine R_iald rfl sh_105 ⟨by omega, by omega⟩ ?_
                                        refine N_eq (fun x1869 e1870 => ?_)
                                        have q1871 : 0 ≤ x1869.toInt ∧ x1869.toInt ≤ 5 := by rw [e1870]; exact hI.1 105 _
                                        have e1872 : x1869 = (evOf h).2.2.2.1 x1828.toNatClampNeg := by rw [e1870]; exact congrFun (congrArg (fun q : EV => q.2.2.2.1) hE) _
                                        refine R_dup2 rfl ?_
                                        refine R_iald rfl sh_107 ⟨by omega, by omega⟩ ?_
                                        refine N_eq (fun x1873 e1874 => ?_)
                                        have e1875 : x1873 = ((kyOf h1826).1) x1869.toNatClampNeg := by rw [e1874]; exact (ky_at107 (nlt ⟨by omega, by omega⟩)).trans (congrFun (congrArg (fun q : KY => q.1) hK) _)
                                        refine R_iconst 1 rfl rfl ?_
                                        have b1876 := i_rng x1873
                                        refine R_iadd rfl ?_
                                        refine N_eq (fun x1877 e1878 => ?_)
                                        refine K_iast (a := x1869.toInt) (lo := (-2147483648)) (hi' := 2147483647) rfl sh_107 rfl ⟨by omega, by omega⟩ hI (by decide) rfl (i_rng _) fr (by decide) (fun h1879 g1880 hI fr => ?_)
                                        have fl1827 : FR [107] h870 h1879 := by rw [g1880]; exact FR_wI _ _ fl1827 (by decide)
                                        have fl871 : FR [96, 107, 108, 109, 117, 118] h851 h1879 := by rw [g1880]; exact FR_wI _ _ fl871 (by decide)
                                        have fl829 : FR [96, 107, 108, 109, 117, 118] h812 h1879 := by rw [g1880]; exact FR_wI _ _ fl829 (by decide)
                                        have s1881 : (h1879.1 96 41).toInt = (h1826.1 96 41).toInt := by rw [g1880, wI_ne _ _ _ (by decide)]
                                        have s1882 : (h1879.1 96 42).toInt = (h1826.1 96 42).toInt := by rw [g1880, wI_ne _ _ _ (by decide)]
                                        have s1883 : (h1879.1 96 19).toInt = (h1826.1 96 19).toInt := by rw [g1880, wI_ne _ _ _ (by decide)]
                                        have s1884 : (h1879.1 96 18).toInt = (h1826.1 96 18).toInt := by rw [g1880, wI_ne _ _ _ (by decide)]
                                        have s1885 : (h1879.1 96 20).toInt = (h1826.1 96 20).toInt := by rw [g1880, wI_ne _ _ _ (by decide)]
                                        have s1886 : (h1879.1 96 46).toInt = (h1826.1 96 46).toInt := by rw [g1880, wI_ne _ _ _ (by decide)]
                                        have s1887 : (h1879.1 96 44).toInt = (h1826.1 96 44).toInt := by rw [g1880, wI_ne _ _ _ (by decide)]
                                        have s1888 : (h1879.1 96 47).toInt = (h1826.1 96 47).toInt := by rw [g1880, wI_ne _ _ _ (by decide)]
                                        have s1889 : (h1879.1 96 48).toInt = (h1826.1 96 48).toInt := by rw [g1880, wI_ne _ _ _ (by decide)]
                                        have s1890 : (h1879.1 96 51).toInt = (h1826.1 96 51).toInt := by rw [g1880, wI_ne _ _ _ (by decide)]
                                        have hK : kyOf h1879 = (upd ((kyOf h1826).1) x1869.toNatClampNeg x1877, (kyOf h1826).2.1, (kyOf h1826).2.2.1, (kyOf h1826).2.2.2) := by rw [g1880, ky_107 (nlt ⟨by omega, by omega⟩), hK] <;> rfl
                                        have hE : evOf h1879 = evOf h := by rw [g1880, ev_o (by decide), hE]
                                        refine N_iinc (a := x1828.toInt) (c := 1) (fun w => [(3, .inl w), (0, .inr (.inr (.inl 96))), (1, .inl a0), (2, .inl a1)]) rfl rfl (fun _ => rfl) (by decide) rfl (by decide) (by omega) (fun x1891 q1892 => ?_)
                                        refine R_goto 166 rfl rfl ?_
                                        exact RUN_weak (psub_cons rfl (psub_cons rfl (psub_cons rfl (psub_cons rfl (psub_nil _))))) (ih1829 h1879 x1891 hI fr fl1827 (by omega) (by omega) (by rw [zHolds_s (x := x1828) (x' := x1891) (by omega) (by omega), ← m1835]; refine hK.trans ?_; subst e1878 e1875 e1872 e1861 e1854 e1851; simp only [zHold1, eLine] <;> (repeat' split) <;> first | (exfalso; omega) | rfl) (hE) (by omega))
                                    · rw [hE] at zq1865
                                      show RUN d_X9_goSecond 200 [(3, .inl x1828), (0, .inr (.inr (.inl 96))), (1, .inl a0), (2, .inl a1)] [.inl x1866] h1826 _
                                      refine N_if_ne (a := x1866.toInt) 218 rfl rfl rfl (fun c1893 => ?_) (fun c1893 => ?_)
                                      · refine N_iinc (a := x1828.toInt) (c := 1) (fun w => [(3, .inl w), (0, .inr (.inr (.inl 96))), (1, .inl a0), (2, .inl a1)]) rfl rfl (fun _ => rfl) (by decide) rfl (by decide) (by omega) (fun x1894 q1895 => ?_)
                                        refine R_goto 166 rfl rfl ?_
                                        exact RUN_weak (psub_cons rfl (psub_cons rfl (psub_cons rfl (psub_cons rfl (psub_nil _))))) (ih1829 h1826 x1894 hI fr fl1827 (by omega) (by omega) (by rw [zHolds_s (x := x1828) (x' := x1894) (by omega) (by omega), ← m1835]; refine hK.trans ?_; subst e1861 e1854 e1851; simp only [zHold1, eLine] <;> (repeat' split) <;> first | (exfalso; omega) | rfl) (hE) (by omega))
                                      · exfalso; omega
                            have k1896 : (0 : Int32).toInt = 0 := by decide
                            exact lp1825 _ h870 (0 : Int32) hI fr (FR.rf _ _) (by decide) (by omega) (by rw [hK]; rfl) (hE) (Nat.lt_succ_self _)
                          · refine R_aload_n (k := 0) rfl rfl rfl ?_
                            refine R_getf_r (j := 24) rfl ft_9_52 sh_96 rfl ?_
                            refine R_iconst 0 rfl rfl ?_
                            refine R_dup2 rfl ?_
                            refine R_iald rfl sh_109 (by decide) ?_
                            refine N_eq (fun x1897 e1898 => ?_)
                            have e1899 : x1897 = ((zMid (evOf h) a0 a1 (kyOf h)).2.2.1) (0 : Int32).toNatClampNeg := by rw [e1898]; exact (ky_at109 (by decide)).trans (congrFun (congrArg (fun q : KY => q.2.2.1) hK) _)
                            refine R_iconst 1 rfl rfl ?_
                            have b1900 := i_rng x1897
                            refine R_isub rfl ?_
                            refine N_eq (fun x1901 e1902 => ?_)
                            refine K_iast (a := 0) (lo := (-2147483648)) (hi' := 2147483647) rfl sh_109 (by decide) (by decide) hI (by decide) rfl (i_rng _) fr (by decide) (fun h1903 g1904 hI fr => ?_)
                            have fl871 : FR [96, 107, 108, 109, 117, 118] h851 h1903 := by rw [g1904]; exact FR_wI _ _ fl871 (by decide)
                            have fl829 : FR [96, 107, 108, 109, 117, 118] h812 h1903 := by rw [g1904]; exact FR_wI _ _ fl829 (by decide)
                            have s1905 : (h1903.1 96 41).toInt = (h870.1 96 41).toInt := by rw [g1904, wI_ne _ _ _ (by decide)]
                            have s1906 : (h1903.1 96 42).toInt = (h870.1 96 42).toInt := by rw [g1904, wI_ne _ _ _ (by decide)]
                            have s1907 : (h1903.1 96 19).toInt = (h870.1 96 19).toInt := by rw [g1904, wI_ne _ _ _ (by decide)]
                            have s1908 : (h1903.1 96 18).toInt = (h870.1 96 18).toInt := by rw [g1904, wI_ne _ _ _ (by decide)]
                            have s1909 : (h1903.1 96 20).toInt = (h870.1 96 20).toInt := by rw [g1904, wI_ne _ _ _ (by decide)]
                            have s1910 : (h1903.1 96 46).toInt = (h870.1 96 46).toInt := by rw [g1904, wI_ne _ _ _ (by decide)]
                            have s1911 : (h1903.1 96 44).toInt = (h870.1 96 44).toInt := by rw [g1904, wI_ne _ _ _ (by decide)]
                            have s1912 : (h1903.1 96 47).toInt = (h870.1 96 47).toInt := by rw [g1904, wI_ne _ _ _ (by decide)]
                            have s1913 : (h1903.1 96 48).toInt = (h870.1 96 48).toInt := by rw [g1904, wI_ne _ _ _ (by decide)]
                            have s1914 : (h1903.1 96 51).toInt = (h870.1 96 51).toInt := by rw [g1904, wI_ne _ _ _ (by decide)]
                            have hK : kyOf h1903 = ((zMid (evOf h) a0 a1 (kyOf h)).1, (zMid (evOf h) a0 a1 (kyOf h)).2.1, upd ((zMid (evOf h) a0 a1 (kyOf h)).2.2.1) (0 : Int32).toNatClampNeg x1901, (zMid (evOf h) a0 a1 (kyOf h)).2.2.2) := by rw [g1904, ky_109 (by decide), hK] <;> rfl
                            have hE : evOf h1903 = evOf h := by rw [g1904, ev_o (by decide), hE]
                            refine R_aload_n (k := 0) rfl rfl rfl ?_
                            refine R_getf_r (j := 22) rfl ft_9_46 sh_96 rfl ?_
                            refine R_aload_n (k := 0) rfl rfl rfl ?_
                            refine R_getf_r (j := 17) rfl ft_9_40 sh_96 rfl ?_
                            refine R_iconst 0 rfl rfl ?_
                            refine R_iald rfl sh_105 (by decide) ?_
                            refine N_eq (fun x1915 e1916 => ?_)
                            have q1917 : 0 ≤ x1915.toInt ∧ x1915.toInt ≤ 5 := by rw [e1916]; exact hI.1 105 _
                            have e1918 : x1915 = (evOf h).2.2.2.1 (0 : Int32).toNatClampNeg := by rw [e1916]; exact congrFun (congrArg (fun q : EV => q.2.2.2.1) hE) _
                            refine R_iconst 0 rfl rfl ?_
                            refine K_iast (a := x1915.toInt) (lo := (-2147483648)) (hi' := 2147483647) rfl sh_107 rfl ⟨by omega, by omega⟩ hI (by decide) rfl (by decide) fr (by decide) (fun h1919 g1920 hI fr => ?_)
                            have fl871 : FR [96, 107, 108, 109, 117, 118] h851 h1919 := by rw [g1920]; exact FR_wI _ _ fl871 (by decide)
                            have fl829 : FR [96, 107, 108, 109, 117, 118] h812 h1919 := by rw [g1920]; exact FR_wI _ _ fl829 (by decide)
                            have s1921 : (h1919.1 96 41).toInt = (h1903.1 96 41).toInt := by rw [g1920, wI_ne _ _ _ (by decide)]
                            have s1922 : (h1919.1 96 42).toInt = (h1903.1 96 42).toInt := by rw [g1920, wI_ne _ _ _ (by decide)]
                            have s1923 : (h1919.1 96 19).toInt = (h1903.1 96 19).toInt := by rw [g1920, wI_ne _ _ _ (by decide)]
                            have s1924 : (h1919.1 96 18).toInt = (h1903.1 96 18).toInt := by rw [g1920, wI_ne _ _ _ (by decide)]
                            have s1925 : (h1919.1 96 20).toInt = (h1903.1 96 20).toInt := by rw [g1920, wI_ne _ _ _ (by decide)]
                            have s1926 : (h1919.1 96 46).toInt = (h1903.1 96 46).toInt := by rw [g1920, wI_ne _ _ _ (by decide)]
                            have s1927 : (h1919.1 96 44).toInt = (h1903.1 96 44).toInt := by rw [g1920, wI_ne _ _ _ (by decide)]
                            have s1928 : (h1919.1 96 47).toInt = (h1903.1 96 47).toInt := by rw [g1920, wI_ne _ _ _ (by decide)]
                            have s1929 : (h1919.1 96 48).toInt = (h1903.1 96 48).toInt := by rw [g1920, wI_ne _ _ _ (by decide)]
                            have s1930 : (h1919.1 96 51).toInt = (h1903.1 96 51).toInt := by rw [g1920, wI_ne _ _ _ (by decide)]
                            have hK : kyOf h1919 = (upd ((zMid (evOf h) a0 a1 (kyOf h)).1) x1915.toNatClampNeg (0), (zMid (evOf h) a0 a1 (kyOf h)).2.1, upd ((zMid (evOf h) a0 a1 (kyOf h)).2.2.1) (0 : Int32).toNatClampNeg x1901, (zMid (evOf h) a0 a1 (kyOf h)).2.2.2) := by rw [g1920, ky_107 (nlt ⟨by omega, by omega⟩), hK] <;> rfl
                            have hE : evOf h1919 = evOf h := by rw [g1920, ev_o (by decide), hE]
                            refine R_aload_n (k := 0) rfl rfl rfl ?_
                            refine R_getf_r (j := 23) rfl ft_9_49 sh_96 rfl ?_
                            refine R_aload_n (k := 0) rfl rfl rfl ?_
                            refine R_getf_r (j := 17) rfl ft_9_40 sh_96 rfl ?_
                            refine R_iconst 0 rfl rfl ?_
                            refine R_iald rfl sh_105 (by decide) ?_
                            refine N_eq (fun x1931 e1932 => ?_)
                            have q1933 : 0 ≤ x1931.toInt ∧ x1931.toInt ≤ 5 := by rw [e1932]; exact hI.1 105 _
                            have e1934 : x1931 = (evOf h).2.2.2.1 (0 : Int32).toNatClampNeg := by rw [e1932]; exact congrFun (congrArg (fun q : EV => q.2.2.2.1) hE) _
                            refine R_aload_n (k := 0) rfl rfl rfl ?_
                            refine R_getf_i (j := 20) rfl ft_9_259 sh_96 rfl ?_
                            refine N_eq (fun x1935 e1936 => ?_)
                            have e1937 : x1935 = (evOf h).2.2.2.2.2.1 := by rw [e1936]; exact congrArg (fun q : EV => q.2.2.2.2.2.1) hE
                            refine K_iast (a := x1931.toInt) (lo := (-2147483648)) (hi' := 2147483647) rfl sh_108 rfl ⟨by omega, by omega⟩ hI (by decide) rfl (i_rng _) fr (by decide) (fun h1938 g1939 hI fr => ?_)
                            have fl871 : FR [96, 107, 108, 109, 117, 118] h851 h1938 := by rw [g1939]; exact FR_wI _ _ fl871 (by decide)
                            have fl829 : FR [96, 107, 108, 109, 117, 118] h812 h1938 := by rw [g1939]; exact FR_wI _ _ fl829 (by decide)
                            have s1940 : (h1938.1 96 41).toInt = (h1919.1 96 41).toInt := by rw [g1939, wI_ne _ _ _ (by decide)]
                            have s1941 : (h1938.1 96 42).toInt = (h1919.1 96 42).toInt := by rw [g1939, wI_ne _ _ _ (by decide)]
                            have s1942 : (h1938.1 96 19).toInt = (h1919.1 96 19).toInt := by rw [g1939, wI_ne _ _ _ (by decide)]
                            have s1943 : (h1938.1 96 18).toInt = (h1919.1 96 18).toInt := by rw [g1939, wI_ne _ _ _ (by decide)]
                            have s1944 : (h1938.1 96 20).toInt = (h1919.1 96 20).toInt := by rw [g1939, wI_ne _ _ _ (by decide)]
                            have s1945 : (h1938.1 96 46).toInt = (h1919.1 96 46).toInt := by rw [g1939, wI_ne _ _ _ (by decide)]
                            have s1946 : (h1938.1 96 44).toInt = (h1919.1 96 44).toInt := by rw [g1939, wI_ne _ _ _ (by decide)]
                            have s1947 : (h1938.1 96 47).toInt = (h1919.1 96 47).toInt := by rw [g1939, wI_ne _ _ _ (by decide)]
                            have s1948 : (h1938.1 96 48).toInt = (h1919.1 96 48).toInt := by rw [g1939, wI_ne _ _ _ (by decide)]
                            have s1949 : (h1938.1 96 51).toInt = (h1919.1 96 51).toInt := by rw [g1939, wI_ne _ _ _ (by decide)]
                            have hK : kyOf h1938 = (upd ((zMid (evOf h) a0 a1 (kyOf h)).1) x1915.toNatClampNeg (0), upd ((zMid (evOf h) a0 a1 (kyOf h)).2.1) x1931.toNatClampNeg x1935, upd ((zMid (evOf h) a0 a1 (kyOf h)).2.2.1) (0 : Int32).toNatClampNeg x1901, (zMid (evOf h) a0 a1 (kyOf h)).2.2.2) := by rw [g1939, ky_108 (nlt ⟨by omega, by omega⟩), hK] <;> rfl
                            have hE : evOf h1938 = evOf h := by rw [g1939, ev_o (by decide), hE]
                            have hK : kyOf h1938 = zTake (evOf h) a0 (zMid (evOf h) a0 a1 (kyOf h)) := by
                              refine hK.trans ?_
                              subst e1937 e1934 e1918 e1902 e1899 e1822 e1611 e1507 e1504
                              simp only [zTake, zTake1, eMany, eLine, eFull] <;> (repeat' split) <;> first | (exfalso; omega) | rfl
                            refine R_iconst 0 rfl rfl ?_
                            refine R_istore_n (k := 3) rfl [(3, .inl 0), (0, .inr (.inr (.inl 96))), (1, .inl a0), (2, .inl a1)] rfl rfl (by decide) ?_
                            have lp1951 : ∀ (n1950 : Nat) (h1952 : PH) (x1954 : Int32), INV h1952 → FR [96, 107, 108, 109, 117, 118] h h1952 → FR [107] h1938 h1952 → 0 ≤ x1954.toInt ∧ x1954.toInt ≤ 6 → x1954.toInt ≤ (h1938.1 96 18).toInt + 0 → (kyOf h1952 = zHolds (evOf h) a0 x1954.toNatClampNeg (zTake (evOf h) a0 (zMid (evOf h) a0 a1 (kyOf h)))) → (evOf h1952 = evOf h) → (6 - x1954.toInt).toNat < n1950 → RUN d_X9_goSecond 166 [(3, .inl x1954), (0, .inr (.inr (.inl 96))), (1, .inl a0), (2, .inl a1)] [] h1952 (qg_X9_goSecond h a0 a1) := by
                              intro n1950
                              induction n1950 with
                              | zero => intro h1952 x1954 m1956 m1957 m1958 m1959 m1960 m1961 m1962 hz; exact absurd hz (Nat.not_lt_zero _)
                              | succ n1950 ih1955 =>
                                intro h1952 x1954 hI fr fl1953 m1959 m1960 m1961 m1962 hz
                                have s1963 : (h1952.1 96 41).toInt = (h1938.1 96 41).toInt := by rw [(fl1953 96 (by decide)).1]
                                have s1964 : (h1952.1 96 42).toInt = (h1938.1 96 42).toInt := by rw [(fl1953 96 (by decide)).1]
                                have s1965 : (h1952.1 96 19).toInt = (h1938.1 96 19).toInt := by rw [(fl1953 96 (by decide)).1]
                                have s1966 : (h1952.1 96 18).toInt = (h1938.1 96 18).toInt := by rw [(fl1953 96 (by decide)).1]
                                have s1967 : (h1952.1 96 20).toInt = (h1938.1 96 20).toInt := by rw [(fl1953 96 (by decide)).1]
                                have s1968 : (h1952.1 96 46).toInt = (h1938.1 96 46).toInt := by rw [(fl1953 96 (by decide)).1]
                                have s1969 : (h1952.1 96 44).toInt = (h1938.1 96 44).toInt := by rw [(fl1953 96 (by decide)).1]
                                have s1970 : (h1952.1 96 47).toInt = (h1938.1 96 47).toInt := by rw [(fl1953 96 (by decide)).1]
                                have s1971 : (h1952.1 96 48).toInt = (h1938.1 96 48).toInt := by rw [(fl1953 96 (by decide)).1]
                                have s1972 : (h1952.1 96 51).toInt = (h1938.1 96 51).toInt := by rw [(fl1953 96 (by decide)).1]
                                have fl871 : FR [96, 107, 108, 109, 117, 118] h851 h1952 := fl871.trans fl1953 (by decide)
                                have fl829 : FR [96, 107, 108, 109, 117, 118] h812 h1952 := fl829.trans fl1953 (by decide)
                                have hE := m1962
                                have hK : kyOf h1952 = kyOf h1952 := rfl
                                refine R_iload_n (k := 3) rfl rfl rfl ?_
                                refine R_aload_n (k := 0) rfl rfl rfl ?_
                                refine R_getf_i (j := 18) rfl ft_9_253 sh_96 rfl ?_
                                refine N_icmp_ge (a := x1954.toInt) (b := (h1952.1 96 18).toInt) 224 rfl rfl rfl rfl (fun c1973 => ?_) (fun c1973 => ?_)
                                · have hF : kyOf h1952 = zSecond (evOf h) a0 a1 (kyOf h) := m1961.trans (by rw [show x1954 = (evOf h).2.2.2.2.1 from i_of _ (by omega)]; rfl)
                                  exact R_vret rfl rfl ⟨hI, fr, ⟨by omega, by omega, by omega, by omega, by omega, by omega, by omega, by omega, by omega, by omega, hF, hE, trivial⟩, rfl⟩
                                · refine R_aload_n (k := 0) rfl rfl rfl ?_
                                  refine R_getf_r (j := 22) rfl ft_9_46 sh_96 rfl ?_
                                  refine R_aload_n (k := 0) rfl rfl rfl ?_
                                  refine R_getf_r (j := 17) rfl ft_9_40 sh_96 rfl ?_
                                  refine R_iload_n (k := 3) rfl rfl rfl ?_
                                  refine R_iald rfl sh_105 ⟨by omega, by omega⟩ ?_
                                  refine N_eq (fun x1974 e1975 => ?_)
                                  have q1976 : 0 ≤ x1974.toInt ∧ x1974.toInt ≤ 5 := by rw [e1975]; exact hI.1 105 _
                                  have e1977 : x1974 = (evOf h).2.2.2.1 x1954.toNatClampNeg := by rw [e1975]; exact congrFun (congrArg (fun q : EV => q.2.2.2.1) hE) _
                                  refine R_iald rfl sh_107 ⟨by omega, by omega⟩ ?_
                                  refine N_eq (fun x1978 e1979 => ?_)
                                  have e1980 : x1978 = ((kyOf h1952).1) x1974.toNatClampNeg := by rw [e1979]; exact (ky_at107 (nlt ⟨by omega, by omega⟩)).trans (congrFun (congrArg (fun q : KY => q.1) hK) _)
                                  refine R_iconst (-1) rfl rfl ?_
                                  refine N_icmp_eq (a := x1978.toInt) (b := (-1)) 218 rfl rfl rfl (by decide) (fun c1981 => ?_) (fun c1981 => ?_)
                                  · refine N_iinc (a := x1954.toInt) (c := 1) (fun w => [(3, .inl w), (0, .inr (.inr (.inl 96))), (1, .inl a0), (2, .inl a1)]) rfl rfl (fun _ => rfl) (by decide) rfl (by decide) (by omega) (fun x1982 q1983 => ?_)
                                    refine R_goto 166 rfl rfl ?_
                                    exact RUN_weak (psub_cons rfl (psub_cons rfl (psub_cons rfl (psub_cons rfl (psub_nil _))))) (ih1955 h1952 x1982 hI fr fl1953 (by omega) (by omega) (by rw [zHolds_s (x := x1954) (x' := x1982) (by omega) (by omega), ← m1961]; refine hK.trans ?_; subst e1980 e1977; simp only [zHold1, eLine] <;> (repeat' split) <;> first | (exfalso; omega) | rfl) (hE) (by omega))
                                  · refine R_aload_n (k := 0) rfl rfl rfl ?_
                                    refine R_aload_n (k := 0) rfl rfl rfl ?_
                                    refine R_getf_r (j := 17) rfl ft_9_40 sh_96 rfl ?_
                                    refine R_iload_n (k := 3) rfl rfl rfl ?_
                                    refine R_iald rfl sh_105 ⟨by omega, by omega⟩ ?_
                                    refine N_eq (fun x1984 e1985 => ?_)
                                    have q1986 : 0 ≤ x1984.toInt ∧ x1984.toInt ≤ 5 := by rw [e1985]; exact hI.1 105 _
                                    have e1987 : x1984 = (evOf h).2.2.2.1 x1954.toNatClampNeg := by rw [e1985]; exact congrFun (congrArg (fun q : EV => q.2.2.2.1) hE) _
                                    refine R_iload_n (k := 1) rfl rfl rfl ?_
                                    refine R_callV (v := .inr (.inr (.inl 96))) (As := [.inl x1984, .inl a0]) (rest := []) rfl mt_9_i271 pp_X9_doesRest (by decide) rfl rfl rfl (Nat.le_of_ble_eq_true rfl) (Nat.le_of_ble_eq_true rfl) ((g_X9_doesRest h1952 hI x1984 a0 (by omega) (by omega)).mono (fun r1988 h1989 p1990 => ?_))
                                    obtain ⟨rfl, x1992, rfl, (q1993 | q1993 | q1993), zq1991, -⟩ := p1990
                                    · rw [hE] at zq1991
                                      exfalso; omega
                                    · rw [hE] at zq1991
                                      show RUN d_X9_goSecond 200 [(3, .inl x1954), (0, .inr (.inr (.inl 96))), (1, .inl a0), (2, .inl a1)] [.inl x1992] h1952 _
                                      refine N_if_ne (a := x1992.toInt) 218 rfl rfl rfl (fun c1994 => ?_) (fun c1994 => ?_)
                                      · exfalso; omega
                                      · refine R_aload_n (k := 0) rfl rfl rfl ?_
                                        refine R_getf_r (j := 22) rfl ft_9_46 sh_96 rfl ?_
                                        refine R_aload_n (k := 0) rfl rfl rfl ?_
                                        refine R_getf_r (j := 17) rfl ft_9_40 sh_96 rfl ?_
                                        refine R_iload_n (k := 3) rfl rfl rfl ?_
                                        refine R_iald rfl sh_105 ⟨by omega, by omega⟩ ?_
                                        refine N_eq (fun x1995 e1996 => ?_)
                                        have q1997 : 0 ≤ x1995.toInt ∧ x1995.toInt ≤ 5 := by rw [e1996]; exact hI.1 105 _
                                        have e1998 : x1995 = (evOf h).2.2.2.1 x1954.toNatClampNeg := by rw [e1996]; exact congrFun (congrArg (fun q : EV => q.2.2.2.1) hE) _
                                        refine R_dup2 rfl ?_
                                        refine R_iald rfl sh_107 ⟨by omega, by omega⟩ ?_
                                        refine N_eq (fun x1999 e2000 => ?_)
                                        have e2001 : x1999 = ((kyOf h1952).1) x1995.toNatClampNeg := by rw [e2000]; exact (ky_at107 (nlt ⟨by omega, by omega⟩)).trans (congrFun (congrArg (fun q : KY => q.1) hK) _)
                                        refine R_iconst 1 rfl rfl ?_
                                        have b2002 := i_rng x1999
                                        refine R_iadd rfl ?_
                                        refine N_eq (fun x2003 e2004 => ?_)
                                        refine K_iast (a := x1995.toInt) (lo := (-2147483648)) (hi' := 2147483647) rfl sh_107 rfl ⟨by omega, by omega⟩ hI (by decide) rfl (i_rng _) fr (by decide) (fun h2005 g2006 hI fr => ?_)
                                        have fl1953 : FR [107] h1938 h2005 := by rw [g2006]; exact FR_wI _ _ fl1953 (by decide)
                                        have fl871 : FR [96, 107, 108, 109, 117, 118] h851 h2005 := by rw [g2006]; exact FR_wI _ _ fl871 (by decide)
                                        have fl829 : FR [96, 107, 108, 109, 117, 118] h812 h2005 := by rw [g2006]; exact FR_wI _ _ fl829 (by decide)
                                        have s2007 : (h2005.1 96 41).toInt = (h1952.1 96 41).toInt := by rw [g2006, wI_ne _ _ _ (by decide)]
                                        have s2008 : (h2005.1 96 42).toInt = (h1952.1 96 42).toInt := by rw [g2006, wI_ne _ _ _ (by decide)]
                                        have s2009 : (h2005.1 96 19).toInt = (h1952.1 96 19).toInt := by rw [g2006, wI_ne _ _ _ (by decide)]
                                        have s2010 : (h2005.1 96 18).toInt = (h1952.1 96 18).toInt := by rw [g2006, wI_ne _ _ _ (by decide)]
                                        have s2011 : (h2005.1 96 20).toInt = (h1952.1 96 20).toInt := by rw [g2006, wI_ne _ _ _ (by decide)]
                                        have s2012 : (h2005.1 96 46).toInt = (h1952.1 96 46).toInt := by rw [g2006, wI_ne _ _ _ (by decide)]
                                        have s2013 : (h2005.1 96 44).toInt = (h1952.1 96 44).toInt := by rw [g2006, wI_ne _ _ _ (by decide)]
                                        have s2014 : (h2005.1 96 47).toInt = (h1952.1 96 47).toInt := by rw [g2006, wI_ne _ _ _ (by decide)]
                                        have s2015 : (h2005.1 96 48).toInt = (h1952.1 96 48).toInt := by rw [g2006, wI_ne _ _ _ (by decide)]
                                        have s2016 : (h2005.1 96 51).toInt = (h1952.1 96 51).toInt := by rw [g2006, wI_ne _ _ _ (by decide)]
                                        have hK : kyOf h2005 = (upd ((kyOf h1952).1) x1995.toNatClampNeg x2003, (kyOf h1952).2.1, (kyOf h1952).2.2.1, (kyOf h1952).2.2.2) := by rw [g2006, ky_107 (nlt ⟨by omega, by omega⟩), hK] <;> rfl
                                        have hE : evOf h2005 = evOf h := by rw [g2006, ev_o (by decide), hE]
                                        refine N_iinc (a := x1954.toInt) (c := 1) (fun w => [(3, .inl w), (0, .inr (.inr (.inl 96))), (1, .inl a0), (2, .inl a1)]) rfl rfl (fun _ => rfl) (by decide) rfl (by decide) (by omega) (fun x2017 q2018 => ?_)
                                        refine R_goto 166 rfl rfl ?_
                                        exact RUN_weak (psub_cons rfl (psub_cons rfl (psub_cons rfl (psub_cons rfl (psub_nil _))))) (ih1955 h2005 x2017 hI fr fl1953 (by omega) (by omega) (by rw [zHolds_s (x := x1954) (x' := x2017) (by omega) (by omega), ← m1961]; refine hK.trans ?_; subst e2004 e2001 e1998 e1987 e1980 e1977; simp only [zHold1, eLine] <;> (repeat' split) <;> first | (exfalso; omega) | rfl) (hE) (by omega))
                                    · rw [hE] at zq1991
                                      show RUN d_X9_goSecond 200 [(3, .inl x1954), (0, .inr (.inr (.inl 96))), (1, .inl a0), (2, .inl a1)] [.inl x1992] h1952 _
                                      refine N_if_ne (a := x1992.toInt) 218 rfl rfl rfl (fun c2019 => ?_) (fun c2019 => ?_)
                                      · refine N_iinc (a := x1954.toInt) (c := 1) (fun w => [(3, .inl w), (0, .inr (.inr (.inl 96))), (1, .inl a0), (2, .inl a1)]) rfl rfl (fun _ => rfl) (by decide) rfl (by decide) (by omega) (fun x2020 q2021 => ?_)
                                        refine R_goto 166 rfl rfl ?_
                                        exact RUN_weak (psub_cons rfl (psub_cons rfl (psub_cons rfl (psub_cons rfl (psub_nil _))))) (ih1955 h1952 x2020 hI fr fl1953 (by omega) (by omega) (by rw [zHolds_s (x := x1954) (x' := x2020) (by omega) (by omega), ← m1961]; refine hK.trans ?_; subst e1987 e1980 e1977; simp only [zHold1, eLine] <;> (repeat' split) <;> first | (exfalso; omega) | rfl) (hE) (by omega))
                                      · exfalso; omega
                            have k2022 : (0 : Int32).toInt = 0 := by decide
                            exact lp1951 _ h1938 (0 : Int32) hI fr (FR.rf _ _) (by decide) (by omega) (by rw [hK]; rfl) (hE) (Nat.lt_succ_self _)
                      · rw [hE] at zq1616
                        show RUN d_X9_goSecond 115 [(3, .inl x872), (0, .inr (.inr (.inl 96))), (1, .inl a0), (2, .inl a1)] [.inl x1617] h870 _
                        refine N_if_ne (a := x1617.toInt) 164 rfl rfl rfl (fun c2023 => ?_) (fun c2023 => ?_)
                        · have hK : kyOf h870 = zTake (evOf h) a0 (zMid (evOf h) a0 a1 (kyOf h)) := by
                            refine hK.trans ?_
                            subst e1611 e1507 e1504
                            simp only [zTake, zTake1, eMany, eLine, eFull] <;> (repeat' split) <;> first | (exfalso; omega) | rfl
                          refine R_iconst 0 rfl rfl ?_
                          refine R_istore_n (k := 3) rfl [(3, .inl 0), (0, .inr (.inr (.inl 96))), (1, .inl a0), (2, .inl a1)] rfl rfl (by decide) ?_
                          have lp2025 : ∀ (n2024 : Nat) (h2026 : PH) (x2028 : Int32), INV h2026 → FR [96, 107, 108, 109, 117, 118] h h2026 → FR [107] h870 h2026 → 0 ≤ x2028.toInt ∧ x2028.toInt ≤ 6 → x2028.toInt ≤ (h870.1 96 18).toInt + 0 → (kyOf h2026 = zHolds (evOf h) a0 x2028.toNatClampNeg (zTake (evOf h) a0 (zMid (evOf h) a0 a1 (kyOf h)))) → (evOf h2026 = evOf h) → (6 - x2028.toInt).toNat < n2024 → RUN d_X9_goSecond 166 [(3, .inl x2028), (0, .inr (.inr (.inl 96))), (1, .inl a0), (2, .inl a1)] [] h2026 (qg_X9_goSecond h a0 a1) := by
                            intro n2024
                            induction n2024 with
                            | zero => intro h2026 x2028 m2030 m2031 m2032 m2033 m2034 m2035 m2036 hz; exact absurd hz (Nat.not_lt_zero _)
                            | succ n2024 ih2029 =>
                              intro h2026 x2028 hI fr fl2027 m2033 m2034 m2035 m2036 hz
                              have s2037 : (h2026.1 96 41).toInt = (h870.1 96 41).toInt := by rw [(fl2027 96 (by decide)).1]
                              have s2038 : (h2026.1 96 42).toInt = (h870.1 96 42).toInt := by rw [(fl2027 96 (by decide)).1]
                              have s2039 : (h2026.1 96 19).toInt = (h870.1 96 19).toInt := by rw [(fl2027 96 (by decide)).1]
                              have s2040 : (h2026.1 96 18).toInt = (h870.1 96 18).toInt := by rw [(fl2027 96 (by decide)).1]
                              have s2041 : (h2026.1 96 20).toInt = (h870.1 96 20).toInt := by rw [(fl2027 96 (by decide)).1]
                              have s2042 : (h2026.1 96 46).toInt = (h870.1 96 46).toInt := by rw [(fl2027 96 (by decide)).1]
                              have s2043 : (h2026.1 96 44).toInt = (h870.1 96 44).toInt := by rw [(fl2027 96 (by decide)).1]
                              have s2044 : (h2026.1 96 47).toInt = (h870.1 96 47).toInt := by rw [(fl2027 96 (by decide)).1]
                              have s2045 : (h2026.1 96 48).toInt = (h870.1 96 48).toInt := by rw [(fl2027 96 (by decide)).1]
                              have s2046 : (h2026.1 96 51).toInt = (h870.1 96 51).toInt := by rw [(fl2027 96 (by decide)).1]
                              have fl871 : FR [96, 107, 108, 109, 117, 118] h851 h2026 := fl871.trans fl2027 (by decide)
                              have fl829 : FR [96, 107, 108, 109, 117, 118] h812 h2026 := fl829.trans fl2027 (by decide)
                              have hE := m2036
                              have hK : kyOf h2026 = kyOf h2026 := rfl
                              refine R_iload_n (k := 3) rfl rfl rfl ?_
                              refine R_aload_n (k := 0) rfl rfl rfl ?_
                              refine R_getf_i (j := 18) rfl ft_9_253 sh_96 rfl ?_
                              refine N_icmp_ge (a := x2028.toInt) (b := (h2026.1 96 18).toInt) 224 rfl rfl rfl rfl (fun c2047 => ?_) (fun c2047 => ?_)
                              · have hF : kyOf h2026 = zSecond (evOf h) a0 a1 (kyOf h) := m2035.trans (by rw [show x2028 = (evOf h).2.2.2.2.1 from i_of _ (by omega)]; rfl)
                                exact R_vret rfl rfl ⟨hI, fr, ⟨by omega, by omega, by omega, by omega, by omega, by omega, by omega, by omega, by omega, by omega, hF, hE, trivial⟩, rfl⟩
                              · refine R_aload_n (k := 0) rfl rfl rfl ?_
                                refine R_getf_r (j := 22) rfl ft_9_46 sh_96 rfl ?_
                                refine R_aload_n (k := 0) rfl rfl rfl ?_
                                refine R_getf_r (j := 17) rfl ft_9_40 sh_96 rfl ?_
                                refine R_iload_n (k := 3) rfl rfl rfl ?_
                                refine R_iald rfl sh_105 ⟨by omega, by omega⟩ ?_
                                refine N_eq (fun x2048 e2049 => ?_)
                                have q2050 : 0 ≤ x2048.toInt ∧ x2048.toInt ≤ 5 := by rw [e2049]; exact hI.1 105 _
                                have e2051 : x2048 = (evOf h).2.2.2.1 x2028.toNatClampNeg := by rw [e2049]; exact congrFun (congrArg (fun q : EV => q.2.2.2.1) hE) _
                                refine R_iald rfl sh_107 ⟨by omega, by omega⟩ ?_
                                refine N_eq (fun x2052 e2053 => ?_)
                                have e2054 : x2052 = ((kyOf h2026).1) x2048.toNatClampNeg := by rw [e2053]; exact (ky_at107 (nlt ⟨by omega, by omega⟩)).trans (congrFun (congrArg (fun q : KY => q.1) hK) _)
                                refine R_iconst (-1) rfl rfl ?_
                                refine N_icmp_eq (a := x2052.toInt) (b := (-1)) 218 rfl rfl rfl (by decide) (fun c2055 => ?_) (fun c2055 => ?_)
                                · refine N_iinc (a := x2028.toInt) (c := 1) (fun w => [(3, .inl w), (0, .inr (.inr (.inl 96))), (1, .inl a0), (2, .inl a1)]) rfl rfl (fun _ => rfl) (by decide) rfl (by decide) (by omega) (fun x2056 q2057 => ?_)
                                  refine R_goto 166 rfl rfl ?_
                                  exact RUN_weak (psub_cons rfl (psub_cons rfl (psub_cons rfl (psub_cons rfl (psub_nil _))))) (ih2029 h2026 x2056 hI fr fl2027 (by omega) (by omega) (by rw [zHolds_s (x := x2028) (x' := x2056) (by omega) (by omega), ← m2035]; refine hK.trans ?_; subst e2054 e2051; simp only [zHold1, eLine] <;> (repeat' split) <;> first | (exfalso; omega) | rfl) (hE) (by omega))
                                · refine R_aload_n (k := 0) rfl rfl rfl ?_
                                  refine R_aload_n (k := 0) rfl rfl rfl ?_
                                  refine R_getf_r (j := 17) rfl ft_9_40 sh_96 rfl ?_
                                  refine R_iload_n (k := 3) rfl rfl rfl ?_
                                  refine R_iald rfl sh_105 ⟨by omega, by omega⟩ ?_
                                  refine N_eq (fun x2058 e2059 => ?_)
                                  have q2060 : 0 ≤ x2058.toInt ∧ x2058.toInt ≤ 5 := by rw [e2059]; exact hI.1 105 _
                                  have e2061 : x2058 = (evOf h).2.2.2.1 x2028.toNatClampNeg := by rw [e2059]; exact congrFun (congrArg (fun q : EV => q.2.2.2.1) hE) _
                                  refine R_iload_n (k := 1) rfl rfl rfl ?_
                                  refine R_callV (v := .inr (.inr (.inl 96))) (As := [.inl x2058, .inl a0]) (rest := []) rfl mt_9_i271 pp_X9_doesRest (by decide) rfl rfl rfl (Nat.le_of_ble_eq_true rfl) (Nat.le_of_ble_eq_true rfl) ((g_X9_doesRest h2026 hI x2058 a0 (by omega) (by omega)).mono (fun r2062 h2063 p2064 => ?_))
                                  obtain ⟨rfl, x2066, rfl, (q2067 | q2067 | q2067), zq2065, -⟩ := p2064
                                  · rw [hE] at zq2065
                                    exfalso; omega
                                  · rw [hE] at zq2065
                                    show RUN d_X9_goSecond 200 [(3, .inl x2028), (0, .inr (.inr (.inl 96))), (1, .inl a0), (2, .inl a1)] [.inl x2066] h2026 _
                                    refine N_if_ne (a := x2066.toInt) 218 rfl rfl rfl (fun c2068 => ?_) (fun c2068 => ?_)
                                    · exfalso; omega
                                    · refine R_aload_n (k := 0) rfl rfl rfl ?_
                                      refine R_getf_r (j := 22) rfl ft_9_46 sh_96 rfl ?_
                                      refine R_aload_n (k := 0) rfl rfl rfl ?_
                                      refine R_getf_r (j := 17) rfl ft_9_40 sh_96 rfl ?_
                                      refine R_iload_n (k := 3) rfl rfl rfl ?_
                                      refine R_iald rfl sh_105 ⟨by omega, by omega⟩ ?_
                                      refine N_eq (fun x2069 e2070 => ?_)
                                      have q2071 : 0 ≤ x2069.toInt ∧ x2069.toInt ≤ 5 := by rw [e2070]; exact hI.1 105 _
                                      have e2072 : x2069 = (evOf h).2.2.2.1 x2028.toNatClampNeg := by rw [e2070]; exact congrFun (congrArg (fun q : EV => q.2.2.2.1) hE) _
                                      refine R_dup2 rfl ?_
                                      refine R_iald rfl sh_107 ⟨by omega, by omega⟩ ?_
                                      refine N_eq (fun x2073 e2074 => ?_)
                                      have e2075 : x2073 = ((kyOf h2026).1) x2069.toNatClampNeg := by rw [e2074]; exact (ky_at107 (nlt ⟨by omega, by omega⟩)).trans (congrFun (congrArg (fun q : KY => q.1) hK) _)
                                      refine R_iconst 1 rfl rfl ?_
                                      have b2076 := i_rng x2073
                                      refine R_iadd rfl ?_
                                      refine N_eq (fun x2077 e2078 => ?_)
                                      refine K_iast (a := x2069.toInt) (lo := (-2147483648)) (hi' := 2147483647) rfl sh_107 rfl ⟨by omega, by omega⟩ hI (by decide) rfl (i_rng _) fr (by decide) (fun h2079 g2080 hI fr => ?_)
                                      have fl2027 : FR [107] h870 h2079 := by rw [g2080]; exact FR_wI _ _ fl2027 (by decide)
                                      have fl871 : FR [96, 107, 108, 109, 117, 118] h851 h2079 := by rw [g2080]; exact FR_wI _ _ fl871 (by decide)
                                      have fl829 : FR [96, 107, 108, 109, 117, 118] h812 h2079 := by rw [g2080]; exact FR_wI _ _ fl829 (by decide)
                                      have s2081 : (h2079.1 96 41).toInt = (h2026.1 96 41).toInt := by rw [g2080, wI_ne _ _ _ (by decide)]
                                      have s2082 : (h2079.1 96 42).toInt = (h2026.1 96 42).toInt := by rw [g2080, wI_ne _ _ _ (by decide)]
                                      have s2083 : (h2079.1 96 19).toInt = (h2026.1 96 19).toInt := by rw [g2080, wI_ne _ _ _ (by decide)]
                                      have s2084 : (h2079.1 96 18).toInt = (h2026.1 96 18).toInt := by rw [g2080, wI_ne _ _ _ (by decide)]
                                      have s2085 : (h2079.1 96 20).toInt = (h2026.1 96 20).toInt := by rw [g2080, wI_ne _ _ _ (by decide)]
                                      have s2086 : (h2079.1 96 46).toInt = (h2026.1 96 46).toInt := by rw [g2080, wI_ne _ _ _ (by decide)]
                                      have s2087 : (h2079.1 96 44).toInt = (h2026.1 96 44).toInt := by rw [g2080, wI_ne _ _ _ (by decide)]
                                      have s2088 : (h2079.1 96 47).toInt = (h2026.1 96 47).toInt := by rw [g2080, wI_ne _ _ _ (by decide)]
                                      have s2089 : (h2079.1 96 48).toInt = (h2026.1 96 48).toInt := by rw [g2080, wI_ne _ _ _ (by decide)]
                                      have s2090 : (h2079.1 96 51).toInt = (h2026.1 96 51).toInt := by rw [g2080, wI_ne _ _ _ (by decide)]
                                      have hK : kyOf h2079 = (upd ((kyOf h2026).1) x2069.toNatClampNeg x2077, (kyOf h2026).2.1, (kyOf h2026).2.2.1, (kyOf h2026).2.2.2) := by rw [g2080, ky_107 (nlt ⟨by omega, by omega⟩), hK] <;> rfl
                                      have hE : evOf h2079 = evOf h := by rw [g2080, ev_o (by decide), hE]
                                      refine N_iinc (a := x2028.toInt) (c := 1) (fun w => [(3, .inl w), (0, .inr (.inr (.inl 96))), (1, .inl a0), (2, .inl a1)]) rfl rfl (fun _ => rfl) (by decide) rfl (by decide) (by omega) (fun x2091 q2092 => ?_)
                                      refine R_goto 166 rfl rfl ?_
                                      exact RUN_weak (psub_cons rfl (psub_cons rfl (psub_cons rfl (psub_cons rfl (psub_nil _))))) (ih2029 h2079 x2091 hI fr fl2027 (by omega) (by omega) (by rw [zHolds_s (x := x2028) (x' := x2091) (by omega) (by omega), ← m2035]; refine hK.trans ?_; subst e2078 e2075 e2072 e2061 e2054 e2051; simp only [zHold1, eLine] <;> (repeat' split) <;> first | (exfalso; omega) | rfl) (hE) (by omega))
                                  · rw [hE] at zq2065
                                    show RUN d_X9_goSecond 200 [(3, .inl x2028), (0, .inr (.inr (.inl 96))), (1, .inl a0), (2, .inl a1)] [.inl x2066] h2026 _
                                    refine N_if_ne (a := x2066.toInt) 218 rfl rfl rfl (fun c2093 => ?_) (fun c2093 => ?_)
                                    · refine N_iinc (a := x2028.toInt) (c := 1) (fun w => [(3, .inl w), (0, .inr (.inr (.inl 96))), (1, .inl a0), (2, .inl a1)]) rfl rfl (fun _ => rfl) (by decide) rfl (by decide) (by omega) (fun x2094 q2095 => ?_)
                                      refine R_goto 166 rfl rfl ?_
                                      exact RUN_weak (psub_cons rfl (psub_cons rfl (psub_cons rfl (psub_cons rfl (psub_nil _))))) (ih2029 h2026 x2094 hI fr fl2027 (by omega) (by omega) (by rw [zHolds_s (x := x2028) (x' := x2094) (by omega) (by omega), ← m2035]; refine hK.trans ?_; subst e2061 e2054 e2051; simp only [zHold1, eLine] <;> (repeat' split) <;> first | (exfalso; omega) | rfl) (hE) (by omega))
                                    · exfalso; omega
                          have k2096 : (0 : Int32).toInt = 0 := by decide
                          exact lp2025 _ h870 (0 : Int32) hI fr (FR.rf _ _) (by decide) (by omega) (by rw [hK]; rfl) (hE) (Nat.lt_succ_self _)
                        · exfalso; omega
                · refine R_aload_n (k := 0) rfl rfl rfl ?_
                  refine R_iload_n (k := 3) rfl rfl rfl ?_
                  refine R_iload_n (k := 1) rfl rfl rfl ?_
                  have b2097 := i_rng a0
                  refine R_callV (v := .inr (.inr (.inl 96))) (As := [.inl x872, .inl a0]) (rest := []) rfl mt_9_i278 pp_X9_goPlace (by decide) rfl rfl rfl (Nat.le_of_ble_eq_true rfl) (Nat.le_of_ble_eq_true rfl) ((g_X9_goPlace h870 hI x872 a0 (by omega) (by omega) (by omega)).mono (fun r2098 h2099 p2100 => ?_))
                  obtain ⟨hJ, fj, ⟨kp2101, kp2102, kp2103, kp2104, kp2105, kp2106, kp2107, kp2108, kp2109, kp2110, xq2111, xq2112, -⟩, rfl⟩ := p2100
                  have f2113 := fj
                  have fr := fr.trans fj (by decide)
                  have hI := hJ
                  have fl871 : FR [96, 107, 108, 109, 117, 118] h851 h2099 := fl871.trans fj (by decide)
                  have fl829 : FR [96, 107, 108, 109, 117, 118] h812 h2099 := fl829.trans fj (by decide)
                  have hK : kyOf h2099 = zPlace (evOf h) x872 a0 (kyOf h870) := by rw [xq2111, hE, hK]
                  have hE : evOf h2099 = evOf h := xq2112.trans hE
                  show RUN d_X9_goSecond 76 [(3, .inl x872), (0, .inr (.inr (.inl 96))), (1, .inl a0), (2, .inl a1)] [] h2099 _
                  refine N_iinc (a := x872.toInt) (c := (-1)) (fun w => [(3, .inl w), (0, .inr (.inr (.inl 96))), (1, .inl a0), (2, .inl a1)]) rfl rfl (fun _ => rfl) (by decide) rfl (by decide) (by omega) (fun x2114 q2115 => ?_)
                  refine R_goto 62 rfl rfl ?_
                  exact RUN_weak (psub_cons rfl (psub_cons rfl (psub_cons rfl (psub_cons rfl (psub_nil _))))) (ih873 h2099 x2114 hI fr fl871 (by omega) (by omega) (by omega) (by omega) (by omega) (by omega) (by omega) (by omega) (by omega) (by omega) (by omega) (by omega) (by omega) (by rw [hK, ← zPlaces_s (x := x872) (x' := x2114) (by omega) (by omega)]; exact m890) (fun hc => absurd (show a1.toInt = 0 by omega) hc) (hE) (by omega))
          exact lp869 _ h851 x865 hI fr (FR.rf _ _) (by omega) rfl rfl rfl rfl rfl rfl rfl rfl rfl rfl (by omega) (by omega) ((congrArg (fun q => zPlaces (evOf h) a0 (x865.toInt + 1).toNat q) hK).trans (by rw [tn1 (x := x865) (y := (evOf h).2.2.2.2.1) (by omega) (by omega)])) (fun _ => hK) (hE) (Nat.lt_succ_self _)
        · refine R_aload_n (k := 0) rfl rfl rfl ?_
          refine R_getf_r (j := 24) rfl ft_9_52 sh_96 rfl ?_
          refine R_iload_n (k := 3) rfl rfl rfl ?_
          refine R_aload_n (k := 0) rfl rfl rfl ?_
          refine R_getf_r (j := 24) rfl ft_9_52 sh_96 rfl ?_
          refine R_iload_n (k := 3) rfl rfl rfl ?_
          refine R_iconst 1 rfl rfl ?_
          refine R_iadd rfl ?_
          refine N_eq (fun x2116 e2117 => ?_)
          have q2118 : x2116.toInt = x830.toInt + 1 := by rw [e2117]; exact i_add rfl (by decide) (by omega)
          refine R_iald rfl sh_109 ⟨by omega, by omega⟩ ?_
          refine N_eq (fun x2119 e2120 => ?_)
          have e2121 : x2119 = ((kyOf h828).2.2.1) x2116.toNatClampNeg := by rw [e2120]; exact (ky_at109 (nlt ⟨by omega, by omega⟩)).trans (congrFun (congrArg (fun q : KY => q.2.2.1) hK) _)
          refine K_iast (a := x830.toInt) (lo := (-2147483648)) (hi' := 2147483647) rfl sh_109 rfl ⟨by omega, by omega⟩ hI (by decide) rfl (i_rng _) fr (by decide) (fun h2122 g2123 hI fr => ?_)
          have fl829 : FR [96, 107, 108, 109, 117, 118] h812 h2122 := by rw [g2123]; exact FR_wI _ _ fl829 (by decide)
          have s2124 : (h2122.1 96 34).toInt = (h828.1 96 34).toInt := by rw [g2123, wI_ne _ _ _ (by decide)]
          have s2125 : (h2122.1 96 36).toInt = (h828.1 96 36).toInt := by rw [g2123, wI_ne _ _ _ (by decide)]
          have s2126 : (h2122.1 96 41).toInt = (h828.1 96 41).toInt := by rw [g2123, wI_ne _ _ _ (by decide)]
          have s2127 : (h2122.1 96 42).toInt = (h828.1 96 42).toInt := by rw [g2123, wI_ne _ _ _ (by decide)]
          have s2128 : (h2122.1 96 19).toInt = (h828.1 96 19).toInt := by rw [g2123, wI_ne _ _ _ (by decide)]
          have s2129 : (h2122.1 96 18).toInt = (h828.1 96 18).toInt := by rw [g2123, wI_ne _ _ _ (by decide)]
          have s2130 : (h2122.1 96 20).toInt = (h828.1 96 20).toInt := by rw [g2123, wI_ne _ _ _ (by decide)]
          have s2131 : (h2122.1 96 46).toInt = (h828.1 96 46).toInt := by rw [g2123, wI_ne _ _ _ (by decide)]
          have s2132 : (h2122.1 96 44).toInt = (h828.1 96 44).toInt := by rw [g2123, wI_ne _ _ _ (by decide)]
          have s2133 : (h2122.1 96 47).toInt = (h828.1 96 47).toInt := by rw [g2123, wI_ne _ _ _ (by decide)]
          have s2134 : (h2122.1 96 48).toInt = (h828.1 96 48).toInt := by rw [g2123, wI_ne _ _ _ (by decide)]
          have s2135 : (h2122.1 96 51).toInt = (h828.1 96 51).toInt := by rw [g2123, wI_ne _ _ _ (by decide)]
          have hK : kyOf h2122 = ((kyOf h828).1, (kyOf h828).2.1, upd ((kyOf h828).2.2.1) x830.toNatClampNeg x2119, (kyOf h828).2.2.2) := by rw [g2123, ky_109 (nlt ⟨by omega, by omega⟩), hK] <;> rfl
          have hE : evOf h2122 = evOf h := by rw [g2123, ev_o (by decide), hE]
          refine N_iinc (a := x830.toInt) (c := 1) (fun w => [(3, .inl w), (0, .inr (.inr (.inl 96))), (1, .inl a0), (2, .inl a1)]) rfl rfl (fun _ => rfl) (by decide) rfl (by decide) (by omega) (fun x2136 q2137 => ?_)
          refine R_goto 21 rfl rfl ?_
          exact RUN_weak (psub_cons rfl (psub_cons rfl (psub_cons rfl (psub_cons rfl (psub_nil _))))) (ih831 h2122 x2136 hI fr fl829 (by omega) (by omega) (by omega) (by omega) (by omega) (by omega) (by omega) (by omega) (by omega) (by omega) (by omega) trivial trivial (by rw [zShN_s (b := (kyOf h).2.2.1) (x := x830) (x' := x2136) (y := x2116) (by omega) (by omega) (by omega)]; refine hK.trans ?_; subst e2121; rw [m848] <;> rfl) (hE) (by omega))
    have k2138 : (1 : Int32).toInt = 1 := by decide
    exact lp827 _ h812 (1 : Int32) hI fr (FR.rf _ _) (by decide) rfl rfl rfl rfl rfl rfl rfl rfl rfl rfl trivial trivial (by refine hK.trans ?_; subst e811 e807 e804; rw [zShN_1]) (hE) (Nat.lt_succ_self _)

abbrev qg_X9_startLine (h : PH)  : Option PV → PH → Prop := fun r h' => INV h' ∧ FR [96, 107, 108, 109, 117, 118] h h' ∧ ((h'.1 96 19).toInt = (h.1 96 19).toInt ∧ (h'.1 96 42).toInt = (h.1 96 42).toInt ∧ (h'.1 96 18).toInt = (h.1 96 18).toInt ∧ (h'.1 96 20).toInt = (h.1 96 20).toInt ∧ (h'.1 96 46).toInt = (h.1 96 46).toInt ∧ (h'.1 96 44).toInt = (h.1 96 44).toInt ∧ (h'.1 96 47).toInt = (h.1 96 47).toInt ∧ (h'.1 96 48).toInt = (h.1 96 48).toInt ∧ (h'.1 96 51).toInt = (h.1 96 51).toInt ∧ (kyOf h' = zStart (eBuck (evOf h))) ∧ (evOf h' = evOf h) ∧ True) ∧ r = none
set_option maxHeartbeats 4000000 in
set_option maxRecDepth 100000 in
theorem g_X9_startLine (h : PH) (hI : INV h)  : CALL d_X9_startLine [.inr (.inr (.inl 96))] h (qg_X9_startLine h) := by
  show RUN d_X9_startLine 0 [(0, .inr (.inr (.inl 96)))] [] h _
  have fr : FR [96, 107, 108, 109, 117, 118] h h := FR.rf _ _
  have hK : kyOf h = kyOf h := rfl
  have hE : evOf h = evOf h := rfl
  have b1 : (0 : Int) ≤ (h.1 96 18).toInt ∧ (h.1 96 18).toInt ≤ 6 := hI.1 96 18
  have b2 : (h.1 96 18).toInt = ((evOf h).2.2.2.2.1).toInt := congrArg (fun q : EV => (q.2.2.2.2.1).toInt) hE
  have b3 : (0 : Int) ≤ (h.1 96 51).toInt ∧ (h.1 96 51).toInt ≤ 720 := hI.1 96 51
  refine R_iconst 0 rfl rfl ?_
  refine R_istore_n (k := 1) rfl [(1, .inl 0), (0, .inr (.inr (.inl 96)))] rfl rfl (by decide) ?_
  have lp5 : ∀ (n4 : Nat) (h6 : PH) (x8 : Int32), INV h6 → FR [96, 107, 108, 109, 117, 118] h h6 → FR [96, 107, 108, 109, 117, 118] h h6 → 0 ≤ x8.toInt ∧ x8.toInt ≤ 6 → (h6.1 96 19).toInt = (h.1 96 19).toInt → (h6.1 96 42).toInt = (h.1 96 42).toInt → (h6.1 96 18).toInt = (h.1 96 18).toInt → (h6.1 96 20).toInt = (h.1 96 20).toInt → (h6.1 96 46).toInt = (h.1 96 46).toInt → (h6.1 96 44).toInt = (h.1 96 44).toInt → (h6.1 96 47).toInt = (h.1 96 47).toInt → (h6.1 96 48).toInt = (h.1 96 48).toInt → (h6.1 96 51).toInt = (h.1 96 51).toInt → (∀ j : Nat, (j : Int) < x8.toInt → (kyOf h6).1 j = -1 ∧ (kyOf h6).2.1 j = 0) → (evOf h6 = evOf h) → (6 - x8.toInt).toNat < n4 → RUN d_X9_startLine 2 [(1, .inl x8), (0, .inr (.inr (.inl 96)))] [] h6 (qg_X9_startLine h) := by
    intro n4
    induction n4 with
    | zero => intro h6 x8 m10 m11 m12 m13 m14 m15 m16 m17 m18 m19 m20 m21 m22 m23 m24 hz; exact absurd hz (Nat.not_lt_zero _)
    | succ n4 ih9 =>
      intro h6 x8 hI fr fl7 m13 m14 m15 m16 m17 m18 m19 m20 m21 m22 m23 m24 hz
      have hE := m24
      have hK : kyOf h6 = kyOf h6 := rfl
      refine R_iload_n (k := 1) rfl rfl rfl ?_
      refine R_bipush 6 rfl rfl ?_
      refine N_icmp_ge (a := x8.toInt) (b := 6) 42 rfl rfl rfl (by decide) (fun c25 => ?_) (fun c25 => ?_)
      · refine R_iconst 0 rfl rfl ?_
        refine R_istore_n (k := 1) rfl [(1, .inl 0), (0, .inr (.inr (.inl 96)))] rfl rfl (by decide) ?_
        have lp27 : ∀ (n26 : Nat) (h28 : PH) (x30 : Int32), INV h28 → FR [96, 107, 108, 109, 117, 118] h h28 → FR [96, 109] h6 h28 → 0 ≤ x30.toInt ∧ x30.toInt ≤ 23 → (h28.1 96 19).toInt = (h6.1 96 19).toInt → (h28.1 96 42).toInt = (h6.1 96 42).toInt → (h28.1 96 18).toInt = (h6.1 96 18).toInt → (h28.1 96 20).toInt = (h6.1 96 20).toInt → (h28.1 96 46).toInt = (h6.1 96 46).toInt → (h28.1 96 44).toInt = (h6.1 96 44).toInt → (h28.1 96 47).toInt = (h6.1 96 47).toInt → (h28.1 96 48).toInt = (h6.1 96 48).toInt → (h28.1 96 51).toInt = (h6.1 96 51).toInt → ((∀ j : Nat, (j : Int) < x30.toInt → (kyOf h28).2.2.1 j = 0) ∧ (kyOf h28).1 = (kyOf h6).1 ∧ (kyOf h28).2.1 = (kyOf h6).2.1) → (evOf h28 = evOf h) → (23 - x30.toInt).toNat < n26 → RUN d_X9_startLine 44 [(1, .inl x30), (0, .inr (.inr (.inl 96)))] [] h28 (qg_X9_startLine h) := by
          intro n26
          induction n26 with
          | zero => intro h28 x30 m32 m33 m34 m35 m36 m37 m38 m39 m40 m41 m42 m43 m44 m45 m46 hz; exact absurd hz (Nat.not_lt_zero _)
          | succ n26 ih31 =>
            intro h28 x30 hI fr fl29 m35 m36 m37 m38 m39 m40 m41 m42 m43 m44 m45 m46 hz
            have fl7 : FR [96, 107, 108, 109, 117, 118] h h28 := fl7.trans fl29 (by decide)
            have hE := m46
            have hK : kyOf h28 = kyOf h28 := rfl
            refine R_iload_n (k := 1) rfl rfl rfl ?_
            refine R_bipush 23 rfl rfl ?_
            refine N_icmp_ge (a := x30.toInt) (b := 23) 63 rfl rfl rfl (by decide) (fun c47 => ?_) (fun c47 => ?_)
            · refine R_aload_n (k := 0) rfl rfl rfl ?_
              refine R_getf_r (j := 24) rfl ft_9_52 sh_96 rfl ?_
              refine R_iconst 0 rfl rfl ?_
              refine R_aload_n (k := 0) rfl rfl rfl ?_
              refine R_getf_i (j := 19) rfl ft_9_256 sh_96 rfl ?_
              refine N_eq (fun x48 e49 => ?_)
              have e50 : x48 = (evOf h).2.2.2.2.2.2.1 := by rw [e49]; exact congrArg (fun q : EV => q.2.2.2.2.2.2.1) hE
              refine K_iast (a := 0) (lo := (-2147483648)) (hi' := 2147483647) rfl sh_109 (by decide) (by decide) hI (by decide) rfl (i_rng _) fr (by decide) (fun h51 g52 hI fr => ?_)
              have fl29 : FR [96, 109] h6 h51 := by rw [g52]; exact FR_wI _ _ fl29 (by decide)
              have fl7 : FR [96, 107, 108, 109, 117, 118] h h51 := by rw [g52]; exact FR_wI _ _ fl7 (by decide)
              have s53 : (h51.1 96 19).toInt = (h28.1 96 19).toInt := by rw [g52, wI_ne _ _ _ (by decide)]
              have s54 : (h51.1 96 42).toInt = (h28.1 96 42).toInt := by rw [g52, wI_ne _ _ _ (by decide)]
              have s55 : (h51.1 96 18).toInt = (h28.1 96 18).toInt := by rw [g52, wI_ne _ _ _ (by decide)]
              have s56 : (h51.1 96 20).toInt = (h28.1 96 20).toInt := by rw [g52, wI_ne _ _ _ (by decide)]
              have s57 : (h51.1 96 46).toInt = (h28.1 96 46).toInt := by rw [g52, wI_ne _ _ _ (by decide)]
              have s58 : (h51.1 96 44).toInt = (h28.1 96 44).toInt := by rw [g52, wI_ne _ _ _ (by decide)]
              have s59 : (h51.1 96 47).toInt = (h28.1 96 47).toInt := by rw [g52, wI_ne _ _ _ (by decide)]
              have s60 : (h51.1 96 48).toInt = (h28.1 96 48).toInt := by rw [g52, wI_ne _ _ _ (by decide)]
              have s61 : (h51.1 96 51).toInt = (h28.1 96 51).toInt := by rw [g52, wI_ne _ _ _ (by decide)]
              have hK : kyOf h51 = ((kyOf h28).1, (kyOf h28).2.1, upd ((kyOf h28).2.2.1) (0 : Int32).toNatClampNeg x48, (kyOf h28).2.2.2) := by rw [g52, ky_109 (by decide), hK] <;> rfl
              have hE : evOf h51 = evOf h := by rw [g52, ev_o (by decide), hE]
              refine R_aload_n (k := 0) rfl rfl rfl ?_
              refine R_iconst 0 rfl rfl ?_
              refine K_putf (j := 34) (lo := (-2147483648)) (hi' := 2147483647) rfl ft_9_262 sh_96 rfl hI (by decide) rfl (by decide) fr (by decide) (fun h62 g63 hI fr => ?_)
              have fl29 : FR [96, 109] h6 h62 := by rw [g63]; exact FR_wI _ _ fl29 (by decide)
              have fl7 : FR [96, 107, 108, 109, 117, 118] h h62 := by rw [g63]; exact FR_wI _ _ fl7 (by decide)
              have s64 : (h62.1 96 19).toInt = (h51.1 96 19).toInt := by rw [g63, wI_at (by decide)]
              have s65 : (h62.1 96 42).toInt = (h51.1 96 42).toInt := by rw [g63, wI_at (by decide)]
              have s66 : (h62.1 96 18).toInt = (h51.1 96 18).toInt := by rw [g63, wI_at (by decide)]
              have s67 : (h62.1 96 20).toInt = (h51.1 96 20).toInt := by rw [g63, wI_at (by decide)]
              have s68 : (h62.1 96 46).toInt = (h51.1 96 46).toInt := by rw [g63, wI_at (by decide)]
              have s69 : (h62.1 96 44).toInt = (h51.1 96 44).toInt := by rw [g63, wI_at (by decide)]
              have s70 : (h62.1 96 47).toInt = (h51.1 96 47).toInt := by rw [g63, wI_at (by decide)]
              have s71 : (h62.1 96 48).toInt = (h51.1 96 48).toInt := by rw [g63, wI_at (by decide)]
              have s72 : (h62.1 96 51).toInt = (h51.1 96 51).toInt := by rw [g63, wI_at (by decide)]
              have hK : kyOf h62 = ((kyOf h28).1, (kyOf h28).2.1, upd ((kyOf h28).2.2.1) (0 : Int32).toNatClampNeg x48, (kyOf h28).2.2.2) := by rw [g63, ky_s (by decide), hK]
              have hE : evOf h62 = evOf h := by rw [g63, ev_s (by decide), hE]
              have s73 : (h62.1 96 34).toInt = 0 := by rw [g63, wI_is]; rfl
              refine R_aload_n (k := 0) rfl rfl rfl ?_
              refine R_iconst 0 rfl rfl ?_
              refine K_putf (j := 35) (lo := (-2147483648)) (hi' := 2147483647) rfl ft_9_265 sh_96 rfl hI (by decide) rfl (by decide) fr (by decide) (fun h74 g75 hI fr => ?_)
              have fl29 : FR [96, 109] h6 h74 := by rw [g75]; exact FR_wI _ _ fl29 (by decide)
              have fl7 : FR [96, 107, 108, 109, 117, 118] h h74 := by rw [g75]; exact FR_wI _ _ fl7 (by decide)
              have s76 : (h74.1 96 19).toInt = (h62.1 96 19).toInt := by rw [g75, wI_at (by decide)]
              have s77 : (h74.1 96 42).toInt = (h62.1 96 42).toInt := by rw [g75, wI_at (by decide)]
              have s78 : (h74.1 96 18).toInt = (h62.1 96 18).toInt := by rw [g75, wI_at (by decide)]
              have s79 : (h74.1 96 20).toInt = (h62.1 96 20).toInt := by rw [g75, wI_at (by decide)]
              have s80 : (h74.1 96 46).toInt = (h62.1 96 46).toInt := by rw [g75, wI_at (by decide)]
              have s81 : (h74.1 96 44).toInt = (h62.1 96 44).toInt := by rw [g75, wI_at (by decide)]
              have s82 : (h74.1 96 47).toInt = (h62.1 96 47).toInt := by rw [g75, wI_at (by decide)]
              have s83 : (h74.1 96 48).toInt = (h62.1 96 48).toInt := by rw [g75, wI_at (by decide)]
              have s84 : (h74.1 96 51).toInt = (h62.1 96 51).toInt := by rw [g75, wI_at (by decide)]
              have s85 : (h74.1 96 34).toInt = (h62.1 96 34).toInt := by rw [g75, wI_at (by decide)]
              have hK : kyOf h74 = ((kyOf h28).1, (kyOf h28).2.1, upd ((kyOf h28).2.2.1) (0 : Int32).toNatClampNeg x48, 0) := by rw [g75, ky_35, hK] <;> rfl
              have hE : evOf h74 = evOf h := by rw [g75, ev_s (by decide), hE]
              have s86 : (h74.1 96 35).toInt = 0 := by rw [g75, wI_is]; rfl
              refine R_aload_n (k := 0) rfl rfl rfl ?_
              refine R_iconst 0 rfl rfl ?_
              refine K_putf (j := 36) (lo := (-2147483648)) (hi' := 2147483647) rfl ft_9_268 sh_96 rfl hI (by decide) rfl (by decide) fr (by decide) (fun h87 g88 hI fr => ?_)
              have fl29 : FR [96, 109] h6 h87 := by rw [g88]; exact FR_wI _ _ fl29 (by decide)
              have fl7 : FR [96, 107, 108, 109, 117, 118] h h87 := by rw [g88]; exact FR_wI _ _ fl7 (by decide)
              have s89 : (h87.1 96 19).toInt = (h74.1 96 19).toInt := by rw [g88, wI_at (by decide)]
              have s90 : (h87.1 96 42).toInt = (h74.1 96 42).toInt := by rw [g88, wI_at (by decide)]
              have s91 : (h87.1 96 18).toInt = (h74.1 96 18).toInt := by rw [g88, wI_at (by decide)]
              have s92 : (h87.1 96 20).toInt = (h74.1 96 20).toInt := by rw [g88, wI_at (by decide)]
              have s93 : (h87.1 96 46).toInt = (h74.1 96 46).toInt := by rw [g88, wI_at (by decide)]
              have s94 : (h87.1 96 44).toInt = (h74.1 96 44).toInt := by rw [g88, wI_at (by decide)]
              have s95 : (h87.1 96 47).toInt = (h74.1 96 47).toInt := by rw [g88, wI_at (by decide)]
              have s96 : (h87.1 96 48).toInt = (h74.1 96 48).toInt := by rw [g88, wI_at (by decide)]
              have s97 : (h87.1 96 51).toInt = (h74.1 96 51).toInt := by rw [g88, wI_at (by decide)]
              have s98 : (h87.1 96 34).toInt = (h74.1 96 34).toInt := by rw [g88, wI_at (by decide)]
              have s99 : (h87.1 96 35).toInt = (h74.1 96 35).toInt := by rw [g88, wI_at (by decide)]
              have hK : kyOf h87 = ((kyOf h28).1, (kyOf h28).2.1, upd ((kyOf h28).2.2.1) (0 : Int32).toNatClampNeg x48, 0) := by rw [g88, ky_s (by decide), hK]
              have hE : evOf h87 = evOf h := by rw [g88, ev_s (by decide), hE]
              have s100 : (h87.1 96 36).toInt = 0 := by rw [g88, wI_is]; rfl
              have hF : kyOf h87 = zStart (eBuck (evOf h)) := by
                refine hK.trans ?_
                subst e50
                have a1 : (kyOf h28).1 = tr 6 (fun _ => -1) := m45.2.1.trans (tr_all (n := 6) (f := h6.1 107) (fun j hj => (m23 j (by omega)).1))
                have a2 : (kyOf h28).2.1 = tr 6 (fun _ => 0) := m45.2.2.trans (tr_all (n := 6) (f := h6.1 108) (fun j hj => (m23 j (by omega)).2))
                have a3 : (kyOf h28).2.2.1 = tr 23 (fun _ => 0) := tr_all (n := 23) (f := h28.1 109) (fun j hj => m45.1 j (by omega))
                rw [a1, a2, a3] <;> rfl
              exact R_vret rfl rfl ⟨hI, fr, ⟨by omega, by omega, by omega, by omega, by omega, by omega, by omega, by omega, by omega, hF, hE, trivial⟩, rfl⟩
            · refine R_aload_n (k := 0) rfl rfl rfl ?_
              refine R_getf_r (j := 24) rfl ft_9_52 sh_96 rfl ?_
              refine R_iload_n (k := 1) rfl rfl rfl ?_
              refine R_iconst 0 rfl rfl ?_
              refine K_iast (a := x30.toInt) (lo := (-2147483648)) (hi' := 2147483647) rfl sh_109 rfl ⟨by omega, by omega⟩ hI (by decide) rfl (by decide) fr (by decide) (fun h101 g102 hI fr => ?_)
              have fl29 : FR [96, 109] h6 h101 := by rw [g102]; exact FR_wI _ _ fl29 (by decide)
              have fl7 : FR [96, 107, 108, 109, 117, 118] h h101 := by rw [g102]; exact FR_wI _ _ fl7 (by decide)
              have s103 : (h101.1 96 19).toInt = (h28.1 96 19).toInt := by rw [g102, wI_ne _ _ _ (by decide)]
              have s104 : (h101.1 96 42).toInt = (h28.1 96 42).toInt := by rw [g102, wI_ne _ _ _ (by decide)]
              have s105 : (h101.1 96 18).toInt = (h28.1 96 18).toInt := by rw [g102, wI_ne _ _ _ (by decide)]
              have s106 : (h101.1 96 20).toInt = (h28.1 96 20).toInt := by rw [g102, wI_ne _ _ _ (by decide)]
              have s107 : (h101.1 96 46).toInt = (h28.1 96 46).toInt := by rw [g102, wI_ne _ _ _ (by decide)]
              have s108 : (h101.1 96 44).toInt = (h28.1 96 44).toInt := by rw [g102, wI_ne _ _ _ (by decide)]
              have s109 : (h101.1 96 47).toInt = (h28.1 96 47).toInt := by rw [g102, wI_ne _ _ _ (by decide)]
              have s110 : (h101.1 96 48).toInt = (h28.1 96 48).toInt := by rw [g102, wI_ne _ _ _ (by decide)]
              have s111 : (h101.1 96 51).toInt = (h28.1 96 51).toInt := by rw [g102, wI_ne _ _ _ (by decide)]
              have hK : kyOf h101 = ((kyOf h28).1, (kyOf h28).2.1, upd ((kyOf h28).2.2.1) x30.toNatClampNeg (0), (kyOf h28).2.2.2) := by rw [g102, ky_109 (nlt ⟨by omega, by omega⟩), hK] <;> rfl
              have hE : evOf h101 = evOf h := by rw [g102, ev_o (by decide), hE]
              refine N_iinc (a := x30.toInt) (c := 1) (fun w => [(1, .inl w), (0, .inr (.inr (.inl 96)))]) rfl rfl (fun _ => rfl) (by decide) rfl (by decide) (by omega) (fun x112 q113 => ?_)
              refine R_goto 44 rfl rfl ?_
              exact RUN_weak (psub_cons rfl (psub_cons rfl (psub_nil _))) (ih31 h101 x112 hI fr fl29 (by omega) (by omega) (by omega) (by omega) (by omega) (by omega) (by omega) (by omega) (by omega) (by omega) (⟨by rw [hK]; exact up_step1 (x := x30) (x' := x112) m45.1 (by omega) (by omega), by rw [hK]; exact m45.2.1, by rw [hK]; exact m45.2.2⟩) (hE) (by omega))
        have k114 : (0 : Int32).toInt = 0 := by decide
        exact lp27 _ h6 (0 : Int32) hI fr (FR.rf _ _) (by decide) rfl rfl rfl rfl rfl rfl rfl rfl rfl (⟨fun j hj => absurd hj (by omega), by rw [hK], by rw [hK]⟩) (hE) (Nat.lt_succ_self _)
      · refine R_aload_n (k := 0) rfl rfl rfl ?_
        refine R_getf_r (j := 22) rfl ft_9_46 sh_96 rfl ?_
        refine R_iload_n (k := 1) rfl rfl rfl ?_
        refine R_iconst (-1) rfl rfl ?_
        refine K_iast (a := x8.toInt) (lo := (-2147483648)) (hi' := 2147483647) rfl sh_107 rfl ⟨by omega, by omega⟩ hI (by decide) rfl (by decide) fr (by decide) (fun h115 g116 hI fr => ?_)
        have fl7 : FR [96, 107, 108, 109, 117, 118] h h115 := by rw [g116]; exact FR_wI _ _ fl7 (by decide)
        have s117 : (h115.1 96 19).toInt = (h6.1 96 19).toInt := by rw [g116, wI_ne _ _ _ (by decide)]
        have s118 : (h115.1 96 42).toInt = (h6.1 96 42).toInt := by rw [g116, wI_ne _ _ _ (by decide)]
        have s119 : (h115.1 96 18).toInt = (h6.1 96 18).toInt := by rw [g116, wI_ne _ _ _ (by decide)]
        have s120 : (h115.1 96 20).toInt = (h6.1 96 20).toInt := by rw [g116, wI_ne _ _ _ (by decide)]
        have s121 : (h115.1 96 46).toInt = (h6.1 96 46).toInt := by rw [g116, wI_ne _ _ _ (by decide)]
        have s122 : (h115.1 96 44).toInt = (h6.1 96 44).toInt := by rw [g116, wI_ne _ _ _ (by decide)]
        have s123 : (h115.1 96 47).toInt = (h6.1 96 47).toInt := by rw [g116, wI_ne _ _ _ (by decide)]
        have s124 : (h115.1 96 48).toInt = (h6.1 96 48).toInt := by rw [g116, wI_ne _ _ _ (by decide)]
        have s125 : (h115.1 96 51).toInt = (h6.1 96 51).toInt := by rw [g116, wI_ne _ _ _ (by decide)]
        have hK : kyOf h115 = (upd ((kyOf h6).1) x8.toNatClampNeg ((-1)), (kyOf h6).2.1, (kyOf h6).2.2.1, (kyOf h6).2.2.2) := by rw [g116, ky_107 (nlt ⟨by omega, by omega⟩), hK] <;> rfl
        have hE : evOf h115 = evOf h := by rw [g116, ev_o (by decide), hE]
        refine R_aload_n (k := 0) rfl rfl rfl ?_
        refine R_getf_r (j := 23) rfl ft_9_49 sh_96 rfl ?_
        refine R_iload_n (k := 1) rfl rfl rfl ?_
        refine R_iconst 0 rfl rfl ?_
        refine K_iast (a := x8.toInt) (lo := (-2147483648)) (hi' := 2147483647) rfl sh_108 rfl ⟨by omega, by omega⟩ hI (by decide) rfl (by decide) fr (by decide) (fun h126 g127 hI fr => ?_)
        have fl7 : FR [96, 107, 108, 109, 117, 118] h h126 := by rw [g127]; exact FR_wI _ _ fl7 (by decide)
        have s128 : (h126.1 96 19).toInt = (h115.1 96 19).toInt := by rw [g127, wI_ne _ _ _ (by decide)]
        have s129 : (h126.1 96 42).toInt = (h115.1 96 42).toInt := by rw [g127, wI_ne _ _ _ (by decide)]
        have s130 : (h126.1 96 18).toInt = (h115.1 96 18).toInt := by rw [g127, wI_ne _ _ _ (by decide)]
        have s131 : (h126.1 96 20).toInt = (h115.1 96 20).toInt := by rw [g127, wI_ne _ _ _ (by decide)]
        have s132 : (h126.1 96 46).toInt = (h115.1 96 46).toInt := by rw [g127, wI_ne _ _ _ (by decide)]
        have s133 : (h126.1 96 44).toInt = (h115.1 96 44).toInt := by rw [g127, wI_ne _ _ _ (by decide)]
        have s134 : (h126.1 96 47).toInt = (h115.1 96 47).toInt := by rw [g127, wI_ne _ _ _ (by decide)]
        have s135 : (h126.1 96 48).toInt = (h115.1 96 48).toInt := by rw [g127, wI_ne _ _ _ (by decide)]
        have s136 : (h126.1 96 51).toInt = (h115.1 96 51).toInt := by rw [g127, wI_ne _ _ _ (by decide)]
        have hK : kyOf h126 = (upd ((kyOf h6).1) x8.toNatClampNeg ((-1)), upd ((kyOf h6).2.1) x8.toNatClampNeg (0), (kyOf h6).2.2.1, (kyOf h6).2.2.2) := by rw [g127, ky_108 (nlt ⟨by omega, by omega⟩), hK] <;> rfl
        have hE : evOf h126 = evOf h := by rw [g127, ev_o (by decide), hE]
        refine R_aload_n (k := 0) rfl rfl rfl ?_
        refine R_getf_r (j := 32) rfl ft_9_76 sh_96 rfl ?_
        refine R_iload_n (k := 1) rfl rfl rfl ?_
        refine R_iconst 0 rfl rfl ?_
        refine K_iast (a := x8.toInt) (lo := (-2147483648)) (hi' := 2147483647) rfl sh_117 rfl ⟨by omega, by omega⟩ hI (by decide) rfl (by decide) fr (by decide) (fun h137 g138 hI fr => ?_)
        have fl7 : FR [96, 107, 108, 109, 117, 118] h h137 := by rw [g138]; exact FR_wI _ _ fl7 (by decide)
        have s139 : (h137.1 96 19).toInt = (h126.1 96 19).toInt := by rw [g138, wI_ne _ _ _ (by decide)]
        have s140 : (h137.1 96 42).toInt = (h126.1 96 42).toInt := by rw [g138, wI_ne _ _ _ (by decide)]
        have s141 : (h137.1 96 18).toInt = (h126.1 96 18).toInt := by rw [g138, wI_ne _ _ _ (by decide)]
        have s142 : (h137.1 96 20).toInt = (h126.1 96 20).toInt := by rw [g138, wI_ne _ _ _ (by decide)]
        have s143 : (h137.1 96 46).toInt = (h126.1 96 46).toInt := by rw [g138, wI_ne _ _ _ (by decide)]
        have s144 : (h137.1 96 44).toInt = (h126.1 96 44).toInt := by rw [g138, wI_ne _ _ _ (by decide)]
        have s145 : (h137.1 96 47).toInt = (h126.1 96 47).toInt := by rw [g138, wI_ne _ _ _ (by decide)]
        have s146 : (h137.1 96 48).toInt = (h126.1 96 48).toInt := by rw [g138, wI_ne _ _ _ (by decide)]
        have s147 : (h137.1 96 51).toInt = (h126.1 96 51).toInt := by rw [g138, wI_ne _ _ _ (by decide)]
        have hK : kyOf h137 = (upd ((kyOf h6).1) x8.toNatClampNeg ((-1)), upd ((kyOf h6).2.1) x8.toNatClampNeg (0), (kyOf h6).2.2.1, (kyOf h6).2.2.2) := by rw [g138, ky_o (by decide), hK]
        have hE : evOf h137 = evOf h := by rw [g138, ev_o (by decide), hE]
        refine R_aload_n (k := 0) rfl rfl rfl ?_
        refine R_getf_r (j := 33) rfl ft_9_79 sh_96 rfl ?_
        refine R_iload_n (k := 1) rfl rfl rfl ?_
        refine R_iconst 0 rfl rfl ?_
        refine K_iast (a := x8.toInt) (lo := (-2147483648)) (hi' := 2147483647) rfl sh_118 rfl ⟨by omega, by omega⟩ hI (by decide) rfl (by decide) fr (by decide) (fun h148 g149 hI fr => ?_)
        have fl7 : FR [96, 107, 108, 109, 117, 118] h h148 := by rw [g149]; exact FR_wI _ _ fl7 (by decide)
        have s150 : (h148.1 96 19).toInt = (h137.1 96 19).toInt := by rw [g149, wI_ne _ _ _ (by decide)]
        have s151 : (h148.1 96 42).toInt = (h137.1 96 42).toInt := by rw [g149, wI_ne _ _ _ (by decide)]
        have s152 : (h148.1 96 18).toInt = (h137.1 96 18).toInt := by rw [g149, wI_ne _ _ _ (by decide)]
        have s153 : (h148.1 96 20).toInt = (h137.1 96 20).toInt := by rw [g149, wI_ne _ _ _ (by decide)]
        have s154 : (h148.1 96 46).toInt = (h137.1 96 46).toInt := by rw [g149, wI_ne _ _ _ (by decide)]
        have s155 : (h148.1 96 44).toInt = (h137.1 96 44).toInt := by rw [g149, wI_ne _ _ _ (by decide)]
        have s156 : (h148.1 96 47).toInt = (h137.1 96 47).toInt := by rw [g149, wI_ne _ _ _ (by decide)]
        have s157 : (h148.1 96 48).toInt = (h137.1 96 48).toInt := by rw [g149, wI_ne _ _ _ (by decide)]
        have s158 : (h148.1 96 51).toInt = (h137.1 96 51).toInt := by rw [g149, wI_ne _ _ _ (by decide)]
        have hK : kyOf h148 = (upd ((kyOf h6).1) x8.toNatClampNeg ((-1)), upd ((kyOf h6).2.1) x8.toNatClampNeg (0), (kyOf h6).2.2.1, (kyOf h6).2.2.2) := by rw [g149, ky_o (by decide), hK]
        have hE : evOf h148 = evOf h := by rw [g149, ev_o (by decide), hE]
        refine N_iinc (a := x8.toInt) (c := 1) (fun w => [(1, .inl w), (0, .inr (.inr (.inl 96)))]) rfl rfl (fun _ => rfl) (by decide) rfl (by decide) (by omega) (fun x159 q160 => ?_)
        refine R_goto 2 rfl rfl ?_
        exact RUN_weak (psub_cons rfl (psub_cons rfl (psub_nil _))) (ih9 h148 x159 hI fr fl7 (by omega) (by omega) (by omega) (by omega) (by omega) (by omega) (by omega) (by omega) (by omega) (by omega) (by rw [hK]; exact up_step (x := x8) (x' := x159) m23 (by omega) (by omega)) (hE) (by omega))
  have k161 : (0 : Int32).toInt = 0 := by decide
  exact lp5 _ h (0 : Int32) hI fr (FR.rf _ _) (by decide) rfl rfl rfl rfl rfl rfl rfl rfl rfl (fun j hj => absurd hj (by omega)) (hE) (Nat.lt_succ_self _)

abbrev qg_X9_goAll (h : PH) (a0 : Int32) : Option PV → PH → Prop := fun r h' => INV h' ∧ FR [96, 107, 108, 109, 110, 111, 112, 113, 114, 115, 116, 117, 118, 119] h h' ∧ ((h'.1 96 19).toInt = (h.1 96 19).toInt ∧ (h'.1 96 18).toInt = (h.1 96 18).toInt ∧ (h'.1 96 20).toInt = (h.1 96 20).toInt ∧ (h'.1 96 46).toInt = (h.1 96 46).toInt ∧ (h'.1 96 44).toInt = (h.1 96 44).toInt ∧ (h'.1 96 47).toInt = (h.1 96 47).toInt ∧ (h'.1 96 48).toInt = (h.1 96 48).toInt ∧ (h'.1 96 51).toInt = (h.1 96 51).toInt ∧ (kyOf h' = zRun (evOf h) (a0.toInt + 1).toNat) ∧ (evOf h' = evOf h) ∧ (0 ≤ a0.toInt → h'.1 114 a0.toNatClampNeg = (zRun (evOf h) (a0.toInt + 1).toNat).2.2.2) ∧ True) ∧ r = none
set_option maxHeartbeats 4000000 in
set_option maxRecDepth 100000 in
theorem g_X9_goAll (h : PH) (hI : INV h) (a0 : Int32) (h0a : (-1) ≤ a0.toInt ∧ a0.toInt ≤ 59) : CALL d_X9_goAll [.inr (.inr (.inl 96)), .inl a0] h (qg_X9_goAll h a0) := by
  show RUN d_X9_goAll 0 [(0, .inr (.inr (.inl 96))), (1, .inl a0)] [] h _
  have fr : FR [96, 107, 108, 109, 110, 111, 112, 113, 114, 115, 116, 117, 118, 119] h h := FR.rf _ _
  have hK : kyOf h = kyOf h := rfl
  have hE : evOf h = evOf h := rfl
  have b1 : (0 : Int) ≤ (h.1 96 18).toInt ∧ (h.1 96 18).toInt ≤ 6 := hI.1 96 18
  have b2 : (h.1 96 18).toInt = ((evOf h).2.2.2.2.1).toInt := congrArg (fun q : EV => (q.2.2.2.2.1).toInt) hE
  have b3 : (0 : Int) ≤ (h.1 96 51).toInt ∧ (h.1 96 51).toInt ≤ 720 := hI.1 96 51
  refine R_aload_n (k := 0) rfl rfl rfl ?_
  refine R_callV (v := .inr (.inr (.inl 96))) (As := []) (rest := []) rfl mt_9_i282 pp_X9_startLine (by decide) rfl rfl rfl (Nat.le_of_ble_eq_true rfl) (Nat.le_of_ble_eq_true rfl) ((g_X9_startLine h hI).mono (fun r4 h5 p6 => ?_))
  obtain ⟨hJ, fj, ⟨kp7, kp8, kp9, kp10, kp11, kp12, kp13, kp14, kp15, xq16, xq17, -⟩, rfl⟩ := p6
  have f18 := fj
  have fr := fr.trans fj (by decide)
  have hI := hJ
  have hK : kyOf h5 = zStart (eBuck (evOf h)) := by rw [xq16, hE]
  have hE : evOf h5 = evOf h := xq17.trans hE
  show RUN d_X9_goAll 4 [(0, .inr (.inr (.inl 96))), (1, .inl a0)] [] h5 _
  refine R_iconst 0 rfl rfl ?_
  refine R_istore_n (k := 2) rfl [(2, .inl 0), (0, .inr (.inr (.inl 96))), (1, .inl a0)] rfl rfl (by decide) ?_
  have lp20 : ∀ (n19 : Nat) (h21 : PH) (x23 : Int32), INV h21 → FR [96, 107, 108, 109, 110, 111, 112, 113, 114, 115, 116, 117, 118, 119] h h21 → FR [96, 107, 108, 109, 110, 111, 112, 113, 114, 115, 116, 117, 118, 119] h5 h21 → 0 ≤ x23.toInt ∧ x23.toInt ≤ 60 → (h21.1 96 19).toInt = (h5.1 96 19).toInt → (h21.1 96 18).toInt = (h5.1 96 18).toInt → (h21.1 96 20).toInt = (h5.1 96 20).toInt → (h21.1 96 46).toInt = (h5.1 96 46).toInt → (h21.1 96 44).toInt = (h5.1 96 44).toInt → (h21.1 96 47).toInt = (h5.1 96 47).toInt → (h21.1 96 48).toInt = (h5.1 96 48).toInt → (h21.1 96 51).toInt = (h5.1 96 51).toInt → True → True → x23.toInt ≤ a0.toInt + 1 → (kyOf h21 = zRun (evOf h) x23.toNatClampNeg) → (0 < x23.toInt → h21.1 114 (x23.toInt - 1).toNat = (kyOf h21).2.2.2) → (evOf h21 = evOf h) → (60 - x23.toInt).toNat < n19 → RUN d_X9_goAll 6 [(2, .inl x23), (0, .inr (.inr (.inl 96))), (1, .inl a0)] [] h21 (qg_X9_goAll h a0) := by
    intro n19
    induction n19 with
    | zero => intro h21 x23 m25 m26 m27 m28 m29 m30 m31 m32 m33 m34 m35 m36 m37 m38 m39 m40 m41 m42 hz; exact absurd hz (Nat.not_lt_zero _)
    | succ n19 ih24 =>
      intro h21 x23 hI fr fl22 m28 m29 m30 m31 m32 m33 m34 m35 m36 m37 m38 m39 m40 m41 m42 hz
      have hE := m42
      have hK : kyOf h21 = kyOf h21 := rfl
      refine R_iload_n (k := 2) rfl rfl rfl ?_
      refine R_iload_n (k := 1) rfl rfl rfl ?_
      refine N_icmp_gt (a := x23.toInt) (b := a0.toInt) 205 rfl rfl rfl rfl (fun c43 => ?_) (fun c43 => ?_)
      · have hF : kyOf h21 = zRun (evOf h) (a0.toInt + 1).toNat := m40.trans (by rw [tn2 (x := x23) (a := a0.toInt + 1) (by omega) (by omega)])
        have hW : 0 ≤ a0.toInt → h21.1 114 a0.toNatClampNeg = (zRun (evOf h) (a0.toInt + 1).toNat).2.2.2 := fun h0 => by rw [tn2 (x := a0) (a := x23.toInt - 1) (by omega) (by omega), m41 (by omega), hF]
        exact R_vret rfl rfl ⟨hI, fr, ⟨by omega, by omega, by omega, by omega, by omega, by omega, by omega, by omega, hF, hE, hW, trivial⟩, rfl⟩
      · refine R_aload_n (k := 0) rfl rfl rfl ?_
        refine R_callV (v := .inr (.inr (.inl 96))) (As := []) (rest := []) rfl mt_9_i285 pp_X9_readyNow (by decide) rfl rfl rfl (Nat.le_of_ble_eq_true rfl) (Nat.le_of_ble_eq_true rfl) ((k_X9_readyNow h21 hI).mono (fun r44 h45 p46 => ?_))
        obtain ⟨rfl, x47, rfl, q48⟩ := p46
        show RUN d_X9_goAll 15 [(2, .inl x23), (0, .inr (.inr (.inl 96))), (1, .inl a0)] [.inl x47] h21 _
        refine R_istore_n (k := 3) rfl [(3, .inl x47), (2, .inl x23), (0, .inr (.inr (.inl 96))), (1, .inl a0)] rfl rfl (by decide) ?_
        refine R_aload_n (k := 0) rfl rfl rfl ?_
        refine R_iload_n (k := 2) rfl rfl rfl ?_
        refine R_aload_n (k := 0) rfl rfl rfl ?_
        refine R_getf_r (j := 21) rfl ft_9_43 sh_96 rfl ?_
        refine R_iload_n (k := 2) rfl rfl rfl ?_
        refine R_zald rfl sh_106 ⟨by omega, by omega⟩ ?_
        refine N_eq (fun x49 e50 => ?_)
        have e51 : x49 = (evOf h).2.2.2.2.2.2.2 x23.toNatClampNeg := by rw [e50]; exact congrFun (congrArg (fun q : EV => q.2.2.2.2.2.2.2) hE) _
        refine R_callV (v := .inr (.inr (.inl 96))) (As := [.inl x23, .inl x49]) (rest := []) rfl mt_9_i288 pp_X9_goSecond (by decide) rfl rfl rfl (Nat.le_of_ble_eq_true rfl) (Nat.le_of_ble_eq_true rfl) ((g_X9_goSecond h21 hI x23 x49 (by omega)).mono (fun r52 h53 p54 => ?_))
        obtain ⟨hJ, fj, ⟨kp55, kp56, kp57, kp58, kp59, kp60, kp61, kp62, kp63, kp64, xq65, xq66, -⟩, rfl⟩ := p54
        have f67 := fj
        have fr := fr.trans fj (by decide)
        have hI := hJ
        have fl22 : FR [96, 107, 108, 109, 110, 111, 112, 113, 114, 115, 116, 117, 118, 119] h5 h53 := fl22.trans fj (by decide)
        have hK : kyOf h53 = zSecond (evOf h) x23 x49 (kyOf h21) := by rw [xq65, hE, hK]
        have hE : evOf h53 = evOf h := xq66.trans hE
        show RUN d_X9_goAll 27 [(3, .inl x47), (2, .inl x23), (0, .inr (.inr (.inl 96))), (1, .inl a0)] [] h53 _
        refine R_aload_n (k := 0) rfl rfl rfl ?_
        refine R_getf_r (j := 31) rfl ft_9_73 sh_96 rfl ?_
        refine R_iload_n (k := 2) rfl rfl rfl ?_
        refine R_iconst 0 rfl rfl ?_
        refine K_iast (a := x23.toInt) (lo := (-2147483648)) (hi' := 2147483647) rfl sh_116 rfl ⟨by omega, by omega⟩ hI (by decide) rfl (by decide) fr (by decide) (fun h68 g69 hI fr => ?_)
        have fl22 : FR [96, 107, 108, 109, 110, 111, 112, 113, 114, 115, 116, 117, 118, 119] h5 h68 := by rw [g69]; exact FR_wI _ _ fl22 (by decide)
        have s70 : (h68.1 96 19).toInt = (h53.1 96 19).toInt := by rw [g69, wI_ne _ _ _ (by decide)]
        have s71 : (h68.1 96 18).toInt = (h53.1 96 18).toInt := by rw [g69, wI_ne _ _ _ (by decide)]
        have s72 : (h68.1 96 20).toInt = (h53.1 96 20).toInt := by rw [g69, wI_ne _ _ _ (by decide)]
        have s73 : (h68.1 96 46).toInt = (h53.1 96 46).toInt := by rw [g69, wI_ne _ _ _ (by decide)]
        have s74 : (h68.1 96 44).toInt = (h53.1 96 44).toInt := by rw [g69, wI_ne _ _ _ (by decide)]
        have s75 : (h68.1 96 47).toInt = (h53.1 96 47).toInt := by rw [g69, wI_ne _ _ _ (by decide)]
        have s76 : (h68.1 96 48).toInt = (h53.1 96 48).toInt := by rw [g69, wI_ne _ _ _ (by decide)]
        have s77 : (h68.1 96 51).toInt = (h53.1 96 51).toInt := by rw [g69, wI_ne _ _ _ (by decide)]
        have hK : kyOf h68 = zSecond (evOf h) x23 x49 (kyOf h21) := by rw [g69, ky_o (by decide), hK]
        have hE : evOf h68 = evOf h := by rw [g69, ev_o (by decide), hE]
        refine R_iconst 0 rfl rfl ?_
        refine R_istore (k := 4) [(4, .inl 0), (3, .inl x47), (2, .inl x23), (0, .inr (.inr (.inl 96))), (1, .inl a0)] rfl rfl (by decide) ?_
        have lp79 : ∀ (n78 : Nat) (h80 : PH) (x82 : Int32), INV h80 → FR [96, 107, 108, 109, 110, 111, 112, 113, 114, 115, 116, 117, 118, 119] h h80 → FR [110, 111, 112, 113, 114, 115, 116, 119] h68 h80 → 0 ≤ x82.toInt ∧ x82.toInt ≤ 6 → (kyOf h80 = zSecond (evOf h) x23 x49 (kyOf h21)) → (evOf h80 = evOf h) → (6 - x82.toInt).toNat < n78 → RUN d_X9_goAll 37 [(4, .inl x82), (3, .inl x47), (2, .inl x23), (0, .inr (.inr (.inl 96))), (1, .inl a0)] [] h80 (qg_X9_goAll h a0) := by
          intro n78
          induction n78 with
          | zero => intro h80 x82 m84 m85 m86 m87 m88 m89 hz; exact absurd hz (Nat.not_lt_zero _)
          | succ n78 ih83 =>
            intro h80 x82 hI fr fl81 m87 m88 m89 hz
            have s90 : (h80.1 96 19).toInt = (h68.1 96 19).toInt := by rw [(fl81 96 (by decide)).1]
            have s91 : (h80.1 96 18).toInt = (h68.1 96 18).toInt := by rw [(fl81 96 (by decide)).1]
            have s92 : (h80.1 96 20).toInt = (h68.1 96 20).toInt := by rw [(fl81 96 (by decide)).1]
            have s93 : (h80.1 96 46).toInt = (h68.1 96 46).toInt := by rw [(fl81 96 (by decide)).1]
            have s94 : (h80.1 96 44).toInt = (h68.1 96 44).toInt := by rw [(fl81 96 (by decide)).1]
            have s95 : (h80.1 96 47).toInt = (h68.1 96 47).toInt := by rw [(fl81 96 (by decide)).1]
            have s96 : (h80.1 96 48).toInt = (h68.1 96 48).toInt := by rw [(fl81 96 (by decide)).1]
            have s97 : (h80.1 96 51).toInt = (h68.1 96 51).toInt := by rw [(fl81 96 (by decide)).1]
            have fl22 : FR [96, 107, 108, 109, 110, 111, 112, 113, 114, 115, 116, 117, 118, 119] h5 h80 := fl22.trans fl81 (by decide)
            have hK := m88
            have hE := m89
            refine R_iload (k := 4) rfl rfl ?_
            refine R_aload_n (k := 0) rfl rfl rfl ?_
            have b98 : (0 : Int) ≤ (h80.1 97 5).toInt ∧ (h80.1 97 5).toInt ≤ 6 := hI.1 97 5
            have b99 : (0 : Int) ≤ (h80.1 97 0).toInt ∧ (h80.1 97 0).toInt ≤ 60 := hI.1 97 0
            have e100 : 0 < (h80.1 97 5).toInt → 1 ≤ (h80.1 97 0).toInt := hI.2.2.2.2.2.1.2.2
            refine R_callV (v := .inr (.inr (.inl 96))) (As := []) (rest := [.inl x82]) rfl mt_9_i133 pp_X9_hands (by decide) rfl rfl rfl (Nat.le_of_ble_eq_true rfl) (Nat.le_of_ble_eq_true rfl) ((k_X9_hands h80 hI).mono (fun r101 h102 p103 => ?_))
            obtain ⟨rfl, x104, rfl, q105⟩ := p103
            show RUN d_X9_goAll 43 [(4, .inl x82), (3, .inl x47), (2, .inl x23), (0, .inr (.inr (.inl 96))), (1, .inl a0)] [.inl x104, .inl x82] h80 _
            refine N_icmp_ge (a := x82.toInt) (b := x104.toInt) 127 rfl rfl rfl rfl (fun c106 => ?_) (fun c106 => ?_)
            · refine R_iconst 0 rfl rfl ?_
              refine R_istore (k := 4) [(4, .inl 0), (3, .inl x47), (2, .inl x23), (0, .inr (.inr (.inl 96))), (1, .inl a0)] rfl rfl (by decide) ?_
              have lp108 : ∀ (n107 : Nat) (h109 : PH) (x111 : Int32), INV h109 → FR [96, 107, 108, 109, 110, 111, 112, 113, 114, 115, 116, 117, 118, 119] h h109 → FR [112, 113, 114, 115, 119] h80 h109 → 0 ≤ x111.toInt ∧ x111.toInt ≤ 6 → (kyOf h109 = zSecond (evOf h) x23 x49 (kyOf h21)) → (evOf h109 = evOf h) → (6 - x111.toInt).toNat < n107 → RUN d_X9_goAll 130 [(4, .inl x111), (3, .inl x47), (2, .inl x23), (0, .inr (.inr (.inl 96))), (1, .inl a0)] [] h109 (qg_X9_goAll h a0) := by
                intro n107
                induction n107 with
                | zero => intro h109 x111 m113 m114 m115 m116 m117 m118 hz; exact absurd hz (Nat.not_lt_zero _)
                | succ n107 ih112 =>
                  intro h109 x111 hI fr fl110 m116 m117 m118 hz
                  have s119 : (h109.1 96 19).toInt = (h80.1 96 19).toInt := by rw [(fl110 96 (by decide)).1]
                  have s120 : (h109.1 96 18).toInt = (h80.1 96 18).toInt := by rw [(fl110 96 (by decide)).1]
                  have s121 : (h109.1 96 20).toInt = (h80.1 96 20).toInt := by rw [(fl110 96 (by decide)).1]
                  have s122 : (h109.1 96 46).toInt = (h80.1 96 46).toInt := by rw [(fl110 96 (by decide)).1]
                  have s123 : (h109.1 96 44).toInt = (h80.1 96 44).toInt := by rw [(fl110 96 (by decide)).1]
                  have s124 : (h109.1 96 47).toInt = (h80.1 96 47).toInt := by rw [(fl110 96 (by decide)).1]
                  have s125 : (h109.1 96 48).toInt = (h80.1 96 48).toInt := by rw [(fl110 96 (by decide)).1]
                  have s126 : (h109.1 96 51).toInt = (h80.1 96 51).toInt := by rw [(fl110 96 (by decide)).1]
                  have s127 : (h109.1 97 5).toInt = (h80.1 97 5).toInt := by rw [(fl110 97 (by decide)).1]
                  have s128 : (h109.1 97 0).toInt = (h80.1 97 0).toInt := by rw [(fl110 97 (by decide)).1]
                  have fl81 : FR [110, 111, 112, 113, 114, 115, 116, 119] h68 h109 := fl81.trans fl110 (by decide)
                  have fl22 : FR [96, 107, 108, 109, 110, 111, 112, 113, 114, 115, 116, 117, 118, 119] h5 h109 := fl22.trans fl110 (by decide)
                  have hK := m117
                  have hE := m118
                  refine R_iload (k := 4) rfl rfl ?_
                  refine R_bipush 6 rfl rfl ?_
                  refine N_icmp_ge (a := x111.toInt) (b := 6) 157 rfl rfl rfl (by decide) (fun c129 => ?_) (fun c129 => ?_)
                  · refine R_aload_n (k := 0) rfl rfl rfl ?_
                    refine R_getf_r (j := 27) rfl ft_9_61 sh_96 rfl ?_
                    refine R_iload_n (k := 2) rfl rfl rfl ?_
                    refine R_aload_n (k := 0) rfl rfl rfl ?_
                    refine R_getf_r (j := 24) rfl ft_9_52 sh_96 rfl ?_
                    refine R_iconst 0 rfl rfl ?_
                    refine R_iald rfl sh_109 (by decide) ?_
                    refine N_eq (fun x130 e131 => ?_)
                    have e132 : x130 = ((zSecond (evOf h) x23 x49 (kyOf h21)).2.2.1) (0 : Int32).toNatClampNeg := by rw [e131]; exact (ky_at109 (by decide)).trans (congrFun (congrArg (fun q : KY => q.2.2.1) hK) _)
                    refine K_iast (a := x23.toInt) (lo := (-2147483648)) (hi' := 2147483647) rfl sh_112 rfl ⟨by omega, by omega⟩ hI (by decide) rfl (i_rng _) fr (by decide) (fun h133 g134 hI fr => ?_)
                    have fl110 : FR [112, 113, 114, 115, 119] h80 h133 := by rw [g134]; exact FR_wI _ _ fl110 (by decide)
                    have fl81 : FR [110, 111, 112, 113, 114, 115, 116, 119] h68 h133 := by rw [g134]; exact FR_wI _ _ fl81 (by decide)
                    have fl22 : FR [96, 107, 108, 109, 110, 111, 112, 113, 114, 115, 116, 117, 118, 119] h5 h133 := by rw [g134]; exact FR_wI _ _ fl22 (by decide)
                    have s135 : (h133.1 96 19).toInt = (h109.1 96 19).toInt := by rw [g134, wI_ne _ _ _ (by decide)]
                    have s136 : (h133.1 96 18).toInt = (h109.1 96 18).toInt := by rw [g134, wI_ne _ _ _ (by decide)]
                    have s137 : (h133.1 96 20).toInt = (h109.1 96 20).toInt := by rw [g134, wI_ne _ _ _ (by decide)]
                    have s138 : (h133.1 96 46).toInt = (h109.1 96 46).toInt := by rw [g134, wI_ne _ _ _ (by decide)]
                    have s139 : (h133.1 96 44).toInt = (h109.1 96 44).toInt := by rw [g134, wI_ne _ _ _ (by decide)]
                    have s140 : (h133.1 96 47).toInt = (h109.1 96 47).toInt := by rw [g134, wI_ne _ _ _ (by decide)]
                    have s141 : (h133.1 96 48).toInt = (h109.1 96 48).toInt := by rw [g134, wI_ne _ _ _ (by decide)]
                    have s142 : (h133.1 96 51).toInt = (h109.1 96 51).toInt := by rw [g134, wI_ne _ _ _ (by decide)]
                    have s143 : (h133.1 97 5).toInt = (h109.1 97 5).toInt := by rw [g134, wI_ne _ _ _ (by decide)]
                    have s144 : (h133.1 97 0).toInt = (h109.1 97 0).toInt := by rw [g134, wI_ne _ _ _ (by decide)]
                    have hK : kyOf h133 = zSecond (evOf h) x23 x49 (kyOf h21) := by rw [g134, ky_o (by decide), hK]
                    have hE : evOf h133 = evOf h := by rw [g134, ev_o (by decide), hE]
                    refine R_aload_n (k := 0) rfl rfl rfl ?_
                    refine R_getf_r (j := 28) rfl ft_9_64 sh_96 rfl ?_
                    refine R_iload_n (k := 2) rfl rfl rfl ?_
                    refine R_aload_n (k := 0) rfl rfl rfl ?_
                    refine R_getf_i (j := 34) rfl ft_9_262 sh_96 rfl ?_
                    refine K_iast (a := x23.toInt) (lo := (-2147483648)) (hi' := 2147483647) rfl sh_113 rfl ⟨by omega, by omega⟩ hI (by decide) rfl (i_rng _) fr (by decide) (fun h145 g146 hI fr => ?_)
                    have fl110 : FR [112, 113, 114, 115, 119] h80 h145 := by rw [g146]; exact FR_wI _ _ fl110 (by decide)
                    have fl81 : FR [110, 111, 112, 113, 114, 115, 116, 119] h68 h145 := by rw [g146]; exact FR_wI _ _ fl81 (by decide)
                    have fl22 : FR [96, 107, 108, 109, 110, 111, 112, 113, 114, 115, 116, 117, 118, 119] h5 h145 := by rw [g146]; exact FR_wI _ _ fl22 (by decide)
                    have s147 : (h145.1 96 19).toInt = (h133.1 96 19).toInt := by rw [g146, wI_ne _ _ _ (by decide)]
                    have s148 : (h145.1 96 18).toInt = (h133.1 96 18).toInt := by rw [g146, wI_ne _ _ _ (by decide)]
                    have s149 : (h145.1 96 20).toInt = (h133.1 96 20).toInt := by rw [g146, wI_ne _ _ _ (by decide)]
                    have s150 : (h145.1 96 46).toInt = (h133.1 96 46).toInt := by rw [g146, wI_ne _ _ _ (by decide)]
                    have s151 : (h145.1 96 44).toInt = (h133.1 96 44).toInt := by rw [g146, wI_ne _ _ _ (by decide)]
                    have s152 : (h145.1 96 47).toInt = (h133.1 96 47).toInt := by rw [g146, wI_ne _ _ _ (by decide)]
                    have s153 : (h145.1 96 48).toInt = (h133.1 96 48).toInt := by rw [g146, wI_ne _ _ _ (by decide)]
                    have s154 : (h145.1 96 51).toInt = (h133.1 96 51).toInt := by rw [g146, wI_ne _ _ _ (by decide)]
                    have s155 : (h145.1 97 5).toInt = (h133.1 97 5).toInt := by rw [g146, wI_ne _ _ _ (by decide)]
                    have s156 : (h145.1 97 0).toInt = (h133.1 97 0).toInt := by rw [g146, wI_ne _ _ _ (by decide)]
                    have s157 : (h145.1 96 34).toInt = (h133.1 96 34).toInt := by rw [g146, wI_ne _ _ _ (by decide)]
                    have hK : kyOf h145 = zSecond (evOf h) x23 x49 (kyOf h21) := by rw [g146, ky_o (by decide), hK]
                    have hE : evOf h145 = evOf h := by rw [g146, ev_o (by decide), hE]
                    refine R_aload_n (k := 0) rfl rfl rfl ?_
                    refine R_getf_r (j := 29) rfl ft_9_67 sh_96 rfl ?_
                    refine R_iload_n (k := 2) rfl rfl rfl ?_
                    refine R_aload_n (k := 0) rfl rfl rfl ?_
                    refine R_getf_i (j := 35) rfl ft_9_265 sh_96 rfl ?_
                    refine N_eq (fun x158 e159 => ?_)
                    have e160 : x158 = (zSecond (evOf h) x23 x49 (kyOf h21)).2.2.2 := by rw [e159]; exact congrArg (fun q : KY => q.2.2.2) hK
                    refine K_iast (a := x23.toInt) (lo := (-2147483648)) (hi' := 2147483647) rfl sh_114 rfl ⟨by omega, by omega⟩ hI (by decide) rfl (i_rng _) fr (by decide) (fun h161 g162 hI fr => ?_)
                    have fl110 : FR [112, 113, 114, 115, 119] h80 h161 := by rw [g162]; exact FR_wI _ _ fl110 (by decide)
                    have fl81 : FR [110, 111, 112, 113, 114, 115, 116, 119] h68 h161 := by rw [g162]; exact FR_wI _ _ fl81 (by decide)
                    have fl22 : FR [96, 107, 108, 109, 110, 111, 112, 113, 114, 115, 116, 117, 118, 119] h5 h161 := by rw [g162]; exact FR_wI _ _ fl22 (by decide)
                    have s163 : (h161.1 96 19).toInt = (h145.1 96 19).toInt := by rw [g162, wI_ne _ _ _ (by decide)]
                    have s164 : (h161.1 96 18).toInt = (h145.1 96 18).toInt := by rw [g162, wI_ne _ _ _ (by decide)]
                    have s165 : (h161.1 96 20).toInt = (h145.1 96 20).toInt := by rw [g162, wI_ne _ _ _ (by decide)]
                    have s166 : (h161.1 96 46).toInt = (h145.1 96 46).toInt := by rw [g162, wI_ne _ _ _ (by decide)]
                    have s167 : (h161.1 96 44).toInt = (h145.1 96 44).toInt := by rw [g162, wI_ne _ _ _ (by decide)]
                    have s168 : (h161.1 96 47).toInt = (h145.1 96 47).toInt := by rw [g162, wI_ne _ _ _ (by decide)]
                    have s169 : (h161.1 96 48).toInt = (h145.1 96 48).toInt := by rw [g162, wI_ne _ _ _ (by decide)]
                    have s170 : (h161.1 96 51).toInt = (h145.1 96 51).toInt := by rw [g162, wI_ne _ _ _ (by decide)]
                    have s171 : (h161.1 97 5).toInt = (h145.1 97 5).toInt := by rw [g162, wI_ne _ _ _ (by decide)]
                    have s172 : (h161.1 97 0).toInt = (h145.1 97 0).toInt := by rw [g162, wI_ne _ _ _ (by decide)]
                    have s173 : (h161.1 96 34).toInt = (h145.1 96 34).toInt := by rw [g162, wI_ne _ _ _ (by decide)]
                    have hK : kyOf h161 = zSecond (evOf h) x23 x49 (kyOf h21) := by rw [g162, ky_o (by decide), hK]
                    have hE : evOf h161 = evOf h := by rw [g162, ev_o (by decide), hE]
                    refine R_aload_n (k := 0) rfl rfl rfl ?_
                    refine R_getf_r (j := 30) rfl ft_9_70 sh_96 rfl ?_
                    refine R_iload_n (k := 2) rfl rfl rfl ?_
                    refine R_aload_n (k := 0) rfl rfl rfl ?_
                    refine R_getf_i (j := 36) rfl ft_9_268 sh_96 rfl ?_
                    refine K_iast (a := x23.toInt) (lo := (-2147483648)) (hi' := 2147483647) rfl sh_115 rfl ⟨by omega, by omega⟩ hI (by decide) rfl (i_rng _) fr (by decide) (fun h174 g175 hI fr => ?_)
                    have fl110 : FR [112, 113, 114, 115, 119] h80 h174 := by rw [g175]; exact FR_wI _ _ fl110 (by decide)
                    have fl81 : FR [110, 111, 112, 113, 114, 115, 116, 119] h68 h174 := by rw [g175]; exact FR_wI _ _ fl81 (by decide)
                    have fl22 : FR [96, 107, 108, 109, 110, 111, 112, 113, 114, 115, 116, 117, 118, 119] h5 h174 := by rw [g175]; exact FR_wI _ _ fl22 (by decide)
                    have s176 : (h174.1 96 19).toInt = (h161.1 96 19).toInt := by rw [g175, wI_ne _ _ _ (by decide)]
                    have s177 : (h174.1 96 18).toInt = (h161.1 96 18).toInt := by rw [g175, wI_ne _ _ _ (by decide)]
                    have s178 : (h174.1 96 20).toInt = (h161.1 96 20).toInt := by rw [g175, wI_ne _ _ _ (by decide)]
                    have s179 : (h174.1 96 46).toInt = (h161.1 96 46).toInt := by rw [g175, wI_ne _ _ _ (by decide)]
                    have s180 : (h174.1 96 44).toInt = (h161.1 96 44).toInt := by rw [g175, wI_ne _ _ _ (by decide)]
                    have s181 : (h174.1 96 47).toInt = (h161.1 96 47).toInt := by rw [g175, wI_ne _ _ _ (by decide)]
                    have s182 : (h174.1 96 48).toInt = (h161.1 96 48).toInt := by rw [g175, wI_ne _ _ _ (by decide)]
                    have s183 : (h174.1 96 51).toInt = (h161.1 96 51).toInt := by rw [g175, wI_ne _ _ _ (by decide)]
                    have s184 : (h174.1 97 5).toInt = (h161.1 97 5).toInt := by rw [g175, wI_ne _ _ _ (by decide)]
                    have s185 : (h174.1 97 0).toInt = (h161.1 97 0).toInt := by rw [g175, wI_ne _ _ _ (by decide)]
                    have s186 : (h174.1 96 34).toInt = (h161.1 96 34).toInt := by rw [g175, wI_ne _ _ _ (by decide)]
                    have s187 : (h174.1 96 36).toInt = (h161.1 96 36).toInt := by rw [g175, wI_ne _ _ _ (by decide)]
                    have hK : kyOf h174 = zSecond (evOf h) x23 x49 (kyOf h21) := by rw [g175, ky_o (by decide), hK]
                    have hE : evOf h174 = evOf h := by rw [g175, ev_o (by decide), hE]
                    refine N_iinc (a := x23.toInt) (c := 1) (fun w => [(2, .inl w), (4, .inl x111), (3, .inl x47), (0, .inr (.inr (.inl 96))), (1, .inl a0)]) rfl rfl (fun _ => rfl) (by decide) rfl (by decide) (by omega) (fun x188 q189 => ?_)
                    refine R_goto 6 rfl rfl ?_
                    exact RUN_weak (psub_cons rfl (psub_cons rfl (psub_cons rfl (psub_nil _)))) (ih24 h174 x188 hI fr fl22 (by omega) (by omega) (by omega) (by omega) (by omega) (by omega) (by omega) (by omega) (by omega) trivial trivial (by omega) (by rw [zRun_s (x := x23) (x' := x188) (by omega) (by omega), ← m40]; refine hK.trans ?_; subst e160 e132 e51; rfl) (fun _ => by rw [← tn2 (x := x23) (a := x188.toInt - 1) (by omega) (by omega), g175, wI_ne _ _ _ (by decide), g162, wI_is, ← g162, ← g175, hK]; exact e160) (hE) (by omega))
                  · refine R_aload_n (k := 0) rfl rfl rfl ?_
                    refine R_getf_r (j := 37) rfl ft_9_82 sh_96 rfl ?_
                    refine R_iload (k := 4) rfl rfl ?_
                    refine R_aload_n (k := 0) rfl rfl rfl ?_
                    refine R_getf_r (j := 32) rfl ft_9_76 sh_96 rfl ?_
                    refine R_iload (k := 4) rfl rfl ?_
                    refine R_iald rfl sh_117 ⟨by omega, by omega⟩ ?_
                    refine N_eq (fun x190 e191 => ?_)
                    refine K_iast (a := x111.toInt) (lo := (-2147483648)) (hi' := 2147483647) rfl sh_119 rfl ⟨by omega, by omega⟩ hI (by decide) rfl (i_rng _) fr (by decide) (fun h192 g193 hI fr => ?_)
                    have fl110 : FR [112, 113, 114, 115, 119] h80 h192 := by rw [g193]; exact FR_wI _ _ fl110 (by decide)
                    have fl81 : FR [110, 111, 112, 113, 114, 115, 116, 119] h68 h192 := by rw [g193]; exact FR_wI _ _ fl81 (by decide)
                    have fl22 : FR [96, 107, 108, 109, 110, 111, 112, 113, 114, 115, 116, 117, 118, 119] h5 h192 := by rw [g193]; exact FR_wI _ _ fl22 (by decide)
                    have s194 : (h192.1 96 19).toInt = (h109.1 96 19).toInt := by rw [g193, wI_ne _ _ _ (by decide)]
                    have s195 : (h192.1 96 18).toInt = (h109.1 96 18).toInt := by rw [g193, wI_ne _ _ _ (by decide)]
                    have s196 : (h192.1 96 20).toInt = (h109.1 96 20).toInt := by rw [g193, wI_ne _ _ _ (by decide)]
                    have s197 : (h192.1 96 46).toInt = (h109.1 96 46).toInt := by rw [g193, wI_ne _ _ _ (by decide)]
                    have s198 : (h192.1 96 44).toInt = (h109.1 96 44).toInt := by rw [g193, wI_ne _ _ _ (by decide)]
                    have s199 : (h192.1 96 47).toInt = (h109.1 96 47).toInt := by rw [g193, wI_ne _ _ _ (by decide)]
                    have s200 : (h192.1 96 48).toInt = (h109.1 96 48).toInt := by rw [g193, wI_ne _ _ _ (by decide)]
                    have s201 : (h192.1 96 51).toInt = (h109.1 96 51).toInt := by rw [g193, wI_ne _ _ _ (by decide)]
                    have s202 : (h192.1 97 5).toInt = (h109.1 97 5).toInt := by rw [g193, wI_ne _ _ _ (by decide)]
                    have s203 : (h192.1 97 0).toInt = (h109.1 97 0).toInt := by rw [g193, wI_ne _ _ _ (by decide)]
                    have hK : kyOf h192 = zSecond (evOf h) x23 x49 (kyOf h21) := by rw [g193, ky_o (by decide), hK]
                    have hE : evOf h192 = evOf h := by rw [g193, ev_o (by decide), hE]
                    refine N_iinc (a := x111.toInt) (c := 1) (fun w => [(4, .inl w), (3, .inl x47), (2, .inl x23), (0, .inr (.inr (.inl 96))), (1, .inl a0)]) rfl rfl (fun _ => rfl) (by decide) rfl (by decide) (by omega) (fun x204 q205 => ?_)
                    refine R_goto 130 rfl rfl ?_
                    exact RUN_weak (psub_cons rfl (psub_cons rfl (psub_cons rfl (psub_cons rfl (psub_cons rfl (psub_nil _)))))) (ih112 h192 x204 hI fr fl110 (by omega) (hK) (hE) (by omega))
              have k206 : (0 : Int32).toInt = 0 := by decide
              exact lp108 _ h80 (0 : Int32) hI fr (FR.rf _ _) (by decide) (hK) (hE) (Nat.lt_succ_self _)
            · refine R_aload_n (k := 0) rfl rfl rfl ?_
              refine R_getf_r (j := 25) rfl ft_9_55 sh_96 rfl ?_
              refine R_bipush 6 rfl rfl ?_
              refine R_iload_n (k := 2) rfl rfl rfl ?_
              refine R_imul rfl ?_
              refine N_eq (fun x207 e208 => ?_)
              have q209 : x207.toInt = 6 * x23.toInt := by rw [e208]; exact i_mul (by decide) rfl (by omega)
              refine R_iload (k := 4) rfl rfl ?_
              refine R_iadd rfl ?_
              refine N_eq (fun x210 e211 => ?_)
              have q212 : x210.toInt = x207.toInt + x82.toInt := by rw [e211]; exact i_add rfl rfl (by omega)
              refine R_aload_n (k := 0) rfl rfl rfl ?_
              refine R_getf_r (j := 22) rfl ft_9_46 sh_96 rfl ?_
              refine R_iload (k := 4) rfl rfl ?_
              refine R_iald rfl sh_107 ⟨by omega, by omega⟩ ?_
              refine N_eq (fun x213 e214 => ?_)
              have e215 : x213 = ((zSecond (evOf h) x23 x49 (kyOf h21)).1) x82.toNatClampNeg := by rw [e214]; exact (ky_at107 (nlt ⟨by omega, by omega⟩)).trans (congrFun (congrArg (fun q : KY => q.1) hK) _)
              refine K_iast (a := x210.toInt) (lo := (-2147483648)) (hi' := 2147483647) rfl sh_110 rfl ⟨by omega, by omega⟩ hI (by decide) rfl (i_rng _) fr (by decide) (fun h216 g217 hI fr => ?_)
              have fl81 : FR [110, 111, 112, 113, 114, 115, 116, 119] h68 h216 := by rw [g217]; exact FR_wI _ _ fl81 (by decide)
              have fl22 : FR [96, 107, 108, 109, 110, 111, 112, 113, 114, 115, 116, 117, 118, 119] h5 h216 := by rw [g217]; exact FR_wI _ _ fl22 (by decide)
              have s218 : (h216.1 96 19).toInt = (h80.1 96 19).toInt := by rw [g217, wI_ne _ _ _ (by decide)]
              have s219 : (h216.1 96 18).toInt = (h80.1 96 18).toInt := by rw [g217, wI_ne _ _ _ (by decide)]
              have s220 : (h216.1 96 20).toInt = (h80.1 96 20).toInt := by rw [g217, wI_ne _ _ _ (by decide)]
              have s221 : (h216.1 96 46).toInt = (h80.1 96 46).toInt := by rw [g217, wI_ne _ _ _ (by decide)]
              have s222 : (h216.1 96 44).toInt = (h80.1 96 44).toInt := by rw [g217, wI_ne _ _ _ (by decide)]
              have s223 : (h216.1 96 47).toInt = (h80.1 96 47).toInt := by rw [g217, wI_ne _ _ _ (by decide)]
              have s224 : (h216.1 96 48).toInt = (h80.1 96 48).toInt := by rw [g217, wI_ne _ _ _ (by decide)]
              have s225 : (h216.1 96 51).toInt = (h80.1 96 51).toInt := by rw [g217, wI_ne _ _ _ (by decide)]
              have s226 : (h216.1 97 5).toInt = (h80.1 97 5).toInt := by rw [g217, wI_ne _ _ _ (by decide)]
              have s227 : (h216.1 97 0).toInt = (h80.1 97 0).toInt := by rw [g217, wI_ne _ _ _ (by decide)]
              have hK : kyOf h216 = zSecond (evOf h) x23 x49 (kyOf h21) := by rw [g217, ky_o (by decide), hK]
              have hE : evOf h216 = evOf h := by rw [g217, ev_o (by decide), hE]
              refine R_aload_n (k := 0) rfl rfl rfl ?_
              refine R_getf_r (j := 26) rfl ft_9_58 sh_96 rfl ?_
              refine R_bipush 6 rfl rfl ?_
              refine R_iload_n (k := 2) rfl rfl rfl ?_
              refine R_imul rfl ?_
              refine N_eq (fun x228 e229 => ?_)
              have q230 : x228.toInt = 6 * x23.toInt := by rw [e229]; exact i_mul (by decide) rfl (by omega)
              refine R_iload (k := 4) rfl rfl ?_
              refine R_iadd rfl ?_
              refine N_eq (fun x231 e232 => ?_)
              have q233 : x231.toInt = x228.toInt + x82.toInt := by rw [e232]; exact i_add rfl rfl (by omega)
              refine R_aload_n (k := 0) rfl rfl rfl ?_
              refine R_getf_r (j := 23) rfl ft_9_49 sh_96 rfl ?_
              refine R_iload (k := 4) rfl rfl ?_
              refine R_iald rfl sh_108 ⟨by omega, by omega⟩ ?_
              refine N_eq (fun x234 e235 => ?_)
              have e236 : x234 = ((zSecond (evOf h) x23 x49 (kyOf h21)).2.1) x82.toNatClampNeg := by rw [e235]; exact (ky_at108 (nlt ⟨by omega, by omega⟩)).trans (congrFun (congrArg (fun q : KY => q.2.1) hK) _)
              refine K_iast (a := x231.toInt) (lo := (-2147483648)) (hi' := 2147483647) rfl sh_111 rfl ⟨by omega, by omega⟩ hI (by decide) rfl (i_rng _) fr (by decide) (fun h237 g238 hI fr => ?_)
              have fl81 : FR [110, 111, 112, 113, 114, 115, 116, 119] h68 h237 := by rw [g238]; exact FR_wI _ _ fl81 (by decide)
              have fl22 : FR [96, 107, 108, 109, 110, 111, 112, 113, 114, 115, 116, 117, 118, 119] h5 h237 := by rw [g238]; exact FR_wI _ _ fl22 (by decide)
              have s239 : (h237.1 96 19).toInt = (h216.1 96 19).toInt := by rw [g238, wI_ne _ _ _ (by decide)]
              have s240 : (h237.1 96 18).toInt = (h216.1 96 18).toInt := by rw [g238, wI_ne _ _ _ (by decide)]
              have s241 : (h237.1 96 20).toInt = (h216.1 96 20).toInt := by rw [g238, wI_ne _ _ _ (by decide)]
              have s242 : (h237.1 96 46).toInt = (h216.1 96 46).toInt := by rw [g238, wI_ne _ _ _ (by decide)]
              have s243 : (h237.1 96 44).toInt = (h216.1 96 44).toInt := by rw [g238, wI_ne _ _ _ (by decide)]
              have s244 : (h237.1 96 47).toInt = (h216.1 96 47).toInt := by rw [g238, wI_ne _ _ _ (by decide)]
              have s245 : (h237.1 96 48).toInt = (h216.1 96 48).toInt := by rw [g238, wI_ne _ _ _ (by decide)]
              have s246 : (h237.1 96 51).toInt = (h216.1 96 51).toInt := by rw [g238, wI_ne _ _ _ (by decide)]
              have s247 : (h237.1 97 5).toInt = (h216.1 97 5).toInt := by rw [g238, wI_ne _ _ _ (by decide)]
              have s248 : (h237.1 97 0).toInt = (h216.1 97 0).toInt := by rw [g238, wI_ne _ _ _ (by decide)]
              have hK : kyOf h237 = zSecond (evOf h) x23 x49 (kyOf h21) := by rw [g238, ky_o (by decide), hK]
              have hE : evOf h237 = evOf h := by rw [g238, ev_o (by decide), hE]
              refine R_aload_n (k := 0) rfl rfl rfl ?_
              refine R_getf_r (j := 31) rfl ft_9_73 sh_96 rfl ?_
              refine R_iload_n (k := 2) rfl rfl rfl ?_
              refine R_dup2 rfl ?_
              refine R_iald rfl sh_116 ⟨by omega, by omega⟩ ?_
              refine N_eq (fun x249 e250 => ?_)
              refine R_iload_n (k := 3) rfl rfl rfl ?_
              refine R_iload (k := 4) rfl rfl ?_
              refine R_callS (As := [.inl x47, .inl x82]) (rest := [.inl x249, .inl x23, .inr (.inr (.inl 116))]) rfl mt_9_i292 (by decide) pp_X9_bit (by decide) rfl rfl (Nat.le_of_ble_eq_true rfl) (Nat.le_of_ble_eq_true rfl) ((k_X9_bit h237 hI x47 x82 (by omega)).mono (fun r251 h252 p253 => ?_))
              obtain ⟨rfl, x254, rfl, q255⟩ := p253
              show RUN d_X9_goAll 97 [(4, .inl x82), (3, .inl x47), (2, .inl x23), (0, .inr (.inr (.inl 96))), (1, .inl a0)] [.inl x254, .inl x249, .inl x23, .inr (.inr (.inl 116))] h237 _
              refine R_iconst 1 rfl rfl ?_
              refine N_icmp_ne (a := x254.toInt) (b := 1) 118 rfl rfl rfl (by decide) (fun c256 => ?_) (fun c256 => ?_)
              · refine R_iconst 0 rfl rfl ?_
                refine R_ior rfl ?_
                refine N_eq (fun x257 e258 => ?_)
                refine K_iast (a := x23.toInt) (lo := (-2147483648)) (hi' := 2147483647) rfl sh_116 rfl ⟨by omega, by omega⟩ hI (by decide) rfl (i_rng _) fr (by decide) (fun h259 g260 hI fr => ?_)
                have fl81 : FR [110, 111, 112, 113, 114, 115, 116, 119] h68 h259 := by rw [g260]; exact FR_wI _ _ fl81 (by decide)
                have fl22 : FR [96, 107, 108, 109, 110, 111, 112, 113, 114, 115, 116, 117, 118, 119] h5 h259 := by rw [g260]; exact FR_wI _ _ fl22 (by decide)
                have s261 : (h259.1 96 19).toInt = (h237.1 96 19).toInt := by rw [g260, wI_ne _ _ _ (by decide)]
                have s262 : (h259.1 96 18).toInt = (h237.1 96 18).toInt := by rw [g260, wI_ne _ _ _ (by decide)]
                have s263 : (h259.1 96 20).toInt = (h237.1 96 20).toInt := by rw [g260, wI_ne _ _ _ (by decide)]
                have s264 : (h259.1 96 46).toInt = (h237.1 96 46).toInt := by rw [g260, wI_ne _ _ _ (by decide)]
                have s265 : (h259.1 96 44).toInt = (h237.1 96 44).toInt := by rw [g260, wI_ne _ _ _ (by decide)]
                have s266 : (h259.1 96 47).toInt = (h237.1 96 47).toInt := by rw [g260, wI_ne _ _ _ (by decide)]
                have s267 : (h259.1 96 48).toInt = (h237.1 96 48).toInt := by rw [g260, wI_ne _ _ _ (by decide)]
                have s268 : (h259.1 96 51).toInt = (h237.1 96 51).toInt := by rw [g260, wI_ne _ _ _ (by decide)]
                have s269 : (h259.1 97 5).toInt = (h237.1 97 5).toInt := by rw [g260, wI_ne _ _ _ (by decide)]
                have s270 : (h259.1 97 0).toInt = (h237.1 97 0).toInt := by rw [g260, wI_ne _ _ _ (by decide)]
                have hK : kyOf h259 = zSecond (evOf h) x23 x49 (kyOf h21) := by rw [g260, ky_o (by decide), hK]
                have hE : evOf h259 = evOf h := by rw [g260, ev_o (by decide), hE]
                refine N_iinc (a := x82.toInt) (c := 1) (fun w => [(4, .inl w), (3, .inl x47), (2, .inl x23), (0, .inr (.inr (.inl 96))), (1, .inl a0)]) rfl rfl (fun _ => rfl) (by decide) rfl (by decide) (by omega) (fun x271 q272 => ?_)
                refine R_goto 37 rfl rfl ?_
                exact RUN_weak (psub_cons rfl (psub_cons rfl (psub_cons rfl (psub_cons rfl (psub_cons rfl (psub_nil _)))))) (ih83 h259 x271 hI fr fl81 (by omega) (hK) (hE) (by omega))
              · refine R_aload_n (k := 0) rfl rfl rfl ?_
                refine R_iload (k := 4) rfl rfl ?_
                refine R_iload_n (k := 2) rfl rfl rfl ?_
                refine R_callV (v := .inr (.inr (.inl 96))) (As := [.inl x82, .inl x23]) (rest := [.inl x249, .inl x23, .inr (.inr (.inl 116))]) rfl mt_9_i295 pp_X9_passedIn (by decide) rfl rfl rfl (Nat.le_of_ble_eq_true rfl) (Nat.le_of_ble_eq_true rfl) ((k_X9_passedIn h237 hI x82 x23 (by omega) (by omega)).mono (fun r273 h274 p275 => ?_))
                obtain ⟨rfl, x276, rfl, q277⟩ := p275
                show RUN d_X9_goAll 108 [(4, .inl x82), (3, .inl x47), (2, .inl x23), (0, .inr (.inr (.inl 96))), (1, .inl a0)] [.inl x276, .inl x249, .inl x23, .inr (.inr (.inl 116))] h237 _
                refine N_if_ne (a := x276.toInt) 118 rfl rfl rfl (fun c278 => ?_) (fun c278 => ?_)
                · refine R_iconst 0 rfl rfl ?_
                  refine R_ior rfl ?_
                  refine N_eq (fun x279 e280 => ?_)
                  refine K_iast (a := x23.toInt) (lo := (-2147483648)) (hi' := 2147483647) rfl sh_116 rfl ⟨by omega, by omega⟩ hI (by decide) rfl (i_rng _) fr (by decide) (fun h281 g282 hI fr => ?_)
                  have fl81 : FR [110, 111, 112, 113, 114, 115, 116, 119] h68 h281 := by rw [g282]; exact FR_wI _ _ fl81 (by decide)
                  have fl22 : FR [96, 107, 108, 109, 110, 111, 112, 113, 114, 115, 116, 117, 118, 119] h5 h281 := by rw [g282]; exact FR_wI _ _ fl22 (by decide)
                  have s283 : (h281.1 96 19).toInt = (h237.1 96 19).toInt := by rw [g282, wI_ne _ _ _ (by decide)]
                  have s284 : (h281.1 96 18).toInt = (h237.1 96 18).toInt := by rw [g282, wI_ne _ _ _ (by decide)]
                  have s285 : (h281.1 96 20).toInt = (h237.1 96 20).toInt := by rw [g282, wI_ne _ _ _ (by decide)]
                  have s286 : (h281.1 96 46).toInt = (h237.1 96 46).toInt := by rw [g282, wI_ne _ _ _ (by decide)]
                  have s287 : (h281.1 96 44).toInt = (h237.1 96 44).toInt := by rw [g282, wI_ne _ _ _ (by decide)]
                  have s288 : (h281.1 96 47).toInt = (h237.1 96 47).toInt := by rw [g282, wI_ne _ _ _ (by decide)]
                  have s289 : (h281.1 96 48).toInt = (h237.1 96 48).toInt := by rw [g282, wI_ne _ _ _ (by decide)]
                  have s290 : (h281.1 96 51).toInt = (h237.1 96 51).toInt := by rw [g282, wI_ne _ _ _ (by decide)]
                  have s291 : (h281.1 97 5).toInt = (h237.1 97 5).toInt := by rw [g282, wI_ne _ _ _ (by decide)]
                  have s292 : (h281.1 97 0).toInt = (h237.1 97 0).toInt := by rw [g282, wI_ne _ _ _ (by decide)]
                  have hK : kyOf h281 = zSecond (evOf h) x23 x49 (kyOf h21) := by rw [g282, ky_o (by decide), hK]
                  have hE : evOf h281 = evOf h := by rw [g282, ev_o (by decide), hE]
                  refine N_iinc (a := x82.toInt) (c := 1) (fun w => [(4, .inl w), (3, .inl x47), (2, .inl x23), (0, .inr (.inr (.inl 96))), (1, .inl a0)]) rfl rfl (fun _ => rfl) (by decide) rfl (by decide) (by omega) (fun x293 q294 => ?_)
                  refine R_goto 37 rfl rfl ?_
                  exact RUN_weak (psub_cons rfl (psub_cons rfl (psub_cons rfl (psub_cons rfl (psub_cons rfl (psub_nil _)))))) (ih83 h281 x293 hI fr fl81 (by omega) (hK) (hE) (by omega))
                · refine R_iconst 1 rfl rfl ?_
                  refine R_iload (k := 4) rfl rfl ?_
                  refine R_ishl rfl ?_
                  refine N_eq (fun x295 e296 => ?_)
                  refine R_goto 119 rfl rfl ?_
                  refine R_ior rfl ?_
                  refine N_eq (fun x298 e299 => ?_)
                  refine K_iast (a := x23.toInt) (lo := (-2147483648)) (hi' := 2147483647) rfl sh_116 rfl ⟨by omega, by omega⟩ hI (by decide) rfl (i_rng _) fr (by decide) (fun h300 g301 hI fr => ?_)
                  have fl81 : FR [110, 111, 112, 113, 114, 115, 116, 119] h68 h300 := by rw [g301]; exact FR_wI _ _ fl81 (by decide)
                  have fl22 : FR [96, 107, 108, 109, 110, 111, 112, 113, 114, 115, 116, 117, 118, 119] h5 h300 := by rw [g301]; exact FR_wI _ _ fl22 (by decide)
                  have s302 : (h300.1 96 19).toInt = (h237.1 96 19).toInt := by rw [g301, wI_ne _ _ _ (by decide)]
                  have s303 : (h300.1 96 18).toInt = (h237.1 96 18).toInt := by rw [g301, wI_ne _ _ _ (by decide)]
                  have s304 : (h300.1 96 20).toInt = (h237.1 96 20).toInt := by rw [g301, wI_ne _ _ _ (by decide)]
                  have s305 : (h300.1 96 46).toInt = (h237.1 96 46).toInt := by rw [g301, wI_ne _ _ _ (by decide)]
                  have s306 : (h300.1 96 44).toInt = (h237.1 96 44).toInt := by rw [g301, wI_ne _ _ _ (by decide)]
                  have s307 : (h300.1 96 47).toInt = (h237.1 96 47).toInt := by rw [g301, wI_ne _ _ _ (by decide)]
                  have s308 : (h300.1 96 48).toInt = (h237.1 96 48).toInt := by rw [g301, wI_ne _ _ _ (by decide)]
                  have s309 : (h300.1 96 51).toInt = (h237.1 96 51).toInt := by rw [g301, wI_ne _ _ _ (by decide)]
                  have s310 : (h300.1 97 5).toInt = (h237.1 97 5).toInt := by rw [g301, wI_ne _ _ _ (by decide)]
                  have s311 : (h300.1 97 0).toInt = (h237.1 97 0).toInt := by rw [g301, wI_ne _ _ _ (by decide)]
                  have hK : kyOf h300 = zSecond (evOf h) x23 x49 (kyOf h21) := by rw [g301, ky_o (by decide), hK]
                  have hE : evOf h300 = evOf h := by rw [g301, ev_o (by decide), hE]
                  refine N_iinc (a := x82.toInt) (c := 1) (fun w => [(4, .inl w), (3, .inl x47), (2, .inl x23), (0, .inr (.inr (.inl 96))), (1, .inl a0)]) rfl rfl (fun _ => rfl) (by decide) rfl (by decide) (by omega) (fun x312 q313 => ?_)
                  refine R_goto 37 rfl rfl ?_
                  exact RUN_weak (psub_cons rfl (psub_cons rfl (psub_cons rfl (psub_cons rfl (psub_cons rfl (psub_nil _)))))) (ih83 h300 x312 hI fr fl81 (by omega) (hK) (hE) (by omega))
        have k314 : (0 : Int32).toInt = 0 := by decide
        exact lp79 _ h68 (0 : Int32) hI fr (FR.rf _ _) (by decide) (hK) (hE) (Nat.lt_succ_self _)
  have k315 : (0 : Int32).toInt = 0 := by decide
  exact lp20 _ h5 (0 : Int32) hI fr (FR.rf _ _) (by decide) rfl rfl rfl rfl rfl rfl rfl rfl trivial trivial (by omega) (by rw [hK]; rfl) (fun hc => absurd hc (by omega)) (hE) (Nat.lt_succ_self _)

abbrev qg_X9_waterNow (h : PH)  : Option PV → PH → Prop := fun r h' => INV h' ∧ FR [96, 107, 108, 109, 110, 111, 112, 113, 114, 115, 116, 117, 118, 119] h h' ∧ ((h'.1 96 18).toInt = (h.1 96 18).toInt ∧ (h'.1 96 19).toInt = (h.1 96 19).toInt ∧ (h'.1 96 46).toInt = (h.1 96 46).toInt ∧ (h'.1 96 44).toInt = (h.1 96 44).toInt ∧ (h'.1 96 47).toInt = (h.1 96 47).toInt ∧ (h'.1 96 48).toInt = (h.1 96 48).toInt ∧ (evOf h' = evOf h) ∧ True) ∧ ∃ z : Int32, r = some (.inl z) ∧ (((True)) ∧ (z = (zRun (evOf h) (h.1 97 0).toInt.toNat).2.2.2) ∧ True)
set_option maxHeartbeats 4000000 in
set_option maxRecDepth 100000 in
theorem g_X9_waterNow (h : PH) (hI : INV h) (p97_0 : 1 ≤ (h.1 97 0).toInt ∧ (h.1 97 0).toInt ≤ 60) : CALL d_X9_waterNow [.inr (.inr (.inl 96))] h (qg_X9_waterNow h) := by
  show RUN d_X9_waterNow 0 [(0, .inr (.inr (.inl 96)))] [] h _
  have fr : FR [96, 107, 108, 109, 110, 111, 112, 113, 114, 115, 116, 117, 118, 119] h h := FR.rf _ _
  have hK : kyOf h = kyOf h := rfl
  have hE : evOf h = evOf h := rfl
  have b1 : (0 : Int) ≤ (h.1 97 0).toInt ∧ (h.1 97 0).toInt ≤ 60 := hI.1 97 0
  have b2 : (0 : Int) ≤ (h.1 96 18).toInt ∧ (h.1 96 18).toInt ≤ 6 := hI.1 96 18
  have b3 : (h.1 96 18).toInt = ((evOf h).2.2.2.2.1).toInt := congrArg (fun q : EV => (q.2.2.2.2.1).toInt) hE
  refine R_aload_n (k := 0) rfl rfl rfl ?_
  refine R_aload_n (k := 0) rfl rfl rfl ?_
  refine R_callV (v := .inr (.inr (.inl 96))) (As := []) (rest := [.inr (.inr (.inl 96))]) rfl mt_9_i129 pp_X9_last (by decide) rfl rfl rfl (Nat.le_of_ble_eq_true rfl) (Nat.le_of_ble_eq_true rfl) ((k_X9_last h hI).mono (fun r4 h5 p6 => ?_))
  obtain ⟨rfl, x7, rfl, q8⟩ := p6
  show RUN d_X9_waterNow 5 [(0, .inr (.inr (.inl 96)))] [.inl x7, .inr (.inr (.inl 96))] h _
  refine R_callV (v := .inr (.inr (.inl 96))) (As := [.inl x7]) (rest := []) rfl mt_9_i304 pp_X9_goAll (by decide) rfl rfl rfl (Nat.le_of_ble_eq_true rfl) (Nat.le_of_ble_eq_true rfl) ((g_X9_goAll h hI x7 (by omega)).mono (fun r9 h10 p11 => ?_))
  obtain ⟨hJ, fj, ⟨kp12, kp13, kp14, kp15, kp16, kp17, kp18, kp19, xq20, xq21, xq22, -⟩, rfl⟩ := p11
  have f23 := fj
  have fr := fr.trans fj (by decide)
  have hI := hJ
  have s24 : (h10.1 97 0).toInt = (h.1 97 0).toInt := by rw [(f23 97 (by decide)).1]
  have hK : kyOf h10 = zRun (evOf h) (x7.toInt + 1).toNat := by rw [xq20, hE]
  have hE : evOf h10 = evOf h := xq21.trans hE
  show RUN d_X9_waterNow 8 [(0, .inr (.inr (.inl 96)))] [] h10 _
  refine R_aload_n (k := 0) rfl rfl rfl ?_
  refine R_getf_r (j := 29) rfl ft_9_67 sh_96 rfl ?_
  refine R_aload_n (k := 0) rfl rfl rfl ?_
  refine R_callV (v := .inr (.inr (.inl 96))) (As := []) (rest := [.inr (.inr (.inl 114))]) rfl mt_9_i129 pp_X9_last (by decide) rfl rfl rfl (Nat.le_of_ble_eq_true rfl) (Nat.le_of_ble_eq_true rfl) ((k_X9_last h10 hI).mono (fun r25 h26 p27 => ?_))
  obtain ⟨rfl, x28, rfl, q29⟩ := p27
  show RUN d_X9_waterNow 16 [(0, .inr (.inr (.inl 96)))] [.inl x28, .inr (.inr (.inl 114))] h10 _
  refine R_iald rfl sh_114 ⟨by omega, by omega⟩ ?_
  refine N_eq (fun x30 e31 => ?_)
  exact R_iret rfl rfl rfl ⟨hI, fr, ⟨by omega, by omega, by omega, by omega, by omega, by omega, hE, trivial⟩, _, rfl, ⟨trivial, (by rw [e31, show x28 = x7 from i_of _ (by omega), xq22 (by omega), show (x7.toInt + 1).toNat = (h.1 97 0).toInt.toNat by omega]), trivial⟩⟩

abbrev qg_X9_goTo (h : PH) (a0 : Int32) : Option PV → PH → Prop := fun r h' => INV h' ∧ FR [96, 107, 108, 109, 117, 118] h h' ∧ ((h'.1 96 42).toInt = (h.1 96 42).toInt ∧ (kyOf h' = zTo (evOf h) (a0.toInt + 1).toNat) ∧ (evOf h' = evOf h) ∧ True) ∧ r = none
set_option maxHeartbeats 4000000 in
set_option maxRecDepth 100000 in
theorem g_X9_goTo (h : PH) (hI : INV h) (a0 : Int32) (h0a : 0 ≤ a0.toInt ∧ a0.toInt ≤ 1073741824) : CALL d_X9_goTo [.inr (.inr (.inl 96)), .inl a0] h (qg_X9_goTo h a0) := by
  show RUN d_X9_goTo 0 [(0, .inr (.inr (.inl 96))), (1, .inl a0)] [] h _
  have fr : FR [96, 107, 108, 109, 117, 118] h h := FR.rf _ _
  have hK : kyOf h = kyOf h := rfl
  have hE : evOf h = evOf h := rfl
  refine R_aload_n (k := 0) rfl rfl rfl ?_
  refine R_callV (v := .inr (.inr (.inl 96))) (As := []) (rest := []) rfl mt_9_i282 pp_X9_startLine (by decide) rfl rfl rfl (Nat.le_of_ble_eq_true rfl) (Nat.le_of_ble_eq_true rfl) ((g_X9_startLine h hI).mono (fun r1 h2 p3 => ?_))
  obtain ⟨hJ, fj, ⟨kp4, kp5, kp6, kp7, kp8, kp9, kp10, kp11, kp12, xq13, xq14, -⟩, rfl⟩ := p3
  have f15 := fj
  have fr := fr.trans fj (by decide)
  have hI := hJ
  have hK : kyOf h2 = zStart (eBuck (evOf h)) := by rw [xq13, hE]
  have hE : evOf h2 = evOf h := xq14.trans hE
  show RUN d_X9_goTo 4 [(0, .inr (.inr (.inl 96))), (1, .inl a0)] [] h2 _
  refine R_iconst 0 rfl rfl ?_
  refine R_istore_n (k := 2) rfl [(2, .inl 0), (0, .inr (.inr (.inl 96))), (1, .inl a0)] rfl rfl (by decide) ?_
  have lp17 : ∀ (n16 : Nat) (h18 : PH) (x20 : Int32), INV h18 → FR [96, 107, 108, 109, 117, 118] h h18 → FR [96, 107, 108, 109, 117, 118] h2 h18 → 0 ≤ x20.toInt ∧ x20.toInt ≤ 1073741825 → (h18.1 96 42).toInt = (h2.1 96 42).toInt → x20.toInt ≤ a0.toInt + 1 → (kyOf h18 = zTo (evOf h) x20.toNatClampNeg) → (evOf h18 = evOf h) → (1073741825 - x20.toInt).toNat < n16 → RUN d_X9_goTo 6 [(2, .inl x20), (0, .inr (.inr (.inl 96))), (1, .inl a0)] [] h18 (qg_X9_goTo h a0) := by
    intro n16
    induction n16 with
    | zero => intro h18 x20 m22 m23 m24 m25 m26 m27 m28 m29 hz; exact absurd hz (Nat.not_lt_zero _)
    | succ n16 ih21 =>
      intro h18 x20 hI fr fl19 m25 m26 m27 m28 m29 hz
      have hE := m29
      have hK : kyOf h18 = kyOf h18 := rfl
      refine R_iload_n (k := 2) rfl rfl rfl ?_
      refine R_iload_n (k := 1) rfl rfl rfl ?_
      refine N_icmp_gt (a := x20.toInt) (b := a0.toInt) 23 rfl rfl rfl rfl (fun c30 => ?_) (fun c30 => ?_)
      · have hF : kyOf h18 = zTo (evOf h) (a0.toInt + 1).toNat := m28.trans (by rw [tn2 (x := x20) (a := a0.toInt + 1) (by omega) (by omega)])
        exact R_vret rfl rfl ⟨hI, fr, ⟨by omega, hF, hE, trivial⟩, rfl⟩
      · refine R_aload_n (k := 0) rfl rfl rfl ?_
        refine R_iload_n (k := 2) rfl rfl rfl ?_
        refine R_iconst 0 rfl rfl ?_
        have k31 : (0 : Int32).toInt = 0 := by decide
        refine R_callV (v := .inr (.inr (.inl 96))) (As := [.inl x20, .inl 0]) (rest := []) rfl mt_9_i288 pp_X9_goSecond (by decide) rfl rfl rfl (Nat.le_of_ble_eq_true rfl) (Nat.le_of_ble_eq_true rfl) ((g_X9_goSecond h18 hI x20 (0 : Int32) (by omega)).mono (fun r32 h33 p34 => ?_))
        obtain ⟨hJ, fj, ⟨kp35, kp36, kp37, kp38, kp39, kp40, kp41, kp42, kp43, kp44, xq45, xq46, -⟩, rfl⟩ := p34
        have f47 := fj
        have fr := fr.trans fj (by decide)
        have hI := hJ
        have fl19 : FR [96, 107, 108, 109, 117, 118] h2 h33 := fl19.trans fj (by decide)
        have hK : kyOf h33 = zSecond (evOf h) x20 (0 : Int32) (kyOf h18) := by rw [xq45, hE, hK]
        have hE : evOf h33 = evOf h := xq46.trans hE
        show RUN d_X9_goTo 17 [(2, .inl x20), (0, .inr (.inr (.inl 96))), (1, .inl a0)] [] h33 _
        refine N_iinc (a := x20.toInt) (c := 1) (fun w => [(2, .inl w), (0, .inr (.inr (.inl 96))), (1, .inl a0)]) rfl rfl (fun _ => rfl) (by decide) rfl (by decide) (by omega) (fun x48 q49 => ?_)
        refine R_goto 6 rfl rfl ?_
        exact RUN_weak (psub_cons rfl (psub_cons rfl (psub_cons rfl (psub_nil _)))) (ih21 h33 x48 hI fr fl19 (by omega) (by omega) (by omega) (by rw [zTo_s (x := x20) (x' := x48) (by omega) (by omega), ← m28]; exact hK) (hE) (by omega))
  have k50 : (0 : Int32).toInt = 0 := by decide
  exact lp17 _ h2 (0 : Int32) hI fr (FR.rf _ _) (by decide) rfl (by omega) (by rw [hK]; rfl) (hE) (Nat.lt_succ_self _)
