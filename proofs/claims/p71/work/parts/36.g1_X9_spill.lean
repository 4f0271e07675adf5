abbrev qg_X9_spill (h : PH) (a0 : Int32) : Option PV → PH → Prop := fun r h' => INV h' ∧ FR [96, 108, 117, 118] h h' ∧ ((h'.1 96 18).toInt = (h.1 96 18).toInt ∧ (h'.1 96 34).toInt = (h.1 96 34).toInt ∧ (h'.1 96 41).toInt = (h.1 96 41).toInt ∧ (h'.1 96 42).toInt = (h.1 96 42).toInt ∧ (h'.1 96 19).toInt = (h.1 96 19).toInt ∧ (h'.1 96 20).toInt = (h.1 96 20).toInt ∧ (h'.1 96 46).toInt = (h.1 96 46).toInt ∧ (h'.1 96 44).toInt = (h.1 96 44).toInt ∧ (h'.1 96 47).toInt = (h.1 96 47).toInt ∧ (h'.1 96 48).toInt = (h.1 96 48).toInt ∧ (h'.1 96 51).toInt = (h.1 96 51).toInt ∧ (kyOf h' = zSpill (evOf h) a0 (kyOf h)) ∧ (evOf h' = evOf h) ∧ True) ∧ r = none
set_option maxHeartbeats 4000000 in
set_option maxRecDepth 100000 in
theorem g_X9_spill (h : PH) (hI : INV h) (a0 : Int32) (h0a : 0 ≤ a0.toInt ∧ a0.toInt ≤ 5) : CALL d_X9_spill [.inr (.inr (.inl 96)), .inl a0] h (qg_X9_spill h a0) := by
  show RUN d_X9_spill 0 [(0, .inr (.inr (.inl 96))), (1, .inl a0)] [] h _
  have fr : FR [96, 108, 117, 118] h h := FR.rf _ _
  have hK : kyOf h = kyOf h := rfl
  have hE : evOf h = evOf h := rfl
  have b1 : (0 : Int) ≤ (h.1 96 18).toInt ∧ (h.1 96 18).toInt ≤ 6 := hI.1 96 18
  have b2 : (h.1 96 18).toInt = ((evOf h).2.2.2.2.1).toInt := congrArg (fun q : EV => (q.2.2.2.2.1).toInt) hE
  have b3 : (0 : Int) ≤ (h.1 96 51).toInt ∧ (h.1 96 51).toInt ≤ 720 := hI.1 96 51
  refine R_aload_n (k := 0) rfl rfl rfl ?_
  refine R_getf_r (j := 23) rfl ft_9_49 sh_96 rfl ?_
  refine R_iload_n (k := 1) rfl rfl rfl ?_
  refine R_iald rfl sh_108 ⟨by omega, by omega⟩ ?_
  refine N_eq (fun x4 e5 => ?_)
  have e6 : x4 = ((kyOf h).2.1) a0.toNatClampNeg := by rw [e5]; exact (ky_at108 (nlt ⟨by omega, by omega⟩)).trans (congrFun (congrArg (fun q : KY => q.2.1) hK) _)
  refine R_aload_n (k := 0) rfl rfl rfl ?_
  refine R_getf_r (j := 1) rfl ft_9_9 sh_96 rfl ?_
  refine R_bipush 11 rfl rfl ?_
  refine R_iconst 2 rfl rfl ?_
  refine R_iload_n (k := 1) rfl rfl rfl ?_
  refine R_imul rfl ?_
  refine N_eq (fun x7 e8 => ?_)
  have q9 : x7.toInt = 2 * a0.toInt := by rw [e8]; exact i_mul (by decide) rfl (by omega)
  refine R_iadd rfl ?_
  refine N_eq (fun x10 e11 => ?_)
  have q12 : x10.toInt = 11 + x7.toInt := by rw [e11]; exact i_add (by decide) rfl (by omega)
  refine R_iconst 1 rfl rfl ?_
  refine R_iadd rfl ?_
  refine N_eq (fun x13 e14 => ?_)
  have q15 : x13.toInt = x10.toInt + 1 := by rw [e14]; exact i_add rfl (by decide) (by omega)
  refine R_iald rfl sh_97 ⟨by omega, by omega⟩ ?_
  refine N_eq (fun x16 e17 => ?_)
  have e18 : x16 = (evOf h).1 x13.toNatClampNeg := by rw [e17]; exact congrFun (congrArg (fun q : EV => q.1) hE) _
  refine R_nat (b := 1) rfl mt_9_i167 rfl ⟨by decide, by decide, Nat.le_of_ble_eq_true rfl⟩ ?_
  refine N_eq (fun x19 e20 => ?_)
  refine R_istore_n (k := 2) rfl [(2, .inl x19), (0, .inr (.inr (.inl 96))), (1, .inl a0)] rfl rfl (by decide) ?_
  refine R_aload_n (k := 0) rfl rfl rfl ?_
  refine R_getf_r (j := 23) rfl ft_9_49 sh_96 rfl ?_
  refine R_iload_n (k := 1) rfl rfl rfl ?_
  refine R_dup2 rfl ?_
  refine R_iald rfl sh_108 ⟨by omega, by omega⟩ ?_
  refine N_eq (fun x21 e22 => ?_)
  have e23 : x21 = ((kyOf h).2.1) a0.toNatClampNeg := by rw [e22]; exact (ky_at108 (nlt ⟨by omega, by omega⟩)).trans (congrFun (congrArg (fun q : KY => q.2.1) hK) _)
  refine R_iload_n (k := 2) rfl rfl rfl ?_
  have b24 := i_rng x21
  have b25 := i_rng x19
  refine R_isub rfl ?_
  refine N_eq (fun x26 e27 => ?_)
  refine K_iast (a := a0.toInt) (lo := (-2147483648)) (hi' := 2147483647) rfl sh_108 rfl ⟨by omega, by omega⟩ hI (by decide) rfl (i_rng _) fr (by decide) (fun h28 g29 hI fr => ?_)
  have s30 : (h28.1 96 18).toInt = (h.1 96 18).toInt := by rw [g29, wI_ne _ _ _ (by decide)]
  have s31 : (h28.1 96 34).toInt = (h.1 96 34).toInt := by rw [g29, wI_ne _ _ _ (by decide)]
  have s32 : (h28.1 96 36).toInt = (h.1 96 36).toInt := by rw [g29, wI_ne _ _ _ (by decide)]
  have s33 : (h28.1 96 41).toInt = (h.1 96 41).toInt := by rw [g29, wI_ne _ _ _ (by decide)]
  have s34 : (h28.1 96 42).toInt = (h.1 96 42).toInt := by rw [g29, wI_ne _ _ _ (by decide)]
  have s35 : (h28.1 96 19).toInt = (h.1 96 19).toInt := by rw [g29, wI_ne _ _ _ (by decide)]
  have s36 : (h28.1 96 20).toInt = (h.1 96 20).toInt := by rw [g29, wI_ne _ _ _ (by decide)]
  have s37 : (h28.1 96 46).toInt = (h.1 96 46).toInt := by rw [g29, wI_ne _ _ _ (by decide)]
  have s38 : (h28.1 96 44).toInt = (h.1 96 44).toInt := by rw [g29, wI_ne _ _ _ (by decide)]
  have s39 : (h28.1 96 47).toInt = (h.1 96 47).toInt := by rw [g29, wI_ne _ _ _ (by decide)]
  have s40 : (h28.1 96 48).toInt = (h.1 96 48).toInt := by rw [g29, wI_ne _ _ _ (by decide)]
  have s41 : (h28.1 96 51).toInt = (h.1 96 51).toInt := by rw [g29, wI_ne _ _ _ (by decide)]
  have hK : kyOf h28 = ((kyOf h).1, upd ((kyOf h).2.1) a0.toNatClampNeg x26, (kyOf h).2.2.1, (kyOf h).2.2.2) := by rw [g29, ky_108 (nlt ⟨by omega, by omega⟩), hK] <;> rfl
  have hE : evOf h28 = evOf h := by rw [g29, ev_o (by decide), hE]
  refine R_aload_n (k := 0) rfl rfl rfl ?_
  refine R_getf_r (j := 33) rfl ft_9_79 sh_96 rfl ?_
  refine R_iload_n (k := 1) rfl rfl rfl ?_
  refine R_dup2 rfl ?_
  refine R_iald rfl sh_118 ⟨by omega, by omega⟩ ?_
  refine N_eq (fun x42 e43 => ?_)
  refine R_iload_n (k := 2) rfl rfl rfl ?_
  have b44 := i_rng x42
  have b45 := i_rng x19
  refine R_iadd rfl ?_
  refine N_eq (fun x46 e47 => ?_)
  refine K_iast (a := a0.toInt) (lo := (-2147483648)) (hi' := 2147483647) rfl sh_118 rfl ⟨by omega, by omega⟩ hI (by decide) rfl (i_rng _) fr (by decide) (fun h48 g49 hI fr => ?_)
  have s50 : (h48.1 96 18).toInt = (h28.1 96 18).toInt := by rw [g49, wI_ne _ _ _ (by decide)]
  have s51 : (h48.1 96 34).toInt = (h28.1 96 34).toInt := by rw [g49, wI_ne _ _ _ (by decide)]
  have s52 : (h48.1 96 36).toInt = (h28.1 96 36).toInt := by rw [g49, wI_ne _ _ _ (by decide)]
  have s53 : (h48.1 96 41).toInt = (h28.1 96 41).toInt := by rw [g49, wI_ne _ _ _ (by decide)]
  have s54 : (h48.1 96 42).toInt = (h28.1 96 42).toInt := by rw [g49, wI_ne _ _ _ (by decide)]
  have s55 : (h48.1 96 19).toInt = (h28.1 96 19).toInt := by rw [g49, wI_ne _ _ _ (by decide)]
  have s56 : (h48.1 96 20).toInt = (h28.1 96 20).toInt := by rw [g49, wI_ne _ _ _ (by decide)]
  have s57 : (h48.1 96 46).toInt = (h28.1 96 46).toInt := by rw [g49, wI_ne _ _ _ (by decide)]
  have s58 : (h48.1 96 44).toInt = (h28.1 96 44).toInt := by rw [g49, wI_ne _ _ _ (by decide)]
  have s59 : (h48.1 96 47).toInt = (h28.1 96 47).toInt := by rw [g49, wI_ne _ _ _ (by decide)]
  have s60 : (h48.1 96 48).toInt = (h28.1 96 48).toInt := by rw [g49, wI_ne _ _ _ (by decide)]
  have s61 : (h48.1 96 51).toInt = (h28.1 96 51).toInt := by rw [g49, wI_ne _ _ _ (by decide)]
  have hK : kyOf h48 = ((kyOf h).1, upd ((kyOf h).2.1) a0.toNatClampNeg x26, (kyOf h).2.2.1, (kyOf h).2.2.2) := by rw [g49, ky_o (by decide), hK]
  have hE : evOf h48 = evOf h := by rw [g49, ev_o (by decide), hE]
  refine R_aload_n (k := 0) rfl rfl rfl ?_
  refine R_dup_r rfl ?_
  refine R_getf_i (j := 36) rfl ft_9_268 sh_96 rfl ?_
  refine R_iload_n (k := 2) rfl rfl rfl ?_
  have b62 := i_rng (h48.1 96 36)
  have b63 := i_rng x19
  refine R_iadd rfl ?_
  refine N_eq (fun x64 e65 => ?_)
  refine K_putf (j := 36) (lo := (-2147483648)) (hi' := 2147483647) rfl ft_9_268 sh_96 rfl hI (by decide) rfl (i_rng _) fr (by decide) (fun h66 g67 hI fr => ?_)
  have s68 : (h66.1 96 18).toInt = (h48.1 96 18).toInt := by rw [g67, wI_at (by decide)]
  have s69 : (h66.1 96 34).toInt = (h48.1 96 34).toInt := by rw [g67, wI_at (by decide)]
  have s70 : (h66.1 96 41).toInt = (h48.1 96 41).toInt := by rw [g67, wI_at (by decide)]
  have s71 : (h66.1 96 42).toInt = (h48.1 96 42).toInt := by rw [g67, wI_at (by decide)]
  have s72 : (h66.1 96 19).toInt = (h48.1 96 19).toInt := by rw [g67, wI_at (by decide)]
  have s73 : (h66.1 96 20).toInt = (h48.1 96 20).toInt := by rw [g67, wI_at (by decide)]
  have s74 : (h66.1 96 46).toInt = (h48.1 96 46).toInt := by rw [g67, wI_at (by decide)]
  have s75 : (h66.1 96 44).toInt = (h48.1 96 44).toInt := by rw [g67, wI_at (by decide)]
  have s76 : (h66.1 96 47).toInt = (h48.1 96 47).toInt := by rw [g67, wI_at (by decide)]
  have s77 : (h66.1 96 48).toInt = (h48.1 96 48).toInt := by rw [g67, wI_at (by decide)]
  have s78 : (h66.1 96 51).toInt = (h48.1 96 51).toInt := by rw [g67, wI_at (by decide)]
  have hK : kyOf h66 = ((kyOf h).1, upd ((kyOf h).2.1) a0.toNatClampNeg x26, (kyOf h).2.2.1, (kyOf h).2.2.2) := by rw [g67, ky_s (by decide), hK]
  have hE : evOf h66 = evOf h := by rw [g67, ev_s (by decide), hE]
  have s79 : (h66.1 96 36).toInt = x64.toInt := by rw [g67, wI_is]
  refine R_aload_n (k := 0) rfl rfl rfl ?_
  refine R_getf_r (j := 32) rfl ft_9_76 sh_96 rfl ?_
  refine R_iload_n (k := 1) rfl rfl rfl ?_
  refine R_dup2 rfl ?_
  refine R_iald rfl sh_117 ⟨by omega, by omega⟩ ?_
  refine N_eq (fun x80 e81 => ?_)
  refine R_iconst 1 rfl rfl ?_
  have b82 := i_rng x80
  refine R_iadd rfl ?_
  refine N_eq (fun x83 e84 => ?_)
  refine K_iast (a := a0.toInt) (lo := (-2147483648)) (hi' := 2147483647) rfl sh_117 rfl ⟨by omega, by omega⟩ hI (by decide) rfl (i_rng _) fr (by decide) (fun h85 g86 hI fr => ?_)
  have s87 : (h85.1 96 18).toInt = (h66.1 96 18).toInt := by rw [g86, wI_ne _ _ _ (by decide)]
  have s88 : (h85.1 96 34).toInt = (h66.1 96 34).toInt := by rw [g86, wI_ne _ _ _ (by decide)]
  have s89 : (h85.1 96 41).toInt = (h66.1 96 41).toInt := by rw [g86, wI_ne _ _ _ (by decide)]
  have s90 : (h85.1 96 42).toInt = (h66.1 96 42).toInt := by rw [g86, wI_ne _ _ _ (by decide)]
  have s91 : (h85.1 96 19).toInt = (h66.1 96 19).toInt := by rw [g86, wI_ne _ _ _ (by decide)]
  have s92 : (h85.1 96 20).toInt = (h66.1 96 20).toInt := by rw [g86, wI_ne _ _ _ (by decide)]
  have s93 : (h85.1 96 46).toInt = (h66.1 96 46).toInt := by rw [g86, wI_ne _ _ _ (by decide)]
  have s94 : (h85.1 96 44).toInt = (h66.1 96 44).toInt := by rw [g86, wI_ne _ _ _ (by decide)]
  have s95 : (h85.1 96 47).toInt = (h66.1 96 47).toInt := by rw [g86, wI_ne _ _ _ (by decide)]
  have s96 : (h85.1 96 48).toInt = (h66.1 96 48).toInt := by rw [g86, wI_ne _ _ _ (by decide)]
  have s97 : (h85.1 96 51).toInt = (h66.1 96 51).toInt := by rw [g86, wI_ne _ _ _ (by decide)]
  have s98 : (h85.1 96 36).toInt = (h66.1 96 36).toInt := by rw [g86, wI_ne _ _ _ (by decide)]
  have hK : kyOf h85 = ((kyOf h).1, upd ((kyOf h).2.1) a0.toNatClampNeg x26, (kyOf h).2.2.1, (kyOf h).2.2.2) := by rw [g86, ky_o (by decide), hK]
  have hE : evOf h85 = evOf h := by rw [g86, ev_o (by decide), hE]
  have hF : kyOf h85 = zSpill (evOf h) a0 (kyOf h) := by
    refine hK.trans ?_
    subst e84 e81 e65 e47 e43 e27 e23 e20 e18 e14 e11 e8 e6
    simp only [zSpill, zMin, eWorld] <;> (repeat' split) <;> first | (exfalso; omega) | rfl
  exact R_vret rfl rfl ⟨hI, fr, ⟨by omega, by omega, by omega, by omega, by omega, by omega, by omega, by omega, by omega, by omega, by omega, hF, hE, trivial⟩, rfl⟩
