abbrev qg_X5_makeRow (h : PH) (a0 : Int32) (a1 : Int32) (a2 : Int32) : Option PV → PH → Prop := fun r h' => INV h' ∧ FR [67, 68, 69] h h' ∧ ((h'.1 68 = upd (h.1 68) a0.toNatClampNeg a2) ∧ (h'.1 69 = upd (h.1 69) a0.toNatClampNeg a1) ∧ True) ∧ r = none
set_option maxHeartbeats 4000000 in
set_option maxRecDepth 100000 in
theorem g_X5_makeRow (h : PH) (hI : INV h) (a0 : Int32) (a1 : Int32) (a2 : Int32) (h0a : 0 ≤ a0.toInt ∧ a0.toInt ≤ 3) (h1a : 0 ≤ a1.toInt ∧ a1.toInt ≤ 3) (h2a : 0 ≤ a2.toInt ∧ a2.toInt ≤ 60) : CALL d_X5_makeRow [.inr (.inr (.inl 66)), .inl a0, .inl a1, .inl a2] h (qg_X5_makeRow h a0 a1 a2) := by
  show RUN d_X5_makeRow 0 [(0, .inr (.inr (.inl 66))), (1, .inl a0), (2, .inl a1), (3, .inl a2)] [] h _
  have fr : FR [67, 68, 69] h h := FR.rf _ _
  refine R_aload_n (k := 0) rfl rfl rfl ?_
  refine R_getf_r (j := 2) rfl ft_5_19 sh_66 rfl ?_
  refine R_iload_n (k := 1) rfl rfl rfl ?_
  refine R_iload_n (k := 2) rfl rfl rfl ?_
  refine K_iast (a := a0.toInt) (lo := (-2147483648)) (hi' := 2147483647) rfl sh_69 rfl ⟨by omega, by omega⟩ hI (by decide) rfl (i_rng _) fr (by decide) (fun h1 g2 hI fr => ?_)
  refine R_aload_n (k := 0) rfl rfl rfl ?_
  refine R_getf_r (j := 1) rfl ft_5_15 sh_66 rfl ?_
  refine R_iload_n (k := 1) rfl rfl rfl ?_
  refine R_iload_n (k := 3) rfl rfl rfl ?_
  refine K_iast (a := a0.toInt) (lo := (-1)) (hi' := 60) rfl sh_68 rfl ⟨by omega, by omega⟩ hI (by decide) rfl (by omega) fr (by decide) (fun h3 g4 hI fr => ?_)
  have hR1 : h3.1 68 = upd (h.1 68) a0.toNatClampNeg a2 := by rw [g4, wI_self, g2, wI_ne _ _ _ (by decide)]
  have hR2 : h3.1 69 = upd (h.1 69) a0.toNatClampNeg a1 := by rw [g4, wI_ne _ _ _ (by decide), g2, wI_self]
  refine R_iconst 0 rfl rfl ?_
  refine R_istore (k := 4) [(4, .inl 0), (0, .inr (.inr (.inl 66))), (1, .inl a0), (2, .inl a1), (3, .inl a2)] rfl rfl (by decide) ?_
  have lp6 : ∀ (n5 : Nat) (h7 : PH) (x9 : Int32), INV h7 → FR [67, 68, 69] h h7 → FR [67] h3 h7 → 0 ≤ x9.toInt ∧ x9.toInt ≤ 60 → (h7.1 = h3.1) → (60 - x9.toInt).toNat < n5 → RUN d_X5_makeRow 17 [(4, .inl x9), (0, .inr (.inr (.inl 66))), (1, .inl a0), (2, .inl a1), (3, .inl a2)] [] h7 (qg_X5_makeRow h a0 a1 a2) := by
    intro n5
    induction n5 with
    | zero => intro h7 x9 m11 m12 m13 m14 m15 hz; exact absurd hz (Nat.not_lt_zero _)
    | succ n5 ih10 =>
      intro h7 x9 hI fr fl8 m14 m15 hz
      refine R_iload (k := 4) rfl rfl ?_
      refine R_bipush 60 rfl rfl ?_
      refine N_icmp_ge (a := x9.toInt) (b := 60) 43 rfl rfl rfl (by decide) (fun c16 => ?_) (fun c16 => ?_)
      · exact R_vret rfl rfl ⟨hI, fr, ⟨by rw [m15]; exact hR1, by rw [m15]; exact hR2, trivial⟩, rfl⟩
      · refine R_aload_n (k := 0) rfl rfl rfl ?_
        refine R_getf_r (j := 0) rfl ft_5_11 sh_66 rfl ?_
        refine R_iload_n (k := 1) rfl rfl rfl ?_
        refine R_bipush 60 rfl rfl ?_
        refine R_imul rfl ?_
        refine N_eq (fun x17 e18 => ?_)
        have q19 : x17.toInt = a0.toInt * 60 := by rw [e18]; exact i_mul rfl (by decide) (by omega)
        refine R_iload (k := 4) rfl rfl ?_
        refine R_iadd rfl ?_
        refine N_eq (fun x20 e21 => ?_)
        have q22 : x20.toInt = x17.toInt + x9.toInt := by rw [e21]; exact i_add rfl rfl (by omega)
        refine R_lconst 0 rfl rfl ?_
        refine K_last (a := x20.toInt) rfl sh_67 rfl ⟨by omega, by omega⟩ hI fr (by decide) (fun h23 g24 hI fr => ?_)
        have fl8 : FR [67] h3 h23 := by rw [g24]; exact FR_wL _ _ fl8 (by decide)
        refine N_iinc (a := x9.toInt) (c := 1) (fun w => [(4, .inl w), (0, .inr (.inr (.inl 66))), (1, .inl a0), (2, .inl a1), (3, .inl a2)]) rfl rfl (fun _ => rfl) (by decide) rfl (by decide) (by omega) (fun x25 q26 => ?_)
        refine R_goto 17 rfl rfl ?_
        exact RUN_weak (psub_cons rfl (psub_cons rfl (psub_cons rfl (psub_cons rfl (psub_cons rfl (psub_nil _)))))) (ih10 h23 x25 hI fr fl8 (by omega) (by rw [g24, wL_fst]; exact m15) (by omega))
  have k27 : (0 : Int32).toInt = 0 := by decide
  exact lp6 _ h3 (0 : Int32) hI fr (FR.rf _ _) (by decide) (rfl) (Nat.lt_succ_self _)
