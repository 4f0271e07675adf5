abbrev qg_X9_startLine (h : PH)  : Option PV → PH → Prop := fun r h' => INV h' ∧ FR [96, 107, 108, 109, 117, 118] h h' ∧ ((h'.1 96 19).toInt = (h.1 96 19).toInt ∧ (h'.1 96 42).toInt = (h.1 96 42).toInt ∧ (h'.1 96 18).toInt = (h.1 96 18).toInt ∧ (h'.1 96 20).toInt = (h.1 96 20).toInt ∧ (h'.1 96 46).toInt = (h.1 96 46).toInt ∧ (h'.1 96 44).toInt = (h.1 96 44).toInt ∧ (h'.1 96 47).toInt = (h.1 96 47).toInt ∧ (h'.1 96 48).toInt = (h.1 96 48).toInt ∧ (h'.1 96 51).toInt = (h.1 96 51).toInt ∧ (kyOf h' = zStart (eBuck (evOf h))) ∧ (evOf h' = evOf h) ∧ True) ∧ r = none
set_option maxHeartbeats 4000000 in
set_option maxRecDepth 100000 in
theorem g_X9_startLine (h : PH) (hI : INV h)  : CALL d_X9_startLine [.inr (.inr (.inl 96))] h (qg_X9_startLine h) := by
  show RUN d_X9_startLine 0 [(0, .inr (.inr (.inl 96)))] [] h _
  have fr : FR [96, 107, 108, 109, 117, 118] h h := FR.rf _ _
  have hK : kyOf h = kyOf h := rfl
  have hE : evOf h = evOf h := rfl
  have b1 : (0 : Int) ≤ (h.1 96 18).toInt ∧ (h.1 96 18).toInt ≤ 6 := hI.1 96 18
  have b2 : (h.1 96 18).toInt = ((evOf h).2.2.2.2.1).toInt := congrArg (fun q : EV => (q.2.2.2.2.1).toInt) hE
  have b3 : (0 : Int) ≤ (h.1 96 51).toInt ∧ (h.1 96 51).toInt ≤ 720 := hI.1 96 51
  refine R_iconst 0 rfl rfl ?_
  refine R_istore_n (k := 1) rfl [(1, .inl 0), (0, .inr (.inr (.inl 96)))] rfl rfl (by decide) ?_
  have lp5 : ∀ (n4 : Nat) (h6 : PH) (x8 : Int32), INV h6 → FR [96, 107, 108, 109, 117, 118] h h6 → FR [96, 107, 108, 109, 117, 118] h h6 → 0 ≤ x8.toInt ∧ x8.toInt ≤ 6 → (h6.1 96 19).toInt = (h.1 96 19).toInt → (h6.1 96 42).toInt = (h.1 96 42).toInt → (h6.1 96 18).toInt = (h.1 96 18).toInt → (h6.1 96 20).toInt = (h.1 96 20).toInt → (h6.1 96 46).toInt = (h.1 96 46).toInt → (h6.1 96 44).toInt = (h.1 96 44).toInt → (h6.1 96 47).toInt = (h.1 96 47).toInt → (h6.1 96 48).toInt = (h.1 96 48).toInt → (h6.1 96 51).toInt = (h.1 96 51).toInt → (∀ j : Nat, (j : Int) < x8.toInt → (kyOf h6).1 j = -1 ∧ (kyOf h6).2.1 j = 0) → (evOf h6 = evOf h) → (6 - x8.toInt).toNat < n4 → RUN d_X9_startLine 2 [(1, .inl x8), (0, .inr (.inr (.inl 96)))] [] h6 (qg_X9_startLine h) := by
    intro n4
    induction n4 with
    | zero => intro h6 x8 m10 m11 m12 m13 m14 m15 m16 m17 m18 m19 m20 m21 m22 m23 m24 hz; exact absurd hz (Nat.not_lt_zero _)
    | succ n4 ih9 =>
      intro h6 x8 hI fr fl7 m13 m14 m15 m16 m17 m18 m19 m20 m21 m22 m23 m24 hz
      have hE := m24
      have hK : kyOf h6 = kyOf h6 := rfl
      refine R_iload_n (k := 1) rfl rfl rfl ?_
      refine R_bipush 6 rfl rfl ?_
      refine N_icmp_ge (a := x8.toInt) (b := 6) 42 rfl rfl rfl (by decide) (fun c25 => ?_) (fun c25 => ?_)
      · refine R_iconst 0 rfl rfl ?_
        refine R_istore_n (k := 1) rfl [(1, .inl 0), (0, .inr (.inr (.inl 96)))] rfl rfl (by decide) ?_
        have lp27 : ∀ (n26 : Nat) (h28 : PH) (x30 : Int32), INV h28 → FR [96, 107, 108, 109, 117, 118] h h28 → FR [96, 109] h6 h28 → 0 ≤ x30.toInt ∧ x30.toInt ≤ 23 → (h28.1 96 19).toInt = (h6.1 96 19).toInt → (h28.1 96 42).toInt = (h6.1 96 42).toInt → (h28.1 96 18).toInt = (h6.1 96 18).toInt → (h28.1 96 20).toInt = (h6.1 96 20).toInt → (h28.1 96 46).toInt = (h6.1 96 46).toInt → (h28.1 96 44).toInt = (h6.1 96 44).toInt → (h28.1 96 47).toInt = (h6.1 96 47).toInt → (h28.1 96 48).toInt = (h6.1 96 48).toInt → (h28.1 96 51).toInt = (h6.1 96 51).toInt → ((∀ j : Nat, (j : Int) < x30.toInt → (kyOf h28).2.2.1 j = 0) ∧ (kyOf h28).1 = (kyOf h6).1 ∧ (kyOf h28).2.1 = (kyOf h6).2.1) → (evOf h28 = evOf h) → (23 - x30.toInt).toNat < n26 → RUN d_X9_startLine 44 [(1, .inl x30), (0, .inr (.inr (.inl 96)))] [] h28 (qg_X9_startLine h) := by
          intro n26
          induction n26 with
          | zero => intro h28 x30 m32 m33 m34 m35 m36 m37 m38 m39 m40 m41 m42 m43 m44 m45 m46 hz; exact absurd hz (Nat.not_lt_zero _)
          | succ n26 ih31 =>
            intro h28 x30 hI fr fl29 m35 m36 m37 m38 m39 m40 m41 m42 m43 m44 m45 m46 hz
            have fl7 : FR [96, 107, 108, 109, 117, 118] h h28 := fl7.trans fl29 (by decide)
            have hE := m46
            have hK : kyOf h28 = kyOf h28 := rfl
            refine R_iload_n (k := 1) rfl rfl rfl ?_
            refine R_bipush 23 rfl rfl ?_
            refine N_icmp_ge (a := x30.toInt) (b := 23) 63 rfl rfl rfl (by decide) (fun c47 => ?_) (fun c47 => ?_)
            · refine R_aload_n (k := 0) rfl rfl rfl ?_
              refine R_getf_r (j := 24) rfl ft_9_52 sh_96 rfl ?_
              refine R_iconst 0 rfl rfl ?_
              refine R_aload_n (k := 0) rfl rfl rfl ?_
              refine R_getf_i (j := 19) rfl ft_9_256 sh_96 rfl ?_
              refine N_eq (fun x48 e49 => ?_)
              have e50 : x48 = (evOf h).2.2.2.2.2.2.1 := by rw [e49]; exact congrArg (fun q : EV => q.2.2.2.2.2.2.1) hE
              refine K_iast (a := 0) (lo := (-2147483648)) (hi' := 2147483647) rfl sh_109 (by decide) (by decide) hI (by decide) rfl (i_rng _) fr (by decide) (fun h51 g52 hI fr => ?_)
              have fl29 : FR [96, 109] h6 h51 := by rw [g52]; exact FR_wI _ _ fl29 (by decide)
              have fl7 : FR [96, 107, 108, 109, 117, 118] h h51 := by rw [g52]; exact FR_wI _ _ fl7 (by decide)
              have s53 : (h51.1 96 19).toInt = (h28.1 96 19).toInt := by rw [g52, wI_ne _ _ _ (by decide)]
              have s54 : (h51.1 96 42).toInt = (h28.1 96 42).toInt := by rw [g52, wI_ne _ _ _ (by decide)]
              have s55 : (h51.1 96 18).toInt = (h28.1 96 18).toInt := by rw [g52, wI_ne _ _ _ (by decide)]
              have s56 : (h51.1 96 20).toInt = (h28.1 96 20).toInt := by rw [g52, wI_ne _ _ _ (by decide)]
              have s57 : (h51.1 96 46).toInt = (h28.1 96 46).toInt := by rw [g52, wI_ne _ _ _ (by decide)]
              have s58 : (h51.1 96 44).toInt = (h28.1 96 44).toInt := by rw [g52, wI_ne _ _ _ (by decide)]
              have s59 : (h51.1 96 47).toInt = (h28.1 96 47).toInt := by rw [g52, wI_ne _ _ _ (by decide)]
              have s60 : (h51.1 96 48).toInt = (h28.1 96 48).toInt := by rw [g52, wI_ne _ _ _ (by decide)]
              have s61 : (h51.1 96 51).toInt = (h28.1 96 51).toInt := by rw [g52, wI_ne _ _ _ (by decide)]
              have hK : kyOf h51 = ((kyOf h28).1, (kyOf h28).2.1, upd ((kyOf h28).2.2.1) (0 : Int32).toNatClampNeg x48, (kyOf h28).2.2.2) := by rw [g52, ky_109 (by decide), hK] <;> rfl
              have hE : evOf h51 = evOf h := by rw [g52, ev_o (by decide), hE]
              refine R_aload_n (k := 0) rfl rfl rfl ?_
              refine R_iconst 0 rfl rfl ?_
              refine K_putf (j := 34) (lo := (-2147483648)) (hi' := 2147483647) rfl ft_9_262 sh_96 rfl hI (by decide) rfl (by decide) fr (by decide) (fun h62 g63 hI fr => ?_)
              have fl29 : FR [96, 109] h6 h62 := by rw [g63]; exact FR_wI _ _ fl29 (by decide)
              have fl7 : FR [96, 107, 108, 109, 117, 118] h h62 := by rw [g63]; exact FR_wI _ _ fl7 (by decide)
              have s64 : (h62.1 96 19).toInt = (h51.1 96 19).toInt := by rw [g63, wI_at (by decide)]
              have s65 : (h62.1 96 42).toInt = (h51.1 96 42).toInt := by rw [g63, wI_at (by decide)]
              have s66 : (h62.1 96 18).toInt = (h51.1 96 18).toInt := by rw [g63, wI_at (by decide)]
              have s67 : (h62.1 96 20).toInt = (h51.1 96 20).toInt := by rw [g63, wI_at (by decide)]
              have s68 : (h62.1 96 46).toInt = (h51.1 96 46).toInt := by rw [g63, wI_at (by decide)]
              have s69 : (h62.1 96 44).toInt = (h51.1 96 44).toInt := by rw [g63, wI_at (by decide)]
              have s70 : (h62.1 96 47).toInt = (h51.1 96 47).toInt := by rw [g63, wI_at (by decide)]
              have s71 : (h62.1 96 48).toInt = (h51.1 96 48).toInt := by rw [g63, wI_at (by decide)]
              have s72 : (h62.1 96 51).toInt = (h51.1 96 51).toInt := by rw [g63, wI_at (by decide)]
              have hK : kyOf h62 = ((kyOf h28).1, (kyOf h28).2.1, upd ((kyOf h28).2.2.1) (0 : Int32).toNatClampNeg x48, (kyOf h28).2.2.2) := by rw [g63, ky_s (by decide), hK]
              have hE : evOf h62 = evOf h := by rw [g63, ev_s (by decide), hE]
              have s73 : (h62.1 96 34).toInt = 0 := by rw [g63, wI_is]; rfl
              refine R_aload_n (k := 0) rfl rfl rfl ?_
              refine R_iconst 0 rfl rfl ?_
              refine K_putf (j := 35) (lo := (-2147483648)) (hi' := 2147483647) rfl ft_9_265 sh_96 rfl hI (by decide) rfl (by decide) fr (by decide) (fun h74 g75 hI fr => ?_)
              have fl29 : FR [96, 109] h6 h74 := by rw [g75]; exact FR_wI _ _ fl29 (by decide)
              have fl7 : FR [96, 107, 108, 109, 117, 118] h h74 := by rw [g75]; exact FR_wI _ _ fl7 (by decide)
              have s76 : (h74.1 96 19).toInt = (h62.1 96 19).toInt := by rw [g75, wI_at (by decide)]
              have s77 : (h74.1 96 42).toInt = (h62.1 96 42).toInt := by rw [g75, wI_at (by decide)]
              have s78 : (h74.1 96 18).toInt = (h62.1 96 18).toInt := by rw [g75, wI_at (by decide)]
              have s79 : (h74.1 96 20).toInt = (h62.1 96 20).toInt := by rw [g75, wI_at (by decide)]
              have s80 : (h74.1 96 46).toInt = (h62.1 96 46).toInt := by rw [g75, wI_at (by decide)]
              have s81 : (h74.1 96 44).toInt = (h62.1 96 44).toInt := by rw [g75, wI_at (by decide)]
              have s82 : (h74.1 96 47).toInt = (h62.1 96 47).toInt := by rw [g75, wI_at (by decide)]
              have s83 : (h74.1 96 48).toInt = (h62.1 96 48).toInt := by rw [g75, wI_at (by decide)]
              have s84 : (h74.1 96 51).toInt = (h62.1 96 51).toInt := by rw [g75, wI_at (by decide)]
              have s85 : (h74.1 96 34).toInt = (h62.1 96 34).toInt := by rw [g75, wI_at (by decide)]
              have hK : kyOf h74 = ((kyOf h28).1, (kyOf h28).2.1, upd ((kyOf h28).2.2.1) (0 : Int32).toNatClampNeg x48, 0) := by rw [g75, ky_35, hK] <;> rfl
              have hE : evOf h74 = evOf h := by rw [g75, ev_s (by decide), hE]
              have s86 : (h74.1 96 35).toInt = 0 := by rw [g75, wI_is]; rfl
              refine R_aload_n (k := 0) rfl rfl rfl ?_
              refine R_iconst 0 rfl rfl ?_
              refine K_putf (j := 36) (lo := (-2147483648)) (hi' := 2147483647) rfl ft_9_268 sh_96 rfl hI (by decide) rfl (by decide) fr (by decide) (fun h87 g88 hI fr => ?_)
              have fl29 : FR [96, 109] h6 h87 := by rw [g88]; exact FR_wI _ _ fl29 (by decide)
              have fl7 : FR [96, 107, 108, 109, 117, 118] h h87 := by rw [g88]; exact FR_wI _ _ fl7 (by decide)
              have s89 : (h87.1 96 19).toInt = (h74.1 96 19).toInt := by rw [g88, wI_at (by decide)]
              have s90 : (h87.1 96 42).toInt = (h74.1 96 42).toInt := by rw [g88, wI_at (by decide)]
              have s91 : (h87.1 96 18).toInt = (h74.1 96 18).toInt := by rw [g88, wI_at (by decide)]
              have s92 : (h87.1 96 20).toInt = (h74.1 96 20).toInt := by rw [g88, wI_at (by decide)]
              have s93 : (h87.1 96 46).toInt = (h74.1 96 46).toInt := by rw [g88, wI_at (by decide)]
              have s94 : (h87.1 96 44).toInt = (h74.1 96 44).toInt := by rw [g88, wI_at (by decide)]
              have s95 : (h87.1 96 47).toInt = (h74.1 96 47).toInt := by rw [g88, wI_at (by decide)]
              have s96 : (h87.1 96 48).toInt = (h74.1 96 48).toInt := by rw [g88, wI_at (by decide)]
              have s97 : (h87.1 96 51).toInt = (h74.1 96 51).toInt := by rw [g88, wI_at (by decide)]
              have s98 : (h87.1 96 34).toInt = (h74.1 96 34).toInt := by rw [g88, wI_at (by decide)]
              have s99 : (h87.1 96 35).toInt = (h74.1 96 35).toInt := by rw [g88, wI_at (by decide)]
              have hK : kyOf h87 = ((kyOf h28).1, (kyOf h28).2.1, upd ((kyOf h28).2.2.1) (0 : Int32).toNatClampNeg x48, 0) := by rw [g88, ky_s (by decide), hK]
              have hE : evOf h87 = evOf h := by rw [g88, ev_s (by decide), hE]
              have s100 : (h87.1 96 36).toInt = 0 := by rw [g88, wI_is]; rfl
              have hF : kyOf h87 = zStart (eBuck (evOf h)) := by
                refine hK.trans ?_
                subst e50
                have a1 : (kyOf h28).1 = tr 6 (fun _ => -1) := m45.2.1.trans (tr_all (n := 6) (f := h6.1 107) (fun j hj => (m23 j (by omega)).1))
                have a2 : (kyOf h28).2.1 = tr 6 (fun _ => 0) := m45.2.2.trans (tr_all (n := 6) (f := h6.1 108) (fun j hj => (m23 j (by omega)).2))
                have a3 : (kyOf h28).2.2.1 = tr 23 (fun _ => 0) := tr_all (n := 23) (f := h28.1 109) (fun j hj => m45.1 j (by omega))
                rw [a1, a2, a3] <;> rfl
              exact R_vret rfl rfl ⟨hI, fr, ⟨by omega, by omega, by omega, by omega, by omega, by omega, by omega, by omega, by omega, hF, hE, trivial⟩, rfl⟩
            · refine R_aload_n (k := 0) rfl rfl rfl ?_
              refine R_getf_r (j := 24) rfl ft_9_52 sh_96 rfl ?_
              refine R_iload_n (k := 1) rfl rfl rfl ?_
              refine R_iconst 0 rfl rfl ?_
              refine K_iast (a := x30.toInt) (lo := (-2147483648)) (hi' := 2147483647) rfl sh_109 rfl ⟨by omega, by omega⟩ hI (by decide) rfl (by decide) fr (by decide) (fun h101 g102 hI fr => ?_)
              have fl29 : FR [96, 109] h6 h101 := by rw [g102]; exact FR_wI _ _ fl29 (by decide)
              have fl7 : FR [96, 107, 108, 109, 117, 118] h h101 := by rw [g102]; exact FR_wI _ _ fl7 (by decide)
              have s103 : (h101.1 96 19).toInt = (h28.1 96 19).toInt := by rw [g102, wI_ne _ _ _ (by decide)]
              have s104 : (h101.1 96 42).toInt = (h28.1 96 42).toInt := by rw [g102, wI_ne _ _ _ (by decide)]
              have s105 : (h101.1 96 18).toInt = (h28.1 96 18).toInt := by rw [g102, wI_ne _ _ _ (by decide)]
              have s106 : (h101.1 96 20).toInt = (h28.1 96 20).toInt := by rw [g102, wI_ne _ _ _ (by decide)]
              have s107 : (h101.1 96 46).toInt = (h28.1 96 46).toInt := by rw [g102, wI_ne _ _ _ (by decide)]
              have s108 : (h101.1 96 44).toInt = (h28.1 96 44).toInt := by rw [g102, wI_ne _ _ _ (by decide)]
              have s109 : (h101.1 96 47).toInt = (h28.1 96 47).toInt := by rw [g102, wI_ne _ _ _ (by decide)]
              have s110 : (h101.1 96 48).toInt = (h28.1 96 48).toInt := by rw [g102, wI_ne _ _ _ (by decide)]
              have s111 : (h101.1 96 51).toInt = (h28.1 96 51).toInt := by rw [g102, wI_ne _ _ _ (by decide)]
              have hK : kyOf h101 = ((kyOf h28).1, (kyOf h28).2.1, upd ((kyOf h28).2.2.1) x30.toNatClampNeg (0), (kyOf h28).2.2.2) := by rw [g102, ky_109 (nlt ⟨by omega, by omega⟩), hK] <;> rfl
              have hE : evOf h101 = evOf h := by rw [g102, ev_o (by decide), hE]
              refine N_iinc (a := x30.toInt) (c := 1) (fun w => [(1, .inl w), (0, .inr (.inr (.inl 96)))]) rfl rfl (fun _ => rfl) (by decide) rfl (by decide) (by omega) (fun x112 q113 => ?_)
              refine R_goto 44 rfl rfl ?_
              exact RUN_weak (psub_cons rfl (psub_cons rfl (psub_nil _))) (ih31 h101 x112 hI fr fl29 (by omega) (by omega) (by omega) (by omega) (by omega) (by omega) (by omega) (by omega) (by omega) (by omega) (⟨by rw [hK]; exact up_step1 (x := x30) (x' := x112) m45.1 (by omega) (by omega), by rw [hK]; exact m45.2.1, by rw [hK]; exact m45.2.2⟩) (hE) (by omega))
        have k114 : (0 : Int32).toInt = 0 := by decide
        exact lp27 _ h6 (0 : Int32) hI fr (FR.rf _ _) (by decide) rfl rfl rfl rfl rfl rfl rfl rfl rfl (⟨fun j hj => absurd hj (by omega), by rw [hK], by rw [hK]⟩) (hE) (Nat.lt_succ_self _)
      · refine R_aload_n (k := 0) rfl rfl rfl ?_
        refine R_getf_r (j := 22) rfl ft_9_46 sh_96 rfl ?_
        refine R_iload_n (k := 1) rfl rfl rfl ?_
        refine R_iconst (-1) rfl rfl ?_
        refine K_iast (a := x8.toInt) (lo := (-2147483648)) (hi' := 2147483647) rfl sh_107 rfl ⟨by omega, by omega⟩ hI (by decide) rfl (by decide) fr (by decide) (fun h115 g116 hI fr => ?_)
        have fl7 : FR [96, 107, 108, 109, 117, 118] h h115 := by rw [g116]; exact FR_wI _ _ fl7 (by decide)
        have s117 : (h115.1 96 19).toInt = (h6.1 96 19).toInt := by rw [g116, wI_ne _ _ _ (by decide)]
        have s118 : (h115.1 96 42).toInt = (h6.1 96 42).toInt := by rw [g116, wI_ne _ _ _ (by decide)]
        have s119 : (h115.1 96 18).toInt = (h6.1 96 18).toInt := by rw [g116, wI_ne _ _ _ (by decide)]
        have s120 : (h115.1 96 20).toInt = (h6.1 96 20).toInt := by rw [g116, wI_ne _ _ _ (by decide)]
        have s121 : (h115.1 96 46).toInt = (h6.1 96 46).toInt := by rw [g116, wI_ne _ _ _ (by decide)]
        have s122 : (h115.1 96 44).toInt = (h6.1 96 44).toInt := by rw [g116, wI_ne _ _ _ (by decide)]
        have s123 : (h115.1 96 47).toInt = (h6.1 96 47).toInt := by rw [g116, wI_ne _ _ _ (by decide)]
        have s124 : (h115.1 96 48).toInt = (h6.1 96 48).toInt := by rw [g116, wI_ne _ _ _ (by decide)]
        have s125 : (h115.1 96 51).toInt = (h6.1 96 51).toInt := by rw [g116, wI_ne _ _ _ (by decide)]
        have hK : kyOf h115 = (upd ((kyOf h6).1) x8.toNatClampNeg ((-1)), (kyOf h6).2.1, (kyOf h6).2.2.1, (kyOf h6).2.2.2) := by rw [g116, ky_107 (nlt ⟨by omega, by omega⟩), hK] <;> rfl
        have hE : evOf h115 = evOf h := by rw [g116, ev_o (by decide), hE]
        refine R_aload_n (k := 0) rfl rfl rfl ?_
        refine R_getf_r (j := 23) rfl ft_9_49 sh_96 rfl ?_
        refine R_iload_n (k := 1) rfl rfl rfl ?_
        refine R_iconst 0 rfl rfl ?_
        refine K_iast (a := x8.toInt) (lo := (-2147483648)) (hi' := 2147483647) rfl sh_108 rfl ⟨by omega, by omega⟩ hI (by decide) rfl (by decide) fr (by decide) (fun h126 g127 hI fr => ?_)
        have fl7 : FR [96, 107, 108, 109, 117, 118] h h126 := by rw [g127]; exact FR_wI _ _ fl7 (by decide)
        have s128 : (h126.1 96 19).toInt = (h115.1 96 19).toInt := by rw [g127, wI_ne _ _ _ (by decide)]
        have s129 : (h126.1 96 42).toInt = (h115.1 96 42).toInt := by rw [g127, wI_ne _ _ _ (by decide)]
        have s130 : (h126.1 96 18).toInt = (h115.1 96 18).toInt := by rw [g127, wI_ne _ _ _ (by decide)]
        have s131 : (h126.1 96 20).toInt = (h115.1 96 20).toInt := by rw [g127, wI_ne _ _ _ (by decide)]
        have s132 : (h126.1 96 46).toInt = (h115.1 96 46).toInt := by rw [g127, wI_ne _ _ _ (by decide)]
        have s133 : (h126.1 96 44).toInt = (h115.1 96 44).toInt := by rw [g127, wI_ne _ _ _ (by decide)]
        have s134 : (h126.1 96 47).toInt = (h115.1 96 47).toInt := by rw [g127, wI_ne _ _ _ (by decide)]
        have s135 : (h126.1 96 48).toInt = (h115.1 96 48).toInt := by rw [g127, wI_ne _ _ _ (by decide)]
        have s136 : (h126.1 96 51).toInt = (h115.1 96 51).toInt := by rw [g127, wI_ne _ _ _ (by decide)]
        have hK : kyOf h126 = (upd ((kyOf h6).1) x8.toNatClampNeg ((-1)), upd ((kyOf h6).2.1) x8.toNatClampNeg (0), (kyOf h6).2.2.1, (kyOf h6).2.2.2) := by rw [g127, ky_108 (nlt ⟨by omega, by omega⟩), hK] <;> rfl
        have hE : evOf h126 = evOf h := by rw [g127, ev_o (by decide), hE]
        refine R_aload_n (k := 0) rfl rfl rfl ?_
        refine R_getf_r (j := 32) rfl ft_9_76 sh_96 rfl ?_
        refine R_iload_n (k := 1) rfl rfl rfl ?_
        refine R_iconst 0 rfl rfl ?_
        refine K_iast (a := x8.toInt) (lo := (-2147483648)) (hi' := 2147483647) rfl sh_117 rfl ⟨by omega, by omega⟩ hI (by decide) rfl (by decide) fr (by decide) (fun h137 g138 hI fr => ?_)
        have fl7 : FR [96, 107, 108, 109, 117, 118] h h137 := by rw [g138]; exact FR_wI _ _ fl7 (by decide)
        have s139 : (h137.1 96 19).toInt = (h126.1 96 19).toInt := by rw [g138, wI_ne _ _ _ (by decide)]
        have s140 : (h137.1 96 42).toInt = (h126.1 96 42).toInt := by rw [g138, wI_ne _ _ _ (by decide)]
        have s141 : (h137.1 96 18).toInt = (h126.1 96 18).toInt := by rw [g138, wI_ne _ _ _ (by decide)]
        have s142 : (h137.1 96 20).toInt = (h126.1 96 20).toInt := by rw [g138, wI_ne _ _ _ (by decide)]
        have s143 : (h137.1 96 46).toInt = (h126.1 96 46).toInt := by rw [g138, wI_ne _ _ _ (by decide)]
        have s144 : (h137.1 96 44).toInt = (h126.1 96 44).toInt := by rw [g138, wI_ne _ _ _ (by decide)]
        have s145 : (h137.1 96 47).toInt = (h126.1 96 47).toInt := by rw [g138, wI_ne _ _ _ (by decide)]
        have s146 : (h137.1 96 48).toInt = (h126.1 96 48).toInt := by rw [g138, wI_ne _ _ _ (by decide)]
        have s147 : (h137.1 96 51).toInt = (h126.1 96 51).toInt := by rw [g138, wI_ne _ _ _ (by decide)]
        have hK : kyOf h137 = (upd ((kyOf h6).1) x8.toNatClampNeg ((-1)), upd ((kyOf h6).2.1) x8.toNatClampNeg (0), (kyOf h6).2.2.1, (kyOf h6).2.2.2) := by rw [g138, ky_o (by decide), hK]
        have hE : evOf h137 = evOf h := by rw [g138, ev_o (by decide), hE]
        refine R_aload_n (k := 0) rfl rfl rfl ?_
        refine R_getf_r (j := 33) rfl ft_9_79 sh_96 rfl ?_
        refine R_iload_n (k := 1) rfl rfl rfl ?_
        refine R_iconst 0 rfl rfl ?_
        refine K_iast (a := x8.toInt) (lo := (-2147483648)) (hi' := 2147483647) rfl sh_118 rfl ⟨by omega, by omega⟩ hI (by decide) rfl (by decide) fr (by decide) (fun h148 g149 hI fr => ?_)
        have fl7 : FR [96, 107, 108, 109, 117, 118] h h148 := by rw [g149]; exact FR_wI _ _ fl7 (by decide)
        have s150 : (h148.1 96 19).toInt = (h137.1 96 19).toInt := by rw [g149, wI_ne _ _ _ (by decide)]
        have s151 : (h148.1 96 42).toInt = (h137.1 96 42).toInt := by rw [g149, wI_ne _ _ _ (by decide)]
        have s152 : (h148.1 96 18).toInt = (h137.1 96 18).toInt := by rw [g149, wI_ne _ _ _ (by decide)]
        have s153 : (h148.1 96 20).toInt = (h137.1 96 20).toInt := by rw [g149, wI_ne _ _ _ (by decide)]
        have s154 : (h148.1 96 46).toInt = (h137.1 96 46).toInt := by rw [g149, wI_ne _ _ _ (by decide)]
        have s155 : (h148.1 96 44).toInt = (h137.1 96 44).toInt := by rw [g149, wI_ne _ _ _ (by decide)]
        have s156 : (h148.1 96 47).toInt = (h137.1 96 47).toInt := by rw [g149, wI_ne _ _ _ (by decide)]
        have s157 : (h148.1 96 48).toInt = (h137.1 96 48).toInt := by rw [g149, wI_ne _ _ _ (by decide)]
        have s158 : (h148.1 96 51).toInt = (h137.1 96 51).toInt := by rw [g149, wI_ne _ _ _ (by decide)]
        have hK : kyOf h148 = (upd ((kyOf h6).1) x8.toNatClampNeg ((-1)), upd ((kyOf h6).2.1) x8.toNatClampNeg (0), (kyOf h6).2.2.1, (kyOf h6).2.2.2) := by rw [g149, ky_o (by decide), hK]
        have hE : evOf h148 = evOf h := by rw [g149, ev_o (by decide), hE]
        refine N_iinc (a := x8.toInt) (c := 1) (fun w => [(1, .inl w), (0, .inr (.inr (.inl 96)))]) rfl rfl (fun _ => rfl) (by decide) rfl (by decide) (by omega) (fun x159 q160 => ?_)
        refine R_goto 2 rfl rfl ?_
        exact RUN_weak (psub_cons rfl (psub_cons rfl (psub_nil _))) (ih9 h148 x159 hI fr fl7 (by omega) (by omega) (by omega) (by omega) (by omega) (by omega) (by omega) (by omega) (by omega) (by omega) (by rw [hK]; exact up_step (x := x8) (x' := x159) m23 (by omega) (by omega)) (hE) (by omega))
  have k161 : (0 : Int32).toInt = 0 := by decide
  exact lp5 _ h (0 : Int32) hI fr (FR.rf _ _) (by decide) rfl rfl rfl rfl rfl rfl rfl rfl rfl (fun j hj => absurd hj (by omega)) (hE) (Nat.lt_succ_self _)
