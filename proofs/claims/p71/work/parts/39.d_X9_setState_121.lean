abbrev qg_X9_setState (h : PH)  : Option PV → PH → Prop := fun r h' => INV h' ∧ FR [107, 108, 109] h h' ∧ ((∀ j : Nat, j < 6 → (kyOf h').1 j = h.1 121 j) ∧ (∀ j : Nat, j < 23 → (kyOf h').2.2.1 j = h.1 121 (6 + j)) ∧ (evOf h' = evOf h) ∧ True) ∧ r = none
set_option maxHeartbeats 4000000 in
set_option maxRecDepth 100000 in
theorem g_X9_setState (h : PH) (hI : INV h)  : CALL d_X9_setState [.inr (.inr (.inl 96)), .inr (.inr (.inl 121))] h (qg_X9_setState h) := by
  show RUN d_X9_setState 0 [(0, .inr (.inr (.inl 96))), (1, .inr (.inr (.inl 121)))] [] h _
  have fr : FR [107, 108, 109] h h := FR.rf _ _
  have hK : kyOf h = kyOf h := rfl
  have hE : evOf h = evOf h := rfl
  refine R_iconst 0 rfl rfl ?_
  refine R_istore_n (k := 2) rfl [(2, .inl 0), (0, .inr (.inr (.inl 96))), (1, .inr (.inr (.inl 121)))] rfl rfl (by decide) ?_
  have lp2 : ∀ (n1 : Nat) (h3 : PH) (x5 : Int32), INV h3 → FR [107, 108, 109] h h3 → FR [107, 108, 109] h h3 → 0 ≤ x5.toInt ∧ x5.toInt ≤ 6 → (∀ j : Nat, (j : Int) < x5.toInt → (kyOf h3).1 j = h.1 121 j) → (evOf h3 = evOf h) → (6 - x5.toInt).toNat < n1 → RUN d_X9_setState 2 [(2, .inl x5), (0, .inr (.inr (.inl 96))), (1, .inr (.inr (.inl 121)))] [] h3 (qg_X9_setState h) := by
    intro n1
    induction n1 with
    | zero => intro h3 x5 m7 m8 m9 m10 m11 m12 hz; exact absurd hz (Nat.not_lt_zero _)
    | succ n1 ih6 =>
      intro h3 x5 hI fr fl4 m10 m11 m12 hz
      have hE := m12
      have hK : kyOf h3 = kyOf h3 := rfl
      refine R_iload_n (k := 2) rfl rfl rfl ?_
      refine R_bipush 6 rfl rfl ?_
      refine N_icmp_ge (a := x5.toInt) (b := 6) 30 rfl rfl rfl (by decide) (fun c13 => ?_) (fun c13 => ?_)
      · refine R_iconst 0 rfl rfl ?_
        refine R_istore_n (k := 2) rfl [(2, .inl 0), (0, .inr (.inr (.inl 96))), (1, .inr (.inr (.inl 121)))] rfl rfl (by decide) ?_
        have lp15 : ∀ (n14 : Nat) (h16 : PH) (x18 : Int32), INV h16 → FR [107, 108, 109] h h16 → FR [109] h3 h16 → 0 ≤ x18.toInt ∧ x18.toInt ≤ 23 → ((∀ j : Nat, j < 6 → (kyOf h16).1 j = h.1 121 j) ∧ (∀ j : Nat, (j : Int) < x18.toInt → (kyOf h16).2.2.1 j = h.1 121 (6 + j))) → (evOf h16 = evOf h) → (23 - x18.toInt).toNat < n14 → RUN d_X9_setState 32 [(2, .inl x18), (0, .inr (.inr (.inl 96))), (1, .inr (.inr (.inl 121)))] [] h16 (qg_X9_setState h) := by
          intro n14
          induction n14 with
          | zero => intro h16 x18 m20 m21 m22 m23 m24 m25 hz; exact absurd hz (Nat.not_lt_zero _)
          | succ n14 ih19 =>
            intro h16 x18 hI fr fl17 m23 m24 m25 hz
            have fl4 : FR [107, 108, 109] h h16 := fl4.trans fl17 (by decide)
            have hE := m25
            have hK : kyOf h16 = kyOf h16 := rfl
            refine R_iload_n (k := 2) rfl rfl rfl ?_
            refine R_bipush 23 rfl rfl ?_
            refine N_icmp_ge (a := x18.toInt) (b := 23) 56 rfl rfl rfl (by decide) (fun c26 => ?_) (fun c26 => ?_)
            · have hF1 : ∀ j : Nat, j < 6 → (kyOf h16).1 j = h.1 121 j := m24.1
              have hF2 : ∀ j : Nat, j < 23 → (kyOf h16).2.2.1 j = h.1 121 (6 + j) := fun j hj => m24.2 j (by omega)
              exact R_vret rfl rfl ⟨hI, fr, ⟨hF1, hF2, hE, trivial⟩, rfl⟩
            · refine R_aload_n (k := 0) rfl rfl rfl ?_
              refine R_getf_r (j := 24) rfl ft_9_52 sh_96 rfl ?_
              refine R_iload_n (k := 2) rfl rfl rfl ?_
              refine R_aload_n (k := 1) rfl rfl rfl ?_
              refine R_bipush 6 rfl rfl ?_
              refine R_iload_n (k := 2) rfl rfl rfl ?_
              refine R_iadd rfl ?_
              refine N_eq (fun x27 e28 => ?_)
              have q29 : x27.toInt = 6 + x18.toInt := by rw [e28]; exact i_add (by decide) rfl (by omega)
              refine R_iald rfl sh_121 ⟨by omega, by omega⟩ ?_
              refine N_eq (fun x30 e31 => ?_)
              have e32 : x30 = h.1 121 x27.toNatClampNeg := by rw [e31]; exact congrFun (fr 121 (by decide)).1 _
              refine K_iast (a := x18.toInt) (lo := (-2147483648)) (hi' := 2147483647) rfl sh_109 rfl ⟨by omega, by omega⟩ hI (by decide) rfl (i_rng _) fr (by decide) (fun h33 g34 hI fr => ?_)
              have fl17 : FR [109] h3 h33 := by rw [g34]; exact FR_wI _ _ fl17 (by decide)
              have fl4 : FR [107, 108, 109] h h33 := by rw [g34]; exact FR_wI _ _ fl4 (by decide)
              have hK : kyOf h33 = ((kyOf h16).1, (kyOf h16).2.1, upd ((kyOf h16).2.2.1) x18.toNatClampNeg x30, (kyOf h16).2.2.2) := by rw [g34, ky_109 (nlt ⟨by omega, by omega⟩), hK] <;> rfl
              have hE : evOf h33 = evOf h := by rw [g34, ev_o (by decide), hE]
              refine N_iinc (a := x18.toInt) (c := 1) (fun w => [(2, .inl w), (0, .inr (.inr (.inl 96))), (1, .inr (.inr (.inl 121)))]) rfl rfl (fun _ => rfl) (by decide) rfl (by decide) (by omega) (fun x35 q36 => ?_)
              refine R_goto 32 rfl rfl ?_
              exact RUN_weak (psub_cons rfl (psub_cons rfl (psub_cons rfl (psub_nil _)))) (ih19 h33 x35 hI fr fl17 (by omega) (⟨by rw [hK]; exact m24.1, by rw [hK]; exact ks_step (x := x18) (x' := x35) (F := fun j => h.1 121 (6 + j)) m24.2 (by rw [e32, i6 (x := x18) (by omega) (by omega)]) (by omega) (by omega)⟩) (hE) (by omega))
        have k37 : (0 : Int32).toInt = 0 := by decide
        exact lp15 _ h3 (0 : Int32) hI fr (FR.rf _ _) (by decide) (⟨fun j hj => m11 j (by omega), fun j hj => absurd hj (by omega)⟩) (hE) (Nat.lt_succ_self _)
      · refine R_aload_n (k := 0) rfl rfl rfl ?_
        refine R_getf_r (j := 22) rfl ft_9_46 sh_96 rfl ?_
        refine R_iload_n (k := 2) rfl rfl rfl ?_
        refine R_aload_n (k := 1) rfl rfl rfl ?_
        refine R_iload_n (k := 2) rfl rfl rfl ?_
        refine R_iald rfl sh_121 ⟨by omega, by omega⟩ ?_
        refine N_eq (fun x38 e39 => ?_)
        have e40 : x38 = h.1 121 x5.toNatClampNeg := by rw [e39]; exact congrFun (fr 121 (by decide)).1 _
        refine K_iast (a := x5.toInt) (lo := (-2147483648)) (hi' := 2147483647) rfl sh_107 rfl ⟨by omega, by omega⟩ hI (by decide) rfl (i_rng _) fr (by decide) (fun h41 g42 hI fr => ?_)
        have fl4 : FR [107, 108, 109] h h41 := by rw [g42]; exact FR_wI _ _ fl4 (by decide)
        have hK : kyOf h41 = (upd ((kyOf h3).1) x5.toNatClampNeg x38, (kyOf h3).2.1, (kyOf h3).2.2.1, (kyOf h3).2.2.2) := by rw [g42, ky_107 (nlt ⟨by omega, by omega⟩), hK] <;> rfl
        have hE : evOf h41 = evOf h := by rw [g42, ev_o (by decide), hE]
        refine R_aload_n (k := 0) rfl rfl rfl ?_
        refine R_getf_r (j := 23) rfl ft_9_49 sh_96 rfl ?_
        refine R_iload_n (k := 2) rfl rfl rfl ?_
        refine R_iconst 0 rfl rfl ?_
        refine K_iast (a := x5.toInt) (lo := (-2147483648)) (hi' := 2147483647) rfl sh_108 rfl ⟨by omega, by omega⟩ hI (by decide) rfl (by decide) fr (by decide) (fun h43 g44 hI fr => ?_)
        have fl4 : FR [107, 108, 109] h h43 := by rw [g44]; exact FR_wI _ _ fl4 (by decide)
        have hK : kyOf h43 = (upd ((kyOf h3).1) x5.toNatClampNeg x38, upd ((kyOf h3).2.1) x5.toNatClampNeg (0), (kyOf h3).2.2.1, (kyOf h3).2.2.2) := by rw [g44, ky_108 (nlt ⟨by omega, by omega⟩), hK] <;> rfl
        have hE : evOf h43 = evOf h := by rw [g44, ev_o (by decide), hE]
        refine N_iinc (a := x5.toInt) (c := 1) (fun w => [(2, .inl w), (0, .inr (.inr (.inl 96))), (1, .inr (.inr (.inl 121)))]) rfl rfl (fun _ => rfl) (by decide) rfl (by decide) (by omega) (fun x45 q46 => ?_)
        refine R_goto 2 rfl rfl ?_
        exact RUN_weak (psub_cons rfl (psub_cons rfl (psub_cons rfl (psub_nil _)))) (ih6 h43 x45 hI fr fl4 (by omega) (by rw [hK]; exact ks_step (x := x5) (x' := x45) (F := h.1 121) m11 e40 (by omega) (by omega)) (hE) (by omega))
  have k47 : (0 : Int32).toInt = 0 := by decide
  exact lp2 _ h (0 : Int32) hI fr (FR.rf _ _) (by decide) (fun j hj => absurd hj (by omega)) (hE) (Nat.lt_succ_self _)
