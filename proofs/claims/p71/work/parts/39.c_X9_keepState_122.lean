abbrev qg_X9_keepState_1 (h : PH)  : Option PV → PH → Prop := fun r h' => INV h' ∧ FR [122] h h' ∧ ((∀ j : Nat, j < 6 → h'.1 122 j = zMin ((kyOf h).1 j) ((evOf h).2.1 j)) ∧ (∀ j : Nat, j < 23 → h'.1 122 (6 + j) = (kyOf h).2.2.1 j) ∧ (kyOf h' = kyOf h) ∧ (evOf h' = evOf h) ∧ True) ∧ r = none
set_option maxHeartbeats 4000000 in
set_option maxRecDepth 100000 in
theorem g_X9_keepState_1 (h : PH) (hI : INV h)  : CALL d_X9_keepState [.inr (.inr (.inl 96)), .inr (.inr (.inl 122))] h (qg_X9_keepState_1 h) := by
  show RUN d_X9_keepState 0 [(0, .inr (.inr (.inl 96))), (1, .inr (.inr (.inl 122)))] [] h _
  have fr : FR [122] h h := FR.rf _ _
  have hK : kyOf h = kyOf h := rfl
  have hE : evOf h = evOf h := rfl
  refine R_iconst 0 rfl rfl ?_
  refine R_istore_n (k := 2) rfl [(2, .inl 0), (0, .inr (.inr (.inl 96))), (1, .inr (.inr (.inl 122)))] rfl rfl (by decide) ?_
  have lp2 : ∀ (n1 : Nat) (h3 : PH) (x5 : Int32), INV h3 → FR [122] h h3 → FR [122] h h3 → 0 ≤ x5.toInt ∧ x5.toInt ≤ 6 → (kyOf h3 = kyOf h) → (∀ j : Nat, (j : Int) < x5.toInt → h3.1 122 j = zMin ((kyOf h).1 j) ((evOf h).2.1 j)) → (evOf h3 = evOf h) → (6 - x5.toInt).toNat < n1 → RUN d_X9_keepState 2 [(2, .inl x5), (0, .inr (.inr (.inl 96))), (1, .inr (.inr (.inl 122)))] [] h3 (qg_X9_keepState_1 h) := by
    intro n1
    induction n1 with
    | zero => intro h3 x5 m7 m8 m9 m10 m11 m12 m13 hz; exact absurd hz (Nat.not_lt_zero _)
    | succ n1 ih6 =>
      intro h3 x5 hI fr fl4 m10 m11 m12 m13 hz
      have hK := m11
      have hE := m13
      refine R_iload_n (k := 2) rfl rfl rfl ?_
      refine R_bipush 6 rfl rfl ?_
      refine N_icmp_ge (a := x5.toInt) (b := 6) 32 rfl rfl rfl (by decide) (fun c14 => ?_) (fun c14 => ?_)
      · refine R_iconst 0 rfl rfl ?_
        refine R_istore_n (k := 2) rfl [(2, .inl 0), (0, .inr (.inr (.inl 96))), (1, .inr (.inr (.inl 122)))] rfl rfl (by decide) ?_
        have lp16 : ∀ (n15 : Nat) (h17 : PH) (x19 : Int32), INV h17 → FR [122] h h17 → FR [122] h3 h17 → 0 ≤ x19.toInt ∧ x19.toInt ≤ 23 → (kyOf h17 = kyOf h) → ((∀ j : Nat, j < 6 → h17.1 122 j = zMin ((kyOf h).1 j) ((evOf h).2.1 j)) ∧ (∀ j : Nat, (j : Int) < x19.toInt → h17.1 122 (6 + j) = (kyOf h).2.2.1 j)) → (evOf h17 = evOf h) → (23 - x19.toInt).toNat < n15 → RUN d_X9_keepState 34 [(2, .inl x19), (0, .inr (.inr (.inl 96))), (1, .inr (.inr (.inl 122)))] [] h17 (qg_X9_keepState_1 h) := by
          intro n15
          induction n15 with
          | zero => intro h17 x19 m21 m22 m23 m24 m25 m26 m27 hz; exact absurd hz (Nat.not_lt_zero _)
          | succ n15 ih20 =>
            intro h17 x19 hI fr fl18 m24 m25 m26 m27 hz
            have fl4 : FR [122] h h17 := fl4.trans fl18 (by decide)
            have hK := m25
            have hE := m27
            refine R_iload_n (k := 2) rfl rfl rfl ?_
            refine R_bipush 23 rfl rfl ?_
            refine N_icmp_ge (a := x19.toInt) (b := 23) 58 rfl rfl rfl (by decide) (fun c28 => ?_) (fun c28 => ?_)
            · have hF1 : ∀ j : Nat, j < 6 → h17.1 122 j = zMin ((kyOf h).1 j) ((evOf h).2.1 j) := m26.1
              have hF2 : ∀ j : Nat, j < 23 → h17.1 122 (6 + j) = (kyOf h).2.2.1 j := fun j hj => m26.2 j (by omega)
              exact R_vret rfl rfl ⟨hI, fr, ⟨hF1, hF2, hK, hE, trivial⟩, rfl⟩
            · refine R_aload_n (k := 1) rfl rfl rfl ?_
              refine R_bipush 6 rfl rfl ?_
              refine R_iload_n (k := 2) rfl rfl rfl ?_
              refine R_iadd rfl ?_
              refine N_eq (fun x29 e30 => ?_)
              have q31 : x29.toInt = 6 + x19.toInt := by rw [e30]; exact i_add (by decide) rfl (by omega)
              refine R_aload_n (k := 0) rfl rfl rfl ?_
              refine R_getf_r (j := 24) rfl ft_9_52 sh_96 rfl ?_
              refine R_iload_n (k := 2) rfl rfl rfl ?_
              refine R_iald rfl sh_109 ⟨by omega, by omega⟩ ?_
              refine N_eq (fun x32 e33 => ?_)
              have e34 : x32 = ((kyOf h).2.2.1) x19.toNatClampNeg := by rw [e33]; exact (ky_at109 (nlt ⟨by omega, by omega⟩)).trans (congrFun (congrArg (fun q : KY => q.2.2.1) hK) _)
              refine K_iast (a := x29.toInt) (lo := (-2147483648)) (hi' := 2147483647) rfl sh_122 rfl ⟨by omega, by omega⟩ hI (by decide) rfl (i_rng _) fr (by decide) (fun h35 g36 hI fr => ?_)
              have fl18 : FR [122] h3 h35 := by rw [g36]; exact FR_wI _ _ fl18 (by decide)
              have fl4 : FR [122] h h35 := by rw [g36]; exact FR_wI _ _ fl4 (by decide)
              have hK : kyOf h35 = kyOf h := by rw [g36, ky_o (by decide), hK]
              have hE : evOf h35 = evOf h := by rw [g36, ev_o (by decide), hE]
              refine N_iinc (a := x19.toInt) (c := 1) (fun w => [(2, .inl w), (0, .inr (.inr (.inl 96))), (1, .inr (.inr (.inl 122)))]) rfl rfl (fun _ => rfl) (by decide) rfl (by decide) (by omega) (fun x37 q38 => ?_)
              refine R_goto 34 rfl rfl ?_
              exact RUN_weak (psub_cons rfl (psub_cons rfl (psub_cons rfl (psub_nil _)))) (ih20 h35 x37 hI fr fl18 (by omega) (hK) (⟨by rw [g36, wI_self]; exact ks_keep (x := x19) m26.1 (by omega) (by omega), by rw [g36, wI_self]; exact ks_step2 (x := x19) (x' := x37) (F := (kyOf h).2.2.1) m26.2 (by subst e34 e30; rfl) (by omega) (by omega) (by omega)⟩) (hE) (by omega))
        have k39 : (0 : Int32).toInt = 0 := by decide
        exact lp16 _ h3 (0 : Int32) hI fr (FR.rf _ _) (by decide) (hK) (⟨fun j hj => m12 j (by omega), fun j hj => absurd hj (by omega)⟩) (hE) (Nat.lt_succ_self _)
      · refine R_aload_n (k := 1) rfl rfl rfl ?_
        refine R_iload_n (k := 2) rfl rfl rfl ?_
        refine R_aload_n (k := 0) rfl rfl rfl ?_
        refine R_getf_r (j := 22) rfl ft_9_46 sh_96 rfl ?_
        refine R_iload_n (k := 2) rfl rfl rfl ?_
        refine R_iald rfl sh_107 ⟨by omega, by omega⟩ ?_
        refine N_eq (fun x40 e41 => ?_)
        have e42 : x40 = ((kyOf h).1) x5.toNatClampNeg := by rw [e41]; exact (ky_at107 (nlt ⟨by omega, by omega⟩)).trans (congrFun (congrArg (fun q : KY => q.1) hK) _)
        refine R_aload_n (k := 0) rfl rfl rfl ?_
        refine R_getf_r (j := 15) rfl ft_9_34 sh_96 rfl ?_
        refine R_iload_n (k := 2) rfl rfl rfl ?_
        refine R_iald rfl sh_103 ⟨by omega, by omega⟩ ?_
        refine N_eq (fun x43 e44 => ?_)
        have e45 : x43 = (evOf h).2.1 x5.toNatClampNeg := by rw [e44]; exact congrFun (congrArg (fun q : EV => q.2.1) hE) _
        refine R_nat (b := 1) rfl mt_9_i167 rfl ⟨by decide, by decide, Nat.le_of_ble_eq_true rfl⟩ ?_
        refine N_eq (fun x46 e47 => ?_)
        refine K_iast (a := x5.toInt) (lo := (-2147483648)) (hi' := 2147483647) rfl sh_122 rfl ⟨by omega, by omega⟩ hI (by decide) rfl (i_rng _) fr (by decide) (fun h48 g49 hI fr => ?_)
        have fl4 : FR [122] h h48 := by rw [g49]; exact FR_wI _ _ fl4 (by decide)
        have hK : kyOf h48 = kyOf h := by rw [g49, ky_o (by decide), hK]
        have hE : evOf h48 = evOf h := by rw [g49, ev_o (by decide), hE]
        refine N_iinc (a := x5.toInt) (c := 1) (fun w => [(2, .inl w), (0, .inr (.inr (.inl 96))), (1, .inr (.inr (.inl 122)))]) rfl rfl (fun _ => rfl) (by decide) rfl (by decide) (by omega) (fun x50 q51 => ?_)
        refine R_goto 2 rfl rfl ?_
        exact RUN_weak (psub_cons rfl (psub_cons rfl (psub_cons rfl (psub_nil _)))) (ih6 h48 x50 hI fr fl4 (by omega) (hK) (by rw [g49, wI_self]; exact ks_step (x := x5) (x' := x50) (F := fun j => zMin ((kyOf h).1 j) ((evOf h).2.1 j)) m12 (by subst e47 e45 e42; rfl) (by omega) (by omega)) (hE) (by omega))
  have k52 : (0 : Int32).toInt = 0 := by decide
  exact lp2 _ h (0 : Int32) hI fr (FR.rf _ _) (by decide) (hK) (fun j hj => absurd hj (by omega)) (hE) (Nat.lt_succ_self _)
