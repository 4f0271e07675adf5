abbrev qg_X9_hasOrder (h : PH) (a0 : Int32) : Option PV → PH → Prop := fun r h' => INV h' ∧ FR [96, 103, 104, 105, 106] h h' ∧ (True) ∧ ∃ z : Int32, r = some (.inl z) ∧ ((z.toInt = 0) ∨ (z.toInt = 1))
set_option maxHeartbeats 4000000 in
set_option maxRecDepth 100000 in
theorem g_X9_hasOrder (h : PH) (hI : INV h) (a0 : Int32) (h0a : 0 ≤ a0.toInt ∧ a0.toInt ≤ 31) : CALL d_X9_hasOrder [.inr (.inr (.inl 96)), .inl a0] h (qg_X9_hasOrder h a0) := by
  show RUN d_X9_hasOrder 0 [(0, .inr (.inr (.inl 96))), (1, .inl a0)] [] h _
  have fr : FR [96, 103, 104, 105, 106] h h := FR.rf _ _
  refine R_aload_n (k := 0) rfl rfl rfl ?_
  refine R_callV (v := .inr (.inr (.inl 96))) (As := []) (rest := []) rfl mt_9_i298 pp_X9_asItIs (by decide) rfl rfl rfl (Nat.le_of_ble_eq_true rfl) (Nat.le_of_ble_eq_true rfl) ((g_X9_asItIs h hI).mono (fun r1 h2 p3 => ?_))
  obtain ⟨hJ, fj, ⟨kp4, xq5, xq6, xq7, -⟩, rfl⟩ := p3
  have f8 := fj
  have fr := fr.trans fj (by decide)
  have hI := hJ
  have b9 : (0 : Int) ≤ (h2.1 97 5).toInt ∧ (h2.1 97 5).toInt ≤ 6 := hI.1 97 5
  have b10 : (0 : Int) ≤ (h2.1 97 0).toInt ∧ (h2.1 97 0).toInt ≤ 60 := hI.1 97 0
  have e11 : 0 < (h2.1 97 5).toInt → 1 ≤ (h2.1 97 0).toInt := hI.2.2.2.2.2.1.2.2
  have b12 : (0 : Int) ≤ (h2.1 97 1).toInt ∧ (h2.1 97 1).toInt ≤ 8 := hI.1 97 1
  have b13 : (0 : Int) ≤ (h2.1 96 18).toInt ∧ (h2.1 96 18).toInt ≤ 6 := hI.1 96 18
  show RUN d_X9_hasOrder 4 [(0, .inr (.inr (.inl 96))), (1, .inl a0)] [] h2 _
  have hA := xq5
  refine R_aload_n (k := 0) rfl rfl rfl ?_
  refine R_iload_n (k := 1) rfl rfl rfl ?_
  refine K_putf (j := 44) (lo := (-2147483648)) (hi' := 2147483647) rfl ft_9_399 sh_96 rfl hI (by decide) rfl (i_rng _) fr (by decide) (fun h14 g15 hI fr => ?_)
  have s16 : (h14.1 97 5).toInt = (h2.1 97 5).toInt := by rw [g15, wI_ne _ _ _ (by decide)]
  have s17 : (h14.1 97 0).toInt = (h2.1 97 0).toInt := by rw [g15, wI_ne _ _ _ (by decide)]
  have s18 : (h14.1 97 1).toInt = (h2.1 97 1).toInt := by rw [g15, wI_ne _ _ _ (by decide)]
  have s19 : (h14.1 96 18).toInt = (h2.1 96 18).toInt := by rw [g15, wI_at (by decide)]
  have s20 : (h14.1 96 19).toInt = (h2.1 96 19).toInt := by rw [g15, wI_at (by decide)]
  have hA : AIS h14 := by rw [g15]; exact AIS_o (by decide) hA
  have s21 : (h14.1 96 44).toInt = a0.toInt := by rw [g15, wI_is]
  refine R_iconst 1 rfl rfl ?_
  have hJ0 := AIS_inj hA
  refine R_istore_n (k := 2) rfl [(2, .inl 1), (0, .inr (.inr (.inl 96))), (1, .inl a0)] rfl rfl (by decide) ?_
  have lp23 : ∀ (n22 : Nat) (h24 : PH) (x26 : Int32), INV h24 → FR [96, 103, 104, 105, 106] h h24 → FR [105] h14 h24 → 0 ≤ x26.toInt ∧ x26.toInt ≤ 1 → (INJ6 (h24.1 105)) → (720 - (rkL (h24.1 105) : Int) + x26.toInt).toNat < n22 → RUN d_X9_hasOrder 11 [(2, .inl x26), (0, .inr (.inr (.inl 96))), (1, .inl a0)] [] h24 (qg_X9_hasOrder h a0) := by
    intro n22
    induction n22 with
    | zero => intro h24 x26 m28 m29 m30 m31 m32 hz; exact absurd hz (Nat.not_lt_zero _)
    | succ n22 ih27 =>
      intro h24 x26 hI fr fl25 m31 m32 hz
      have s33 : (h24.1 97 5).toInt = (h14.1 97 5).toInt := by rw [(fl25 97 (by decide)).1]
      have s34 : (h24.1 97 0).toInt = (h14.1 97 0).toInt := by rw [(fl25 97 (by decide)).1]
      have s35 : (h24.1 97 1).toInt = (h14.1 97 1).toInt := by rw [(fl25 97 (by decide)).1]
      have s36 : (h24.1 96 18).toInt = (h14.1 96 18).toInt := by rw [(fl25 96 (by decide)).1]
      have s37 : (h24.1 96 19).toInt = (h14.1 96 19).toInt := by rw [(fl25 96 (by decide)).1]
      have s38 : (h24.1 96 44).toInt = (h14.1 96 44).toInt := by rw [(fl25 96 (by decide)).1]
      have rq39 : h24.1 105 = h24.1 105 := rfl
      refine R_iload_n (k := 2) rfl rfl rfl ?_
      refine N_if_eq (a := x26.toInt) 32 rfl rfl rfl (fun c40 => ?_) (fun c40 => ?_)
      · refine R_iconst 0 rfl rfl ?_
        exact R_iret rfl rfl rfl ⟨hI, fr, trivial, _, rfl, by rw [show (0 : Int32).toInt = 0 from rfl] <;> omega⟩
      · refine R_aload_n (k := 0) rfl rfl rfl ?_
        have b41 : (0 : Int) ≤ (h24.1 97 6).toInt ∧ (h24.1 97 6).toInt ≤ 5 := hI.1 97 6
        refine R_callV (v := .inr (.inr (.inl 96))) (As := []) (rest := []) rfl mt_9_i418 pp_X9_keepsAll (by decide) rfl rfl rfl (Nat.le_of_ble_eq_true rfl) (Nat.le_of_ble_eq_true rfl) ((k_X9_keepsAll h24 hI).mono (fun r42 h43 p44 => ?_))
        obtain ⟨rfl, x45, rfl, q46 | q46⟩ := p44
        · show RUN d_X9_hasOrder 19 [(2, .inl x26), (0, .inr (.inr (.inl 96))), (1, .inl a0)] [.inl x45] h24 _
          refine N_if_eq (a := x45.toInt) 24 rfl rfl rfl (fun c47 => ?_) (fun c47 => ?_)
          · exfalso; omega
          · refine R_iconst 1 rfl rfl ?_
            exact R_iret rfl rfl rfl ⟨hI, fr, trivial, _, rfl, by rw [show (1 : Int32).toInt = 1 from rfl] <;> omega⟩
        · show RUN d_X9_hasOrder 19 [(2, .inl x26), (0, .inr (.inr (.inl 96))), (1, .inl a0)] [.inl x45] h24 _
          refine N_if_eq (a := x45.toInt) 24 rfl rfl rfl (fun c48 => ?_) (fun c48 => ?_)
          · refine R_aload_n (k := 0) rfl rfl rfl ?_
            refine R_callV (v := .inr (.inr (.inl 96))) (As := []) (rest := []) rfl mt_9_i424 pp_X9_nextLine (by decide) rfl rfl rfl (Nat.le_of_ble_eq_true rfl) (Nat.le_of_ble_eq_true rfl) ((g_X9_nextLine h24 hI (INJ6_of rq39 m32)).mono (fun r49 h50 p51 => ?_))
            obtain ⟨hJ, fj, ⟨xq52, -⟩, x54, rfl, (q55 | q55), zq53, -⟩ := p51
            · have f56 := fj
              have fr := fr.trans fj (by decide)
              have hI := hJ
              have fl25 : FR [105] h14 h50 := fl25.trans fj (by decide)
              have s57 : (h50.1 97 5).toInt = (h24.1 97 5).toInt := by rw [(f56 97 (by decide)).1]
              have s58 : (h50.1 97 0).toInt = (h24.1 97 0).toInt := by rw [(f56 97 (by decide)).1]
              have s59 : (h50.1 97 1).toInt = (h24.1 97 1).toInt := by rw [(f56 97 (by decide)).1]
              have s60 : (h50.1 96 18).toInt = (h24.1 96 18).toInt := by rw [(f56 96 (by decide)).1]
              have s61 : (h50.1 96 19).toInt = (h24.1 96 19).toInt := by rw [(f56 96 (by decide)).1]
              have s62 : (h50.1 96 44).toInt = (h24.1 96 44).toInt := by rw [(f56 96 (by decide)).1]
              have s63 : (h50.1 97 6).toInt = (h24.1 97 6).toInt := by rw [(f56 97 (by decide)).1]
              show RUN d_X9_hasOrder 28 [(2, .inl x26), (0, .inr (.inr (.inl 96))), (1, .inl a0)] [.inl x54] h50 _
              refine R_istore_n (k := 2) rfl [(2, .inl x54), (0, .inr (.inr (.inl 96))), (1, .inl a0)] rfl rfl (by decide) ?_
              refine R_goto 11 rfl rfl ?_
              have rkb : (rkL (h24.1 105) : Int) + x54.toInt ≤ (rkL (h50.1 105) : Int) := by rw [← rq39]; exact zq53
              have rkt := rkL_top hI xq52
              exact RUN_weak (psub_cons rfl (psub_cons rfl (psub_cons rfl (psub_nil _)))) (ih27 h50 x54 hI fr fl25 (by omega) (xq52) (by omega))
            · have f64 := fj
              have fr := fr.trans fj (by decide)
              have hI := hJ
              have fl25 : FR [105] h14 h50 := fl25.trans fj (by decide)
              have s65 : (h50.1 97 5).toInt = (h24.1 97 5).toInt := by rw [(f64 97 (by decide)).1]
              have s66 : (h50.1 97 0).toInt = (h24.1 97 0).toInt := by rw [(f64 97 (by decide)).1]
              have s67 : (h50.1 97 1).toInt = (h24.1 97 1).toInt := by rw [(f64 97 (by decide)).1]
              have s68 : (h50.1 96 18).toInt = (h24.1 96 18).toInt := by rw [(f64 96 (by decide)).1]
              have s69 : (h50.1 96 19).toInt = (h24.1 96 19).toInt := by rw [(f64 96 (by decide)).1]
              have s70 : (h50.1 96 44).toInt = (h24.1 96 44).toInt := by rw [(f64 96 (by decide)).1]
              have s71 : (h50.1 97 6).toInt = (h24.1 97 6).toInt := by rw [(f64 97 (by decide)).1]
              show RUN d_X9_hasOrder 28 [(2, .inl x26), (0, .inr (.inr (.inl 96))), (1, .inl a0)] [.inl x54] h50 _
              refine R_istore_n (k := 2) rfl [(2, .inl x54), (0, .inr (.inr (.inl 96))), (1, .inl a0)] rfl rfl (by decide) ?_
              refine R_goto 11 rfl rfl ?_
              have rkb : (rkL (h24.1 105) : Int) + x54.toInt ≤ (rkL (h50.1 105) : Int) := by rw [← rq39]; exact zq53
              have rkt := rkL_top hI xq52
              exact RUN_weak (psub_cons rfl (psub_cons rfl (psub_cons rfl (psub_nil _)))) (ih27 h50 x54 hI fr fl25 (by omega) (xq52) (by omega))
          · exfalso; omega
  have k72 : (1 : Int32).toInt = 1 := by decide
  exact lp23 _ h14 (1 : Int32) hI fr (FR.rf _ _) (by decide) (hJ0) (Nat.lt_succ_self _)
