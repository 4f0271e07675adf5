theorem full_fact (h : PH) (hI : INV h) : fuO h = 0 ∨ ∃ m : Int32, 0 ≤ m.toInt ∧ m.toInt < (h.1 97 0).toInt ∧ fuO h ≤ bzy h m := by
  obtain ⟨f, r, h', h1, ⟨⟨rfl, z, rfl, q, zq, -⟩, za⟩⟩ := CALL_ans (g_X9_fullOf h hI)
  unfold fuO
  rw [← za z rfl]
  exact zq
abbrev qg_X9_crowded (h : PH)  : Option PV → PH → Prop := fun r h' => INV h' ∧ FR [96, 103, 104, 105, 106, 107, 108, 109, 110, 111, 112, 113, 114, 115, 116, 117, 118, 119] h h' ∧ (True) ∧ ∃ z : Int32, r = some (.inl z) ∧ (((-2) ≤ z.toInt ∧ z.toInt ≤ 59))
set_option maxHeartbeats 4000000 in
set_option maxRecDepth 100000 in
theorem g_X9_crowded (h : PH) (hI : INV h)  : CALL d_X9_crowded [.inr (.inr (.inl 96))] h (qg_X9_crowded h) := by
  show RUN d_X9_crowded 0 [(0, .inr (.inr (.inl 96)))] [] h _
  have fr : FR [96, 103, 104, 105, 106, 107, 108, 109, 110, 111, 112, 113, 114, 115, 116, 117, 118, 119] h h := FR.rf _ _
  refine R_aload_n (k := 0) rfl rfl rfl ?_
  have b1 : (0 : Int) ≤ (h.1 97 0).toInt ∧ (h.1 97 0).toInt ≤ 60 := hI.1 97 0
  have e2 : 0 < (h.1 97 10).toInt → 1 ≤ (h.1 97 0).toInt := hI.2.2.2.2.2.1.2.1
  refine R_callV (v := .inr (.inr (.inl 96))) (As := []) (rest := []) rfl mt_9_i307 pp_X9_asksBrigade (by decide) rfl rfl rfl (Nat.le_of_ble_eq_true rfl) (Nat.le_of_ble_eq_true rfl) ((k_X9_asksBrigade h hI).mono (fun r3 h4 p5 => ?_))
  obtain ⟨hJ, fj, -, x6, rfl, q7 | q7⟩ := p5
  · have f8 := fj
    have fr := fr.trans fj (by decide)
    have hI := hJ
    have s9 : (h4.1 97 10).toInt = (h.1 97 10).toInt := by rw [(f8 97 (by decide)).1]
    have s10 : (h4.1 97 0).toInt = (h.1 97 0).toInt := by rw [(f8 97 (by decide)).1]
    show RUN d_X9_crowded 4 [(0, .inr (.inr (.inl 96)))] [.inl x6] h4 _
    refine N_if_ne (a := x6.toInt) 10 rfl rfl rfl (fun c11 => ?_) (fun c11 => ?_)
    · exfalso; omega
    · refine R_bipush (-2) rfl rfl ?_
      exact R_iret rfl rfl rfl ⟨hI, fr, trivial, _, rfl, by rw [show ((-2) : Int32).toInt = (-2) from rfl] <;> omega⟩
  · have f12 := fj
    have fr := fr.trans fj (by decide)
    have hI := hJ
    have s13 : (h4.1 97 10).toInt = (h.1 97 10).toInt := by rw [(f12 97 (by decide)).1]
    have s14 : (h4.1 97 0).toInt = (h.1 97 0).toInt := by rw [(f12 97 (by decide)).1]
    show RUN d_X9_crowded 4 [(0, .inr (.inr (.inl 96)))] [.inl x6] h4 _
    refine N_if_ne (a := x6.toInt) 10 rfl rfl rfl (fun c15 => ?_) (fun c15 => ?_)
    · have hfu := full_fact h4 hI
      refine R_iconst 0 rfl rfl ?_
      refine R_istore_n (k := 1) rfl [(1, .inl 0), (0, .inr (.inr (.inl 96)))] rfl rfl (by decide) ?_
      have lp17 : ∀ (n16 : Nat) (x18 : Int32), 0 ≤ x18.toInt ∧ x18.toInt ≤ 59 → ((fuO h4 = 0 ∨ ∃ m : Int32, x18.toInt ≤ m.toInt ∧ m.toInt < (h4.1 97 0).toInt ∧ fuO h4 ≤ bzy h4 m)) → (0 ≤ x18.toInt ∧ x18.toInt < (h4.1 97 0).toInt) → ((h4.1 97 0).toInt - x18.toInt).toNat < n16 → RUN d_X9_crowded 12 [(1, .inl x18), (0, .inr (.inr (.inl 96)))] [] h4 (qg_X9_crowded h) := by
        intro n16
        induction n16 with
        | zero => intro x18 m20 m21 m22 hz; exact absurd hz (Nat.not_lt_zero _)
        | succ n16 ih19 =>
          intro x18 m20 m21 m22 hz
          refine R_aload_n (k := 0) rfl rfl rfl ?_
          refine R_iload_n (k := 1) rfl rfl rfl ?_
          refine R_callV (v := .inr (.inr (.inl 96))) (As := [.inl x18]) (rest := []) rfl mt_9_i324 pp_X9_busyOf (by decide) rfl rfl rfl (Nat.le_of_ble_eq_true rfl) (Nat.le_of_ble_eq_true rfl) ((CALL_ans (k_X9_busyOf h4 hI x18 (by omega))).mono (fun r23 h24 p25 => ?_))
          obtain ⟨⟨rfl, x26, rfl, q27⟩, za28⟩ := p25
          have za28 := za28 _ rfl
          show RUN d_X9_crowded 17 [(1, .inl x18), (0, .inr (.inr (.inl 96)))] [.inl x26] h4 _
          refine R_callS (As := [.inl x26]) (rest := []) rfl mt_9_i336 (by decide) pp_X9_bits (by decide) rfl rfl (Nat.le_of_ble_eq_true rfl) (Nat.le_of_ble_eq_true rfl) ((CALL_ans (g_X9_bits h4 hI x26)).mono (fun r29 h30 p31 => ?_))
          obtain ⟨⟨rfl, x32, rfl, q33⟩, za34⟩ := p31
          have za34 := za34 _ rfl
          show RUN d_X9_crowded 20 [(1, .inl x18), (0, .inr (.inr (.inl 96)))] [.inl x32] h4 _
          refine R_aload_n (k := 0) rfl rfl rfl ?_
          refine R_callV (v := .inr (.inr (.inl 96))) (As := []) (rest := [.inl x32]) rfl mt_9_i342 pp_X9_fullOf (by decide) rfl rfl rfl (Nat.le_of_ble_eq_true rfl) (Nat.le_of_ble_eq_true rfl) ((CALL_ans (g_X9_fullOf h4 hI)).mono (fun r35 h36 p37 => ?_))
          obtain ⟨⟨rfl, x39, rfl, q40, zq38, -⟩, za41⟩ := p37
          have za41 := za41 _ rfl
          show RUN d_X9_crowded 24 [(1, .inl x18), (0, .inr (.inr (.inl 96)))] [.inl x39, .inl x32] h4 _
          refine N_icmp_ge (a := x32.toInt) (b := x39.toInt) 33 rfl rfl rfl rfl (fun c42 => ?_) (fun c42 => ?_)
          · refine R_iload_n (k := 1) rfl rfl rfl ?_
            exact R_iret rfl rfl rfl ⟨hI, fr, trivial, _, rfl, by omega⟩
          · refine N_iinc (a := x18.toInt) (c := 1) (fun w => [(1, .inl w), (0, .inr (.inr (.inl 96)))]) rfl rfl (fun _ => rfl) (by decide) rfl (by decide) (by omega) (fun x43 q44 => ?_)
            refine R_goto 12 rfl rfl ?_
            have bz45 : bzy h4 x18 = x32.toInt := by unfold bzy; rw [← za28, ← za34]
            have fu46 : fuO h4 = x39.toInt := by unfold fuO; rw [← za41]
            obtain ⟨mm47, cm1, cm2, cm3⟩ := crowd_next m21 (by omega) (by omega)
            exact RUN_weak (psub_cons rfl (psub_cons rfl (psub_nil _))) (ih19 x43 (by omega) (Or.inr ⟨mm47, by omega, cm2, cm3⟩) (by omega) (by omega))
      have k48 : (0 : Int32).toInt = 0 := by decide
      exact lp17 _ (0 : Int32) (by decide) (Or.elim hfu (fun c => Or.inl c) (fun c => Or.inr (by obtain ⟨m, c1, c2, c3⟩ := c; exact ⟨m, by omega, c2, c3⟩))) (by omega) (Nat.lt_succ_self _)
    · exfalso; omega
