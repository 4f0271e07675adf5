abbrev qg_X9_goTo (h : PH) (a0 : Int32) : Option PV → PH → Prop := fun r h' => INV h' ∧ FR [96, 107, 108, 109, 117, 118] h h' ∧ ((h'.1 96 42).toInt = (h.1 96 42).toInt ∧ (kyOf h' = zTo (evOf h) (a0.toInt + 1).toNat) ∧ (evOf h' = evOf h) ∧ True) ∧ r = none
set_option maxHeartbeats 4000000 in
set_option maxRecDepth 100000 in
theorem g_X9_goTo (h : PH) (hI : INV h) (a0 : Int32) (h0a : 0 ≤ a0.toInt ∧ a0.toInt ≤ 1073741824) : CALL d_X9_goTo [.inr (.inr (.inl 96)), .inl a0] h (qg_X9_goTo h a0) := by
  show RUN d_X9_goTo 0 [(0, .inr (.inr (.inl 96))), (1, .inl a0)] [] h _
  have fr : FR [96, 107, 108, 109, 117, 118] h h := FR.rf _ _
  have hK : kyOf h = kyOf h := rfl
  have hE : evOf h = evOf h := rfl
  refine R_aload_n (k := 0) rfl rfl rfl ?_
  refine R_callV (v := .inr (.inr (.inl 96))) (As := []) (rest := []) rfl mt_9_i282 pp_X9_startLine (by decide) rfl rfl rfl (Nat.le_of_ble_eq_true rfl) (Nat.le_of_ble_eq_true rfl) ((g_X9_startLine h hI).mono (fun r1 h2 p3 => ?_))
  obtain ⟨hJ, fj, ⟨kp4, kp5, kp6, kp7, kp8, kp9, kp10, kp11, kp12, xq13, xq14, -⟩, rfl⟩ := p3
  have f15 := fj
  have fr := fr.trans fj (by decide)
  have hI := hJ
  have hK : kyOf h2 = zStart (eBuck (evOf h)) := by rw [xq13, hE]
  have hE : evOf h2 = evOf h := xq14.trans hE
  show RUN d_X9_goTo 4 [(0, .inr (.inr (.inl 96))), (1, .inl a0)] [] h2 _
  refine R_iconst 0 rfl rfl ?_
  refine R_istore_n (k := 2) rfl [(2, .inl 0), (0, .inr (.inr (.inl 96))), (1, .inl a0)] rfl rfl (by decide) ?_
  have lp17 : ∀ (n16 : Nat) (h18 : PH) (x20 : Int32), INV h18 → FR [96, 107, 108, 109, 117, 118] h h18 → FR [96, 107, 108, 109, 117, 118] h2 h18 → 0 ≤ x20.toInt ∧ x20.toInt ≤ 1073741825 → (h18.1 96 42).toInt = (h2.1 96 42).toInt → x20.toInt ≤ a0.toInt + 1 → (kyOf h18 = zTo (evOf h) x20.toNatClampNeg) → (evOf h18 = evOf h) → (1073741825 - x20.toInt).toNat < n16 → RUN d_X9_goTo 6 [(2, .inl x20), (0, .inr (.inr (.inl 96))), (1, .inl a0)] [] h18 (qg_X9_goTo h a0) := by
    intro n16
    induction n16 with
    | zero => intro h18 x20 m22 m23 m24 m25 m26 m27 m28 m29 hz; exact absurd hz (Nat.not_lt_zero _)
    | succ n16 ih21 =>
      intro h18 x20 hI fr fl19 m25 m26 m27 m28 m29 hz
      have hE := m29
      have hK : kyOf h18 = kyOf h18 := rfl
      refine R_iload_n (k := 2) rfl rfl rfl ?_
      refine R_iload_n (k := 1) rfl rfl rfl ?_
      refine N_icmp_gt (a := x20.toInt) (b := a0.toInt) 23 rfl rfl rfl rfl (fun c30 => ?_) (fun c30 => ?_)
      · have hF : kyOf h18 = zTo (evOf h) (a0.toInt + 1).toNat := m28.trans (by rw [tn2 (x := x20) (a := a0.toInt + 1) (by omega) (by omega)])
        exact R_vret rfl rfl ⟨hI, fr, ⟨by omega, hF, hE, trivial⟩, rfl⟩
      · refine R_aload_n (k := 0) rfl rfl rfl ?_
        refine R_iload_n (k := 2) rfl rfl rfl ?_
        refine R_iconst 0 rfl rfl ?_
        have k31 : (0 : Int32).toInt = 0 := by decide
        refine R_callV (v := .inr (.inr (.inl 96))) (As := [.inl x20, .inl 0]) (rest := []) rfl mt_9_i288 pp_X9_goSecond (by decide) rfl rfl rfl (Nat.le_of_ble_eq_true rfl) (Nat.le_of_ble_eq_true rfl) ((g_X9_goSecond h18 hI x20 (0 : Int32) (by omega)).mono (fun r32 h33 p34 => ?_))
        obtain ⟨hJ, fj, ⟨kp35, kp36, kp37, kp38, kp39, kp40, kp41, kp42, kp43, kp44, xq45, xq46, -⟩, rfl⟩ := p34
        have f47 := fj
        have fr := fr.trans fj (by decide)
        have hI := hJ
        have fl19 : FR [96, 107, 108, 109, 117, 118] h2 h33 := fl19.trans fj (by decide)
        have hK : kyOf h33 = zSecond (evOf h) x20 (0 : Int32) (kyOf h18) := by rw [xq45, hE, hK]
        have hE : evOf h33 = evOf h := xq46.trans hE
        show RUN d_X9_goTo 17 [(2, .inl x20), (0, .inr (.inr (.inl 96))), (1, .inl a0)] [] h33 _
        refine N_iinc (a := x20.toInt) (c := 1) (fun w => [(2, .inl w), (0, .inr (.inr (.inl 96))), (1, .inl a0)]) rfl rfl (fun _ => rfl) (by decide) rfl (by decide) (by omega) (fun x48 q49 => ?_)
        refine R_goto 6 rfl rfl ?_
        exact RUN_weak (psub_cons rfl (psub_cons rfl (psub_cons rfl (psub_nil _)))) (ih21 h33 x48 hI fr fl19 (by omega) (by omega) (by omega) (by rw [zTo_s (x := x20) (x' := x48) (by omega) (by omega), ← m28]; exact hK) (hE) (by omega))
  have k50 : (0 : Int32).toInt = 0 := by decide
  exact lp17 _ h2 (0 : Int32) hI fr (FR.rf _ _) (by decide) rfl (by omega) (by rw [hK]; rfl) (hE) (Nat.lt_succ_self _)
