abbrev qg_X9_waterNow (h : PH)  : Option PV → PH → Prop := fun r h' => INV h' ∧ FR [96, 107, 108, 109, 110, 111, 112, 113, 114, 115, 116, 117, 118, 119] h h' ∧ ((h'.1 96 18).toInt = (h.1 96 18).toInt ∧ (h'.1 96 19).toInt = (h.1 96 19).toInt ∧ (h'.1 96 46).toInt = (h.1 96 46).toInt ∧ (h'.1 96 44).toInt = (h.1 96 44).toInt ∧ (h'.1 96 47).toInt = (h.1 96 47).toInt ∧ (h'.1 96 48).toInt = (h.1 96 48).toInt ∧ (evOf h' = evOf h) ∧ True) ∧ ∃ z : Int32, r = some (.inl z) ∧ (((True)) ∧ (z = (zRun (evOf h) (h.1 97 0).toInt.toNat).2.2.2) ∧ True)
set_option maxHeartbeats 4000000 in
set_option maxRecDepth 100000 in
theorem g_X9_waterNow (h : PH) (hI : INV h) (p97_0 : 1 ≤ (h.1 97 0).toInt ∧ (h.1 97 0).toInt ≤ 60) : CALL d_X9_waterNow [.inr (.inr (.inl 96))] h (qg_X9_waterNow h) := by
  show RUN d_X9_waterNow 0 [(0, .inr (.inr (.inl 96)))] [] h _
  have fr : FR [96, 107, 108, 109, 110, 111, 112, 113, 114, 115, 116, 117, 118, 119] h h := FR.rf _ _
  have hK : kyOf h = kyOf h := rfl
  have hE : evOf h = evOf h := rfl
  have b1 : (0 : Int) ≤ (h.1 97 0).toInt ∧ (h.1 97 0).toInt ≤ 60 := hI.1 97 0
  have b2 : (0 : Int) ≤ (h.1 96 18).toInt ∧ (h.1 96 18).toInt ≤ 6 := hI.1 96 18
  have b3 : (h.1 96 18).toInt = ((evOf h).2.2.2.2.1).toInt := congrArg (fun q : EV => (q.2.2.2.2.1).toInt) hE
  refine R_aload_n (k := 0) rfl rfl rfl ?_
  refine R_aload_n (k := 0) rfl rfl rfl ?_
  refine R_callV (v := .inr (.inr (.inl 96))) (As := []) (rest := [.inr (.inr (.inl 96))]) rfl mt_9_i129 pp_X9_last (by decide) rfl rfl rfl (Nat.le_of_ble_eq_true rfl) (Nat.le_of_ble_eq_true rfl) ((k_X9_last h hI).mono (fun r4 h5 p6 => ?_))
  obtain ⟨rfl, x7, rfl, q8⟩ := p6
  show RUN d_X9_waterNow 5 [(0, .inr (.inr (.inl 96)))] [.inl x7, .inr (.inr (.inl 96))] h _
  refine R_callV (v := .inr (.inr (.inl 96))) (As := [.inl x7]) (rest := []) rfl mt_9_i304 pp_X9_goAll (by decide) rfl rfl rfl (Nat.le_of_ble_eq_true rfl) (Nat.le_of_ble_eq_true rfl) ((g_X9_goAll h hI x7 (by omega)).mono (fun r9 h10 p11 => ?_))
  obtain ⟨hJ, fj, ⟨kp12, kp13, kp14, kp15, kp16, kp17, kp18, kp19, xq20, xq21, xq22, -⟩, rfl⟩ := p11
  have f23 := fj
  have fr := fr.trans fj (by decide)
  have hI := hJ
  have s24 : (h10.1 97 0).toInt = (h.1 97 0).toInt := by rw [(f23 97 (by decide)).1]
  have hK : kyOf h10 = zRun (evOf h) (x7.toInt + 1).toNat := by rw [xq20, hE]
  have hE : evOf h10 = evOf h := xq21.trans hE
  show RUN d_X9_waterNow 8 [(0, .inr (.inr (.inl 96)))] [] h10 _
  refine R_aload_n (k := 0) rfl rfl rfl ?_
  refine R_getf_r (j := 29) rfl ft_9_67 sh_96 rfl ?_
  refine R_aload_n (k := 0) rfl rfl rfl ?_
  refine R_callV (v := .inr (.inr (.inl 96))) (As := []) (rest := [.inr (.inr (.inl 114))]) rfl mt_9_i129 pp_X9_last (by decide) rfl rfl rfl (Nat.le_of_ble_eq_true rfl) (Nat.le_of_ble_eq_true rfl) ((k_X9_last h10 hI).mono (fun r25 h26 p27 => ?_))
  obtain ⟨rfl, x28, rfl, q29⟩ := p27
  show RUN d_X9_waterNow 16 [(0, .inr (.inr (.inl 96)))] [.inl x28, .inr (.inr (.inl 114))] h10 _
  refine R_iald rfl sh_114 ⟨by omega, by omega⟩ ?_
  refine N_eq (fun x30 e31 => ?_)
  exact R_iret rfl rfl rfl ⟨hI, fr, ⟨by omega, by omega, by omega, by omega, by omega, by omega, hE, trivial⟩, _, rfl, ⟨trivial, (by rw [e31, show x28 = x7 from i_of _ (by omega), xq22 (by omega), show (x7.toInt + 1).toNat = (h.1 97 0).toInt.toNat by omega]), trivial⟩⟩
