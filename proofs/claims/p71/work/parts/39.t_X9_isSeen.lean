abbrev qg_X9_isSeen (h : PH) (a0 : Int32) : Option PV → PH → Prop := fun r h' => INV h' ∧ FR [96, 107, 108, 109, 110, 111, 112, 113, 114, 115, 116, 117, 118, 119] h h' ∧ ((h'.1 96 18).toInt = (h.1 96 18).toInt ∧ (h'.1 96 19).toInt = (h.1 96 19).toInt ∧ (h'.1 96 44).toInt = (h.1 96 44).toInt ∧ (h'.1 96 51).toInt = (h.1 96 51).toInt ∧ True) ∧ ∃ z : Int32, r = some (.inl z) ∧ ((z.toInt = 1) ∨ (z.toInt = 0))
set_option maxHeartbeats 4000000 in
set_option maxRecDepth 100000 in
theorem g_X9_isSeen (h : PH) (hI : INV h) (a0 : Int32) (h0a : 0 ≤ a0.toInt ∧ a0.toInt ≤ 3) (xp0 : SNH h a0) : CALL d_X9_isSeen [.inr (.inr (.inl 96)), .inl a0] h (qg_X9_isSeen h a0) := by
  show RUN d_X9_isSeen 0 [(0, .inr (.inr (.inl 96))), (1, .inl a0)] [] h _
  have fr : FR [96, 107, 108, 109, 110, 111, 112, 113, 114, 115, 116, 117, 118, 119] h h := FR.rf _ _
  have b1 : (0 : Int) ≤ (h.1 96 18).toInt ∧ (h.1 96 18).toInt ≤ 6 := hI.1 96 18
  have b2 : (0 : Int) ≤ (h.1 96 51).toInt ∧ (h.1 96 51).toInt ≤ 720 := hI.1 96 51
  refine R_aload_n (k := 0) rfl rfl rfl ?_
  refine R_aload_n (k := 0) rfl rfl rfl ?_
  have b3 : (0 : Int) ≤ (h.1 97 0).toInt ∧ (h.1 97 0).toInt ≤ 60 := hI.1 97 0
  refine R_callV (v := .inr (.inr (.inl 96))) (As := []) (rest := [.inr (.inr (.inl 96))]) rfl mt_9_i129 pp_X9_last (by decide) rfl rfl rfl (Nat.le_of_ble_eq_true rfl) (Nat.le_of_ble_eq_true rfl) ((k_X9_last h hI).mono (fun r4 h5 p6 => ?_))
  obtain ⟨rfl, x7, rfl, q8⟩ := p6
  show RUN d_X9_isSeen 5 [(0, .inr (.inr (.inl 96))), (1, .inl a0)] [.inl x7, .inr (.inr (.inl 96))] h _
  refine R_callV (v := .inr (.inr (.inl 96))) (As := [.inl x7]) (rest := []) rfl mt_9_i304 pp_X9_goAll (by decide) rfl rfl rfl (Nat.le_of_ble_eq_true rfl) (Nat.le_of_ble_eq_true rfl) ((g_X9_goAll h hI x7 (by omega)).mono (fun r9 h10 p11 => ?_))
  obtain ⟨hJ, fj, ⟨kp12, kp13, kp14, kp15, kp16, kp17, kp18, kp19, xq20, xq21, xq22, -⟩, rfl⟩ := p11
  have f23 := fj
  have fr := fr.trans fj (by decide)
  have hI := hJ
  have s24 : (h10.1 97 0).toInt = (h.1 97 0).toInt := by rw [(f23 97 (by decide)).1]
  show RUN d_X9_isSeen 8 [(0, .inr (.inr (.inl 96))), (1, .inl a0)] [] h10 _
  have hS : SNH h10 a0 := SNH_of (fr 127 (by decide)).1 (fr 129 (by decide)).2 xp0
  refine R_iconst 0 rfl rfl ?_
  refine R_istore_n (k := 2) rfl [(2, .inl 0), (0, .inr (.inr (.inl 96))), (1, .inl a0)] rfl rfl (by decide) ?_
  have lp26 : ∀ (n25 : Nat) (x27 : Int32), 0 ≤ x27.toInt ∧ x27.toInt ≤ 60 → (x27.toInt % 2 = 0) → (60 - x27.toInt).toNat < n25 → RUN d_X9_isSeen 10 [(2, .inl x27), (0, .inr (.inr (.inl 96))), (1, .inl a0)] [] h10 (qg_X9_isSeen h a0) := by
    intro n25
    induction n25 with
    | zero => intro x27 m29 m30 hz; exact absurd hz (Nat.not_lt_zero _)
    | succ n25 ih28 =>
      intro x27 m29 m30 hz
      refine R_iload_n (k := 2) rfl rfl rfl ?_
      refine R_aload_n (k := 0) rfl rfl rfl ?_
      refine R_getf_r (j := 57) rfl ft_9_107 sh_96 rfl ?_
      refine R_iload_n (k := 1) rfl rfl rfl ?_
      refine R_iald rfl sh_127 ⟨by omega, by omega⟩ ?_
      refine N_eq (fun x31 e32 => ?_)
      have q33 : (-1) ≤ x31.toInt ∧ x31.toInt ≤ 60 := by rw [e32]; exact hI.1 127 _
      refine N_icmp_ge (a := x27.toInt) (b := x31.toInt) 53 rfl rfl rfl rfl (fun c34 => ?_) (fun c34 => ?_)
      · refine R_iconst 1 rfl rfl ?_
        exact R_iret rfl rfl rfl ⟨hI, fr, ⟨by omega, by omega, by omega, by omega, trivial⟩, _, rfl, by rw [show (1 : Int32).toInt = 1 from rfl] <;> omega⟩
      · refine R_aload_n (k := 0) rfl rfl rfl ?_
        refine R_getf_r (j := 28) rfl ft_9_64 sh_96 rfl ?_
        refine R_aload_n (k := 0) rfl rfl rfl ?_
        refine R_iload_n (k := 1) rfl rfl rfl ?_
        refine R_iload_n (k := 2) rfl rfl rfl ?_
        refine R_callV (v := .inr (.inr (.inl 96))) (As := [.inl a0, .inl x27]) (rest := [.inr (.inr (.inl 113))]) rfl mt_9_i436 pp_X9_numberAt (by decide) rfl rfl rfl (Nat.le_of_ble_eq_true rfl) (Nat.le_of_ble_eq_true rfl) ((g_X9_numberAt h10 hI a0 x27 (by omega) (by omega)).mono (fun r35 h36 p37 => ?_))
        obtain ⟨rfl, w39, rfl, zq38, -⟩ := p37
        show RUN d_X9_isSeen 30 [(2, .inl x27), (0, .inr (.inr (.inl 96))), (1, .inl a0)] [.inr (.inl w39), .inr (.inr (.inl 113))] h10 _
        refine R_l2i rfl ?_
        refine N_eq (fun x40 e41 => ?_)
        have sn42 := seen_at hS e32 (by omega) (by omega) (by omega) zq38 e41
        refine R_iald rfl sh_113 ⟨by omega, by omega⟩ ?_
        refine N_eq (fun x43 e44 => ?_)
        refine N_i2l rfl (fun w45 q46 => ?_)
        refine R_aload_n (k := 0) rfl rfl rfl ?_
        refine R_iload_n (k := 1) rfl rfl rfl ?_
        refine R_iload_n (k := 2) rfl rfl rfl ?_
        refine R_iconst 1 rfl rfl ?_
        refine R_iadd rfl ?_
        refine N_eq (fun x47 e48 => ?_)
        have q49 : x47.toInt = x27.toInt + 1 := by rw [e48]; exact i_add rfl (by decide) (by omega)
        refine R_callV (v := .inr (.inr (.inl 96))) (As := [.inl a0, .inl x47]) (rest := [.inr (.inl w45)]) rfl mt_9_i436 pp_X9_numberAt (by decide) rfl rfl rfl (Nat.le_of_ble_eq_true rfl) (Nat.le_of_ble_eq_true rfl) ((g_X9_numberAt h10 hI a0 x47 (by omega) (by omega)).mono (fun r50 h51 p52 => ?_))
        obtain ⟨rfl, w54, rfl, zq53, -⟩ := p52
        show RUN d_X9_isSeen 41 [(2, .inl x27), (0, .inr (.inr (.inl 96))), (1, .inl a0)] [.inr (.inl w54), .inr (.inl w45)] h10 _
        refine N_lcmp (a := w45.toInt) (b := w54.toInt) rfl rfl rfl (fun x55 q56 => ?_)
        refine N_if_eq (a := x55.toInt) 47 rfl rfl rfl (fun c57 => ?_) (fun c57 => ?_)
        · refine N_iinc (a := x27.toInt) (c := 2) (fun w => [(2, .inl w), (0, .inr (.inr (.inl 96))), (1, .inl a0)]) rfl rfl (fun _ => rfl) (by decide) rfl (by decide) (by omega) (fun x58 q59 => ?_)
          refine R_goto 10 rfl rfl ?_
          exact RUN_weak (psub_cons rfl (psub_cons rfl (psub_cons rfl (psub_nil _)))) (ih28 x58 (by omega) (by omega) (by omega))
        · refine R_iconst 0 rfl rfl ?_
          exact R_iret rfl rfl rfl ⟨hI, fr, ⟨by omega, by omega, by omega, by omega, trivial⟩, _, rfl, by rw [show (0 : Int32).toInt = 0 from rfl] <;> omega⟩
  have k60 : (0 : Int32).toInt = 0 := by decide
  exact lp26 _ (0 : Int32) (by decide) (by omega) (Nat.lt_succ_self _)
