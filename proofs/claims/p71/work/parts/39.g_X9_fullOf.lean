abbrev qg_X9_fullOf (h : PH)  : Option PV → PH → Prop := fun r h' => h = h' ∧ ∃ z : Int32, r = some (.inl z) ∧ (((0 ≤ z.toInt ∧ z.toInt ≤ 6)) ∧ (z.toInt = 0 ∨ ∃ m : Int32, 0 ≤ m.toInt ∧ m.toInt < (h.1 97 0).toInt ∧ z.toInt ≤ bzy h m) ∧ True)
set_option maxHeartbeats 4000000 in
set_option maxRecDepth 100000 in
theorem g_X9_fullOf (h : PH) (hI : INV h)  : CALL d_X9_fullOf [.inr (.inr (.inl 96))] h (qg_X9_fullOf h) := by
  show RUN d_X9_fullOf 0 [(0, .inr (.inr (.inl 96)))] [] h _
  have b1 : (0 : Int) ≤ (h.1 97 0).toInt ∧ (h.1 97 0).toInt ≤ 60 := hI.1 97 0
  refine R_iconst 0 rfl rfl ?_
  refine R_istore_n (k := 1) rfl [(1, .inl 0), (0, .inr (.inr (.inl 96)))] rfl rfl (by decide) ?_
  refine R_iconst 0 rfl rfl ?_
  refine R_istore_n (k := 2) rfl [(2, .inl 0), (1, .inl 0), (0, .inr (.inr (.inl 96)))] rfl rfl (by decide) ?_
  have lp3 : ∀ (n2 : Nat) (x4 : Int32) (x5 : Int32), 0 ≤ x4.toInt ∧ x4.toInt ≤ 6 → 0 ≤ x5.toInt ∧ x5.toInt ≤ 60 → x5.toInt ≤ (h.1 97 0).toInt + 0 → ((x4.toInt = 0 ∨ ∃ m : Int32, 0 ≤ m.toInt ∧ m.toInt < (h.1 97 0).toInt ∧ x4.toInt ≤ bzy h m)) → (60 - x5.toInt).toNat < n2 → RUN d_X9_fullOf 4 [(2, .inl x5), (1, .inl x4), (0, .inr (.inr (.inl 96)))] [] h (qg_X9_fullOf h) := by
    intro n2
    induction n2 with
    | zero => intro x4 x5 m7 m8 m9 m10 hz; exact absurd hz (Nat.not_lt_zero _)
    | succ n2 ih6 =>
      intro x4 x5 m7 m8 m9 m10 hz
      refine R_iload_n (k := 2) rfl rfl rfl ?_
      refine R_aload_n (k := 0) rfl rfl rfl ?_
      refine R_callV (v := .inr (.inr (.inl 96))) (As := []) (rest := [.inl x5]) rfl mt_9_i129 pp_X9_last (by decide) rfl rfl rfl (Nat.le_of_ble_eq_true rfl) (Nat.le_of_ble_eq_true rfl) ((k_X9_last h hI).mono (fun r11 h12 p13 => ?_))
      obtain ⟨rfl, x14, rfl, q15⟩ := p13
      show RUN d_X9_fullOf 9 [(2, .inl x5), (1, .inl x4), (0, .inr (.inr (.inl 96)))] [.inl x14, .inl x5] h _
      refine N_icmp_gt (a := x5.toInt) (b := x14.toInt) 31 rfl rfl rfl rfl (fun c16 => ?_) (fun c16 => ?_)
      · refine R_iload_n (k := 1) rfl rfl rfl ?_
        exact R_iret rfl rfl rfl ⟨rfl, _, rfl, ⟨by omega, m10, trivial⟩⟩
      · refine R_iload_n (k := 1) rfl rfl rfl ?_
        refine R_aload_n (k := 0) rfl rfl rfl ?_
        refine R_iload_n (k := 2) rfl rfl rfl ?_
        refine R_callV (v := .inr (.inr (.inl 96))) (As := [.inl x5]) (rest := [.inl x4]) rfl mt_9_i324 pp_X9_busyOf (by decide) rfl rfl rfl (Nat.le_of_ble_eq_true rfl) (Nat.le_of_ble_eq_true rfl) ((CALL_ans (k_X9_busyOf h hI x5 (by omega))).mono (fun r17 h18 p19 => ?_))
        obtain ⟨⟨rfl, x20, rfl, q21⟩, za22⟩ := p19
        have za22 := za22 _ rfl
        show RUN d_X9_fullOf 18 [(2, .inl x5), (1, .inl x4), (0, .inr (.inr (.inl 96)))] [.inl x20, .inl x4] h _
        refine R_callS (As := [.inl x20]) (rest := [.inl x4]) rfl mt_9_i336 (by decide) pp_X9_bits (by decide) rfl rfl (Nat.le_of_ble_eq_true rfl) (Nat.le_of_ble_eq_true rfl) ((CALL_ans (g_X9_bits h hI x20)).mono (fun r23 h24 p25 => ?_))
        obtain ⟨⟨rfl, x26, rfl, q27⟩, za28⟩ := p25
        have za28 := za28 _ rfl
        show RUN d_X9_fullOf 21 [(2, .inl x5), (1, .inl x4), (0, .inr (.inr (.inl 96)))] [.inl x26, .inl x4] h _
        refine N_max (a := x4.toInt) (b := x26.toInt) rfl mt_9_i339 rfl rfl ⟨by decide, by decide, Nat.le_of_ble_eq_true rfl⟩ (fun x29 q30 => ?_)
        refine R_istore_n (k := 1) rfl [(1, .inl x29), (2, .inl x5), (0, .inr (.inr (.inl 96)))] rfl rfl (by decide) ?_
        refine N_iinc (a := x5.toInt) (c := 1) (fun w => [(2, .inl w), (1, .inl x29), (0, .inr (.inr (.inl 96)))]) rfl rfl (fun _ => rfl) (by decide) rfl (by decide) (by omega) (fun x31 q32 => ?_)
        refine R_goto 4 rfl rfl ?_
        exact RUN_weak (psub_cons rfl (psub_cons rfl (psub_cons rfl (psub_nil _)))) (ih6 x29 x31 (by omega) (by omega) (by omega) (Or.elim (show x29.toInt = x4.toInt ∨ x29.toInt = x26.toInt by omega) (fun c => by rw [c]; exact m10) (fun c => Or.inr ⟨x5, by omega, by omega, by rw [c]; unfold bzy; rw [← za22, ← za28]; exact Int.le_refl _⟩)) (by omega))
  have k33 : (0 : Int32).toInt = 0 := by decide
  have k34 : (0 : Int32).toInt = 0 := by decide
  exact lp3 _ (0 : Int32) (0 : Int32) (by decide) (by decide) (by omega) (Or.inl (by decide)) (Nat.lt_succ_self _)
