abbrev qg_X9_row (h : PH) (a0 : Int32) (a1 : Int32) (a2 : Int32) : Option PV → PH → Prop := fun r h' => INV h' ∧ FR [127, 128, 129] h h' ∧ ((h'.1 127 = rowR (h.1 127) a0 a1 a2 a2) ∧ (h'.1 128 = rowR (h.1 128) a0 a1 a2 a1) ∧ True) ∧ ∃ z : Int32, r = some (.inl z) ∧ ((((-3) ≤ z.toInt ∧ z.toInt ≤ 0)) ∧ (z = s_row a0.toInt a1.toInt a2.toInt) ∧ True)
set_option maxHeartbeats 4000000 in
set_option maxRecDepth 100000 in
theorem g_X9_row (h : PH) (hI : INV h) (a0 : Int32) (a1 : Int32) (a2 : Int32) : CALL d_X9_row [.inr (.inr (.inl 96)), .inl a0, .inl a1, .inl a2] h (qg_X9_row h a0 a1 a2) := by
  show RUN d_X9_row 0 [(0, .inr (.inr (.inl 96))), (1, .inl a0), (2, .inl a1), (3, .inl a2)] [] h _
  have b1 := i_rng a0
  have b2 := i_rng a1
  have b3 := i_rng a2
  have fr : FR [127, 128, 129] h h := FR.rf _ _
  refine R_iload_n (k := 1) rfl rfl rfl ?_
  refine R_callS (As := [.inl a0]) (rest := []) rfl mt_9_i440 (by decide) pp_X9_isSlot (by decide) rfl rfl (Nat.le_of_ble_eq_true rfl) (Nat.le_of_ble_eq_true rfl) ((k_X9_isSlot h hI a0).mono (fun r4 h5 p6 => ?_))
  obtain ⟨rfl, x7, rfl, q8 | q8 | q8⟩ := p6
  · show RUN d_X9_row 4 [(0, .inr (.inr (.inl 96))), (1, .inl a0), (2, .inl a1), (3, .inl a2)] [.inl x7] h _
    refine N_if_eq (a := x7.toInt) 25 rfl rfl rfl (fun c9 => ?_) (fun c9 => ?_)
    · refine R_bipush (-2) rfl rfl ?_
      have k10 : ((-2) : Int32).toInt = (-2) := by decide
      exact R_iret rfl rfl rfl ⟨hI, fr, ⟨row_no (by omega) rfl, row_no (by omega) rfl, trivial⟩, _, rfl, ⟨by rw [show ((-2) : Int32).toInt = (-2) from rfl] <;> omega, (by unfold s_row; rw [if_pos (by omega)]), trivial⟩⟩
    · exfalso; omega
  · show RUN d_X9_row 4 [(0, .inr (.inr (.inl 96))), (1, .inl a0), (2, .inl a1), (3, .inl a2)] [.inl x7] h _
    refine N_if_eq (a := x7.toInt) 25 rfl rfl rfl (fun c11 => ?_) (fun c11 => ?_)
    · refine R_bipush (-2) rfl rfl ?_
      have k12 : ((-2) : Int32).toInt = (-2) := by decide
      exact R_iret rfl rfl rfl ⟨hI, fr, ⟨row_no (by omega) rfl, row_no (by omega) rfl, trivial⟩, _, rfl, ⟨by rw [show ((-2) : Int32).toInt = (-2) from rfl] <;> omega, (by unfold s_row; rw [if_pos (by omega)]), trivial⟩⟩
    · exfalso; omega
  · show RUN d_X9_row 4 [(0, .inr (.inr (.inl 96))), (1, .inl a0), (2, .inl a1), (3, .inl a2)] [.inl x7] h _
    refine N_if_eq (a := x7.toInt) 25 rfl rfl rfl (fun c13 => ?_) (fun c13 => ?_)
    · exfalso; omega
    · refine R_iload_n (k := 2) rfl rfl rfl ?_
      refine N_i2l rfl (fun w14 q15 => ?_)
      refine R_lconst 0 rfl rfl ?_
      refine R_ldc2 (x := 3) rfl kt_9_529 ?_
      have k16 : (0 : Int64).toInt = 0 := by decide
      have k17 : (3 : Int64).toInt = 3 := by decide
      refine R_callS (As := [.inr (.inl w14), .inr (.inl 0), .inr (.inl 3)]) (rest := []) rfl mt_9_i125 (by decide) pp_X9_in (by decide) rfl rfl (Nat.le_of_ble_eq_true rfl) (Nat.le_of_ble_eq_true rfl) ((k_X9_in h hI w14 (0 : Int64) (3 : Int64)).mono (fun r18 h19 p20 => ?_))
      obtain ⟨rfl, x21, rfl, q22 | q22 | q22⟩ := p20
      · show RUN d_X9_row 16 [(0, .inr (.inr (.inl 96))), (1, .inl a0), (2, .inl a1), (3, .inl a2)] [.inl x21] h _
        refine N_if_eq (a := x21.toInt) 25 rfl rfl rfl (fun c23 => ?_) (fun c23 => ?_)
        · refine R_bipush (-2) rfl rfl ?_
          have k24 : ((-2) : Int32).toInt = (-2) := by decide
          exact R_iret rfl rfl rfl ⟨hI, fr, ⟨row_no (by omega) rfl, row_no (by omega) rfl, trivial⟩, _, rfl, ⟨by rw [show ((-2) : Int32).toInt = (-2) from rfl] <;> omega, (by unfold s_row; rw [if_pos (by omega)]), trivial⟩⟩
        · exfalso; omega
      · show RUN d_X9_row 16 [(0, .inr (.inr (.inl 96))), (1, .inl a0), (2, .inl a1), (3, .inl a2)] [.inl x21] h _
        refine N_if_eq (a := x21.toInt) 25 rfl rfl rfl (fun c25 => ?_) (fun c25 => ?_)
        · refine R_bipush (-2) rfl rfl ?_
          have k26 : ((-2) : Int32).toInt = (-2) := by decide
          exact R_iret rfl rfl rfl ⟨hI, fr, ⟨row_no (by omega) rfl, row_no (by omega) rfl, trivial⟩, _, rfl, ⟨by rw [show ((-2) : Int32).toInt = (-2) from rfl] <;> omega, (by unfold s_row; rw [if_pos (by omega)]), trivial⟩⟩
        · exfalso; omega
      · show RUN d_X9_row 16 [(0, .inr (.inr (.inl 96))), (1, .inl a0), (2, .inl a1), (3, .inl a2)] [.inl x21] h _
        refine N_if_eq (a := x21.toInt) 25 rfl rfl rfl (fun c27 => ?_) (fun c27 => ?_)
        · exfalso; omega
        · refine R_iload_n (k := 3) rfl rfl rfl ?_
          refine R_bipush 60 rfl rfl ?_
          refine N_icmp_le (a := a2.toInt) (b := 60) 28 rfl rfl rfl (by decide) (fun c28 => ?_) (fun c28 => ?_)
          · refine R_iload_n (k := 3) rfl rfl rfl ?_
            refine N_if_ge (a := a2.toInt) 35 rfl rfl rfl (fun c29 => ?_) (fun c29 => ?_)
            · refine R_aload_n (k := 0) rfl rfl rfl ?_
              refine R_getf_r (j := 57) rfl ft_9_107 sh_96 rfl ?_
              refine R_iload_n (k := 1) rfl rfl rfl ?_
              refine R_iload_n (k := 3) rfl rfl rfl ?_
              refine K_iast (a := a0.toInt) (lo := (-1)) (hi' := 60) rfl sh_127 rfl ⟨by omega, by omega⟩ hI (by decide) rfl (by omega) fr (by decide) (fun h30 g31 hI fr => ?_)
              refine R_aload_n (k := 0) rfl rfl rfl ?_
              refine R_getf_r (j := 58) rfl ft_9_110 sh_96 rfl ?_
              refine R_iload_n (k := 1) rfl rfl rfl ?_
              refine R_iload_n (k := 2) rfl rfl rfl ?_
              refine K_iast (a := a0.toInt) (lo := (-2147483648)) (hi' := 2147483647) rfl sh_128 rfl ⟨by omega, by omega⟩ hI (by decide) rfl (i_rng _) fr (by decide) (fun h32 g33 hI fr => ?_)
              have hR1 : h32.1 127 = upd (h.1 127) a0.toNatClampNeg a2 := by rw [g33, wI_ne _ _ _ (by decide), g31, wI_self]
              have hR2 : h32.1 128 = upd (h.1 128) a0.toNatClampNeg a1 := by rw [g33, wI_self, g31, wI_ne _ _ _ (by decide)]
              refine R_iconst 0 rfl rfl ?_
              refine R_istore (k := 4) [(4, .inl 0), (0, .inr (.inr (.inl 96))), (1, .inl a0), (2, .inl a1), (3, .inl a2)] rfl rfl (by decide) ?_
              have lp35 : ∀ (n34 : Nat) (h36 : PH) (x38 : Int32), INV h36 → FR [127, 128, 129] h h36 → FR [129] h32 h36 → 0 ≤ x38.toInt ∧ x38.toInt ≤ 60 → (h36.1 = h32.1) → (60 - x38.toInt).toNat < n34 → RUN d_X9_row 52 [(4, .inl x38), (0, .inr (.inr (.inl 96))), (1, .inl a0), (2, .inl a1), (3, .inl a2)] [] h36 (qg_X9_row h a0 a1 a2) := by
                intro n34
                induction n34 with
                | zero => intro h36 x38 m40 m41 m42 m43 m44 hz; exact absurd hz (Nat.not_lt_zero _)
                | succ n34 ih39 =>
                  intro h36 x38 hI fr fl37 m43 m44 hz
                  refine R_iload (k := 4) rfl rfl ?_
                  refine R_bipush 60 rfl rfl ?_
                  refine N_icmp_ge (a := x38.toInt) (b := 60) 78 rfl rfl rfl (by decide) (fun c45 => ?_) (fun c45 => ?_)
                  · refine R_iconst 0 rfl rfl ?_
                    have k46 : (0 : Int32).toInt = 0 := by decide
                    exact R_iret rfl rfl rfl ⟨hI, fr, ⟨row_of (by omega) (by rw [m44]; exact hR1), row_of (by omega) (by rw [m44]; exact hR2), trivial⟩, _, rfl, ⟨by rw [show (0 : Int32).toInt = 0 from rfl] <;> omega, (by unfold s_row; rw [if_neg (by omega), if_neg (by omega)]), trivial⟩⟩
                  · refine R_aload_n (k := 0) rfl rfl rfl ?_
                    refine R_getf_r (j := 59) rfl ft_9_113 sh_96 rfl ?_
                    refine R_bipush 60 rfl rfl ?_
                    refine R_iload_n (k := 1) rfl rfl rfl ?_
                    refine R_imul rfl ?_
                    refine N_eq (fun x47 e48 => ?_)
                    have q49 : x47.toInt = 60 * a0.toInt := by rw [e48]; exact i_mul (by decide) rfl (by omega)
                    refine R_iload (k := 4) rfl rfl ?_
                    refine R_iadd rfl ?_
                    refine N_eq (fun x50 e51 => ?_)
                    have q52 : x50.toInt = x47.toInt + x38.toInt := by rw [e51]; exact i_add rfl rfl (by omega)
                    refine R_lconst 0 rfl rfl ?_
                    refine K_last (a := x50.toInt) rfl sh_129 rfl ⟨by omega, by omega⟩ hI fr (by decide) (fun h53 g54 hI fr => ?_)
                    have fl37 : FR [129] h32 h53 := by rw [g54]; exact FR_wL _ _ fl37 (by decide)
                    refine N_iinc (a := x38.toInt) (c := 1) (fun w => [(4, .inl w), (0, .inr (.inr (.inl 96))), (1, .inl a0), (2, .inl a1), (3, .inl a2)]) rfl rfl (fun _ => rfl) (by decide) rfl (by decide) (by omega) (fun x55 q56 => ?_)
                    refine R_goto 52 rfl rfl ?_
                    exact RUN_weak (psub_cons rfl (psub_cons rfl (psub_cons rfl (psub_cons rfl (psub_cons rfl (psub_nil _)))))) (ih39 h53 x55 hI fr fl37 (by omega) (by rw [g54, wL_fst]; exact m44) (by omega))
              have k57 : (0 : Int32).toInt = 0 := by decide
              exact lp35 _ h32 (0 : Int32) hI fr (FR.rf _ _) (by decide) (rfl) (Nat.lt_succ_self _)
            · refine R_bipush (-3) rfl rfl ?_
              have k58 : ((-3) : Int32).toInt = (-3) := by decide
              exact R_iret rfl rfl rfl ⟨hI, fr, ⟨row_no (by omega) rfl, row_no (by omega) rfl, trivial⟩, _, rfl, ⟨by rw [show ((-3) : Int32).toInt = (-3) from rfl] <;> omega, (by unfold s_row; rw [if_neg (by omega), if_pos (by omega)]), trivial⟩⟩
          · refine R_bipush (-2) rfl rfl ?_
            have k59 : ((-2) : Int32).toInt = (-2) := by decide
            exact R_iret rfl rfl rfl ⟨hI, fr, ⟨row_no (by omega) rfl, row_no (by omega) rfl, trivial⟩, _, rfl, ⟨by rw [show ((-2) : Int32).toInt = (-2) from rfl] <;> omega, (by unfold s_row; rw [if_pos (by omega)]), trivial⟩⟩
