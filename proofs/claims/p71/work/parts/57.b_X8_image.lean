abbrev qg_X8_image (h : PH) (a0 : Int32) : Option PV → PH → Prop := fun r h' => INV h' ∧ FR [29, 30, 31, 32, 33, 34, 35, 36, 37, 38, 39, 41, 42, 43, 44, 45, 46, 47, 48, 49, 50, 51, 53, 54, 55, 56, 57, 58, 59, 60, 61, 62, 63, 65] h h' ∧ ((h'.1 65 = imgR (h.1 65) a0) ∧ True) ∧ ∃ z : Int32, r = some (.inl z) ∧ ((((-2) ≤ z.toInt ∧ z.toInt ≤ 0)) ∧ (z = s_image a0.toInt) ∧ True)
set_option maxHeartbeats 4000000 in
set_option maxRecDepth 100000 in
theorem g_X8_image (h : PH) (hI : INV h) (a0 : Int32) : CALL d_X8_image [.inr (.inr (.inl 0)), .inl a0] h (qg_X8_image h a0) := by
  show RUN d_X8_image 0 [(0, .inr (.inr (.inl 0))), (1, .inl a0)] [] h _
  have b1 := i_rng a0
  have fr : FR [29, 30, 31, 32, 33, 34, 35, 36, 37, 38, 39, 41, 42, 43, 44, 45, 46, 47, 48, 49, 50, 51, 53, 54, 55, 56, 57, 58, 59, 60, 61, 62, 63, 65] h h := FR.rf _ _
  refine R_iload_n (k := 1) rfl rfl rfl ?_
  refine N_if_lt (a := a0.toInt) 9 rfl rfl rfl (fun c2 => ?_) (fun c2 => ?_)
  · refine R_bipush (-2) rfl rfl ?_
    have k3 : ((-2) : Int32).toInt = (-2) := by decide
    exact R_iret rfl rfl rfl ⟨hI, fr, ⟨(by unfold imgR; rw [if_neg (by omega)]), trivial⟩, _, rfl, ⟨by rw [show ((-2) : Int32).toInt = (-2) from rfl] <;> omega, (by unfold s_image; rw [if_neg (by omega)]), trivial⟩⟩
  · refine R_iload_n (k := 1) rfl rfl rfl ?_
    refine R_iconst 3 rfl rfl ?_
    refine N_icmp_lt (a := a0.toInt) (b := 3) 12 rfl rfl rfl (by decide) (fun c4 => ?_) (fun c4 => ?_)
    · refine R_aload_n (k := 0) rfl rfl rfl ?_
      refine R_getf_r (j := 4) rfl ft_8_31 sh_0 rfl ?_
      refine R_iload_n (k := 1) rfl rfl rfl ?_
      rcases (show a0.toInt = 0 ∨ a0.toInt = 1 ∨ a0.toInt = 2 by omega) with c5 | c5 | c5
      · refine R_aald 28 rfl sh_64 ⟨by omega, by show a0.toInt < (3 : Int); omega⟩ (by rw [tnc (n := 0) c5]; rfl) ?_
        refine R_aload_n (k := 0) rfl rfl rfl ?_
        refine R_getf_r (j := 3) rfl ft_8_28 sh_0 rfl ?_
        refine R_callV (v := .inr (.inr (.inl 28))) (As := [.inr (.inr (.inl 16))]) (rest := []) rfl mt_8_i102 pp_X1_copyFrom (by decide) rfl rfl rfl (Nat.le_of_ble_eq_true rfl) (Nat.le_of_ble_eq_true rfl) ((k_X1_copyFrom_1 h hI).mono (fun r6 h7 p8 => ?_))
        obtain ⟨hJ, fj, -, rfl⟩ := p8
        have f9 := fj
        have fr := fr.trans fj (by decide)
        have hI := hJ
        show RUN d_X8_image 25 [(0, .inr (.inr (.inl 0))), (1, .inl a0)] [] h7 _
        have hr0 : h7.1 65 = h.1 65 := (f9 65 (by decide)).1
        refine R_aload_n (k := 0) rfl rfl rfl ?_
        refine R_getf_r (j := 5) rfl ft_8_35 sh_0 rfl ?_
        refine R_iload_n (k := 1) rfl rfl rfl ?_
        refine R_iconst 1 rfl rfl ?_
        refine K_zast (a := a0.toInt) rfl sh_65 rfl ⟨by omega, by omega⟩ hI (by decide) rfl fr (by decide) (fun h10 g11 hI fr => ?_)
        refine R_iconst 0 rfl rfl ?_
        have k12 : (0 : Int32).toInt = 0 := by decide
        exact R_iret rfl rfl rfl ⟨hI, fr, ⟨img_row (by omega) (by rw [g11, wI_self, hr0]), trivial⟩, _, rfl, ⟨by rw [show (0 : Int32).toInt = 0 from rfl] <;> omega, (by unfold s_image; rw [if_pos (by omega)]), trivial⟩⟩
      · refine R_aald 40 rfl sh_64 ⟨by omega, by show a0.toInt < (3 : Int); omega⟩ (by rw [tnc (n := 1) c5]; rfl) ?_
        refine R_aload_n (k := 0) rfl rfl rfl ?_
        refine R_getf_r (j := 3) rfl ft_8_28 sh_0 rfl ?_
        refine R_callV (v := .inr (.inr (.inl 40))) (As := [.inr (.inr (.inl 16))]) (rest := []) rfl mt_8_i102 pp_X1_copyFrom (by decide) rfl rfl rfl (Nat.le_of_ble_eq_true rfl) (Nat.le_of_ble_eq_true rfl) ((k_X1_copyFrom_2 h hI).mono (fun r13 h14 p15 => ?_))
        obtain ⟨hJ, fj, -, rfl⟩ := p15
        have f16 := fj
        have fr := fr.trans fj (by decide)
        have hI := hJ
        show RUN d_X8_image 25 [(0, .inr (.inr (.inl 0))), (1, .inl a0)] [] h14 _
        have hr0 : h14.1 65 = h.1 65 := (f16 65 (by decide)).1
        refine R_aload_n (k := 0) rfl rfl rfl ?_
        refine R_getf_r (j := 5) rfl ft_8_35 sh_0 rfl ?_
        refine R_iload_n (k := 1) rfl rfl rfl ?_
        refine R_iconst 1 rfl rfl ?_
        refine K_zast (a := a0.toInt) rfl sh_65 rfl ⟨by omega, by omega⟩ hI (by decide) rfl fr (by decide) (fun h17 g18 hI fr => ?_)
        refine R_iconst 0 rfl rfl ?_
        have k19 : (0 : Int32).toInt = 0 := by decide
        exact R_iret rfl rfl rfl ⟨hI, fr, ⟨img_row (by omega) (by rw [g18, wI_self, hr0]), trivial⟩, _, rfl, ⟨by rw [show (0 : Int32).toInt = 0 from rfl] <;> omega, (by unfold s_image; rw [if_pos (by omega)]), trivial⟩⟩
      · refine R_aald 52 rfl sh_64 ⟨by omega, by show a0.toInt < (3 : Int); omega⟩ (by rw [tnc (n := 2) c5]; rfl) ?_
        refine R_aload_n (k := 0) rfl rfl rfl ?_
        refine R_getf_r (j := 3) rfl ft_8_28 sh_0 rfl ?_
        refine R_callV (v := .inr (.inr (.inl 52))) (As := [.inr (.inr (.inl 16))]) (rest := []) rfl mt_8_i102 pp_X1_copyFrom (by decide) rfl rfl rfl (Nat.le_of_ble_eq_true rfl) (Nat.le_of_ble_eq_true rfl) ((k_X1_copyFrom_3 h hI).mono (fun r20 h21 p22 => ?_))
        obtain ⟨hJ, fj, -, rfl⟩ := p22
        have f23 := fj
        have fr := fr.trans fj (by decide)
        have hI := hJ
        show RUN d_X8_image 25 [(0, .inr (.inr (.inl 0))), (1, .inl a0)] [] h21 _
        have hr0 : h21.1 65 = h.1 65 := (f23 65 (by decide)).1
        refine R_aload_n (k := 0) rfl rfl rfl ?_
        refine R_getf_r (j := 5) rfl ft_8_35 sh_0 rfl ?_
        refine R_iload_n (k := 1) rfl rfl rfl ?_
        refine R_iconst 1 rfl rfl ?_
        refine K_zast (a := a0.toInt) rfl sh_65 rfl ⟨by omega, by omega⟩ hI (by decide) rfl fr (by decide) (fun h24 g25 hI fr => ?_)
        refine R_iconst 0 rfl rfl ?_
        have k26 : (0 : Int32).toInt = 0 := by decide
        exact R_iret rfl rfl rfl ⟨hI, fr, ⟨img_row (by omega) (by rw [g25, wI_self, hr0]), trivial⟩, _, rfl, ⟨by rw [show (0 : Int32).toInt = 0 from rfl] <;> omega, (by unfold s_image; rw [if_pos (by omega)]), trivial⟩⟩
    · refine R_bipush (-2) rfl rfl ?_
      have k27 : ((-2) : Int32).toInt = (-2) := by decide
      exact R_iret rfl rfl rfl ⟨hI, fr, ⟨(by unfold imgR; rw [if_neg (by omega)]), trivial⟩, _, rfl, ⟨by rw [show ((-2) : Int32).toInt = (-2) from rfl] <;> omega, (by unfold s_image; rw [if_neg (by omega)]), trivial⟩⟩
