abbrev qg_X9_change (h : PH) (a0 : Int32) (a1 : Int32) : Option PV → PH → Prop := fun r h' => INV h' ∧ FR [105] h h' ∧ ((h'.1 105 = swp (h.1 105) a0.toNatClampNeg a1.toNatClampNeg) ∧ True) ∧ r = none
set_option maxHeartbeats 4000000 in
set_option maxRecDepth 100000 in
theorem g_X9_change (h : PH) (hI : INV h) (a0 : Int32) (a1 : Int32) (h0a : 0 ≤ a0.toInt ∧ a0.toInt ≤ 4) (h1a : 1 ≤ a1.toInt ∧ a1.toInt ≤ 5) : CALL d_X9_change [.inr (.inr (.inl 96)), .inl a0, .inl a1] h (qg_X9_change h a0 a1) := by
  show RUN d_X9_change 0 [(0, .inr (.inr (.inl 96))), (1, .inl a0), (2, .inl a1)] [] h _
  have fr : FR [105] h h := FR.rf _ _
  refine R_aload_n (k := 0) rfl rfl rfl ?_
  refine R_getf_r (j := 17) rfl ft_9_40 sh_96 rfl ?_
  refine R_iload_n (k := 1) rfl rfl rfl ?_
  refine R_iald rfl sh_105 ⟨by omega, by omega⟩ ?_
  refine N_eq (fun x1 e2 => ?_)
  have q3 : 0 ≤ x1.toInt ∧ x1.toInt ≤ 5 := by rw [e2]; exact hI.1 105 _
  refine R_istore_n (k := 3) rfl [(3, .inl x1), (0, .inr (.inr (.inl 96))), (1, .inl a0), (2, .inl a1)] rfl rfl (by decide) ?_
  refine R_aload_n (k := 0) rfl rfl rfl ?_
  refine R_getf_r (j := 17) rfl ft_9_40 sh_96 rfl ?_
  refine R_iload_n (k := 1) rfl rfl rfl ?_
  refine R_aload_n (k := 0) rfl rfl rfl ?_
  refine R_getf_r (j := 17) rfl ft_9_40 sh_96 rfl ?_
  refine R_iload_n (k := 2) rfl rfl rfl ?_
  refine R_iald rfl sh_105 ⟨by omega, by omega⟩ ?_
  refine N_eq (fun x4 e5 => ?_)
  have q6 : 0 ≤ x4.toInt ∧ x4.toInt ≤ 5 := by rw [e5]; exact hI.1 105 _
  refine K_iast (a := a0.toInt) (lo := 0) (hi' := 5) rfl sh_105 rfl ⟨by omega, by omega⟩ hI (by decide) rfl (by omega) fr (by decide) (fun h7 g8 hI fr => ?_)
  refine R_aload_n (k := 0) rfl rfl rfl ?_
  refine R_getf_r (j := 17) rfl ft_9_40 sh_96 rfl ?_
  refine R_iload_n (k := 2) rfl rfl rfl ?_
  refine R_iload_n (k := 3) rfl rfl rfl ?_
  refine K_iast (a := a1.toInt) (lo := 0) (hi' := 5) rfl sh_105 rfl ⟨by omega, by omega⟩ hI (by decide) rfl (by omega) fr (by decide) (fun h9 g10 hI fr => ?_)
  exact R_vret rfl rfl ⟨hI, fr, ⟨swp_row e2 e5 g8 g10, trivial⟩, rfl⟩

abbrev qg_X9_nextLine (h : PH)  : Option PV → PH → Prop := fun r h' => INV h' ∧ FR [105] h h' ∧ ((INJ6 (h'.1 105)) ∧ True) ∧ ∃ z : Int32, r = some (.inl z) ∧ (((z.toInt = 0) ∨ (z.toInt = 1 ∧ 1 ≤ (h.1 97 0).toInt ∧ (h.1 97 0).toInt ≤ 60 ∧ 2 ≤ (h.1 97 5).toInt ∧ (h.1 97 5).toInt ≤ 6)) ∧ ((rkL (h.1 105) : Int) + z.toInt ≤ (rkL (h'.1 105) : Int)) ∧ True)
set_option maxHeartbeats 4000000 in
set_option maxRecDepth 100000 in
theorem g_X9_nextLine (h : PH) (hI : INV h) (xp0 : INJ6 (h.1 105)) : CALL d_X9_nextLine [.inr (.inr (.inl 96))] h (qg_X9_nextLine h) := by
  show RUN d_X9_nextLine 0 [(0, .inr (.inr (.inl 96)))] [] h _
  have fr : FR [105] h h := FR.rf _ _
  have hI0 := hI
  refine R_aload_n (k := 0) rfl rfl rfl ?_
  have b1 : (0 : Int) ≤ (h.1 97 5).toInt ∧ (h.1 97 5).toInt ≤ 6 := hI.1 97 5
  have b2 : (0 : Int) ≤ (h.1 97 0).toInt ∧ (h.1 97 0).toInt ≤ 60 := hI.1 97 0
  have e3 : 0 < (h.1 97 5).toInt → 1 ≤ (h.1 97 0).toInt := hI.2.2.2.2.2.1.2.2
  refine R_callV (v := .inr (.inr (.inl 96))) (As := []) (rest := []) rfl mt_9_i133 pp_X9_hands (by decide) rfl rfl rfl (Nat.le_of_ble_eq_true rfl) (Nat.le_of_ble_eq_true rfl) ((k_X9_hands h hI).mono (fun r4 h5 p6 => ?_))
  obtain ⟨rfl, x7, rfl, q8⟩ := p6
  show RUN d_X9_nextLine 4 [(0, .inr (.inr (.inl 96)))] [.inl x7] h _
  refine R_istore_n (k := 1) rfl [(1, .inl x7), (0, .inr (.inr (.inl 96)))] rfl rfl (by decide) ?_
  refine R_iload_n (k := 1) rfl rfl rfl ?_
  refine R_iconst 2 rfl rfl ?_
  refine R_isub rfl ?_
  refine N_eq (fun x9 e10 => ?_)
  have q11 : x9.toInt = x7.toInt - 2 := by rw [e10]; exact i_sub rfl (by decide) (by omega)
  refine R_istore_n (k := 2) rfl [(2, .inl x9), (1, .inl x7), (0, .inr (.inr (.inl 96)))] rfl rfl (by decide) ?_
  have lp13 : ∀ (n12 : Nat) (h14 : PH) (x16 : Int32), INV h14 → FR [105] h h14 → FR [105] h h14 → (-2) ≤ x16.toInt ∧ x16.toInt ≤ 4 → x16.toInt ≤ x7.toInt + (-2) → x16.toInt ≤ (h.1 97 5).toInt + (-2) → (h14.1 105 = h.1 105) → (x16.toInt - (-2)).toNat < n12 → RUN d_X9_nextLine 9 [(2, .inl x16), (1, .inl x7), (0, .inr (.inr (.inl 96)))] [] h14 (qg_X9_nextLine h) := by
    intro n12
    induction n12 with
    | zero => intro h14 x16 m18 m19 m20 m21 m22 m23 m24 hz; exact absurd hz (Nat.not_lt_zero _)
    | succ n12 ih17 =>
      intro h14 x16 hI fr fl15 m21 m22 m23 m24 hz
      have s25 : (h14.1 97 5).toInt = (h.1 97 5).toInt := by rw [(fl15 97 (by decide)).1]
      have s26 : (h14.1 97 0).toInt = (h.1 97 0).toInt := by rw [(fl15 97 (by decide)).1]
      refine R_iload_n (k := 2) rfl rfl rfl ?_
      refine N_if_lt (a := x16.toInt) 36 rfl rfl rfl (fun c27 => ?_) (fun c27 => ?_)
      · refine R_iload_n (k := 2) rfl rfl rfl ?_
        refine N_if_ge (a := x16.toInt) 42 rfl rfl rfl (fun c28 => ?_) (fun c28 => ?_)
        · exfalso; omega
        · refine R_iconst 0 rfl rfl ?_
          have k29 : (0 : Int32).toInt = 0 := by decide
          have s30 : (h14.1 97 0).toInt = (h.1 97 0).toInt := by rw [(fr 97 (by decide)).1]
          have s31 : (h14.1 97 5).toInt = (h.1 97 5).toInt := by rw [(fr 97 (by decide)).1]
          exact R_iret rfl rfl rfl ⟨hI, fr, ⟨INJ6_of m24 xp0, trivial⟩, _, rfl, ⟨by rw [show (0 : Int32).toInt = 0 from rfl] <;> omega, (by rw [m24, show (0 : Int32).toInt = 0 from rfl]; omega), trivial⟩⟩
      · refine R_aload_n (k := 0) rfl rfl rfl ?_
        refine R_getf_r (j := 17) rfl ft_9_40 sh_96 rfl ?_
        refine R_iload_n (k := 2) rfl rfl rfl ?_
        refine R_iald rfl sh_105 ⟨by omega, by omega⟩ ?_
        refine N_eq (fun x32 e33 => ?_)
        have q34 : 0 ≤ x32.toInt ∧ x32.toInt ≤ 5 := by rw [e33]; exact hI.1 105 _
        refine R_aload_n (k := 0) rfl rfl rfl ?_
        refine R_getf_r (j := 17) rfl ft_9_40 sh_96 rfl ?_
        refine R_iload_n (k := 2) rfl rfl rfl ?_
        refine R_iconst 1 rfl rfl ?_
        refine R_iadd rfl ?_
        refine N_eq (fun x35 e36 => ?_)
        have q37 : x35.toInt = x16.toInt + 1 := by rw [e36]; exact i_add rfl (by decide) (by omega)
        refine R_iald rfl sh_105 ⟨by omega, by omega⟩ ?_
        refine N_eq (fun x38 e39 => ?_)
        have q40 : 0 ≤ x38.toInt ∧ x38.toInt ≤ 5 := by rw [e39]; exact hI.1 105 _
        refine N_icmp_le (a := x32.toInt) (b := x38.toInt) 36 rfl rfl rfl rfl (fun c41 => ?_) (fun c41 => ?_)
        · rw [m24] at e33 e39
          refine R_iload_n (k := 2) rfl rfl rfl ?_
          refine N_if_ge (a := x16.toInt) 42 rfl rfl rfl (fun c42 => ?_) (fun c42 => ?_)
          · refine R_iload_n (k := 1) rfl rfl rfl ?_
            refine R_iconst 1 rfl rfl ?_
            refine R_isub rfl ?_
            refine N_eq (fun x43 e44 => ?_)
            have q45 : x43.toInt = x7.toInt - 1 := by rw [e44]; exact i_sub rfl (by decide) (by omega)
            refine R_istore_n (k := 3) rfl [(3, .inl x43), (2, .inl x16), (1, .inl x7), (0, .inr (.inr (.inl 96)))] rfl rfl (by decide) ?_
            have lp47 : ∀ (n46 : Nat) (h48 : PH) (x50 : Int32), INV h48 → FR [105] h h48 → FR [105] h14 h48 → 1 ≤ x50.toInt ∧ x50.toInt ≤ 5 → x50.toInt ≤ x7.toInt + (-1) → x50.toInt ≤ x7.toInt + 0 → x50.toInt ≤ (h14.1 97 5).toInt + (-1) → x50.toInt ≤ (h14.1 97 5).toInt + 0 → (h48.1 105 = h.1 105) → (x16.toInt + 1 ≤ x50.toInt) → (x50.toInt - 1).toNat < n46 → RUN d_X9_nextLine 46 [(3, .inl x50), (2, .inl x16), (1, .inl x7), (0, .inr (.inr (.inl 96)))] [] h48 (qg_X9_nextLine h) := by
              intro n46
              induction n46 with
              | zero => intro h48 x50 m52 m53 m54 m55 m56 m57 m58 m59 m60 m61 hz; exact absurd hz (Nat.not_lt_zero _)
              | succ n46 ih51 =>
                intro h48 x50 hI fr fl49 m55 m56 m57 m58 m59 m60 m61 hz
                have s62 : (h48.1 97 5).toInt = (h14.1 97 5).toInt := by rw [(fl49 97 (by decide)).1]
                have s63 : (h48.1 97 0).toInt = (h14.1 97 0).toInt := by rw [(fl49 97 (by decide)).1]
                have fl15 : FR [105] h h48 := fl15.trans fl49 (by decide)
                refine R_aload_n (k := 0) rfl rfl rfl ?_
                refine R_getf_r (j := 17) rfl ft_9_40 sh_96 rfl ?_
                refine R_iload_n (k := 3) rfl rfl rfl ?_
                refine R_iald rfl sh_105 ⟨by omega, by omega⟩ ?_
                refine N_eq (fun x64 e65 => ?_)
                have q66 : 0 ≤ x64.toInt ∧ x64.toInt ≤ 5 := by rw [e65]; exact hI.1 105 _
                refine R_aload_n (k := 0) rfl rfl rfl ?_
                refine R_getf_r (j := 17) rfl ft_9_40 sh_96 rfl ?_
                refine R_iload_n (k := 2) rfl rfl rfl ?_
                refine R_iald rfl sh_105 ⟨by omega, by omega⟩ ?_
                refine N_eq (fun x67 e68 => ?_)
                have q69 : 0 ≤ x67.toInt ∧ x67.toInt ≤ 5 := by rw [e68]; exact hI.1 105 _
                rw [m60] at e65 e68
                refine N_icmp_ge (a := x64.toInt) (b := x67.toInt) 67 rfl rfl rfl rfl (fun c70 => ?_) (fun c70 => ?_)
                · refine R_aload_n (k := 0) rfl rfl rfl ?_
                  refine R_iload_n (k := 2) rfl rfl rfl ?_
                  refine R_iload_n (k := 3) rfl rfl rfl ?_
                  refine R_callV (v := .inr (.inr (.inl 96))) (As := [.inl x16, .inl x50]) (rest := []) rfl mt_9_i405 pp_X9_change (by decide) rfl rfl rfl (Nat.le_of_ble_eq_true rfl) (Nat.le_of_ble_eq_true rfl) ((g_X9_change h48 hI x16 x50 (by omega) (by omega)).mono (fun r71 h72 p73 => ?_))
                  obtain ⟨hJ, fj, ⟨xq74, -⟩, rfl⟩ := p73
                  have f75 := fj
                  have fr := fr.trans fj (by decide)
                  have hI := hJ
                  have fl49 : FR [105] h14 h72 := fl49.trans fj (by decide)
                  have fl15 : FR [105] h h72 := fl15.trans fj (by decide)
                  have s76 : (h72.1 97 5).toInt = (h48.1 97 5).toInt := by rw [(f75 97 (by decide)).1]
                  have s77 : (h72.1 97 0).toInt = (h48.1 97 0).toInt := by rw [(f75 97 (by decide)).1]
                  show RUN d_X9_nextLine 73 [(3, .inl x50), (2, .inl x16), (1, .inl x7), (0, .inr (.inr (.inl 96)))] [] h72 _
                  rw [m60] at xq74
                  have hL := LN_first xq74 xp0 (by omega) (by omega) (by omega) e68 e65 (by omega)
                  refine R_iload_n (k := 2) rfl rfl rfl ?_
                  refine R_iconst 1 rfl rfl ?_
                  refine R_iadd rfl ?_
                  refine N_eq (fun x78 e79 => ?_)
                  have q80 : x78.toInt = x16.toInt + 1 := by rw [e79]; exact i_add rfl (by decide) (by omega)
                  refine R_istore (k := 4) [(4, .inl x78), (3, .inl x50), (2, .inl x16), (1, .inl x7), (0, .inr (.inr (.inl 96)))] rfl rfl (by decide) ?_
                  refine R_iload_n (k := 1) rfl rfl rfl ?_
                  refine R_iconst 1 rfl rfl ?_
                  refine R_isub rfl ?_
                  refine N_eq (fun x81 e82 => ?_)
                  have q83 : x81.toInt = x7.toInt - 1 := by rw [e82]; exact i_sub rfl (by decide) (by omega)
                  refine R_istore (k := 5) [(5, .inl x81), (4, .inl x78), (3, .inl x50), (2, .inl x16), (1, .inl x7), (0, .inr (.inr (.inl 96)))] rfl rfl (by decide) ?_
                  have lp85 : ∀ (n84 : Nat) (h86 : PH) (x88 : Int32) (x89 : Int32), INV h86 → FR [105] h h86 → FR [105] h72 h86 → 1 ≤ x88.toInt ∧ x88.toInt ≤ 5 → 1 ≤ x89.toInt ∧ x89.toInt ≤ 5 → x16.toInt ≤ x88.toInt + (-1) → x16.toInt ≤ x88.toInt + 0 → x88.toInt ≤ x7.toInt + (-1) → x88.toInt ≤ x7.toInt + 0 → x88.toInt ≤ (h72.1 97 5).toInt + (-1) → x88.toInt ≤ (h72.1 97 5).toInt + 0 → x16.toInt ≤ x89.toInt + (-1) → x16.toInt ≤ x89.toInt + 0 → x89.toInt ≤ x7.toInt + (-1) → x89.toInt ≤ x7.toInt + 0 → x89.toInt ≤ (h72.1 97 5).toInt + (-1) → x89.toInt ≤ (h72.1 97 5).toInt + 0 → (LN (h.1 105) (h86.1 105) x16.toNatClampNeg) → (5 - x88.toInt).toNat < n84 → RUN d_X9_nextLine 83 [(5, .inl x89), (4, .inl x88), (3, .inl x50), (2, .inl x16), (1, .inl x7), (0, .inr (.inr (.inl 96)))] [] h86 (qg_X9_nextLine h) := by
                    intro n84
                    induction n84 with
                    | zero => intro h86 x88 x89 m91 m92 m93 m94 m95 m96 m97 m98 m99 m100 m101 m102 m103 m104 m105 m106 m107 m108 hz; exact absurd hz (Nat.not_lt_zero _)
                    | succ n84 ih90 =>
                      intro h86 x88 x89 hI fr fl87 m94 m95 m96 m97 m98 m99 m100 m101 m102 m103 m104 m105 m106 m107 m108 hz
                      have s109 : (h86.1 97 5).toInt = (h72.1 97 5).toInt := by rw [(fl87 97 (by decide)).1]
                      have s110 : (h86.1 97 0).toInt = (h72.1 97 0).toInt := by rw [(fl87 97 (by decide)).1]
                      have fl49 : FR [105] h14 h86 := fl49.trans fl87 (by decide)
                      have fl15 : FR [105] h h86 := fl15.trans fl87 (by decide)
                      refine R_iload (k := 4) rfl rfl ?_
                      refine R_iload (k := 5) rfl rfl ?_
                      refine N_icmp_ge (a := x88.toInt) (b := x89.toInt) 107 rfl rfl rfl rfl (fun c111 => ?_) (fun c111 => ?_)
                      · refine R_iconst 1 rfl rfl ?_
                        have k112 : (1 : Int32).toInt = 1 := by decide
                        have s113 : (h86.1 97 0).toInt = (h.1 97 0).toInt := by rw [(fr 97 (by decide)).1]
                        have s114 : (h86.1 97 5).toInt = (h.1 97 5).toInt := by rw [(fr 97 (by decide)).1]
                        have rk115 := LN_rk hI0 hI xp0 (nlt (n := 6) ⟨by omega, by omega⟩) m108
                        exact R_iret rfl rfl rfl ⟨hI, fr, ⟨m108.1, trivial⟩, _, rfl, ⟨by rw [show (1 : Int32).toInt = 1 from rfl] <;> omega, (by rw [show (1 : Int32).toInt = 1 from rfl]; omega), trivial⟩⟩
                      · refine R_aload_n (k := 0) rfl rfl rfl ?_
                        refine R_iload (k := 4) rfl rfl ?_
                        refine R_iload (k := 5) rfl rfl ?_
                        refine R_callV (v := .inr (.inr (.inl 96))) (As := [.inl x88, .inl x89]) (rest := []) rfl mt_9_i405 pp_X9_change (by decide) rfl rfl rfl (Nat.le_of_ble_eq_true rfl) (Nat.le_of_ble_eq_true rfl) ((g_X9_change h86 hI x88 x89 (by omega) (by omega)).mono (fun r116 h117 p118 => ?_))
                        obtain ⟨hJ, fj, ⟨xq119, -⟩, rfl⟩ := p118
                        have f120 := fj
                        have fr := fr.trans fj (by decide)
                        have hI := hJ
                        have fl87 : FR [105] h72 h117 := fl87.trans fj (by decide)
                        have fl49 : FR [105] h14 h117 := fl49.trans fj (by decide)
                        have fl15 : FR [105] h h117 := fl15.trans fj (by decide)
                        have s121 : (h117.1 97 5).toInt = (h86.1 97 5).toInt := by rw [(f120 97 (by decide)).1]
                        have s122 : (h117.1 97 0).toInt = (h86.1 97 0).toInt := by rw [(f120 97 (by decide)).1]
                        show RUN d_X9_nextLine 98 [(5, .inl x89), (4, .inl x88), (3, .inl x50), (2, .inl x16), (1, .inl x7), (0, .inr (.inr (.inl 96)))] [] h117 _
                        refine N_iinc (a := x88.toInt) (c := 1) (fun w => [(4, .inl w), (5, .inl x89), (3, .inl x50), (2, .inl x16), (1, .inl x7), (0, .inr (.inr (.inl 96)))]) rfl rfl (fun _ => rfl) (by decide) rfl (by decide) (by omega) (fun x123 q124 => ?_)
                        refine N_iinc (a := x89.toInt) (c := (-1)) (fun w => [(5, .inl w), (4, .inl x123), (3, .inl x50), (2, .inl x16), (1, .inl x7), (0, .inr (.inr (.inl 96)))]) rfl rfl (fun _ => rfl) (by decide) rfl (by decide) (by omega) (fun x125 q126 => ?_)
                        refine R_goto 83 rfl rfl ?_
                        exact RUN_weak (psub_cons rfl (psub_cons rfl (psub_cons rfl (psub_cons rfl (psub_cons rfl (psub_cons rfl (psub_nil _))))))) (ih90 h117 x123 x125 hI fr fl87 (by omega) (by omega) (by omega) (by omega) (by omega) (by omega) (by omega) (by omega) (by omega) (by omega) (by omega) (by omega) (by omega) (by omega) (LN_next xq119 m108 (by omega) (by omega) (by omega) (by omega) (by omega)) (by omega))
                  exact lp85 _ h72 x78 x81 hI fr (FR.rf _ _) (by omega) (by omega) (by omega) (by omega) (by omega) (by omega) (by omega) (by omega) (by omega) (by omega) (by omega) (by omega) (by omega) (by omega) (hL) (Nat.lt_succ_self _)
                · refine N_iinc (a := x50.toInt) (c := (-1)) (fun w => [(3, .inl w), (2, .inl x16), (1, .inl x7), (0, .inr (.inr (.inl 96)))]) rfl rfl (fun _ => rfl) (by decide) rfl (by decide) (by omega) (fun x127 q128 => ?_)
                  refine R_goto 46 rfl rfl ?_
                  have nb129 := nl_back e33 e39 e65 e68 (by omega) m61 (by omega) (by omega)
                  exact RUN_weak (psub_cons rfl (psub_cons rfl (psub_cons rfl (psub_cons rfl (psub_nil _))))) (ih51 h48 x127 hI fr fl49 (by omega) (by omega) (by omega) (by omega) (by omega) (m60) (by omega) (by omega))
            exact lp47 _ h14 x43 hI fr (FR.rf _ _) (by omega) (by omega) (by omega) (by omega) (by omega) (m24) (by omega) (Nat.lt_succ_self _)
          · exfalso; omega
        · refine N_iinc (a := x16.toInt) (c := (-1)) (fun w => [(2, .inl w), (1, .inl x7), (0, .inr (.inr (.inl 96)))]) rfl rfl (fun _ => rfl) (by decide) rfl (by decide) (by omega) (fun x130 q131 => ?_)
          refine R_goto 9 rfl rfl ?_
          exact RUN_weak (psub_cons rfl (psub_cons rfl (psub_cons rfl (psub_nil _)))) (ih17 h14 x130 hI fr fl15 (by omega) (by omega) (by omega) (m24) (by omega))
  exact lp13 _ h x9 hI fr (FR.rf _ _) (by omega) (by omega) (by omega) (rfl) (Nat.lt_succ_self _)

abbrev qg_X9_asksOrders (h : PH)  : Option PV → PH → Prop := fun r h' => INV h' ∧ FR [96, 103, 104, 105, 106, 107, 108, 109, 110, 111, 112, 113, 114, 115, 116, 117, 118, 119, 120, 123] h h' ∧ (True) ∧ ∃ z : Int32, r = some (.inl z) ∧ ((z.toInt = 0 ∧ (h.1 97 10).toInt ≤ 0) ∨ (z.toInt = 1 ∧ 1 ≤ (h.1 97 0).toInt ∧ (h.1 97 0).toInt ≤ 60 ∧ 1 ≤ (h.1 97 10).toInt))
set_option maxHeartbeats 4000000 in
set_option maxRecDepth 100000 in
theorem g_X9_asksOrders (h : PH) (hI : INV h)  : CALL d_X9_asksOrders [.inr (.inr (.inl 96))] h (qg_X9_asksOrders h) := by
  show RUN d_X9_asksOrders 0 [(0, .inr (.inr (.inl 96)))] [] h _
  have fr : FR [96, 103, 104, 105, 106, 107, 108, 109, 110, 111, 112, 113, 114, 115, 116, 117, 118, 119, 120, 123] h h := FR.rf _ _
  refine R_aload_n (k := 0) rfl rfl rfl ?_
  have b1 : (0 : Int) ≤ (h.1 97 0).toInt ∧ (h.1 97 0).toInt ≤ 60 := hI.1 97 0
  have e2 : 0 < (h.1 97 10).toInt → 1 ≤ (h.1 97 0).toInt := hI.2.2.2.2.2.1.2.1
  refine R_callV (v := .inr (.inr (.inl 96))) (As := []) (rest := []) rfl mt_9_i301 pp_X9_isBrigade (by decide) rfl rfl rfl (Nat.le_of_ble_eq_true rfl) (Nat.le_of_ble_eq_true rfl) ((k_X9_isBrigade h hI).mono (fun r3 h4 p5 => ?_))
  obtain ⟨rfl, x6, rfl, q7 | q7⟩ := p5
  · show RUN d_X9_asksOrders 4 [(0, .inr (.inr (.inl 96)))] [.inl x6] h _
    refine N_if_ne (a := x6.toInt) 9 rfl rfl rfl (fun c8 => ?_) (fun c8 => ?_)
    · exfalso; omega
    · refine R_iconst 0 rfl rfl ?_
      exact R_iret rfl rfl rfl ⟨hI, fr, trivial, _, rfl, by rw [show (0 : Int32).toInt = 0 from rfl] <;> omega⟩
  · show RUN d_X9_asksOrders 4 [(0, .inr (.inr (.inl 96)))] [.inl x6] h _
    refine N_if_ne (a := x6.toInt) 9 rfl rfl rfl (fun c9 => ?_) (fun c9 => ?_)
    · refine R_aload_n (k := 0) rfl rfl rfl ?_
      refine R_callV (v := .inr (.inr (.inl 96))) (As := []) (rest := []) rfl mt_9_i298 pp_X9_asItIs (by decide) rfl rfl rfl (Nat.le_of_ble_eq_true rfl) (Nat.le_of_ble_eq_true rfl) ((g_X9_asItIs h hI).mono (fun r10 h11 p12 => ?_))
      obtain ⟨hJ, fj, ⟨kp13, xq14, xq15, xq16, -⟩, rfl⟩ := p12
      have f17 := fj
      have fr := fr.trans fj (by decide)
      have hI := hJ
      have s18 : (h11.1 97 10).toInt = (h.1 97 10).toInt := by rw [(f17 97 (by decide)).1]
      have s19 : (h11.1 97 0).toInt = (h.1 97 0).toInt := by rw [(f17 97 (by decide)).1]
      have b20 : (0 : Int) ≤ (h11.1 97 5).toInt ∧ (h11.1 97 5).toInt ≤ 6 := hI.1 97 5
      have e21 : 0 < (h11.1 97 5).toInt → 1 ≤ (h11.1 97 0).toInt := hI.2.2.2.2.2.1.2.2
      have b22 : (0 : Int) ≤ (h11.1 97 1).toInt ∧ (h11.1 97 1).toInt ≤ 8 := hI.1 97 1
      have b23 : (0 : Int) ≤ (h11.1 96 18).toInt ∧ (h11.1 96 18).toInt ≤ 6 := hI.1 96 18
      show RUN d_X9_asksOrders 13 [(0, .inr (.inr (.inl 96)))] [] h11 _
      have hA := xq14
      refine R_aload_n (k := 0) rfl rfl rfl ?_
      refine R_iconst 0 rfl rfl ?_
      refine K_putf (j := 44) (lo := (-2147483648)) (hi' := 2147483647) rfl ft_9_399 sh_96 rfl hI (by decide) rfl (by decide) fr (by decide) (fun h24 g25 hI fr => ?_)
      have s26 : (h24.1 97 10).toInt = (h11.1 97 10).toInt := by rw [g25, wI_ne _ _ _ (by decide)]
      have s27 : (h24.1 97 0).toInt = (h11.1 97 0).toInt := by rw [g25, wI_ne _ _ _ (by decide)]
      have s28 : (h24.1 97 5).toInt = (h11.1 97 5).toInt := by rw [g25, wI_ne _ _ _ (by decide)]
      have s29 : (h24.1 97 1).toInt = (h11.1 97 1).toInt := by rw [g25, wI_ne _ _ _ (by decide)]
      have s30 : (h24.1 96 18).toInt = (h11.1 96 18).toInt := by rw [g25, wI_at (by decide)]
      have s31 : (h24.1 96 19).toInt = (h11.1 96 19).toInt := by rw [g25, wI_at (by decide)]
      have hA : AIS h24 := by rw [g25]; exact AIS_o (by decide) hA
      have s32 : (h24.1 96 44).toInt = 0 := by rw [g25, wI_is]; rfl
      refine R_aload_n (k := 0) rfl rfl rfl ?_
      refine R_iconst 0 rfl rfl ?_
      refine K_putf (j := 46) (lo := (-2147483648)) (hi' := 2147483647) rfl ft_9_408 sh_96 rfl hI (by decide) rfl (by decide) fr (by decide) (fun h33 g34 hI fr => ?_)
      have s35 : (h33.1 97 10).toInt = (h24.1 97 10).toInt := by rw [g34, wI_ne _ _ _ (by decide)]
      have s36 : (h33.1 97 0).toInt = (h24.1 97 0).toInt := by rw [g34, wI_ne _ _ _ (by decide)]
      have s37 : (h33.1 97 5).toInt = (h24.1 97 5).toInt := by rw [g34, wI_ne _ _ _ (by decide)]
      have s38 : (h33.1 97 1).toInt = (h24.1 97 1).toInt := by rw [g34, wI_ne _ _ _ (by decide)]
      have s39 : (h33.1 96 18).toInt = (h24.1 96 18).toInt := by rw [g34, wI_at (by decide)]
      have s40 : (h33.1 96 19).toInt = (h24.1 96 19).toInt := by rw [g34, wI_at (by decide)]
      have s41 : (h33.1 96 44).toInt = (h24.1 96 44).toInt := by rw [g34, wI_at (by decide)]
      have hA : AIS h33 := by rw [g34]; exact AIS_o (by decide) hA
      have s42 : (h33.1 96 46).toInt = 0 := by rw [g34, wI_is]; rfl
      refine R_aload_n (k := 0) rfl rfl rfl ?_
      refine R_iconst (-1) rfl rfl ?_
      refine K_putf (j := 47) (lo := (-2147483648)) (hi' := 2147483647) rfl ft_9_414 sh_96 rfl hI (by decide) rfl (by decide) fr (by decide) (fun h43 g44 hI fr => ?_)
      have s45 : (h43.1 97 10).toInt = (h33.1 97 10).toInt := by rw [g44, wI_ne _ _ _ (by decide)]
      have s46 : (h43.1 97 0).toInt = (h33.1 97 0).toInt := by rw [g44, wI_ne _ _ _ (by decide)]
      have s47 : (h43.1 97 5).toInt = (h33.1 97 5).toInt := by rw [g44, wI_ne _ _ _ (by decide)]
      have s48 : (h43.1 97 1).toInt = (h33.1 97 1).toInt := by rw [g44, wI_ne _ _ _ (by decide)]
      have s49 : (h43.1 96 18).toInt = (h33.1 96 18).toInt := by rw [g44, wI_at (by decide)]
      have s50 : (h43.1 96 19).toInt = (h33.1 96 19).toInt := by rw [g44, wI_at (by decide)]
      have s51 : (h43.1 96 44).toInt = (h33.1 96 44).toInt := by rw [g44, wI_at (by decide)]
      have s52 : (h43.1 96 46).toInt = (h33.1 96 46).toInt := by rw [g44, wI_at (by decide)]
      have hA : AIS h43 := by rw [g44]; exact AIS_o (by decide) hA
      have s53 : (h43.1 96 47).toInt = (-1) := by rw [g44, wI_is]; rfl
      refine R_aload_n (k := 0) rfl rfl rfl ?_
      refine R_ldcw_i (x := 1000000000) rfl kt_9_417 ?_
      refine K_putf (j := 48) (lo := (-2147483648)) (hi' := 2147483647) rfl ft_9_411 sh_96 rfl hI (by decide) rfl (by decide) fr (by decide) (fun h54 g55 hI fr => ?_)
      have s56 : (h54.1 97 10).toInt = (h43.1 97 10).toInt := by rw [g55, wI_ne _ _ _ (by decide)]
      have s57 : (h54.1 97 0).toInt = (h43.1 97 0).toInt := by rw [g55, wI_ne _ _ _ (by decide)]
      have s58 : (h54.1 97 5).toInt = (h43.1 97 5).toInt := by rw [g55, wI_ne _ _ _ (by decide)]
      have s59 : (h54.1 97 1).toInt = (h43.1 97 1).toInt := by rw [g55, wI_ne _ _ _ (by decide)]
      have s60 : (h54.1 96 18).toInt = (h43.1 96 18).toInt := by rw [g55, wI_at (by decide)]
      have s61 : (h54.1 96 19).toInt = (h43.1 96 19).toInt := by rw [g55, wI_at (by decide)]
      have s62 : (h54.1 96 44).toInt = (h43.1 96 44).toInt := by rw [g55, wI_at (by decide)]
      have s63 : (h54.1 96 46).toInt = (h43.1 96 46).toInt := by rw [g55, wI_at (by decide)]
      have s64 : (h54.1 96 47).toInt = (h43.1 96 47).toInt := by rw [g55, wI_at (by decide)]
      have hA : AIS h54 := by rw [g55]; exact AIS_o (by decide) hA
      have s65 : (h54.1 96 48).toInt = 1000000000 := by rw [g55, wI_is]; rfl
      refine R_iconst 1 rfl rfl ?_
      have hJ0 := AIS_inj hA
      refine R_istore_n (k := 1) rfl [(1, .inl 1), (0, .inr (.inr (.inl 96)))] rfl rfl (by decide) ?_
      have lp67 : ∀ (n66 : Nat) (h68 : PH) (x70 : Int32), INV h68 → FR [96, 103, 104, 105, 106, 107, 108, 109, 110, 111, 112, 113, 114, 115, 116, 117, 118, 119, 120, 123] h h68 → FR [96, 105, 107, 108, 109, 110, 111, 112, 113, 114, 115, 116, 117, 118, 119, 120, 123] h54 h68 → 0 ≤ x70.toInt ∧ x70.toInt ≤ 1 → (INJ6 (h68.1 105)) → (720 - (rkL (h68.1 105) : Int) + x70.toInt).toNat < n66 → RUN d_X9_asksOrders 37 [(1, .inl x70), (0, .inr (.inr (.inl 96)))] [] h68 (qg_X9_asksOrders h) := by
        intro n66
        induction n66 with
        | zero => intro h68 x70 m72 m73 m74 m75 m76 hz; exact absurd hz (Nat.not_lt_zero _)
        | succ n66 ih71 =>
          intro h68 x70 hI fr fl69 m75 m76 hz
          have s77 : (h68.1 97 10).toInt = (h54.1 97 10).toInt := by rw [(fl69 97 (by decide)).1]
          have s78 : (h68.1 97 0).toInt = (h54.1 97 0).toInt := by rw [(fl69 97 (by decide)).1]
          have s79 : (h68.1 97 5).toInt = (h54.1 97 5).toInt := by rw [(fl69 97 (by decide)).1]
          have s80 : (h68.1 97 1).toInt = (h54.1 97 1).toInt := by rw [(fl69 97 (by decide)).1]
          have rq81 : h68.1 105 = h68.1 105 := rfl
          refine R_iload_n (k := 1) rfl rfl rfl ?_
          refine N_if_eq (a := x70.toInt) 60 rfl rfl rfl (fun c82 => ?_) (fun c82 => ?_)
          · refine R_iconst 1 rfl rfl ?_
            have s83 : (h68.1 97 0).toInt = (h.1 97 0).toInt := by rw [(fr 97 (by decide)).1]
            have s84 : (h68.1 97 10).toInt = (h.1 97 10).toInt := by rw [(fr 97 (by decide)).1]
            exact R_iret rfl rfl rfl ⟨hI, fr, trivial, _, rfl, by rw [show (1 : Int32).toInt = 1 from rfl] <;> omega⟩
          · refine R_aload_n (k := 0) rfl rfl rfl ?_
            have b85 : (0 : Int) ≤ (h68.1 97 6).toInt ∧ (h68.1 97 6).toInt ≤ 5 := hI.1 97 6
            refine R_callV (v := .inr (.inr (.inl 96))) (As := []) (rest := []) rfl mt_9_i418 pp_X9_keepsAll (by decide) rfl rfl rfl (Nat.le_of_ble_eq_true rfl) (Nat.le_of_ble_eq_true rfl) ((k_X9_keepsAll h68 hI).mono (fun r86 h87 p88 => ?_))
            obtain ⟨rfl, x89, rfl, q90 | q90⟩ := p88
            · show RUN d_X9_asksOrders 45 [(1, .inl x70), (0, .inr (.inr (.inl 96)))] [.inl x89] h68 _
              refine N_if_eq (a := x89.toInt) 52 rfl rfl rfl (fun c91 => ?_) (fun c91 => ?_)
              · exfalso; omega
              · refine R_aload_n (k := 0) rfl rfl rfl ?_
                refine R_callV (v := .inr (.inr (.inl 96))) (As := []) (rest := []) rfl mt_9_i421 pp_X9_keepOrder (by decide) rfl rfl rfl (Nat.le_of_ble_eq_true rfl) (Nat.le_of_ble_eq_true rfl) ((k_X9_keepOrder h68 hI (by omega)).mono (fun r92 h93 p94 => ?_))
                obtain ⟨hJ, fj, -, rfl⟩ := p94
                have f95 := fj
                have fr := fr.trans fj (by decide)
                have hI := hJ
                have fl69 : FR [96, 105, 107, 108, 109, 110, 111, 112, 113, 114, 115, 116, 117, 118, 119, 120, 123] h54 h93 := fl69.trans fj (by decide)
                have s96 : (h93.1 97 10).toInt = (h68.1 97 10).toInt := by rw [(f95 97 (by decide)).1]
                have s97 : (h93.1 97 0).toInt = (h68.1 97 0).toInt := by rw [(f95 97 (by decide)).1]
                have s98 : (h93.1 97 5).toInt = (h68.1 97 5).toInt := by rw [(f95 97 (by decide)).1]
                have s99 : (h93.1 97 1).toInt = (h68.1 97 1).toInt := by rw [(f95 97 (by decide)).1]
                have s100 : (h93.1 97 6).toInt = (h68.1 97 6).toInt := by rw [(f95 97 (by decide)).1]
                have rq101 : h93.1 105 = h68.1 105 := (f95 105 (by decide)).1.trans rq81
                show RUN d_X9_asksOrders 52 [(1, .inl x70), (0, .inr (.inr (.inl 96)))] [] h93 _
                refine R_aload_n (k := 0) rfl rfl rfl ?_
                refine R_callV (v := .inr (.inr (.inl 96))) (As := []) (rest := []) rfl mt_9_i424 pp_X9_nextLine (by decide) rfl rfl rfl (Nat.le_of_ble_eq_true rfl) (Nat.le_of_ble_eq_true rfl) ((g_X9_nextLine h93 hI (INJ6_of rq101 m76)).mono (fun r102 h103 p104 => ?_))
                obtain ⟨hJ, fj, ⟨xq105, -⟩, x107, rfl, (q108 | q108), zq106, -⟩ := p104
                · have f109 := fj
                  have fr := fr.trans fj (by decide)
                  have hI := hJ
                  have fl69 : FR [96, 105, 107, 108, 109, 110, 111, 112, 113, 114, 115, 116, 117, 118, 119, 120, 123] h54 h103 := fl69.trans fj (by decide)
                  have s110 : (h103.1 97 10).toInt = (h93.1 97 10).toInt := by rw [(f109 97 (by decide)).1]
                  have s111 : (h103.1 97 0).toInt = (h93.1 97 0).toInt := by rw [(f109 97 (by decide)).1]
                  have s112 : (h103.1 97 5).toInt = (h93.1 97 5).toInt := by rw [(f109 97 (by decide)).1]
                  have s113 : (h103.1 97 1).toInt = (h93.1 97 1).toInt := by rw [(f109 97 (by decide)).1]
                  have s114 : (h103.1 97 6).toInt = (h93.1 97 6).toInt := by rw [(f109 97 (by decide)).1]
                  show RUN d_X9_asksOrders 56 [(1, .inl x70), (0, .inr (.inr (.inl 96)))] [.inl x107] h103 _
                  refine R_istore_n (k := 1) rfl [(1, .inl x107), (0, .inr (.inr (.inl 96)))] rfl rfl (by decide) ?_
                  refine R_goto 37 rfl rfl ?_
                  have rkb : (rkL (h68.1 105) : Int) + x107.toInt ≤ (rkL (h103.1 105) : Int) := by rw [← rq101]; exact zq106
                  have rkt := rkL_top hI xq105
                  exact RUN_weak (psub_cons rfl (psub_cons rfl (psub_nil _))) (ih71 h103 x107 hI fr fl69 (by omega) (xq105) (by omega))
                · have f115 := fj
                  have fr := fr.trans fj (by decide)
                  have hI := hJ
                  have fl69 : FR [96, 105, 107, 108, 109, 110, 111, 112, 113, 114, 115, 116, 117, 118, 119, 120, 123] h54 h103 := fl69.trans fj (by decide)
                  have s116 : (h103.1 97 10).toInt = (h93.1 97 10).toInt := by rw [(f115 97 (by decide)).1]
                  have s117 : (h103.1 97 0).toInt = (h93.1 97 0).toInt := by rw [(f115 97 (by decide)).1]
                  have s118 : (h103.1 97 5).toInt = (h93.1 97 5).toInt := by rw [(f115 97 (by decide)).1]
                  have s119 : (h103.1 97 1).toInt = (h93.1 97 1).toInt := by rw [(f115 97 (by decide)).1]
                  have s120 : (h103.1 97 6).toInt = (h93.1 97 6).toInt := by rw [(f115 97 (by decide)).1]
                  show RUN d_X9_asksOrders 56 [(1, .inl x70), (0, .inr (.inr (.inl 96)))] [.inl x107] h103 _
                  refine R_istore_n (k := 1) rfl [(1, .inl x107), (0, .inr (.inr (.inl 96)))] rfl rfl (by decide) ?_
                  refine R_goto 37 rfl rfl ?_
                  have rkb : (rkL (h68.1 105) : Int) + x107.toInt ≤ (rkL (h103.1 105) : Int) := by rw [← rq101]; exact zq106
                  have rkt := rkL_top hI xq105
                  exact RUN_weak (psub_cons rfl (psub_cons rfl (psub_nil _))) (ih71 h103 x107 hI fr fl69 (by omega) (xq105) (by omega))
            · show RUN d_X9_asksOrders 45 [(1, .inl x70), (0, .inr (.inr (.inl 96)))] [.inl x89] h68 _
              refine N_if_eq (a := x89.toInt) 52 rfl rfl rfl (fun c121 => ?_) (fun c121 => ?_)
              · refine R_aload_n (k := 0) rfl rfl rfl ?_
                refine R_callV (v := .inr (.inr (.inl 96))) (As := []) (rest := []) rfl mt_9_i424 pp_X9_nextLine (by decide) rfl rfl rfl (Nat.le_of_ble_eq_true rfl) (Nat.le_of_ble_eq_true rfl) ((g_X9_nextLine h68 hI (INJ6_of rq81 m76)).mono (fun r122 h123 p124 => ?_))
                obtain ⟨hJ, fj, ⟨xq125, -⟩, x127, rfl, (q128 | q128), zq126, -⟩ := p124
                · have f129 := fj
                  have fr := fr.trans fj (by decide)
                  have hI := hJ
                  have fl69 : FR [96, 105, 107, 108, 109, 110, 111, 112, 113, 114, 115, 116, 117, 118, 119, 120, 123] h54 h123 := fl69.trans fj (by decide)
                  have s130 : (h123.1 97 10).toInt = (h68.1 97 10).toInt := by rw [(f129 97 (by decide)).1]
                  have s131 : (h123.1 97 0).toInt = (h68.1 97 0).toInt := by rw [(f129 97 (by decide)).1]
                  have s132 : (h123.1 97 5).toInt = (h68.1 97 5).toInt := by rw [(f129 97 (by decide)).1]
                  have s133 : (h123.1 97 1).toInt = (h68.1 97 1).toInt := by rw [(f129 97 (by decide)).1]
                  have s134 : (h123.1 97 6).toInt = (h68.1 97 6).toInt := by rw [(f129 97 (by decide)).1]
                  show RUN d_X9_asksOrders 56 [(1, .inl x70), (0, .inr (.inr (.inl 96)))] [.inl x127] h123 _
                  refine R_istore_n (k := 1) rfl [(1, .inl x127), (0, .inr (.inr (.inl 96)))] rfl rfl (by decide) ?_
                  refine R_goto 37 rfl rfl ?_
                  have rkb : (rkL (h68.1 105) : Int) + x127.toInt ≤ (rkL (h123.1 105) : Int) := by rw [← rq81]; exact zq126
                  have rkt := rkL_top hI xq125
                  exact RUN_weak (psub_cons rfl (psub_cons rfl (psub_nil _))) (ih71 h123 x127 hI fr fl69 (by omega) (xq125) (by omega))
                · have f135 := fj
                  have fr := fr.trans fj (by decide)
                  have hI := hJ
                  have fl69 : FR [96, 105, 107, 108, 109, 110, 111, 112, 113, 114, 115, 116, 117, 118, 119, 120, 123] h54 h123 := fl69.trans fj (by decide)
                  have s136 : (h123.1 97 10).toInt = (h68.1 97 10).toInt := by rw [(f135 97 (by decide)).1]
                  have s137 : (h123.1 97 0).toInt = (h68.1 97 0).toInt := by rw [(f135 97 (by decide)).1]
                  have s138 : (h123.1 97 5).toInt = (h68.1 97 5).toInt := by rw [(f135 97 (by decide)).1]
                  have s139 : (h123.1 97 1).toInt = (h68.1 97 1).toInt := by rw [(f135 97 (by decide)).1]
                  have s140 : (h123.1 97 6).toInt = (h68.1 97 6).toInt := by rw [(f135 97 (by decide)).1]
                  show RUN d_X9_asksOrders 56 [(1, .inl x70), (0, .inr (.inr (.inl 96)))] [.inl x127] h123 _
                  refine R_istore_n (k := 1) rfl [(1, .inl x127), (0, .inr (.inr (.inl 96)))] rfl rfl (by decide) ?_
                  refine R_goto 37 rfl rfl ?_
                  have rkb : (rkL (h68.1 105) : Int) + x127.toInt ≤ (rkL (h123.1 105) : Int) := by rw [← rq81]; exact zq126
                  have rkt := rkL_top hI xq125
                  exact RUN_weak (psub_cons rfl (psub_cons rfl (psub_nil _))) (ih71 h123 x127 hI fr fl69 (by omega) (xq125) (by omega))
              · exfalso; omega
      have k141 : (1 : Int32).toInt = 1 := by decide
      exact lp67 _ h54 (1 : Int32) hI fr (FR.rf _ _) (by decide) (hJ0) (Nat.lt_succ_self _)
    · exfalso; omega

abbrev qg_X9_hasOrder (h : PH) (a0 : Int32) : Option PV → PH → Prop := fun r h' => INV h' ∧ FR [96, 103, 104, 105, 106] h h' ∧ (True) ∧ ∃ z : Int32, r = some (.inl z) ∧ ((z.toInt = 0) ∨ (z.toInt = 1))
set_option maxHeartbeats 4000000 in
set_option maxRecDepth 100000 in
theorem g_X9_hasOrder (h : PH) (hI : INV h) (a0 : Int32) (h0a : 0 ≤ a0.toInt ∧ a0.toInt ≤ 31) : CALL d_X9_hasOrder [.inr (.inr (.inl 96)), .inl a0] h (qg_X9_hasOrder h a0) := by
  show RUN d_X9_hasOrder 0 [(0, .inr (.inr (.inl 96))), (1, .inl a0)] [] h _
  have fr : FR [96, 103, 104, 105, 106] h h := FR.rf _ _
  refine R_aload_n (k := 0) rfl rfl rfl ?_
  refine R_callV (v := .inr (.inr (.inl 96))) (As := []) (rest := []) rfl mt_9_i298 pp_X9_asItIs (by decide) rfl rfl rfl (Nat.le_of_ble_eq_true rfl) (Nat.le_of_ble_eq_true rfl) ((g_X9_asItIs h hI).mono (fun r1 h2 p3 => ?_))
  obtain ⟨hJ, fj, ⟨kp4, xq5, xq6, xq7, -⟩, rfl⟩ := p3
  have f8 := fj
  have fr := fr.trans fj (by decide)
  have hI := hJ
  have b9 : (0 : Int) ≤ (h2.1 97 5).toInt ∧ (h2.1 97 5).toInt ≤ 6 := hI.1 97 5
  have b10 : (0 : Int) ≤ (h2.1 97 0).toInt ∧ (h2.1 97 0).toInt ≤ 60 := hI.1 97 0
  have e11 : 0 < (h2.1 97 5).toInt → 1 ≤ (h2.1 97 0).toInt := hI.2.2.2.2.2.1.2.2
  have b12 : (0 : Int) ≤ (h2.1 97 1).toInt ∧ (h2.1 97 1).toInt ≤ 8 := hI.1 97 1
  have b13 : (0 : Int) ≤ (h2.1 96 18).toInt ∧ (h2.1 96 18).toInt ≤ 6 := hI.1 96 18
  show RUN d_X9_hasOrder 4 [(0, .inr (.inr (.inl 96))), (1, .inl a0)] [] h2 _
  have hA := xq5
  refine R_aload_n (k := 0) rfl rfl rfl ?_
  refine R_iload_n (k := 1) rfl rfl rfl ?_
  refine K_putf (j := 44) (lo := (-2147483648)) (hi' := 2147483647) rfl ft_9_399 sh_96 rfl hI (by decide) rfl (i_rng _) fr (by decide) (fun h14 g15 hI fr => ?_)
  have s16 : (h14.1 97 5).toInt = (h2.1 97 5).toInt := by rw [g15, wI_ne _ _ _ (by decide)]
  have s17 : (h14.1 97 0).toInt = (h2.1 97 0).toInt := by rw [g15, wI_ne _ _ _ (by decide)]
  have s18 : (h14.1 97 1).toInt = (h2.1 97 1).toInt := by rw [g15, wI_ne _ _ _ (by decide)]
  have s19 : (h14.1 96 18).toInt = (h2.1 96 18).toInt := by rw [g15, wI_at (by decide)]
  have s20 : (h14.1 96 19).toInt = (h2.1 96 19).toInt := by rw [g15, wI_at (by decide)]
  have hA : AIS h14 := by rw [g15]; exact AIS_o (by decide) hA
  have s21 : (h14.1 96 44).toInt = a0.toInt := by rw [g15, wI_is]
  refine R_iconst 1 rfl rfl ?_
  have hJ0 := AIS_inj hA
  refine R_istore_n (k := 2) rfl [(2, .inl 1), (0, .inr (.inr (.inl 96))), (1, .inl a0)] rfl rfl (by decide) ?_
  have lp23 : ∀ (n22 : Nat) (h24 : PH) (x26 : Int32), INV h24 → FR [96, 103, 104, 105, 106] h h24 → FR [105] h14 h24 → 0 ≤ x26.toInt ∧ x26.toInt ≤ 1 → (INJ6 (h24.1 105)) → (720 - (rkL (h24.1 105) : Int) + x26.toInt).toNat < n22 → RUN d_X9_hasOrder 11 [(2, .inl x26), (0, .inr (.inr (.inl 96))), (1, .inl a0)] [] h24 (qg_X9_hasOrder h a0) := by
    intro n22
    induction n22 with
    | zero => intro h24 x26 m28 m29 m30 m31 m32 hz; exact absurd hz (Nat.not_lt_zero _)
    | succ n22 ih27 =>
      intro h24 x26 hI fr fl25 m31 m32 hz
      have s33 : (h24.1 97 5).toInt = (h14.1 97 5).toInt := by rw [(fl25 97 (by decide)).1]
      have s34 : (h24.1 97 0).toInt = (h14.1 97 0).toInt := by rw [(fl25 97 (by decide)).1]
      have s35 : (h24.1 97 1).toInt = (h14.1 97 1).toInt := by rw [(fl25 97 (by decide)).1]
      have s36 : (h24.1 96 18).toInt = (h14.1 96 18).toInt := by rw [(fl25 96 (by decide)).1]
      have s37 : (h24.1 96 19).toInt = (h14.1 96 19).toInt := by rw [(fl25 96 (by decide)).1]
      have s38 : (h24.1 96 44).toInt = (h14.1 96 44).toInt := by rw [(fl25 96 (by decide)).1]
      have rq39 : h24.1 105 = h24.1 105 := rfl
      refine R_iload_n (k := 2) rfl rfl rfl ?_
      refine N_if_eq (a := x26.toInt) 32 rfl rfl rfl (fun c40 => ?_) (fun c40 => ?_)
      · refine R_iconst 0 rfl rfl ?_
        exact R_iret rfl rfl rfl ⟨hI, fr, trivial, _, rfl, by rw [show (0 : Int32).toInt = 0 from rfl] <;> omega⟩
      · refine R_aload_n (k := 0) rfl rfl rfl ?_
        have b41 : (0 : Int) ≤ (h24.1 97 6).toInt ∧ (h24.1 97 6).toInt ≤ 5 := hI.1 97 6
        refine R_callV (v := .inr (.inr (.inl 96))) (As := []) (rest := []) rfl mt_9_i418 pp_X9_keepsAll (by decide) rfl rfl rfl (Nat.le_of_ble_eq_true rfl) (Nat.le_of_ble_eq_true rfl) ((k_X9_keepsAll h24 hI).mono (fun r42 h43 p44 => ?_))
        obtain ⟨rfl, x45, rfl, q46 | q46⟩ := p44
        · show RUN d_X9_hasOrder 19 [(2, .inl x26), (0, .inr (.inr (.inl 96))), (1, .inl a0)] [.inl x45] h24 _
          refine N_if_eq (a := x45.toInt) 24 rfl rfl rfl (fun c47 => ?_) (fun c47 => ?_)
          · exfalso; omega
          · refine R_iconst 1 rfl rfl ?_
            exact R_iret rfl rfl rfl ⟨hI, fr, trivial, _, rfl, by rw [show (1 : Int32).toInt = 1 from rfl] <;> omega⟩
        · show RUN d_X9_hasOrder 19 [(2, .inl x26), (0, .inr (.inr (.inl 96))), (1, .inl a0)] [.inl x45] h24 _
          refine N_if_eq (a := x45.toInt) 24 rfl rfl rfl (fun c48 => ?_) (fun c48 => ?_)
          · refine R_aload_n (k := 0) rfl rfl rfl ?_
            refine R_callV (v := .inr (.inr (.inl 96))) (As := []) (rest := []) rfl mt_9_i424 pp_X9_nextLine (by decide) rfl rfl rfl (Nat.le_of_ble_eq_true rfl) (Nat.le_of_ble_eq_true rfl) ((g_X9_nextLine h24 hI (INJ6_of rq39 m32)).mono (fun r49 h50 p51 => ?_))
            obtain ⟨hJ, fj, ⟨xq52, -⟩, x54, rfl, (q55 | q55), zq53, -⟩ := p51
            · have f56 := fj
              have fr := fr.trans fj (by decide)
              have hI := hJ
              have fl25 : FR [105] h14 h50 := fl25.trans fj (by decide)
              have s57 : (h50.1 97 5).toInt = (h24.1 97 5).toInt := by rw [(f56 97 (by decide)).1]
              have s58 : (h50.1 97 0).toInt = (h24.1 97 0).toInt := by rw [(f56 97 (by decide)).1]
              have s59 : (h50.1 97 1).toInt = (h24.1 97 1).toInt := by rw [(f56 97 (by decide)).1]
              have s60 : (h50.1 96 18).toInt = (h24.1 96 18).toInt := by rw [(f56 96 (by decide)).1]
              have s61 : (h50.1 96 19).toInt = (h24.1 96 19).toInt := by rw [(f56 96 (by decide)).1]
              have s62 : (h50.1 96 44).toInt = (h24.1 96 44).toInt := by rw [(f56 96 (by decide)).1]
              have s63 : (h50.1 97 6).toInt = (h24.1 97 6).toInt := by rw [(f56 97 (by decide)).1]
              show RUN d_X9_hasOrder 28 [(2, .inl x26), (0, .inr (.inr (.inl 96))), (1, .inl a0)] [.inl x54] h50 _
              refine R_istore_n (k := 2) rfl [(2, .inl x54), (0, .inr (.inr (.inl 96))), (1, .inl a0)] rfl rfl (by decide) ?_
              refine R_goto 11 rfl rfl ?_
              have rkb : (rkL (h24.1 105) : Int) + x54.toInt ≤ (rkL (h50.1 105) : Int) := by rw [← rq39]; exact zq53
              have rkt := rkL_top hI xq52
              exact RUN_weak (psub_cons rfl (psub_cons rfl (psub_cons rfl (psub_nil _)))) (ih27 h50 x54 hI fr fl25 (by omega) (xq52) (by omega))
            · have f64 := fj
              have fr := fr.trans fj (by decide)
              have hI := hJ
              have fl25 : FR [105] h14 h50 := fl25.trans fj (by decide)
              have s65 : (h50.1 97 5).toInt = (h24.1 97 5).toInt := by rw [(f64 97 (by decide)).1]
              have s66 : (h50.1 97 0).toInt = (h24.1 97 0).toInt := by rw [(f64 97 (by decide)).1]
              have s67 : (h50.1 97 1).toInt = (h24.1 97 1).toInt := by rw [(f64 97 (by decide)).1]
              have s68 : (h50.1 96 18).toInt = (h24.1 96 18).toInt := by rw [(f64 96 (by decide)).1]
              have s69 : (h50.1 96 19).toInt = (h24.1 96 19).toInt := by rw [(f64 96 (by decide)).1]
              have s70 : (h50.1 96 44).toInt = (h24.1 96 44).toInt := by rw [(f64 96 (by decide)).1]
              have s71 : (h50.1 97 6).toInt = (h24.1 97 6).toInt := by rw [(f64 97 (by decide)).1]
              show RUN d_X9_hasOrder 28 [(2, .inl x26), (0, .inr (.inr (.inl 96))), (1, .inl a0)] [.inl x54] h50 _
              refine R_istore_n (k := 2) rfl [(2, .inl x54), (0, .inr (.inr (.inl 96))), (1, .inl a0)] rfl rfl (by decide) ?_
              refine R_goto 11 rfl rfl ?_
              have rkb : (rkL (h24.1 105) : Int) + x54.toInt ≤ (rkL (h50.1 105) : Int) := by rw [← rq39]; exact zq53
              have rkt := rkL_top hI xq52
              exact RUN_weak (psub_cons rfl (psub_cons rfl (psub_cons rfl (psub_nil _)))) (ih27 h50 x54 hI fr fl25 (by omega) (xq52) (by omega))
          · exfalso; omega
  have k72 : (1 : Int32).toInt = 1 := by decide
  exact lp23 _ h14 (1 : Int32) hI fr (FR.rf _ _) (by decide) (hJ0) (Nat.lt_succ_self _)

abbrev qg_X9_numberAt (h : PH) (a0 : Int32) (a1 : Int32) : Option PV → PH → Prop := fun r h' => h = h' ∧ ∃ z : Int64, r = some (.inr (.inl z)) ∧ (z = h.2 129 (60 * a0.toInt + a1.toInt).toNat) ∧ True
set_option maxHeartbeats 4000000 in
set_option maxRecDepth 100000 in
theorem g_X9_numberAt (h : PH) (hI : INV h) (a0 : Int32) (a1 : Int32) (h0a : 0 ≤ a0.toInt ∧ a0.toInt ≤ 3) (h1a : 0 ≤ a1.toInt ∧ a1.toInt ≤ 59) : CALL d_X9_numberAt [.inr (.inr (.inl 96)), .inl a0, .inl a1] h (qg_X9_numberAt h a0 a1) := by
  show RUN d_X9_numberAt 0 [(0, .inr (.inr (.inl 96))), (1, .inl a0), (2, .inl a1)] [] h _
  refine R_aload_n (k := 0) rfl rfl rfl ?_
  refine R_getf_r (j := 59) rfl ft_9_113 sh_96 rfl ?_
  refine R_bipush 60 rfl rfl ?_
  refine R_iload_n (k := 1) rfl rfl rfl ?_
  refine R_imul rfl ?_
  refine N_eq (fun x1 e2 => ?_)
  have q3 : x1.toInt = 60 * a0.toInt := by rw [e2]; exact i_mul (by decide) rfl (by omega)
  refine R_iload_n (k := 2) rfl rfl rfl ?_
  refine R_iadd rfl ?_
  refine N_eq (fun x4 e5 => ?_)
  have q6 : x4.toInt = x1.toInt + a1.toInt := by rw [e5]; exact i_add rfl rfl (by omega)
  refine R_lald rfl sh_129 ⟨by omega, by omega⟩ ?_
  refine N_eqL (fun w7 e8 => ?_)
  exact R_lret rfl rfl ⟨rfl, _, rfl, (by rw [e8, tn2 (a := 60 * a0.toInt + a1.toInt) (by omega) (by omega)]), trivial⟩

abbrev qg_X9_isSeen (h : PH) (a0 : Int32) : Option PV → PH → Prop := fun r h' => INV h' ∧ FR [96, 107, 108, 109, 110, 111, 112, 113, 114, 115, 116, 117, 118, 119] h h' ∧ ((h'.1 96 18).toInt = (h.1 96 18).toInt ∧ (h'.1 96 19).toInt = (h.1 96 19).toInt ∧ (h'.1 96 44).toInt = (h.1 96 44).toInt ∧ (h'.1 96 51).toInt = (h.1 96 51).toInt ∧ True) ∧ ∃ z : Int32, r = some (.inl z) ∧ ((z.toInt = 1) ∨ (z.toInt = 0))
set_option maxHeartbeats 4000000 in
set_option maxRecDepth 100000 in
theorem g_X9_isSeen (h : PH) (hI : INV h) (a0 : Int32) (h0a : 0 ≤ a0.toInt ∧ a0.toInt ≤ 3) (xp0 : SNH h a0) : CALL d_X9_isSeen [.inr (.inr (.inl 96)), .inl a0] h (qg_X9_isSeen h a0) := by
  show RUN d_X9_isSeen 0 [(0, .inr (.inr (.inl 96))), (1, .inl a0)] [] h _
  have fr : FR [96, 107, 108, 109, 110, 111, 112, 113, 114, 115, 116, 117, 118, 119] h h := FR.rf _ _
  have b1 : (0 : Int) ≤ (h.1 96 18).toInt ∧ (h.1 96 18).toInt ≤ 6 := hI.1 96 18
  have b2 : (0 : Int) ≤ (h.1 96 51).toInt ∧ (h.1 96 51).toInt ≤ 720 := hI.1 96 51
  refine R_aload_n (k := 0) rfl rfl rfl ?_
  refine R_aload_n (k := 0) rfl rfl rfl ?_
  have b3 : (0 : Int) ≤ (h.1 97 0).toInt ∧ (h.1 97 0).toInt ≤ 60 := hI.1 97 0
  refine R_callV (v := .inr (.inr (.inl 96))) (As := []) (rest := [.inr (.inr (.inl 96))]) rfl mt_9_i129 pp_X9_last (by decide) rfl rfl rfl (Nat.le_of_ble_eq_true rfl) (Nat.le_of_ble_eq_true rfl) ((k_X9_last h hI).mono (fun r4 h5 p6 => ?_))
  obtain ⟨rfl, x7, rfl, q8⟩ := p6
  show RUN d_X9_isSeen 5 [(0, .inr (.inr (.inl 96))), (1, .inl a0)] [.inl x7, .inr (.inr (.inl 96))] h _
  refine R_callV (v := .inr (.inr (.inl 96))) (As := [.inl x7]) (rest := []) rfl mt_9_i304 pp_X9_goAll (by decide) rfl rfl rfl (Nat.le_of_ble_eq_true rfl) (Nat.le_of_ble_eq_true rfl) ((g_X9_goAll h hI x7 (by omega)).mono (fun r9 h10 p11 => ?_))
  obtain ⟨hJ, fj, ⟨kp12, kp13, kp14, kp15, kp16, kp17, kp18, kp19, xq20, xq21, xq22, -⟩, rfl⟩ := p11
  have f23 := fj
  have fr := fr.trans fj (by decide)
  have hI := hJ
  have s24 : (h10.1 97 0).toInt = (h.1 97 0).toInt := by rw [(f23 97 (by decide)).1]
  show RUN d_X9_isSeen 8 [(0, .inr (.inr (.inl 96))), (1, .inl a0)] [] h10 _
  have hS : SNH h10 a0 := SNH_of (fr 127 (by decide)).1 (fr 129 (by decide)).2 xp0
  refine R_iconst 0 rfl rfl ?_
  refine R_istore_n (k := 2) rfl [(2, .inl 0), (0, .inr (.inr (.inl 96))), (1, .inl a0)] rfl rfl (by decide) ?_
  have lp26 : ∀ (n25 : Nat) (x27 : Int32), 0 ≤ x27.toInt ∧ x27.toInt ≤ 60 → (x27.toInt % 2 = 0) → (60 - x27.toInt).toNat < n25 → RUN d_X9_isSeen 10 [(2, .inl x27), (0, .inr (.inr (.inl 96))), (1, .inl a0)] [] h10 (qg_X9_isSeen h a0) := by
    intro n25
    induction n25 with
    | zero => intro x27 m29 m30 hz; exact absurd hz (Nat.not_lt_zero _)
    | succ n25 ih28 =>
      intro x27 m29 m30 hz
      refine R_iload_n (k := 2) rfl rfl rfl ?_
      refine R_aload_n (k := 0) rfl rfl rfl ?_
      refine R_getf_r (j := 57) rfl ft_9_107 sh_96 rfl ?_
      refine R_iload_n (k := 1) rfl rfl rfl ?_
      refine R_iald rfl sh_127 ⟨by omega, by omega⟩ ?_
      refine N_eq (fun x31 e32 => ?_)
      have q33 : (-1) ≤ x31.toInt ∧ x31.toInt ≤ 60 := by rw [e32]; exact hI.1 127 _
      refine N_icmp_ge (a := x27.toInt) (b := x31.toInt) 53 rfl rfl rfl rfl (fun c34 => ?_) (fun c34 => ?_)
      · refine R_iconst 1 rfl rfl ?_
        exact R_iret rfl rfl rfl ⟨hI, fr, ⟨by omega, by omega, by omega, by omega, trivial⟩, _, rfl, by rw [show (1 : Int32).toInt = 1 from rfl] <;> omega⟩
      · refine R_aload_n (k := 0) rfl rfl rfl ?_
        refine R_getf_r (j := 28) rfl ft_9_64 sh_96 rfl ?_
        refine R_aload_n (k := 0) rfl rfl rfl ?_
        refine R_iload_n (k := 1) rfl rfl rfl ?_
        refine R_iload_n (k := 2) rfl rfl rfl ?_
        refine R_callV (v := .inr (.inr (.inl 96))) (As := [.inl a0, .inl x27]) (rest := [.inr (.inr (.inl 113))]) rfl mt_9_i436 pp_X9_numberAt (by decide) rfl rfl rfl (Nat.le_of_ble_eq_true rfl) (Nat.le_of_ble_eq_true rfl) ((g_X9_numberAt h10 hI a0 x27 (by omega) (by omega)).mono (fun r35 h36 p37 => ?_))
        obtain ⟨rfl, w39, rfl, zq38, -⟩ := p37
        show RUN d_X9_isSeen 30 [(2, .inl x27), (0, .inr (.inr (.inl 96))), (1, .inl a0)] [.inr (.inl w39), .inr (.inr (.inl 113))] h10 _
        refine R_l2i rfl ?_
        refine N_eq (fun x40 e41 => ?_)
        have sn42 := seen_at hS e32 (by omega) (by omega) (by omega) zq38 e41
        refine R_iald rfl sh_113 ⟨by omega, by omega⟩ ?_
        refine N_eq (fun x43 e44 => ?_)
        refine N_i2l rfl (fun w45 q46 => ?_)
        refine R_aload_n (k := 0) rfl rfl rfl ?_
        refine R_iload_n (k := 1) rfl rfl rfl ?_
        refine R_iload_n (k := 2) rfl rfl rfl ?_
        refine R_iconst 1 rfl rfl ?_
        refine R_iadd rfl ?_
        refine N_eq (fun x47 e48 => ?_)
        have q49 : x47.toInt = x27.toInt + 1 := by rw [e48]; exact i_add rfl (by decide) (by omega)
        refine R_callV (v := .inr (.inr (.inl 96))) (As := [.inl a0, .inl x47]) (rest := [.inr (.inl w45)]) rfl mt_9_i436 pp_X9_numberAt (by decide) rfl rfl rfl (Nat.le_of_ble_eq_true rfl) (Nat.le_of_ble_eq_true rfl) ((g_X9_numberAt h10 hI a0 x47 (by omega) (by omega)).mono (fun r50 h51 p52 => ?_))
        obtain ⟨rfl, w54, rfl, zq53, -⟩ := p52
        show RUN d_X9_isSeen 41 [(2, .inl x27), (0, .inr (.inr (.inl 96))), (1, .inl a0)] [.inr (.inl w54), .inr (.inl w45)] h10 _
        refine N_lcmp (a := w45.toInt) (b := w54.toInt) rfl rfl rfl (fun x55 q56 => ?_)
        refine N_if_eq (a := x55.toInt) 47 rfl rfl rfl (fun c57 => ?_) (fun c57 => ?_)
        · refine N_iinc (a := x27.toInt) (c := 2) (fun w => [(2, .inl w), (0, .inr (.inr (.inl 96))), (1, .inl a0)]) rfl rfl (fun _ => rfl) (by decide) rfl (by decide) (by omega) (fun x58 q59 => ?_)
          refine R_goto 10 rfl rfl ?_
          exact RUN_weak (psub_cons rfl (psub_cons rfl (psub_cons rfl (psub_nil _)))) (ih28 x58 (by omega) (by omega) (by omega))
        · refine R_iconst 0 rfl rfl ?_
          exact R_iret rfl rfl rfl ⟨hI, fr, ⟨by omega, by omega, by omega, by omega, trivial⟩, _, rfl, by rw [show (0 : Int32).toInt = 0 from rfl] <;> omega⟩
  have k60 : (0 : Int32).toInt = 0 := by decide
  exact lp26 _ (0 : Int32) (by decide) (by omega) (Nat.lt_succ_self _)
