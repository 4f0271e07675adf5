abbrev qg_X9_nextLine (h : PH)  : Option PV → PH → Prop := fun r h' => INV h' ∧ FR [105] h h' ∧ ((INJ6 (h'.1 105)) ∧ True) ∧ ∃ z : Int32, r = some (.inl z) ∧ (((z.toInt = 0) ∨ (z.toInt = 1 ∧ 1 ≤ (h.1 97 0).toInt ∧ (h.1 97 0).toInt ≤ 60 ∧ 2 ≤ (h.1 97 5).toInt ∧ (h.1 97 5).toInt ≤ 6)) ∧ ((rkL (h.1 105) : Int) + z.toInt ≤ (rkL (h'.1 105) : Int)) ∧ True)
set_option maxHeartbeats 4000000 in
set_option maxRecDepth 100000 in
theorem g_X9_nextLine (h : PH) (hI : INV h) (xp0 : INJ6 (h.1 105)) : CALL d_X9_nextLine [.inr (.inr (.inl 96))] h (qg_X9_nextLine h) := by
  show RUN d_X9_nextLine 0 [(0, .inr (.inr (.inl 96)))] [] h _
  have fr : FR [105] h h := FR.rf _ _
  have hI0 := hI
  refine R_aload_n (k := 0) rfl rfl rfl ?_
  have b1 : (0 : Int) ≤ (h.1 97 5).toInt ∧ (h.1 97 5).toInt ≤ 6 := hI.1 97 5
  have b2 : (0 : Int) ≤ (h.1 97 0).toInt ∧ (h.1 97 0).toInt ≤ 60 := hI.1 97 0
  have e3 : 0 < (h.1 97 5).toInt → 1 ≤ (h.1 97 0).toInt := hI.2.2.2.2.2.1.2.2
  refine R_callV (v := .inr (.inr (.inl 96))) (As := []) (rest := []) rfl mt_9_i133 pp_X9_hands (by decide) rfl rfl rfl (Nat.le_of_ble_eq_true rfl) (Nat.le_of_ble_eq_true rfl) ((k_X9_hands h hI).mono (fun r4 h5 p6 => ?_))
  obtain ⟨rfl, x7, rfl, q8⟩ := p6
  show RUN d_X9_nextLine 4 [(0, .inr (.inr (.inl 96)))] [.inl x7] h _
  refine R_istore_n (k := 1) rfl [(1, .inl x7), (0, .inr (.inr (.inl 96)))] rfl rfl (by decide) ?_
  refine R_iload_n (k := 1) rfl rfl rfl ?_
  refine R_iconst 2 rfl rfl ?_
  refine R_isub rfl ?_
  refine N_eq (fun x9 e10 => ?_)
  have q11 : x9.toInt = x7.toInt - 2 := by rw [e10]; exact i_sub rfl (by decide) (by omega)
  refine R_istore_n (k := 2) rfl [(2, .inl x9), (1, .inl x7), (0, .inr (.inr (.inl 96)))] rfl rfl (by decide) ?_
  have lp13 : ∀ (n12 : Nat) (h14 : PH) (x16 : Int32), INV h14 → FR [105] h h14 → FR [105] h h14 → (-2) ≤ x16.toInt ∧ x16.toInt ≤ 4 → x16.toInt ≤ x7.toInt + (-2) → x16.toInt ≤ (h.1 97 5).toInt + (-2) → (h14.1 105 = h.1 105) → (x16.toInt - (-2)).toNat < n12 → RUN d_X9_nextLine 9 [(2, .inl x16), (1, .inl x7), (0, .inr (.inr (.inl 96)))] [] h14 (qg_X9_nextLine h) := by
    intro n12
    induction n12 with
    | zero => intro h14 x16 m18 m19 m20 m21 m22 m23 m24 hz; exact absurd hz (Nat.not_lt_zero _)
    | succ n12 ih17 =>
      intro h14 x16 hI fr fl15 m21 m22 m23 m24 hz
      have s25 : (h14.1 97 5).toInt = (h.1 97 5).toInt := by rw [(fl15 97 (by decide)).1]
      have s26 : (h14.1 97 0).toInt = (h.1 97 0).toInt := by rw [(fl15 97 (by decide)).1]
      refine R_iload_n (k := 2) rfl rfl rfl ?_
      refine N_if_lt (a := x16.toInt) 36 rfl rfl rfl (fun c27 => ?_) (fun c27 => ?_)
      · refine R_iload_n (k := 2) rfl rfl rfl ?_
        refine N_if_ge (a := x16.toInt) 42 rfl rfl rfl (fun c28 => ?_) (fun c28 => ?_)
        · exfalso; omega
        · refine R_iconst 0 rfl rfl ?_
          have k29 : (0 : Int32).toInt = 0 := by decide
          have s30 : (h14.1 97 0).toInt = (h.1 97 0).toInt := by rw [(fr 97 (by decide)).1]
          have s31 : (h14.1 97 5).toInt = (h.1 97 5).toInt := by rw [(fr 97 (by decide)).1]
          exact R_iret rfl rfl rfl ⟨hI, fr, ⟨INJ6_of m24 xp0, trivial⟩, _, rfl, ⟨by rw [show (0 : Int32).toInt = 0 from rfl] <;> omega, (by rw [m24, show (0 : Int32).toInt = 0 from rfl]; omega), trivial⟩⟩
      · refine R_aload_n (k := 0) rfl rfl rfl ?_
        refine R_getf_r (j := 17) rfl ft_9_40 sh_96 rfl ?_
        refine R_iload_n (k := 2) rfl rfl rfl ?_
        refine R_iald rfl sh_105 ⟨by omega, by omega⟩ ?_
        refine N_eq (fun x32 e33 => ?_)
        have q34 : 0 ≤ x32.toInt ∧ x32.toInt ≤ 5 := by rw [e33]; exact hI.1 105 _
        refine R_aload_n (k := 0) rfl rfl rfl ?_
        refine R_getf_r (j := 17) rfl ft_9_40 sh_96 rfl ?_
        refine R_iload_n (k := 2) rfl rfl rfl ?_
        refine R_iconst 1 rfl rfl ?_
        refine R_iadd rfl ?_
        refine N_eq (fun x35 e36 => ?_)
        have q37 : x35.toInt = x16.toInt + 1 := by rw [e36]; exact i_add rfl (by decide) (by omega)
        refine R_iald rfl sh_105 ⟨by omega, by omega⟩ ?_
        refine N_eq (fun x38 e39 => ?_)
        have q40 : 0 ≤ x38.toInt ∧ x38.toInt ≤ 5 := by rw [e39]; exact hI.1 105 _
        refine N_icmp_le (a := x32.toInt) (b := x38.toInt) 36 rfl rfl rfl rfl (fun c41 => ?_) (fun c41 => ?_)
        · rw [m24] at e33 e39
          refine R_iload_n (k := 2) rfl rfl rfl ?_
          refine N_if_ge (a := x16.toInt) 42 rfl rfl rfl (fun c42 => ?_) (fun c42 => ?_)
          · refine R_iload_n (k := 1) rfl rfl rfl ?_
            refine R_iconst 1 rfl rfl ?_
            refine R_isub rfl ?_
            refine N_eq (fun x43 e44 => ?_)
            have q45 : x43.toInt = x7.toInt - 1 := by rw [e44]; exact i_sub rfl (by decide) (by omega)
            refine R_istore_n (k := 3) rfl [(3, .inl x43), (2, .inl x16), (1, .inl x7), (0, .inr (.inr (.inl 96)))] rfl rfl (by decide) ?_
            have lp47 : ∀ (n46 : Nat) (h48 : PH) (x50 : Int32), INV h48 → FR [105] h h48 → FR [105] h14 h48 → 1 ≤ x50.toInt ∧ x50.toInt ≤ 5 → x50.toInt ≤ x7.toInt + (-1) → x50.toInt ≤ x7.toInt + 0 → x50.toInt ≤ (h14.1 97 5).toInt + (-1) → x50.toInt ≤ (h14.1 97 5).toInt + 0 → (h48.1 105 = h.1 105) → (x16.toInt + 1 ≤ x50.toInt) → (x50.toInt - 1).toNat < n46 → RUN d_X9_nextLine 46 [(3, .inl x50), (2, .inl x16), (1, .inl x7), (0, .inr (.inr (.inl 96)))] [] h48 (qg_X9_nextLine h) := by
              intro n46
              induction n46 with
              | zero => intro h48 x50 m52 m53 m54 m55 m56 m57 m58 m59 m60 m61 hz; exact absurd hz (Nat.not_lt_zero _)
              | succ n46 ih51 =>
                intro h48 x50 hI fr fl49 m55 m56 m57 m58 m59 m60 m61 hz
                have s62 : (h48.1 97 5).toInt = (h14.1 97 5).toInt := by rw [(fl49 97 (by decide)).1]
                have s63 : (h48.1 97 0).toInt = (h14.1 97 0).toInt := by rw [(fl49 97 (by decide)).1]
                have fl15 : FR [105] h h48 := fl15.trans fl49 (by decide)
                refine R_aload_n (k := 0) rfl rfl rfl ?_
                refine R_getf_r (j := 17) rfl ft_9_40 sh_96 rfl ?_
                refine R_iload_n (k := 3) rfl rfl rfl ?_
                refine R_iald rfl sh_105 ⟨by omega, by omega⟩ ?_
                refine N_eq (fun x64 e65 => ?_)
                have q66 : 0 ≤ x64.toInt ∧ x64.toInt ≤ 5 := by rw [e65]; exact hI.1 105 _
                refine R_aload_n (k := 0) rfl rfl rfl ?_
                refine R_getf_r (j := 17) rfl ft_9_40 sh_96 rfl ?_
                refine R_iload_n (k := 2) rfl rfl rfl ?_
                refine R_iald rfl sh_105 ⟨by omega, by omega⟩ ?_
                refine N_eq (fun x67 e68 => ?_)
                have q69 : 0 ≤ x67.toInt ∧ x67.toInt ≤ 5 := by rw [e68]; exact hI.1 105 _
                rw [m60] at e65 e68
                refine N_icmp_ge (a := x64.toInt) (b := x67.toInt) 67 rfl rfl rfl rfl (fun c70 => ?_) (fun c70 => ?_)
                · refine R_aload_n (k := 0) rfl rfl rfl ?_
                  refine R_iload_n (k := 2) rfl rfl rfl ?_
                  refine R_iload_n (k := 3) rfl rfl rfl ?_
                  refine R_callV (v := .inr (.inr (.inl 96))) (As := [.inl x16, .inl x50]) (rest := []) rfl mt_9_i405 pp_X9_change (by decide) rfl rfl rfl (Nat.le_of_ble_eq_true rfl) (Nat.le_of_ble_eq_true rfl) ((g_X9_change h48 hI x16 x50 (by omega) (by omega)).mono (fun r71 h72 p73 => ?_))
                  obtain ⟨hJ, fj, ⟨xq74, -⟩, rfl⟩ := p73
                  have f75 := fj
                  have fr := fr.trans fj (by decide)
                  have hI := hJ
                  have fl49 : FR [105] h14 h72 := fl49.trans fj (by decide)
                  have fl15 : FR [105] h h72 := fl15.trans fj (by decide)
                  have s76 : (h72.1 97 5).toInt = (h48.1 97 5).toInt := by rw [(f75 97 (by decide)).1]
                  have s77 : (h72.1 97 0).toInt = (h48.1 97 0).toInt := by rw [(f75 97 (by decide)).1]
                  show RUN d_X9_nextLine 73 [(3, .inl x50), (2, .inl x16), (1, .inl x7), (0, .inr (.inr (.inl 96)))] [] h72 _
                  rw [m60] at xq74
                  have hL := LN_first xq74 xp0 (by omega) (by omega) (by omega) e68 e65 (by omega)
                  refine R_iload_n (k := 2) rfl rfl rfl ?_
                  refine R_iconst 1 rfl rfl ?_
                  refine R_iadd rfl ?_
                  refine N_eq (fun x78 e79 => ?_)
                  have q80 : x78.toInt = x16.toInt + 1 := by rw [e79]; exact i_add rfl (by decide) (by omega)
                  refine R_istore (k := 4) [(4, .inl x78), (3, .inl x50), (2, .inl x16), (1, .inl x7), (0, .inr (.inr (.inl 96)))] rfl rfl (by decide) ?_
                  refine R_iload_n (k := 1) rfl rfl rfl ?_
                  refine R_iconst 1 rfl rfl ?_
                  refine R_isub rfl ?_
                  refine N_eq (fun x81 e82 => ?_)
                  have q83 : x81.toInt = x7.toInt - 1 := by rw [e82]; exact i_sub rfl (by decide) (by omega)
                  refine R_istore (k := 5) [(5, .inl x81), (4, .inl x78), (3, .inl x50), (2, .inl x16), (1, .inl x7), (0, .inr (.inr (.inl 96)))] rfl rfl (by decide) ?_
                  have lp85 : ∀ (n84 : Nat) (h86 : PH) (x88 : Int32) (x89 : Int32), INV h86 → FR [105] h h86 → FR [105] h72 h86 → 1 ≤ x88.toInt ∧ x88.toInt ≤ 5 → 1 ≤ x89.toInt ∧ x89.toInt ≤ 5 → x16.toInt ≤ x88.toInt + (-1) → x16.toInt ≤ x88.toInt + 0 → x88.toInt ≤ x7.toInt + (-1) → x88.toInt ≤ x7.toInt + 0 → x88.toInt ≤ (h72.1 97 5).toInt + (-1) → x88.toInt ≤ (h72.1 97 5).toInt + 0 → x16.toInt ≤ x89.toInt + (-1) → x16.toInt ≤ x89.toInt + 0 → x89.toInt ≤ x7.toInt + (-1) → x89.toInt ≤ x7.toInt + 0 → x89.toInt ≤ (h72.1 97 5).toInt + (-1) → x89.toInt ≤ (h72.1 97 5).toInt + 0 → (LN (h.1 105) (h86.1 105) x16.toNatClampNeg) → (5 - x88.toInt).toNat < n84 → RUN d_X9_nextLine 83 [(5, .inl x89), (4, .inl x88), (3, .inl x50), (2, .inl x16), (1, .inl x7), (0, .inr (.inr (.inl 96)))] [] h86 (qg_X9_nextLine h) := by
                    intro n84
                    induction n84 with
                    | zero => intro h86 x88 x89 m91 m92 m93 m94 m95 m96 m97 m98 m99 m100 m101 m102 m103 m104 m105 m106 m107 m108 hz; exact absurd hz (Nat.not_lt_zero _)
                    | succ n84 ih90 =>
                      intro h86 x88 x89 hI fr fl87 m94 m95 m96 m97 m98 m99 m100 m101 m102 m103 m104 m105 m106 m107 m108 hz
                      have s109 : (h86.1 97 5).toInt = (h72.1 97 5).toInt := by rw [(fl87 97 (by decide)).1]
                      have s110 : (h86.1 97 0).toInt = (h72.1 97 0).toInt := by rw [(fl87 97 (by decide)).1]
                      have fl49 : FR [105] h14 h86 := fl49.trans fl87 (by decide)
                      have fl15 : FR [105] h h86 := fl15.trans fl87 (by decide)
                      refine R_iload (k := 4) rfl rfl ?_
                      refine R_iload (k := 5) rfl rfl ?_
                      refine N_icmp_ge (a := x88.toInt) (b := x89.toInt) 107 rfl rfl rfl rfl (fun c111 => ?_) (fun c111 => ?_)
                      · refine R_iconst 1 rfl rfl ?_
                        have k112 : (1 : Int32).toInt = 1 := by decide
                        have s113 : (h86.1 97 0).toInt = (h.1 97 0).toInt := by rw [(fr 97 (by decide)).1]
                        have s114 : (h86.1 97 5).toInt = (h.1 97 5).toInt := by rw [(fr 97 (by decide)).1]
                        have rk115 := LN_rk hI0 hI xp0 (nlt (n := 6) ⟨by omega, by omega⟩) m108
                        exact R_iret rfl rfl rfl ⟨hI, fr, ⟨m108.1, trivial⟩, _, rfl, ⟨by rw [show (1 : Int32).toInt = 1 from rfl] <;> omega, (by rw [show (1 : Int32).toInt = 1 from rfl]; omega), trivial⟩⟩
                      · refine R_aload_n (k := 0) rfl rfl rfl ?_
                        refine R_iload (k := 4) rfl rfl ?_
                        refine R_iload (k := 5) rfl rfl ?_
                        refine R_callV (v := .inr (.inr (.inl 96))) (As := [.inl x88, .inl x89]) (rest := []) rfl mt_9_i405 pp_X9_change (by decide) rfl rfl rfl (Nat.le_of_ble_eq_true rfl) (Nat.le_of_ble_eq_true rfl) ((g_X9_change h86 hI x88 x89 (by omega) (by omega)).mono (fun r116 h117 p118 => ?_))
                        obtain ⟨hJ, fj, ⟨xq119, -⟩, rfl⟩ := p118
                        have f120 := fj
                        have fr := fr.trans fj (by decide)
                        have hI := hJ
                        have fl87 : FR [105] h72 h117 := fl87.trans fj (by decide)
                        have fl49 : FR [105] h14 h117 := fl49.trans fj (by decide)
                        have fl15 : FR [105] h h117 := fl15.trans fj (by decide)
                        have s121 : (h117.1 97 5).toInt = (h86.1 97 5).toInt := by rw [(f120 97 (by decide)).1]
                        have s122 : (h117.1 97 0).toInt = (h86.1 97 0).toInt := by rw [(f120 97 (by decide)).1]
                        show RUN d_X9_nextLine 98 [(5, .inl x89), (4, .inl x88), (3, .inl x50), (2, .inl x16), (1, .inl x7), (0, .inr (.inr (.inl 96)))] [] h117 _
                        refine N_iinc (a := x88.toInt) (c := 1) (fun w => [(4, .inl w), (5, .inl x89), (3, .inl x50), (2, .inl x16), (1, .inl x7), (0, .inr (.inr (.inl 96)))]) rfl rfl (fun _ => rfl) (by decide) rfl (by decide) (by omega) (fun x123 q124 => ?_)
                        refine N_iinc (a := x89.toInt) (c := (-1)) (fun w => [(5, .inl w), (4, .inl x123), (3, .inl x50), (2, .inl x16), (1, .inl x7), (0, .inr (.inr (.inl 96)))]) rfl rfl (fun _ => rfl) (by decide) rfl (by decide) (by omega) (fun x125 q126 => ?_)
                        refine R_goto 83 rfl rfl ?_
                        exact RUN_weak (psub_cons rfl (psub_cons rfl (psub_cons rfl (psub_cons rfl (psub_cons rfl (psub_cons rfl (psub_nil _))))))) (ih90 h117 x123 x125 hI fr fl87 (by omega) (by omega) (by omega) (by omega) (by omega) (by omega) (by omega) (by omega) (by omega) (by omega) (by omega) (by omega) (by omega) (by omega) (LN_next xq119 m108 (by omega) (by omega) (by omega) (by omega) (by omega)) (by omega))
                  exact lp85 _ h72 x78 x81 hI fr (FR.rf _ _) (by omega) (by omega) (by omega) (by omega) (by omega) (by omega) (by omega) (by omega) (by omega) (by omega) (by omega) (by omega) (by omega) (by omega) (hL) (Nat.lt_succ_self _)
                · refine N_iinc (a := x50.toInt) (c := (-1)) (fun w => [(3, .inl w), (2, .inl x16), (1, .inl x7), (0, .inr (.inr (.inl 96)))]) rfl rfl (fun _ => rfl) (by decide) rfl (by decide) (by omega) (fun x127 q128 => ?_)
                  refine R_goto 46 rfl rfl ?_
                  have nb129 := nl_back e33 e39 e65 e68 (by omega) m61 (by omega) (by omega)
                  exact RUN_weak (psub_cons rfl (psub_cons rfl (psub_cons rfl (psub_cons rfl (psub_nil _))))) (ih51 h48 x127 hI fr fl49 (by omega) (by omega) (by omega) (by omega) (by omega) (m60) (by omega) (by omega))
            exact lp47 _ h14 x43 hI fr (FR.rf _ _) (by omega) (by omega) (by omega) (by omega) (by omega) (m24) (by omega) (Nat.lt_succ_self _)
          · exfalso; omega
        · refine N_iinc (a := x16.toInt) (c := (-1)) (fun w => [(2, .inl w), (1, .inl x7), (0, .inr (.inr (.inl 96)))]) rfl rfl (fun _ => rfl) (by decide) rfl (by decide) (by omega) (fun x130 q131 => ?_)
          refine R_goto 9 rfl rfl ?_
          exact RUN_weak (psub_cons rfl (psub_cons rfl (psub_cons rfl (psub_nil _)))) (ih17 h14 x130 hI fr fl15 (by omega) (by omega) (by omega) (m24) (by omega))
  exact lp13 _ h x9 hI fr (FR.rf _ _) (by omega) (by omega) (by omega) (rfl) (Nat.lt_succ_self _)
