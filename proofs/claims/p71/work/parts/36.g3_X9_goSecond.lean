abbrev qg_X9_goSecond (h : PH) (a0 : Int32) (a1 : Int32) : Option PV → PH → Prop := fun r h' => INV h' ∧ FR [96, 107, 108, 109, 117, 118] h h' ∧ ((h'.1 96 41).toInt = (h.1 96 41).toInt ∧ (h'.1 96 42).toInt = (h.1 96 42).toInt ∧ (h'.1 96 19).toInt = (h.1 96 19).toInt ∧ (h'.1 96 18).toInt = (h.1 96 18).toInt ∧ (h'.1 96 20).toInt = (h.1 96 20).toInt ∧ (h'.1 96 46).toInt = (h.1 96 46).toInt ∧ (h'.1 96 44).toInt = (h.1 96 44).toInt ∧ (h'.1 96 47).toInt = (h.1 96 47).toInt ∧ (h'.1 96 48).toInt = (h.1 96 48).toInt ∧ (h'.1 96 51).toInt = (h.1 96 51).toInt ∧ (kyOf h' = zSecond (evOf h) a0 a1 (kyOf h)) ∧ (evOf h' = evOf h) ∧ True) ∧ r = none
set_option maxHeartbeats 4000000 in
set_option maxRecDepth 100000 in
theorem g_X9_goSecond (h : PH) (hI : INV h) (a0 : Int32) (a1 : Int32) (h0a : 0 ≤ a0.toInt ∧ a0.toInt ≤ 2147483647) : CALL d_X9_goSecond [.inr (.inr (.inl 96)), .inl a0, .inl a1] h (qg_X9_goSecond h a0 a1) := by
  show RUN d_X9_goSecond 0 [(0, .inr (.inr (.inl 96))), (1, .inl a0), (2, .inl a1)] [] h _
  have b1 := i_rng a1
  have fr : FR [96, 107, 108, 109, 117, 118] h h := FR.rf _ _
  have hK : kyOf h = kyOf h := rfl
  have hE : evOf h = evOf h := rfl
  have b2 : (0 : Int) ≤ (h.1 96 18).toInt ∧ (h.1 96 18).toInt ≤ 6 := hI.1 96 18
  have b3 : (h.1 96 18).toInt = ((evOf h).2.2.2.2.1).toInt := congrArg (fun q : EV => (q.2.2.2.2.1).toInt) hE
  have b4 : (0 : Int) ≤ (h.1 96 51).toInt ∧ (h.1 96 51).toInt ≤ 720 := hI.1 96 51
  refine R_iload_n (k := 1) rfl rfl rfl ?_
  refine N_if_le (a := a0.toInt) 55 rfl rfl rfl (fun c5 => ?_) (fun c5 => ?_)
  · have hK : kyOf h = zPre a0 (kyOf h) := by unfold zPre; rw [if_neg (by omega)]
    refine R_aload_n (k := 0) rfl rfl rfl ?_
    refine R_getf_i (j := 18) rfl ft_9_253 sh_96 rfl ?_
    refine R_iconst 1 rfl rfl ?_
    refine R_isub rfl ?_
    refine N_eq (fun x6 e7 => ?_)
    have q8 : x6.toInt = (h.1 96 18).toInt - 1 := by rw [e7]; exact i_sub rfl (by decide) (by omega)
    refine R_istore_n (k := 3) rfl [(3, .inl x6), (0, .inr (.inr (.inl 96))), (1, .inl a0), (2, .inl a1)] rfl rfl (by decide) ?_
    have lp10 : ∀ (n9 : Nat) (h11 : PH) (x13 : Int32), INV h11 → FR [96, 107, 108, 109, 117, 118] h h11 → FR [96, 107, 108, 109, 117, 118] h h11 → (-1) ≤ x13.toInt ∧ x13.toInt ≤ 5 → (h11.1 96 41).toInt = (h.1 96 41).toInt → (h11.1 96 42).toInt = (h.1 96 42).toInt → (h11.1 96 19).toInt = (h.1 96 19).toInt → (h11.1 96 18).toInt = (h.1 96 18).toInt → (h11.1 96 20).toInt = (h.1 96 20).toInt → (h11.1 96 46).toInt = (h.1 96 46).toInt → (h11.1 96 44).toInt = (h.1 96 44).toInt → (h11.1 96 47).toInt = (h.1 96 47).toInt → (h11.1 96 48).toInt = (h.1 96 48).toInt → (h11.1 96 51).toInt = (h.1 96 51).toInt → x13.toInt ≤ (h.1 96 18).toInt + (-1) → x13.toInt ≤ (h.1 96 18).toInt + 0 → (zPlaces (evOf h) a0 (x13.toInt + 1).toNat (kyOf h11) = zPlaces (evOf h) a0 (evOf h).2.2.2.2.1.toNatClampNeg (zPre a0 (kyOf h))) → (¬ a1.toInt = 0 → kyOf h11 = zPre a0 (kyOf h)) → (evOf h11 = evOf h) → (x13.toInt - (-1)).toNat < n9 → RUN d_X9_goSecond 62 [(3, .inl x13), (0, .inr (.inr (.inl 96))), (1, .inl a0), (2, .inl a1)] [] h11 (qg_X9_goSecond h a0 a1) := by
      intro n9
      induction n9 with
      | zero => intro h11 x13 m15 m16 m17 m18 m19 m20 m21 m22 m23 m24 m25 m26 m27 m28 m29 m30 m31 m32 m33 hz; exact absurd hz (Nat.not_lt_zero _)
      | succ n9 ih14 =>
        intro h11 x13 hI fr fl12 m18 m19 m20 m21 m22 m23 m24 m25 m26 m27 m28 m29 m30 m31 m32 m33 hz
        have hE := m33
        have hK : kyOf h11 = kyOf h11 := rfl
        refine R_iload_n (k := 3) rfl rfl rfl ?_
        refine N_if_lt (a := x13.toInt) 82 rfl rfl rfl (fun c34 => ?_) (fun c34 => ?_)
        · have hK : kyOf h11 = zMid (evOf h) a0 a1 (kyOf h) := by
            unfold zMid
            split
            · first | (exfalso; omega) | (have hA := m31; rw [show (x13.toInt + 1).toNat = 0 by omega] at hA; exact hA)
            · exact m32 (by omega)
          refine R_aload_n (k := 0) rfl rfl rfl ?_
          refine R_getf_i (j := 18) rfl ft_9_253 sh_96 rfl ?_
          refine N_if_le (a := (h11.1 96 18).toInt) 164 rfl rfl rfl (fun c35 => ?_) (fun c35 => ?_)
          · have hK : kyOf h11 = zTake (evOf h) a0 (zMid (evOf h) a0 a1 (kyOf h)) := by
              refine hK.trans ?_
              simp only [zTake, zTake1, eMany, eLine, eFull] <;> (repeat' split) <;> first | (exfalso; omega) | rfl
            refine R_iconst 0 rfl rfl ?_
            refine R_istore_n (k := 3) rfl [(3, .inl 0), (0, .inr (.inr (.inl 96))), (1, .inl a0), (2, .inl a1)] rfl rfl (by decide) ?_
            have lp37 : ∀ (n36 : Nat) (x38 : Int32), 0 ≤ x38.toInt ∧ x38.toInt ≤ 0 → (kyOf h11 = zHolds (evOf h) a0 x38.toNatClampNeg (zTake (evOf h) a0 (zMid (evOf h) a0 a1 (kyOf h)))) → 0 < n36 → RUN d_X9_goSecond 166 [(3, .inl x38), (0, .inr (.inr (.inl 96))), (1, .inl a0), (2, .inl a1)] [] h11 (qg_X9_goSecond h a0 a1) := by
              intro n36
              induction n36 with
              | zero => intro x38 m40 m41 hz; exact absurd hz (Nat.not_lt_zero _)
              | succ n36 ih39 =>
                intro x38 m40 m41 hz
                refine R_iload_n (k := 3) rfl rfl rfl ?_
                refine R_aload_n (k := 0) rfl rfl rfl ?_
                refine R_getf_i (j := 18) rfl ft_9_253 sh_96 rfl ?_
                refine N_icmp_ge (a := x38.toInt) (b := (h11.1 96 18).toInt) 224 rfl rfl rfl rfl (fun c42 => ?_) (fun c42 => ?_)
                · have hF : kyOf h11 = zSecond (evOf h) a0 a1 (kyOf h) := m41.trans (by rw [show x38 = (evOf h).2.2.2.2.1 from i_of _ (by omega)]; rfl)
                  exact R_vret rfl rfl ⟨hI, fr, ⟨by omega, by omega, by omega, by omega, by omega, by omega, by omega, by omega, by omega, by omega, hF, hE, trivial⟩, rfl⟩
                · exfalso; omega
            have k43 : (0 : Int32).toInt = 0 := by decide
            exact lp37 _ (0 : Int32) (by decide) (by rw [hK]; rfl) (Nat.lt_succ_self _)
          · refine R_aload_n (k := 0) rfl rfl rfl ?_
            refine R_getf_r (j := 22) rfl ft_9_46 sh_96 rfl ?_
            refine R_aload_n (k := 0) rfl rfl rfl ?_
            refine R_getf_r (j := 17) rfl ft_9_40 sh_96 rfl ?_
            refine R_iconst 0 rfl rfl ?_
            refine R_iald rfl sh_105 (by decide) ?_
            refine N_eq (fun x44 e45 => ?_)
            have q46 : 0 ≤ x44.toInt ∧ x44.toInt ≤ 5 := by rw [e45]; exact hI.1 105 _
            have e47 : x44 = (evOf h).2.2.2.1 (0 : Int32).toNatClampNeg := by rw [e45]; exact congrFun (congrArg (fun q : EV => q.2.2.2.1) hE) _
            refine R_iald rfl sh_107 ⟨by omega, by omega⟩ ?_
            refine N_eq (fun x48 e49 => ?_)
            have e50 : x48 = ((zMid (evOf h) a0 a1 (kyOf h)).1) x44.toNatClampNeg := by rw [e49]; exact (ky_at107 (nlt ⟨by omega, by omega⟩)).trans (congrFun (congrArg (fun q : KY => q.1) hK) _)
            refine R_iconst (-1) rfl rfl ?_
            refine N_icmp_ne (a := x48.toInt) (b := (-1)) 164 rfl rfl rfl (by decide) (fun c51 => ?_) (fun c51 => ?_)
            · have hK : kyOf h11 = zTake (evOf h) a0 (zMid (evOf h) a0 a1 (kyOf h)) := by
                refine hK.trans ?_
                subst e50 e47
                simp only [zTake, zTake1, eMany, eLine, eFull] <;> (repeat' split) <;> first | (exfalso; omega) | rfl
              refine R_iconst 0 rfl rfl ?_
              refine R_istore_n (k := 3) rfl [(3, .inl 0), (0, .inr (.inr (.inl 96))), (1, .inl a0), (2, .inl a1)] rfl rfl (by decide) ?_
              have lp53 : ∀ (n52 : Nat) (h54 : PH) (x56 : Int32), INV h54 → FR [96, 107, 108, 109, 117, 118] h h54 → FR [107] h11 h54 → 0 ≤ x56.toInt ∧ x56.toInt ≤ 6 → x56.toInt ≤ (h11.1 96 18).toInt + 0 → (kyOf h54 = zHolds (evOf h) a0 x56.toNatClampNeg (zTake (evOf h) a0 (zMid (evOf h) a0 a1 (kyOf h)))) → (evOf h54 = evOf h) → (6 - x56.toInt).toNat < n52 → RUN d_X9_goSecond 166 [(3, .inl x56), (0, .inr (.inr (.inl 96))), (1, .inl a0), (2, .inl a1)] [] h54 (qg_X9_goSecond h a0 a1) := by
                intro n52
                induction n52 with
                | zero => intro h54 x56 m58 m59 m60 m61 m62 m63 m64 hz; exact absurd hz (Nat.not_lt_zero _)
                | succ n52 ih57 =>
                  intro h54 x56 hI fr fl55 m61 m62 m63 m64 hz
                  have s65 : (h54.1 96 41).toInt = (h11.1 96 41).toInt := by rw [(fl55 96 (by decide)).1]
                  have s66 : (h54.1 96 42).toInt = (h11.1 96 42).toInt := by rw [(fl55 96 (by decide)).1]
                  have s67 : (h54.1 96 19).toInt = (h11.1 96 19).toInt := by rw [(fl55 96 (by decide)).1]
                  have s68 : (h54.1 96 18).toInt = (h11.1 96 18).toInt := by rw [(fl55 96 (by decide)).1]
                  have s69 : (h54.1 96 20).toInt = (h11.1 96 20).toInt := by rw [(fl55 96 (by decide)).1]
                  have s70 : (h54.1 96 46).toInt = (h11.1 96 46).toInt := by rw [(fl55 96 (by decide)).1]
                  have s71 : (h54.1 96 44).toInt = (h11.1 96 44).toInt := by rw [(fl55 96 (by decide)).1]
                  have s72 : (h54.1 96 47).toInt = (h11.1 96 47).toInt := by rw [(fl55 96 (by decide)).1]
                  have s73 : (h54.1 96 48).toInt = (h11.1 96 48).toInt := by rw [(fl55 96 (by decide)).1]
                  have s74 : (h54.1 96 51).toInt = (h11.1 96 51).toInt := by rw [(fl55 96 (by decide)).1]
                  have fl12 : FR [96, 107, 108, 109, 117, 118] h h54 := fl12.trans fl55 (by decide)
                  have hE := m64
                  have hK : kyOf h54 = kyOf h54 := rfl
                  refine R_iload_n (k := 3) rfl rfl rfl ?_
                  refine R_aload_n (k := 0) rfl rfl rfl ?_
                  refine R_getf_i (j := 18) rfl ft_9_253 sh_96 rfl ?_
                  refine N_icmp_ge (a := x56.toInt) (b := (h54.1 96 18).toInt) 224 rfl rfl rfl rfl (fun c75 => ?_) (fun c75 => ?_)
                  · have hF : kyOf h54 = zSecond (evOf h) a0 a1 (kyOf h) := m63.trans (by rw [show x56 = (evOf h).2.2.2.2.1 from i_of _ (by omega)]; rfl)
                    exact R_vret rfl rfl ⟨hI, fr, ⟨by omega, by omega, by omega, by omega, by omega, by omega, by omega, by omega, by omega, by omega, hF, hE, trivial⟩, rfl⟩
                  · refine R_aload_n (k := 0) rfl rfl rfl ?_
                    refine R_getf_r (j := 22) rfl ft_9_46 sh_96 rfl ?_
                    refine R_aload_n (k := 0) rfl rfl rfl ?_
                    refine R_getf_r (j := 17) rfl ft_9_40 sh_96 rfl ?_
                    refine R_iload_n (k := 3) rfl rfl rfl ?_
                    refine R_iald rfl sh_105 ⟨by omega, by omega⟩ ?_
                    refine N_eq (fun x76 e77 => ?_)
                    have q78 : 0 ≤ x76.toInt ∧ x76.toInt ≤ 5 := by rw [e77]; exact hI.1 105 _
                    have e79 : x76 = (evOf h).2.2.2.1 x56.toNatClampNeg := by rw [e77]; exact congrFun (congrArg (fun q : EV => q.2.2.2.1) hE) _
                    refine R_iald rfl sh_107 ⟨by omega, by omega⟩ ?_
                    refine N_eq (fun x80 e81 => ?_)
                    have e82 : x80 = ((kyOf h54).1) x76.toNatClampNeg := by rw [e81]; exact (ky_at107 (nlt ⟨by omega, by omega⟩)).trans (congrFun (congrArg (fun q : KY => q.1) hK) _)
                    refine R_iconst (-1) rfl rfl ?_
                    refine N_icmp_eq (a := x80.toInt) (b := (-1)) 218 rfl rfl rfl (by decide) (fun c83 => ?_) (fun c83 => ?_)
                    · refine N_iinc (a := x56.toInt) (c := 1) (fun w => [(3, .inl w), (0, .inr (.inr (.inl 96))), (1, .inl a0), (2, .inl a1)]) rfl rfl (fun _ => rfl) (by decide) rfl (by decide) (by omega) (fun x84 q85 => ?_)
                      refine R_goto 166 rfl rfl ?_
                      exact RUN_weak (psub_cons rfl (psub_cons rfl (psub_cons rfl (psub_cons rfl (psub_nil _))))) (ih57 h54 x84 hI fr fl55 (by omega) (by omega) (by rw [zHolds_s (x := x56) (x' := x84) (by omega) (by omega), ← m63]; refine hK.trans ?_; subst e82 e79; simp only [zHold1, eLine] <;> (repeat' split) <;> first | (exfalso; omega) | rfl) (hE) (by omega))
                    · refine R_aload_n (k := 0) rfl rfl rfl ?_
                      refine R_aload_n (k := 0) rfl rfl rfl ?_
                      refine R_getf_r (j := 17) rfl ft_9_40 sh_96 rfl ?_
                      refine R_iload_n (k := 3) rfl rfl rfl ?_
                      refine R_iald rfl sh_105 ⟨by omega, by omega⟩ ?_
                      refine N_eq (fun x86 e87 => ?_)
                      have q88 : 0 ≤ x86.toInt ∧ x86.toInt ≤ 5 := by rw [e87]; exact hI.1 105 _
                      have e89 : x86 = (evOf h).2.2.2.1 x56.toNatClampNeg := by rw [e87]; exact congrFun (congrArg (fun q : EV => q.2.2.2.1) hE) _
                      refine R_iload_n (k := 1) rfl rfl rfl ?_
                      refine R_callV (v := .inr (.inr (.inl 96))) (As := [.inl x86, .inl a0]) (rest := []) rfl mt_9_i271 pp_X9_doesRest (by decide) rfl rfl rfl (Nat.le_of_ble_eq_true rfl) (Nat.le_of_ble_eq_true rfl) ((g_X9_doesRest h54 hI x86 a0 (by omega) (by omega)).mono (fun r90 h91 p92 => ?_))
                      obtain ⟨rfl, x94, rfl, (q95 | q95 | q95), zq93, -⟩ := p92
                      · rw [hE] at zq93
                        exfalso; omega
                      · rw [hE] at zq93
                        show RUN d_X9_goSecond 200 [(3, .inl x56), (0, .inr (.inr (.inl 96))), (1, .inl a0), (2, .inl a1)] [.inl x94] h54 _
                        refine N_if_ne (a := x94.toInt) 218 rfl rfl rfl (fun c96 => ?_) (fun c96 => ?_)
                        · exfalso; omega
                        · refine R_aload_n (k := 0) rfl rfl rfl ?_
                          refine R_getf_r (j := 22) rfl ft_9_46 sh_96 rfl ?_
                          refine R_aload_n (k := 0) rfl rfl rfl ?_
                          refine R_getf_r (j := 17) rfl ft_9_40 sh_96 rfl ?_
                          refine R_iload_n (k := 3) rfl rfl rfl ?_
                          refine R_iald rfl sh_105 ⟨by omega, by omega⟩ ?_
                          refine N_eq (fun x97 e98 => ?_)
                          have q99 : 0 ≤ x97.toInt ∧ x97.toInt ≤ 5 := by rw [e98]; exact hI.1 105 _
                          have e100 : x97 = (evOf h).2.2.2.1 x56.toNatClampNeg := by rw [e98]; exact congrFun (congrArg (fun q : EV => q.2.2.2.1) hE) _
                          refine R_dup2 rfl ?_
                          refine R_iald rfl sh_107 ⟨by omega, by omega⟩ ?_
                          refine N_eq (fun x101 e102 => ?_)
                          have e103 : x101 = ((kyOf h54).1) x97.toNatClampNeg := by rw [e102]; exact (ky_at107 (nlt ⟨by omega, by omega⟩)).trans (congrFun (congrArg (fun q : KY => q.1) hK) _)
                          refine R_iconst 1 rfl rfl ?_
                          have b104 := i_rng x101
                          refine R_iadd rfl ?_
                          refine N_eq (fun x105 e106 => ?_)
                          refine K_iast (a := x97.toInt) (lo := (-2147483648)) (hi' := 2147483647) rfl sh_107 rfl ⟨by omega, by omega⟩ hI (by decide) rfl (i_rng _) fr (by decide) (fun h107 g108 hI fr => ?_)
                          have fl55 : FR [107] h11 h107 := by rw [g108]; exact FR_wI _ _ fl55 (by decide)
                          have fl12 : FR [96, 107, 108, 109, 117, 118] h h107 := by rw [g108]; exact FR_wI _ _ fl12 (by decide)
                          have s109 : (h107.1 96 41).toInt = (h54.1 96 41).toInt := by rw [g108, wI_ne _ _ _ (by decide)]
                          have s110 : (h107.1 96 42).toInt = (h54.1 96 42).toInt := by rw [g108, wI_ne _ _ _ (by decide)]
                          have s111 : (h107.1 96 19).toInt = (h54.1 96 19).toInt := by rw [g108, wI_ne _ _ _ (by decide)]
                          have s112 : (h107.1 96 18).toInt = (h54.1 96 18).toInt := by rw [g108, wI_ne _ _ _ (by decide)]
                          have s113 : (h107.1 96 20).toInt = (h54.1 96 20).toInt := by rw [g108, wI_ne _ _ _ (by decide)]
                          have s114 : (h107.1 96 46).toInt = (h54.1 96 46).toInt := by rw [g108, wI_ne _ _ _ (by decide)]
                          have s115 : (h107.1 96 44).toInt = (h54.1 96 44).toInt := by rw [g108, wI_ne _ _ _ (by decide)]
                          have s116 : (h107.1 96 47).toInt = (h54.1 96 47).toInt := by rw [g108, wI_ne _ _ _ (by decide)]
                          have s117 : (h107.1 96 48).toInt = (h54.1 96 48).toInt := by rw [g108, wI_ne _ _ _ (by decide)]
                          have s118 : (h107.1 96 51).toInt = (h54.1 96 51).toInt := by rw [g108, wI_ne _ _ _ (by decide)]
                          have hK : kyOf h107 = (upd ((kyOf h54).1) x97.toNatClampNeg x105, (kyOf h54).2.1, (kyOf h54).2.2.1, (kyOf h54).2.2.2) := by rw [g108, ky_107 (nlt ⟨by omega, by omega⟩), hK] <;> rfl
                          have hE : evOf h107 = evOf h := by rw [g108, ev_o (by decide), hE]
                          refine N_iinc (a := x56.toInt) (c := 1) (fun w => [(3, .inl w), (0, .inr (.inr (.inl 96))), (1, .inl a0), (2, .inl a1)]) rfl rfl (fun _ => rfl) (by decide) rfl (by decide) (by omega) (fun x119 q120 => ?_)
                          refine R_goto 166 rfl rfl ?_
                          exact RUN_weak (psub_cons rfl (psub_cons rfl (psub_cons rfl (psub_cons rfl (psub_nil _))))) (ih57 h107 x119 hI fr fl55 (by omega) (by omega) (by rw [zHolds_s (x := x56) (x' := x119) (by omega) (by omega), ← m63]; refine hK.trans ?_; subst e106 e103 e100 e89 e82 e79; simp only [zHold1, eLine] <;> (repeat' split) <;> first | (exfalso; omega) | rfl) (hE) (by omega))
                      · rw [hE] at zq93
                        show RUN d_X9_goSecond 200 [(3, .inl x56), (0, .inr (.inr (.inl 96))), (1, .inl a0), (2, .inl a1)] [.inl x94] h54 _
                        refine N_if_ne (a := x94.toInt) 218 rfl rfl rfl (fun c121 => ?_) (fun c121 => ?_)
                        · refine N_iinc (a := x56.toInt) (c := 1) (fun w => [(3, .inl w), (0, .inr (.inr (.inl 96))), (1, .inl a0), (2, .inl a1)]) rfl rfl (fun _ => rfl) (by decide) rfl (by decide) (by omega) (fun x122 q123 => ?_)
                          refine R_goto 166 rfl rfl ?_
                          exact RUN_weak (psub_cons rfl (psub_cons rfl (psub_cons rfl (psub_cons rfl (psub_nil _))))) (ih57 h54 x122 hI fr fl55 (by omega) (by omega) (by rw [zHolds_s (x := x56) (x' := x122) (by omega) (by omega), ← m63]; refine hK.trans ?_; subst e89 e82 e79; simp only [zHold1, eLine] <;> (repeat' split) <;> first | (exfalso; omega) | rfl) (hE) (by omega))
                        · exfalso; omega
              have k124 : (0 : Int32).toInt = 0 := by decide
              exact lp53 _ h11 (0 : Int32) hI fr (FR.rf _ _) (by decide) (by omega) (by rw [hK]; rfl) (hE) (Nat.lt_succ_self _)
            · refine R_aload_n (k := 0) rfl rfl rfl ?_
              refine R_aload_n (k := 0) rfl rfl rfl ?_
              refine R_getf_r (j := 17) rfl ft_9_40 sh_96 rfl ?_
              refine R_iconst 0 rfl rfl ?_
              refine R_iald rfl sh_105 (by decide) ?_
              refine N_eq (fun x125 e126 => ?_)
              have q127 : 0 ≤ x125.toInt ∧ x125.toInt ≤ 5 := by rw [e126]; exact hI.1 105 _
              have e128 : x125 = (evOf h).2.2.2.1 (0 : Int32).toNatClampNeg := by rw [e126]; exact congrFun (congrArg (fun q : EV => q.2.2.2.1) hE) _
              refine R_iload_n (k := 1) rfl rfl rfl ?_
              refine R_callV (v := .inr (.inr (.inl 96))) (As := [.inl x125, .inl a0]) (rest := []) rfl mt_9_i271 pp_X9_doesRest (by decide) rfl rfl rfl (Nat.le_of_ble_eq_true rfl) (Nat.le_of_ble_eq_true rfl) ((g_X9_doesRest h11 hI x125 a0 (by omega) (by omega)).mono (fun r129 h130 p131 => ?_))
              obtain ⟨rfl, x133, rfl, (q134 | q134 | q134), zq132, -⟩ := p131
              · rw [hE] at zq132
                exfalso; omega
              · rw [hE] at zq132
                show RUN d_X9_goSecond 115 [(3, .inl x13), (0, .inr (.inr (.inl 96))), (1, .inl a0), (2, .inl a1)] [.inl x133] h11 _
                refine N_if_ne (a := x133.toInt) 164 rfl rfl rfl (fun c135 => ?_) (fun c135 => ?_)
                · exfalso; omega
                · refine R_aload_n (k := 0) rfl rfl rfl ?_
                  refine R_getf_r (j := 24) rfl ft_9_52 sh_96 rfl ?_
                  refine R_iconst 0 rfl rfl ?_
                  refine R_iald rfl sh_109 (by decide) ?_
                  refine N_eq (fun x136 e137 => ?_)
                  have e138 : x136 = ((zMid (evOf h) a0 a1 (kyOf h)).2.2.1) (0 : Int32).toNatClampNeg := by rw [e137]; exact (ky_at109 (by decide)).trans (congrFun (congrArg (fun q : KY => q.2.2.1) hK) _)
                  refine N_if_le (a := x136.toInt) 164 rfl rfl rfl (fun c139 => ?_) (fun c139 => ?_)
                  · have hK : kyOf h11 = zTake (evOf h) a0 (zMid (evOf h) a0 a1 (kyOf h)) := by
                      refine hK.trans ?_
                      subst e138 e128 e50 e47
                      simp only [zTake, zTake1, eMany, eLine, eFull] <;> (repeat' split) <;> first | (exfalso; omega) | rfl
                    refine R_iconst 0 rfl rfl ?_
                    refine R_istore_n (k := 3) rfl [(3, .inl 0), (0, .inr (.inr (.inl 96))), (1, .inl a0), (2, .inl a1)] rfl rfl (by decide) ?_
                    have lp141 : ∀ (n140 : Nat) (h142 : PH) (x144 : Int32), INV h142 → FR [96, 107, 108, 109, 117, 118] h h142 → FR [107] h11 h142 → 0 ≤ x144.toInt ∧ x144.toInt ≤ 6 → x144.toInt ≤ (h11.1 96 18).toInt + 0 → (kyOf h142 = zHolds (evOf h) a0 x144.toNatClampNeg (zTake (evOf h) a0 (zMid (evOf h) a0 a1 (kyOf h)))) → (evOf h142 = evOf h) → (6 - x144.toInt).toNat < n140 → RUN d_X9_goSecond 166 [(3, .inl x144), (0, .inr (.inr (.inl 96))), (1, .inl a0), (2, .inl a1)] [] h142 (qg_X9_goSecond h a0 a1) := by
                      intro n140
                      induction n140 with
                      | zero => intro h142 x144 m146 m147 m148 m149 m150 m151 m152 hz; exact absurd hz (Nat.not_lt_zero _)
                      | succ n140 ih145 =>
                        intro h142 x144 hI fr fl143 m149 m150 m151 m152 hz
                        have s153 : (h142.1 96 41).toInt = (h11.1 96 41).toInt := by rw [(fl143 96 (by decide)).1]
                        have s154 : (h142.1 96 42).toInt = (h11.1 96 42).toInt := by rw [(fl143 96 (by decide)).1]
                        have s155 : (h142.1 96 19).toInt = (h11.1 96 19).toInt := by rw [(fl143 96 (by decide)).1]
                        have s156 : (h142.1 96 18).toInt = (h11.1 96 18).toInt := by rw [(fl143 96 (by decide)).1]
                        have s157 : (h142.1 96 20).toInt = (h11.1 96 20).toInt := by rw [(fl143 96 (by decide)).1]
                        have s158 : (h142.1 96 46).toInt = (h11.1 96 46).toInt := by rw [(fl143 96 (by decide)).1]
                        have s159 : (h142.1 96 44).toInt = (h11.1 96 44).toInt := by rw [(fl143 96 (by decide)).1]
                        have s160 : (h142.1 96 47).toInt = (h11.1 96 47).toInt := by rw [(fl143 96 (by decide)).1]
                        have s161 : (h142.1 96 48).toInt = (h11.1 96 48).toInt := by rw [(fl143 96 (by decide)).1]
                        have s162 : (h142.1 96 51).toInt = (h11.1 96 51).toInt := by rw [(fl143 96 (by decide)).1]
                        have fl12 : FR [96, 107, 108, 109, 117, 118] h h142 := fl12.trans fl143 (by decide)
                        have hE := m152
                        have hK : kyOf h142 = kyOf h142 := rfl
                        refine R_iload_n (k := 3) rfl rfl rfl ?_
                        refine R_aload_n (k := 0) rfl rfl rfl ?_
                        refine R_getf_i (j := 18) rfl ft_9_253 sh_96 rfl ?_
                        refine N_icmp_ge (a := x144.toInt) (b := (h142.1 96 18).toInt) 224 rfl rfl rfl rfl (fun c163 => ?_) (fun c163 => ?_)
                        · have hF : kyOf h142 = zSecond (evOf h) a0 a1 (kyOf h) := m151.trans (by rw [show x144 = (evOf h).2.2.2.2.1 from i_of _ (by omega)]; rfl)
                          exact R_vret rfl rfl ⟨hI, fr, ⟨by omega, by omega, by omega, by omega, by omega, by omega, by omega, by omega, by omega, by omega, hF, hE, trivial⟩, rfl⟩
                        · refine R_aload_n (k := 0) rfl rfl rfl ?_
                          refine R_getf_r (j := 22) rfl ft_9_46 sh_96 rfl ?_
                          refine R_aload_n (k := 0) rfl rfl rfl ?_
                          refine R_getf_r (j := 17) rfl ft_9_40 sh_96 rfl ?_
                          refine R_iload_n (k := 3) rfl rfl rfl ?_
                          refine R_iald rfl sh_105 ⟨by omega, by omega⟩ ?_
                          refine N_eq (fun x164 e165 => ?_)
                          have q166 : 0 ≤ x164.toInt ∧ x164.toInt ≤ 5 := by rw [e165]; exact hI.1 105 _
                          have e167 : x164 = (evOf h).2.2.2.1 x144.toNatClampNeg := by rw [e165]; exact congrFun (congrArg (fun q : EV => q.2.2.2.1) hE) _
                          refine R_iald rfl sh_107 ⟨by omega, by omega⟩ ?_
                          refine N_eq (fun x168 e169 => ?_)
                          have e170 : x168 = ((kyOf h142).1) x164.toNatClampNeg := by rw [e169]; exact (ky_at107 (nlt ⟨by omega, by omega⟩)).trans (congrFun (congrArg (fun q : KY => q.1) hK) _)
                          refine R_iconst (-1) rfl rfl ?_
                          refine N_icmp_eq (a := x168.toInt) (b := (-1)) 218 rfl rfl rfl (by decide) (fun c171 => ?_) (fun c171 => ?_)
                          · refine N_iinc (a := x144.toInt) (c := 1) (fun w => [(3, .inl w), (0, .inr (.inr (.inl 96))), (1, .inl a0), (2, .inl a1)]) rfl rfl (fun _ => rfl) (by decide) rfl (by decide) (by omega) (fun x172 q173 => ?_)
                            refine R_goto 166 rfl rfl ?_
                            exact RUN_weak (psub_cons rfl (psub_cons rfl (psub_cons rfl (psub_cons rfl (psub_nil _))))) (ih145 h142 x172 hI fr fl143 (by omega) (by omega) (by rw [zHolds_s (x := x144) (x' := x172) (by omega) (by omega), ← m151]; refine hK.trans ?_; subst e170 e167; simp only [zHold1, eLine] <;> (repeat' split) <;> first | (exfalso; omega) | rfl) (hE) (by omega))
                          · refine R_aload_n (k := 0) rfl rfl rfl ?_
                            refine R_aload_n (k := 0) rfl rfl rfl ?_
                            refine R_getf_r (j := 17) rfl ft_9_40 sh_96 rfl ?_
                            refine R_iload_n (k := 3) rfl rfl rfl ?_
                            refine R_iald rfl sh_105 ⟨by omega, by omega⟩ ?_
                            refine N_eq (fun x174 e175 => ?_)
                            have q176 : 0 ≤ x174.toInt ∧ x174.toInt ≤ 5 := by rw [e175]; exact hI.1 105 _
                            have e177 : x174 = (evOf h).2.2.2.1 x144.toNatClampNeg := by rw [e175]; exact congrFun (congrArg (fun q : EV => q.2.2.2.1) hE) _
                            refine R_iload_n (k := 1) rfl rfl rfl ?_
                            refine R_callV (v := .inr (.inr (.inl 96))) (As := [.inl x174, .inl a0]) (rest := []) rfl mt_9_i271 pp_X9_doesRest (by decide) rfl rfl rfl (Nat.le_of_ble_eq_true rfl) (Nat.le_of_ble_eq_true rfl) ((g_X9_doesRest h142 hI x174 a0 (by omega) (by omega)).mono (fun r178 h179 p180 => ?_))
                            obtain ⟨rfl, x182, rfl, (q183 | q183 | q183), zq181, -⟩ := p180
                            · rw [hE] at zq181
                              exfalso; omega
                            · rw [hE] at zq181
                              show RUN d_X9_goSecond 200 [(3, .inl x144), (0, .inr (.inr (.inl 96))), (1, .inl a0), (2, .inl a1)] [.inl x182] h142 _
                              refine N_if_ne (a := x182.toInt) 218 rfl rfl rfl (fun c184 => ?_) (fun c184 => ?_)
                              · exfalso; omega
                              · refine R_aload_n (k := 0) rfl rfl rfl ?_
                                refine R_getf_r (j := 22) rfl ft_9_46 sh_96 rfl ?_
                                refine R_aload_n (k := 0) rfl rfl rfl ?_
                                refine R_getf_r (j := 17) rfl ft_9_40 sh_96 rfl ?_
                                refine R_iload_n (k := 3) rfl rfl rfl ?_
                                refine R_iald rfl sh_105 ⟨by omega, by omega⟩ ?_
                                refine N_eq (fun x185 e186 => ?_)
                                have q187 : 0 ≤ x185.toInt ∧ x185.toInt ≤ 5 := by rw [e186]; exact hI.1 105 _
                                have e188 : x185 = (evOf h).2.2.2.1 x144.toNatClampNeg := by rw [e186]; exact congrFun (congrArg (fun q : EV => q.2.2.2.1) hE) _
                                refine R_dup2 rfl ?_
                                refine R_iald rfl sh_107 ⟨by omega, by omega⟩ ?_
                                refine N_eq (fun x189 e190 => ?_)
                                have e191 : x189 = ((kyOf h142).1) x185.toNatClampNeg := by rw [e190]; exact (ky_at107 (nlt ⟨by omega, by omega⟩)).trans (congrFun (congrArg (fun q : KY => q.1) hK) _)
                                refine R_iconst 1 rfl rfl ?_
                                have b192 := i_rng x189
                                refine R_iadd rfl ?_
                                refine N_eq (fun x193 e194 => ?_)
                                refine K_iast (a := x185.toInt) (lo := (-2147483648)) (hi' := 2147483647) rfl sh_107 rfl ⟨by omega, by omega⟩ hI (by decide) rfl (i_rng _) fr (by decide) (fun h195 g196 hI fr => ?_)
                                have fl143 : FR [107] h11 h195 := by rw [g196]; exact FR_wI _ _ fl143 (by decide)
                                have fl12 : FR [96, 107, 108, 109, 117, 118] h h195 := by rw [g196]; exact FR_wI _ _ fl12 (by decide)
                                have s197 : (h195.1 96 41).toInt = (h142.1 96 41).toInt := by rw [g196, wI_ne _ _ _ (by decide)]
                                have s198 : (h195.1 96 42).toInt = (h142.1 96 42).toInt := by rw [g196, wI_ne _ _ _ (by decide)]
                                have s199 : (h195.1 96 19).toInt = (h142.1 96 19).toInt := by rw [g196, wI_ne _ _ _ (by decide)]
                                have s200 : (h195.1 96 18).toInt = (h142.1 96 18).toInt := by rw [g196, wI_ne _ _ _ (by decide)]
                                have s201 : (h195.1 96 20).toInt = (h142.1 96 20).toInt := by rw [g196, wI_ne _ _ _ (by decide)]
                                have s202 : (h195.1 96 46).toInt = (h142.1 96 46).toInt := by rw [g196, wI_ne _ _ _ (by decide)]
                                have s203 : (h195.1 96 44).toInt = (h142.1 96 44).toInt := by rw [g196, wI_ne _ _ _ (by decide)]
                                have s204 : (h195.1 96 47).toInt = (h142.1 96 47).toInt := by rw [g196, wI_ne _ _ _ (by decide)]
                                have s205 : (h195.1 96 48).toInt = (h142.1 96 48).toInt := by rw [g196, wI_ne _ _ _ (by decide)]
                                have s206 : (h195.1 96 51).toInt = (h142.1 96 51).toInt := by rw [g196, wI_ne _ _ _ (by decide)]
                                have hK : kyOf h195 = (upd ((kyOf h142).1) x185.toNatClampNeg x193, (kyOf h142).2.1, (kyOf h142).2.2.1, (kyOf h142).2.2.2) := by rw [g196, ky_107 (nlt ⟨by omega, by omega⟩), hK] <;> rfl
                                have hE : evOf h195 = evOf h := by rw [g196, ev_o (by decide), hE]
                                refine N_iinc (a := x144.toInt) (c := 1) (fun w => [(3, .inl w), (0, .inr (.inr (.inl 96))), (1, .inl a0), (2, .inl a1)]) rfl rfl (fun _ => rfl) (by decide) rfl (by decide) (by omega) (fun x207 q208 => ?_)
                                refine R_goto 166 rfl rfl ?_
                                exact RUN_weak (psub_cons rfl (psub_cons rfl (psub_cons rfl (psub_cons rfl (psub_nil _))))) (ih145 h195 x207 hI fr fl143 (by omega) (by omega) (by rw [zHolds_s (x := x144) (x' := x207) (by omega) (by omega), ← m151]; refine hK.trans ?_; subst e194 e191 e188 e177 e170 e167; simp only [zHold1, eLine] <;> (repeat' split) <;> first | (exfalso; omega) | rfl) (hE) (by omega))
                            · rw [hE] at zq181
                              show RUN d_X9_goSecond 200 [(3, .inl x144), (0, .inr (.inr (.inl 96))), (1, .inl a0), (2, .inl a1)] [.inl x182] h142 _
                              refine N_if_ne (a := x182.toInt) 218 rfl rfl rfl (fun c209 => ?_) (fun c209 => ?_)
                              · refine N_iinc (a := x144.toInt) (c := 1) (fun w => [(3, .inl w), (0, .inr (.inr (.inl 96))), (1, .inl a0), (2, .inl a1)]) rfl rfl (fun _ => rfl) (by decide) rfl (by decide) (by omega) (fun x210 q211 => ?_)
                                refine R_goto 166 rfl rfl ?_
                                exact RUN_weak (psub_cons rfl (psub_cons rfl (psub_cons rfl (psub_cons rfl (psub_nil _))))) (ih145 h142 x210 hI fr fl143 (by omega) (by omega) (by rw [zHolds_s (x := x144) (x' := x210) (by omega) (by omega), ← m151]; refine hK.trans ?_; subst e177 e170 e167; simp only [zHold1, eLine] <;> (repeat' split) <;> first | (exfalso; omega) | rfl) (hE) (by omega))
                              · exfalso; omega
                    have k212 : (0 : Int32).toInt = 0 := by decide
                    exact lp141 _ h11 (0 : Int32) hI fr (FR.rf _ _) (by decide) (by omega) (by rw [hK]; rfl) (hE) (Nat.lt_succ_self _)
                  · refine R_aload_n (k := 0) rfl rfl rfl ?_
                    refine R_getf_r (j := 24) rfl ft_9_52 sh_96 rfl ?_
                    refine R_iconst 0 rfl rfl ?_
                    refine R_dup2 rfl ?_
                    refine R_iald rfl sh_109 (by decide) ?_
                    refine N_eq (fun x213 e214 => ?_)
                    have e215 : x213 = ((zMid (evOf h) a0 a1 (kyOf h)).2.2.1) (0 : Int32).toNatClampNeg := by rw [e214]; exact (ky_at109 (by decide)).trans (congrFun (congrArg (fun q : KY => q.2.2.1) hK) _)
                    refine R_iconst 1 rfl rfl ?_
                    have b216 := i_rng x213
                    refine R_isub rfl ?_
                    refine N_eq (fun x217 e218 => ?_)
                    refine K_iast (a := 0) (lo := (-2147483648)) (hi' := 2147483647) rfl sh_109 (by decide) (by decide) hI (by decide) rfl (i_rng _) fr (by decide) (fun h219 g220 hI fr => ?_)
                    have fl12 : FR [96, 107, 108, 109, 117, 118] h h219 := by rw [g220]; exact FR_wI _ _ fl12 (by decide)
                    have s221 : (h219.1 96 41).toInt = (h11.1 96 41).toInt := by rw [g220, wI_ne _ _ _ (by decide)]
                    have s222 : (h219.1 96 42).toInt = (h11.1 96 42).toInt := by rw [g220, wI_ne _ _ _ (by decide)]
                    have s223 : (h219.1 96 19).toInt = (h11.1 96 19).toInt := by rw [g220, wI_ne _ _ _ (by decide)]
                    have s224 : (h219.1 96 18).toInt = (h11.1 96 18).toInt := by rw [g220, wI_ne _ _ _ (by decide)]
                    have s225 : (h219.1 96 20).toInt = (h11.1 96 20).toInt := by rw [g220, wI_ne _ _ _ (by decide)]
                    have s226 : (h219.1 96 46).toInt = (h11.1 96 46).toInt := by rw [g220, wI_ne _ _ _ (by decide)]
                    have s227 : (h219.1 96 44).toInt = (h11.1 96 44).toInt := by rw [g220, wI_ne _ _ _ (by decide)]
                    have s228 : (h219.1 96 47).toInt = (h11.1 96 47).toInt := by rw [g220, wI_ne _ _ _ (by decide)]
                    have s229 : (h219.1 96 48).toInt = (h11.1 96 48).toInt := by rw [g220, wI_ne _ _ _ (by decide)]
                    have s230 : (h219.1 96 51).toInt = (h11.1 96 51).toInt := by rw [g220, wI_ne _ _ _ (by decide)]
                    have hK : kyOf h219 = ((zMid (evOf h) a0 a1 (kyOf h)).1, (zMid (evOf h) a0 a1 (kyOf h)).2.1, upd ((zMid (evOf h) a0 a1 (kyOf h)).2.2.1) (0 : Int32).toNatClampNeg x217, (zMid (evOf h) a0 a1 (kyOf h)).2.2.2) := by rw [g220, ky_109 (by decide), hK] <;> rfl
                    have hE : evOf h219 = evOf h := by rw [g220, ev_o (by decide), hE]
                    refine R_aload_n (k := 0) rfl rfl rfl ?_
                    refine R_getf_r (j := 22) rfl ft_9_46 sh_96 rfl ?_
                    refine R_aload_n (k := 0) rfl rfl rfl ?_
                    refine R_getf_r (j := 17) rfl ft_9_40 sh_96 rfl ?_
                    refine R_iconst 0 rfl rfl ?_
                    refine R_iald rfl sh_105 (by decide) ?_
                    refine N_eq (fun x231 e232 => ?_)
                    have q233 : 0 ≤ x231.toInt ∧ x231.toInt ≤ 5 := by rw [e232]; exact hI.1 105 _
                    have e234 : x231 = (evOf h).2.2.2.1 (0 : Int32).toNatClampNeg := by rw [e232]; exact congrFun (congrArg (fun q : EV => q.2.2.2.1) hE) _
                    refine R_iconst 0 rfl rfl ?_
                    refine K_iast (a := x231.toInt) (lo := (-2147483648)) (hi' := 2147483647) rfl sh_107 rfl ⟨by omega, by omega⟩ hI (by decide) rfl (by decide) fr (by decide) (fun h235 g236 hI fr => ?_)
                    have fl12 : FR [96, 107, 108, 109, 117, 118] h h235 := by rw [g236]; exact FR_wI _ _ fl12 (by decide)
                    have s237 : (h235.1 96 41).toInt = (h219.1 96 41).toInt := by rw [g236, wI_ne _ _ _ (by decide)]
                    have s238 : (h235.1 96 42).toInt = (h219.1 96 42).toInt := by rw [g236, wI_ne _ _ _ (by decide)]
                    have s239 : (h235.1 96 19).toInt = (h219.1 96 19).toInt := by rw [g236, wI_ne _ _ _ (by decide)]
                    have s240 : (h235.1 96 18).toInt = (h219.1 96 18).toInt := by rw [g236, wI_ne _ _ _ (by decide)]
                    have s241 : (h235.1 96 20).toInt = (h219.1 96 20).toInt := by rw [g236, wI_ne _ _ _ (by decide)]
                    have s242 : (h235.1 96 46).toInt = (h219.1 96 46).toInt := by rw [g236, wI_ne _ _ _ (by decide)]
                    have s243 : (h235.1 96 44).toInt = (h219.1 96 44).toInt := by rw [g236, wI_ne _ _ _ (by decide)]
                    have s244 : (h235.1 96 47).toInt = (h219.1 96 47).toInt := by rw [g236, wI_ne _ _ _ (by decide)]
                    have s245 : (h235.1 96 48).toInt = (h219.1 96 48).toInt := by rw [g236, wI_ne _ _ _ (by decide)]
                    have s246 : (h235.1 96 51).toInt = (h219.1 96 51).toInt := by rw [g236, wI_ne _ _ _ (by decide)]
                    have hK : kyOf h235 = (upd ((zMid (evOf h) a0 a1 (kyOf h)).1) x231.toNatClampNeg (0), (zMid (evOf h) a0 a1 (kyOf h)).2.1, upd ((zMid (evOf h) a0 a1 (kyOf h)).2.2.1) (0 : Int32).toNatClampNeg x217, (zMid (evOf h) a0 a1 (kyOf h)).2.2.2) := by rw [g236, ky_107 (nlt ⟨by omega, by omega⟩), hK] <;> rfl
                    have hE : evOf h235 = evOf h := by rw [g236, ev_o (by decide), hE]
                    refine R_aload_n (k := 0) rfl rfl rfl ?_
                    refine R_getf_r (j := 23) rfl ft_9_49 sh_96 rfl ?_
                    refine R_aload_n (k := 0) rfl rfl rfl ?_
                    refine R_getf_r (j := 17) rfl ft_9_40 sh_96 rfl ?_
                    refine R_iconst 0 rfl rfl ?_
                    refine R_iald rfl sh_105 (by decide) ?_
                    refine N_eq (fun x247 e248 => ?_)
                    have q249 : 0 ≤ x247.toInt ∧ x247.toInt ≤ 5 := by rw [e248]; exact hI.1 105 _
                    have e250 : x247 = (evOf h).2.2.2.1 (0 : Int32).toNatClampNeg := by rw [e248]; exact congrFun (congrArg (fun q : EV => q.2.2.2.1) hE) _
                    refine R_aload_n (k := 0) rfl rfl rfl ?_
                    refine R_getf_i (j := 20) rfl ft_9_259 sh_96 rfl ?_
                    refine N_eq (fun x251 e252 => ?_)
                    have e253 : x251 = (evOf h).2.2.2.2.2.1 := by rw [e252]; exact congrArg (fun q : EV => q.2.2.2.2.2.1) hE
                    refine K_iast (a := x247.toInt) (lo := (-2147483648)) (hi' := 2147483647) rfl sh_108 rfl ⟨by omega, by omega⟩ hI (by decide) rfl (i_rng _) fr (by decide) (fun h254 g255 hI fr => ?_)
                    have fl12 : FR [96, 107, 108, 109, 117, 118] h h254 := by rw [g255]; exact FR_wI _ _ fl12 (by decide)
                    have s256 : (h254.1 96 41).toInt = (h235.1 96 41).toInt := by rw [g255, wI_ne _ _ _ (by decide)]
                    have s257 : (h254.1 96 42).toInt = (h235.1 96 42).toInt := by rw [g255, wI_ne _ _ _ (by decide)]
                    have s258 : (h254.1 96 19).toInt = (h235.1 96 19).toInt := by rw [g255, wI_ne _ _ _ (by decide)]
                    have s259 : (h254.1 96 18).toInt = (h235.1 96 18).toInt := by rw [g255, wI_ne _ _ _ (by decide)]
                    have s260 : (h254.1 96 20).toInt = (h235.1 96 20).toInt := by rw [g255, wI_ne _ _ _ (by decide)]
                    have s261 : (h254.1 96 46).toInt = (h235.1 96 46).toInt := by rw [g255, wI_ne _ _ _ (by decide)]
                    have s262 : (h254.1 96 44).toInt = (h235.1 96 44).toInt := by rw [g255, wI_ne _ _ _ (by decide)]
                    have s263 : (h254.1 96 47).toInt = (h235.1 96 47).toInt := by rw [g255, wI_ne _ _ _ (by decide)]
                    have s264 : (h254.1 96 48).toInt = (h235.1 96 48).toInt := by rw [g255, wI_ne _ _ _ (by decide)]
                    have s265 : (h254.1 96 51).toInt = (h235.1 96 51).toInt := by rw [g255, wI_ne _ _ _ (by decide)]
                    have hK : kyOf h254 = (upd ((zMid (evOf h) a0 a1 (kyOf h)).1) x231.toNatClampNeg (0), upd ((zMid (evOf h) a0 a1 (kyOf h)).2.1) x247.toNatClampNeg x251, upd ((zMid (evOf h) a0 a1 (kyOf h)).2.2.1) (0 : Int32).toNatClampNeg x217, (zMid (evOf h) a0 a1 (kyOf h)).2.2.2) := by rw [g255, ky_108 (nlt ⟨by omega, by omega⟩), hK] <;> rfl
                    have hE : evOf h254 = evOf h := by rw [g255, ev_o (by decide), hE]
                    have hK : kyOf h254 = zTake (evOf h) a0 (zMid (evOf h) a0 a1 (kyOf h)) := by
                      refine hK.trans ?_
                      subst e253 e250 e234 e218 e215 e138 e128 e50 e47
                      simp only [zTake, zTake1, eMany, eLine, eFull] <;> (repeat' split) <;> first | (exfalso; omega) | rfl
                    refine R_iconst 0 rfl rfl ?_
                    refine R_istore_n (k := 3) rfl [(3, .inl 0), (0, .inr (.inr (.inl 96))), (1, .inl a0), (2, .inl a1)] rfl rfl (by decide) ?_
                    have lp267 : ∀ (n266 : Nat) (h268 : PH) (x270 : Int32), INV h268 → FR [96, 107, 108, 109, 117, 118] h h268 → FR [107] h254 h268 → 0 ≤ x270.toInt ∧ x270.toInt ≤ 6 → x270.toInt ≤ (h254.1 96 18).toInt + 0 → (kyOf h268 = zHolds (evOf h) a0 x270.toNatClampNeg (zTake (evOf h) a0 (zMid (evOf h) a0 a1 (kyOf h)))) → (evOf h268 = evOf h) → (6 - x270.toInt).toNat < n266 → RUN d_X9_goSecond 166 [(3, .inl x270), (0, .inr (.inr (.inl 96))), (1, .inl a0), (2, .inl a1)] [] h268 (qg_X9_goSecond h a0 a1) := by
                      intro n266
                      induction n266 with
                      | zero => intro h268 x270 m272 m273 m274 m275 m276 m277 m278 hz; exact absurd hz (Nat.not_lt_zero _)
                      | succ n266 ih271 =>
                        intro h268 x270 hI fr fl269 m275 m276 m277 m278 hz
                        have s279 : (h268.1 96 41).toInt = (h254.1 96 41).toInt := by rw [(fl269 96 (by decide)).1]
                        have s280 : (h268.1 96 42).toInt = (h254.1 96 42).toInt := by rw [(fl269 96 (by decide)).1]
                        have s281 : (h268.1 96 19).toInt = (h254.1 96 19).toInt := by rw [(fl269 96 (by decide)).1]
                        have s282 : (h268.1 96 18).toInt = (h254.1 96 18).toInt := by rw [(fl269 96 (by decide)).1]
                        have s283 : (h268.1 96 20).toInt = (h254.1 96 20).toInt := by rw [(fl269 96 (by decide)).1]
                        have s284 : (h268.1 96 46).toInt = (h254.1 96 46).toInt := by rw [(fl269 96 (by decide)).1]
                        have s285 : (h268.1 96 44).toInt = (h254.1 96 44).toInt := by rw [(fl269 96 (by decide)).1]
                        have s286 : (h268.1 96 47).toInt = (h254.1 96 47).toInt := by rw [(fl269 96 (by decide)).1]
                        have s287 : (h268.1 96 48).toInt = (h254.1 96 48).toInt := by rw [(fl269 96 (by decide)).1]
                        have s288 : (h268.1 96 51).toInt = (h254.1 96 51).toInt := by rw [(fl269 96 (by decide)).1]
                        have fl12 : FR [96, 107, 108, 109, 117, 118] h h268 := fl12.trans fl269 (by decide)
                        have hE := m278
                        have hK : kyOf h268 = kyOf h268 := rfl
                        refine R_iload_n (k := 3) rfl rfl rfl ?_
                        refine R_aload_n (k := 0) rfl rfl rfl ?_
                        refine R_getf_i (j := 18) rfl ft_9_253 sh_96 rfl ?_
                        refine N_icmp_ge (a := x270.toInt) (b := (h268.1 96 18).toInt) 224 rfl rfl rfl rfl (fun c289 => ?_) (fun c289 => ?_)
                        · have hF : kyOf h268 = zSecond (evOf h) a0 a1 (kyOf h) := m277.trans (by rw [show x270 = (evOf h).2.2.2.2.1 from i_of _ (by omega)]; rfl)
                          exact R_vret rfl rfl ⟨hI, fr, ⟨by omega, by omega, by omega, by omega, by omega, by omega, by omega, by omega, by omega, by omega, hF, hE, trivial⟩, rfl⟩
                        · refine R_aload_n (k := 0) rfl rfl rfl ?_
                          refine R_getf_r (j := 22) rfl ft_9_46 sh_96 rfl ?_
                          refine R_aload_n (k := 0) rfl rfl rfl ?_
                          refine R_getf_r (j := 17) rfl ft_9_40 sh_96 rfl ?_
                          refine R_iload_n (k := 3) rfl rfl rfl ?_
                          refine R_iald rfl sh_105 ⟨by omega, by omega⟩ ?_
                          refine N_eq (fun x290 e291 => ?_)
                          have q292 : 0 ≤ x290.toInt ∧ x290.toInt ≤ 5 := by rw [e291]; exact hI.1 105 _
                          have e293 : x290 = (evOf h).2.2.2.1 x270.toNatClampNeg := by rw [e291]; exact congrFun (congrArg (fun q : EV => q.2.2.2.1) hE) _
                          refine R_iald rfl sh_107 ⟨by omega, by omega⟩ ?_
                          refine N_eq (fun x294 e295 => ?_)
                          have e296 : x294 = ((kyOf h268).1) x290.toNatClampNeg := by rw [e295]; exact (ky_at107 (nlt ⟨by omega, by omega⟩)).trans (congrFun (congrArg (fun q : KY => q.1) hK) _)
                          refine R_iconst (-1) rfl rfl ?_
                          refine N_icmp_eq (a := x294.toInt) (b := (-1)) 218 rfl rfl rfl (by decide) (fun c297 => ?_) (fun c297 => ?_)
                          · refine N_iinc (a := x270.toInt) (c := 1) (fun w => [(3, .inl w), (0, .inr (.inr (.inl 96))), (1, .inl a0), (2, .inl a1)]) rfl rfl (fun _ => rfl) (by decide) rfl (by decide) (by omega) (fun x298 q299 => ?_)
                            refine R_goto 166 rfl rfl ?_
                            exact RUN_weak (psub_cons rfl (psub_cons rfl (psub_cons rfl (psub_cons rfl (psub_nil _))))) (ih271 h268 x298 hI fr fl269 (by omega) (by omega) (by rw [zHolds_s (x := x270) (x' := x298) (by omega) (by omega), ← m277]; refine hK.trans ?_; subst e296 e293; simp only [zHold1, eLine] <;> (repeat' split) <;> first | (exfalso; omega) | rfl) (hE) (by omega))
                          · refine R_aload_n (k := 0) rfl rfl rfl ?_
                            refine R_aload_n (k := 0) rfl rfl rfl ?_
                            refine R_getf_r (j := 17) rfl ft_9_40 sh_96 rfl ?_
                            refine R_iload_n (k := 3) rfl rfl rfl ?_
                            refine R_iald rfl sh_105 ⟨by omega, by omega⟩ ?_
                            refine N_eq (fun x300 e301 => ?_)
                            have q302 : 0 ≤ x300.toInt ∧ x300.toInt ≤ 5 := by rw [e301]; exact hI.1 105 _
                            have e303 : x300 = (evOf h).2.2.2.1 x270.toNatClampNeg := by rw [e301]; exact congrFun (congrArg (fun q : EV => q.2.2.2.1) hE) _
                            refine R_iload_n (k := 1) rfl rfl rfl ?_
                            refine R_callV (v := .inr (.inr (.inl 96))) (As := [.inl x300, .inl a0]) (rest := []) rfl mt_9_i271 pp_X9_doesRest (by decide) rfl rfl rfl (Nat.le_of_ble_eq_true rfl) (Nat.le_of_ble_eq_true rfl) ((g_X9_doesRest h268 hI x300 a0 (by omega) (by omega)).mono (fun r304 h305 p306 => ?_))
                            obtain ⟨rfl, x308, rfl, (q309 | q309 | q309), zq307, -⟩ := p306
                            · rw [hE] at zq307
                              exfalso; omega
                            · rw [hE] at zq307
                              show RUN d_X9_goSecond 200 [(3, .inl x270), (0, .inr (.inr (.inl 96))), (1, .inl a0), (2, .inl a1)] [.inl x308] h268 _
                              refine N_if_ne (a := x308.toInt) 218 rfl rfl rfl (fun c310 => ?_) (fun c310 => ?_)
                              · exfalso; omega
                              · refine R_aload_n (k := 0) rfl rfl rfl ?_
                                refine R_getf_r (j := 22) rfl ft_9_46 sh_96 rfl ?_
                                refine R_aload_n (k := 0) rfl rfl rfl ?_
                                refine R_getf_r (j := 17) rfl ft_9_40 sh_96 rfl ?_
                                refine R_iload_n (k := 3) rfl rfl rfl ?_
                                refine R_iald rfl sh_105 ⟨by omega, by omega⟩ ?_
                                refine N_eq (fun x311 e312 => ?_)
                                have q313 : 0 ≤ x311.toInt ∧ x311.toInt ≤ 5 := by rw [e312]; exact hI.1 105 _
                                have e314 : x311 = (evOf h).2.2.2.1 x270.toNatClampNeg := by rw [e312]; exact congrFun (congrArg (fun q : EV => q.2.2.2.1) hE) _
                                refine R_dup2 rfl ?_
                                refine R_iald rfl sh_107 ⟨by omega, by omega⟩ ?_
                                refine N_eq (fun x315 e316 => ?_)
                                have e317 : x315 = ((kyOf h268).1) x311.toNatClampNeg := by rw [e316]; exact (ky_at107 (nlt ⟨by omega, by omega⟩)).trans (congrFun (congrArg (fun q : KY => q.1) hK) _)
                                refine R_iconst 1 rfl rfl ?_
                                have b318 := i_rng x315
                                refine R_iadd rfl ?_
                                refine N_eq (fun x319 e320 => ?_)
                                refine K_iast (a := x311.toInt) (lo := (-2147483648)) (hi' := 2147483647) rfl sh_107 rfl ⟨by omega, by omega⟩ hI (by decide) rfl (i_rng _) fr (by decide) (fun h321 g322 hI fr => ?_)
                                have fl269 : FR [107] h254 h321 := by rw [g322]; exact FR_wI _ _ fl269 (by decide)
                                have fl12 : FR [96, 107, 108, 109, 117, 118] h h321 := by rw [g322]; exact FR_wI _ _ fl12 (by decide)
                                have s323 : (h321.1 96 41).toInt = (h268.1 96 41).toInt := by rw [g322, wI_ne _ _ _ (by decide)]
                                have s324 : (h321.1 96 42).toInt = (h268.1 96 42).toInt := by rw [g322, wI_ne _ _ _ (by decide)]
                                have s325 : (h321.1 96 19).toInt = (h268.1 96 19).toInt := by rw [g322, wI_ne _ _ _ (by decide)]
                                have s326 : (h321.1 96 18).toInt = (h268.1 96 18).toInt := by rw [g322, wI_ne _ _ _ (by decide)]
                                have s327 : (h321.1 96 20).toInt = (h268.1 96 20).toInt := by rw [g322, wI_ne _ _ _ (by decide)]
                                have s328 : (h321.1 96 46).toInt = (h268.1 96 46).toInt := by rw [g322, wI_ne _ _ _ (by decide)]
                                have s329 : (h321.1 96 44).toInt = (h268.1 96 44).toInt := by rw [g322, wI_ne _ _ _ (by decide)]
                                have s330 : (h321.1 96 47).toInt = (h268.1 96 47).toInt := by rw [g322, wI_ne _ _ _ (by decide)]
                                have s331 : (h321.1 96 48).toInt = (h268.1 96 48).toInt := by rw [g322, wI_ne _ _ _ (by decide)]
                                have s332 : (h321.1 96 51).toInt = (h268.1 96 51).toInt := by rw [g322, wI_ne _ _ _ (by decide)]
                                have hK : kyOf h321 = (upd ((kyOf h268).1) x311.toNatClampNeg x319, (kyOf h268).2.1, (kyOf h268).2.2.1, (kyOf h268).2.2.2) := by rw [g322, ky_107 (nlt ⟨by omega, by omega⟩), hK] <;> rfl
                                have hE : evOf h321 = evOf h := by rw [g322, ev_o (by decide), hE]
                                refine N_iinc (a := x270.toInt) (c := 1) (fun w => [(3, .inl w), (0, .inr (.inr (.inl 96))), (1, .inl a0), (2, .inl a1)]) rfl rfl (fun _ => rfl) (by decide) rfl (by decide) (by omega) (fun x333 q334 => ?_)
                                refine R_goto 166 rfl rfl ?_
                                exact RUN_weak (psub_cons rfl (psub_cons rfl (psub_cons rfl (psub_cons rfl (psub_nil _))))) (ih271 h321 x333 hI fr fl269 (by omega) (by omega) (by rw [zHolds_s (x := x270) (x' := x333) (by omega) (by omega), ← m277]; refine hK.trans ?_; subst e320 e317 e314 e303 e296 e293; simp only [zHold1, eLine] <;> (repeat' split) <;> first | (exfalso; omega) | rfl) (hE) (by omega))
                            · rw [hE] at zq307
                              show RUN d_X9_goSecond 200 [(3, .inl x270), (0, .inr (.inr (.inl 96))), (1, .inl a0), (2, .inl a1)] [.inl x308] h268 _
                              refine N_if_ne (a := x308.toInt) 218 rfl rfl rfl (fun c335 => ?_) (fun c335 => ?_)
                              · refine N_iinc (a := x270.toInt) (c := 1) (fun w => [(3, .inl w), (0, .inr (.inr (.inl 96))), (1, .inl a0), (2, .inl a1)]) rfl rfl (fun _ => rfl) (by decide) rfl (by decide) (by omega) (fun x336 q337 => ?_)
                                refine R_goto 166 rfl rfl ?_
                                exact RUN_weak (psub_cons rfl (psub_cons rfl (psub_cons rfl (psub_cons rfl (psub_nil _))))) (ih271 h268 x336 hI fr fl269 (by omega) (by omega) (by rw [zHolds_s (x := x270) (x' := x336) (by omega) (by omega), ← m277]; refine hK.trans ?_; subst e303 e296 e293; simp only [zHold1, eLine] <;> (repeat' split) <;> first | (exfalso; omega) | rfl) (hE) (by omega))
                              · exfalso; omega
                    have k338 : (0 : Int32).toInt = 0 := by decide
                    exact lp267 _ h254 (0 : Int32) hI fr (FR.rf _ _) (by decide) (by omega) (by rw [hK]; rfl) (hE) (Nat.lt_succ_self _)
              · rw [hE] at zq132
                show RUN d_X9_goSecond 115 [(3, .inl x13), (0, .inr (.inr (.inl 96))), (1, .inl a0), (2, .inl a1)] [.inl x133] h11 _
                refine N_if_ne (a := x133.toInt) 164 rfl rfl rfl (fun c339 => ?_) (fun c339 => ?_)
                · have hK : kyOf h11 = zTake (evOf h) a0 (zMid (evOf h) a0 a1 (kyOf h)) := by
                    refine hK.trans ?_
                    subst e128 e50 e47
                    simp only [zTake, zTake1, eMany, eLine, eFull] <;> (repeat' split) <;> first | (exfalso; omega) | rfl
                  refine R_iconst 0 rfl rfl ?_
                  refine R_istore_n (k := 3) rfl [(3, .inl 0), (0, .inr (.inr (.inl 96))), (1, .inl a0), (2, .inl a1)] rfl rfl (by decide) ?_
                  have lp341 : ∀ (n340 : Nat) (h342 : PH) (x344 : Int32), INV h342 → FR [96, 107, 108, 109, 117, 118] h h342 → FR [107] h11 h342 → 0 ≤ x344.toInt ∧ x344.toInt ≤ 6 → x344.toInt ≤ (h11.1 96 18).toInt + 0 → (kyOf h342 = zHolds (evOf h) a0 x344.toNatClampNeg (zTake (evOf h) a0 (zMid (evOf h) a0 a1 (kyOf h)))) → (evOf h342 = evOf h) → (6 - x344.toInt).toNat < n340 → RUN d_X9_goSecond 166 [(3, .inl x344), (0, .inr (.inr (.inl 96))), (1, .inl a0), (2, .inl a1)] [] h342 (qg_X9_goSecond h a0 a1) := by
                    intro n340
                    induction n340 with
                    | zero => intro h342 x344 m346 m347 m348 m349 m350 m351 m352 hz; exact absurd hz (Nat.not_lt_zero _)
                    | succ n340 ih345 =>
                      intro h342 x344 hI fr fl343 m349 m350 m351 m352 hz
                      have s353 : (h342.1 96 41).toInt = (h11.1 96 41).toInt := by rw [(fl343 96 (by decide)).1]
                      have s354 : (h342.1 96 42).toInt = (h11.1 96 42).toInt := by rw [(fl343 96 (by decide)).1]
                      have s355 : (h342.1 96 19).toInt = (h11.1 96 19).toInt := by rw [(fl343 96 (by decide)).1]
                      have s356 : (h342.1 96 18).toInt = (h11.1 96 18).toInt := by rw [(fl343 96 (by decide)).1]
                      have s357 : (h342.1 96 20).toInt = (h11.1 96 20).toInt := by rw [(fl343 96 (by decide)).1]
                      have s358 : (h342.1 96 46).toInt = (h11.1 96 46).toInt := by rw [(fl343 96 (by decide)).1]
                      have s359 : (h342.1 96 44).toInt = (h11.1 96 44).toInt := by rw [(fl343 96 (by decide)).1]
                      have s360 : (h342.1 96 47).toInt = (h11.1 96 47).toInt := by rw [(fl343 96 (by decide)).1]
                      have s361 : (h342.1 96 48).toInt = (h11.1 96 48).toInt := by rw [(fl343 96 (by decide)).1]
                      have s362 : (h342.1 96 51).toInt = (h11.1 96 51).toInt := by rw [(fl343 96 (by decide)).1]
                      have fl12 : FR [96, 107, 108, 109, 117, 118] h h342 := fl12.trans fl343 (by decide)
                      have hE := m352
                      have hK : kyOf h342 = kyOf h342 := rfl
                      refine R_iload_n (k := 3) rfl rfl rfl ?_
                      refine R_aload_n (k := 0) rfl rfl rfl ?_
                      refine R_getf_i (j := 18) rfl ft_9_253 sh_96 rfl ?_
                      refine N_icmp_ge (a := x344.toInt) (b := (h342.1 96 18).toInt) 224 rfl rfl rfl rfl (fun c363 => ?_) (fun c363 => ?_)
                      · have hF : kyOf h342 = zSecond (evOf h) a0 a1 (kyOf h) := m351.trans (by rw [show x344 = (evOf h).2.2.2.2.1 from i_of _ (by omega)]; rfl)
                        exact R_vret rfl rfl ⟨hI, fr, ⟨by omega, by omega, by omega, by omega, by omega, by omega, by omega, by omega, by omega, by omega, hF, hE, trivial⟩, rfl⟩
                      · refine R_aload_n (k := 0) rfl rfl rfl ?_
                        refine R_getf_r (j := 22) rfl ft_9_46 sh_96 rfl ?_
                        refine R_aload_n (k := 0) rfl rfl rfl ?_
                        refine R_getf_r (j := 17) rfl ft_9_40 sh_96 rfl ?_
                        refine R_iload_n (k := 3) rfl rfl rfl ?_
                        refine R_iald rfl sh_105 ⟨by omega, by omega⟩ ?_
                        refine N_eq (fun x364 e365 => ?_)
                        have q366 : 0 ≤ x364.toInt ∧ x364.toInt ≤ 5 := by rw [e365]; exact hI.1 105 _
                        have e367 : x364 = (evOf h).2.2.2.1 x344.toNatClampNeg := by rw [e365]; exact congrFun (congrArg (fun q : EV => q.2.2.2.1) hE) _
                        refine R_iald rfl sh_107 ⟨by omega, by omega⟩ ?_
                        refine N_eq (fun x368 e369 => ?_)
                        have e370 : x368 = ((kyOf h342).1) x364.toNatClampNeg := by rw [e369]; exact (ky_at107 (nlt ⟨by omega, by omega⟩)).trans (congrFun (congrArg (fun q : KY => q.1) hK) _)
                        refine R_iconst (-1) rfl rfl ?_
                        refine N_icmp_eq (a := x368.toInt) (b := (-1)) 218 rfl rfl rfl (by decide) (fun c371 => ?_) (fun c371 => ?_)
                        · refine N_iinc (a := x344.toInt) (c := 1) (fun w => [(3, .inl w), (0, .inr (.inr (.inl 96))), (1, .inl a0), (2, .inl a1)]) rfl rfl (fun _ => rfl) (by decide) rfl (by decide) (by omega) (fun x372 q373 => ?_)
                          refine R_goto 166 rfl rfl ?_
                          exact RUN_weak (psub_cons rfl (psub_cons rfl (psub_cons rfl (psub_cons rfl (psub_nil _))))) (ih345 h342 x372 hI fr fl343 (by omega) (by omega) (by rw [zHolds_s (x := x344) (x' := x372) (by omega) (by omega), ← m351]; refine hK.trans ?_; subst e370 e367; simp only [zHold1, eLine] <;> (repeat' split) <;> first | (exfalso; omega) | rfl) (hE) (by omega))
                        · refine R_aload_n (k := 0) rfl rfl rfl ?_
                          refine R_aload_n (k := 0) rfl rfl rfl ?_
                          refine R_getf_r (j := 17) rfl ft_9_40 sh_96 rfl ?_
                          refine R_iload_n (k := 3) rfl rfl rfl ?_
                          refine R_iald rfl sh_105 ⟨by omega, by omega⟩ ?_
                          refine N_eq (fun x374 e375 => ?_)
                          have q376 : 0 ≤ x374.toInt ∧ x374.toInt ≤ 5 := by rw [e375]; exact hI.1 105 _
                          have e377 : x374 = (evOf h).2.2.2.1 x344.toNatClampNeg := by rw [e375]; exact congrFun (congrArg (fun q : EV => q.2.2.2.1) hE) _
                          refine R_iload_n (k := 1) rfl rfl rfl ?_
                          refine R_callV (v := .inr (.inr (.inl 96))) (As := [.inl x374, .inl a0]) (rest := []) rfl mt_9_i271 pp_X9_doesRest (by decide) rfl rfl rfl (Nat.le_of_ble_eq_true rfl) (Nat.le_of_ble_eq_true rfl) ((g_X9_doesRest h342 hI x374 a0 (by omega) (by omega)).mono (fun r378 h379 p380 => ?_))
                          obtain ⟨rfl, x382, rfl, (q383 | q383 | q383), zq381, -⟩ := p380
                          · rw [hE] at zq381
                            exfalso; omega
                          · rw [hE] at zq381
                            show RUN d_X9_goSecond 200 [(3, .inl x344), (0, .inr (.inr (.inl 96))), (1, .inl a0), (2, .inl a1)] [.inl x382] h342 _
                            refine N_if_ne (a := x382.toInt) 218 rfl rfl rfl (fun c384 => ?_) (fun c384 => ?_)
                            · exfalso; omega
                            · refine R_aload_n (k := 0) rfl rfl rfl ?_
                              refine R_getf_r (j := 22) rfl ft_9_46 sh_96 rfl ?_
                              refine R_aload_n (k := 0) rfl rfl rfl ?_
                              refine R_getf_r (j := 17) rfl ft_9_40 sh_96 rfl ?_
                              refine R_iload_n (k := 3) rfl rfl rfl ?_
                              refine R_iald rfl sh_105 ⟨by omega, by omega⟩ ?_
                              refine N_eq (fun x385 e386 => ?_)
                              have q387 : 0 ≤ x385.toInt ∧ x385.toInt ≤ 5 := by rw [e386]; exact hI.1 105 _
                              have e388 : x385 = (evOf h).2.2.2.1 x344.toNatClampNeg := by rw [e386]; exact congrFun (congrArg (fun q : EV => q.2.2.2.1) hE) _
                              refine R_dup2 rfl ?_
                              refine R_iald rfl sh_107 ⟨by omega, by omega⟩ ?_
                              refine N_eq (fun x389 e390 => ?_)
                              have e391 : x389 = ((kyOf h342).1) x385.toNatClampNeg := by rw [e390]; exact (ky_at107 (nlt ⟨by omega, by omega⟩)).trans (congrFun (congrArg (fun q : KY => q.1) hK) _)
                              refine R_iconst 1 rfl rfl ?_
                              have b392 := i_rng x389
                              refine R_iadd rfl ?_
                              refine N_eq (fun x393 e394 => ?_)
                              refine K_iast (a := x385.toInt) (lo := (-2147483648)) (hi' := 2147483647) rfl sh_107 rfl ⟨by omega, by omega⟩ hI (by decide) rfl (i_rng _) fr (by decide) (fun h395 g396 hI fr => ?_)
                              have fl343 : FR [107] h11 h395 := by rw [g396]; exact FR_wI _ _ fl343 (by decide)
                              have fl12 : FR [96, 107, 108, 109, 117, 118] h h395 := by rw [g396]; exact FR_wI _ _ fl12 (by decide)
                              have s397 : (h395.1 96 41).toInt = (h342.1 96 41).toInt := by rw [g396, wI_ne _ _ _ (by decide)]
                              have s398 : (h395.1 96 42).toInt = (h342.1 96 42).toInt := by rw [g396, wI_ne _ _ _ (by decide)]
                              have s399 : (h395.1 96 19).toInt = (h342.1 96 19).toInt := by rw [g396, wI_ne _ _ _ (by decide)]
                              have s400 : (h395.1 96 18).toInt = (h342.1 96 18).toInt := by rw [g396, wI_ne _ _ _ (by decide)]
                              have s401 : (h395.1 96 20).toInt = (h342.1 96 20).toInt := by rw [g396, wI_ne _ _ _ (by decide)]
                              have s402 : (h395.1 96 46).toInt = (h342.1 96 46).toInt := by rw [g396, wI_ne _ _ _ (by decide)]
                              have s403 : (h395.1 96 44).toInt = (h342.1 96 44).toInt := by rw [g396, wI_ne _ _ _ (by decide)]
                              have s404 : (h395.1 96 47).toInt = (h342.1 96 47).toInt := by rw [g396, wI_ne _ _ _ (by decide)]
                              have s405 : (h395.1 96 48).toInt = (h342.1 96 48).toInt := by rw [g396, wI_ne _ _ _ (by decide)]
                              have s406 : (h395.1 96 51).toInt = (h342.1 96 51).toInt := by rw [g396, wI_ne _ _ _ (by decide)]
                              have hK : kyOf h395 = (upd ((kyOf h342).1) x385.toNatClampNeg x393, (kyOf h342).2.1, (kyOf h342).2.2.1, (kyOf h342).2.2.2) := by rw [g396, ky_107 (nlt ⟨by omega, by omega⟩), hK] <;> rfl
                              have hE : evOf h395 = evOf h := by rw [g396, ev_o (by decide), hE]
                              refine N_iinc (a := x344.toInt) (c := 1) (fun w => [(3, .inl w), (0, .inr (.inr (.inl 96))), (1, .inl a0), (2, .inl a1)]) rfl rfl (fun _ => rfl) (by decide) rfl (by decide) (by omega) (fun x407 q408 => ?_)
                              refine R_goto 166 rfl rfl ?_
                              exact RUN_weak (psub_cons rfl (psub_cons rfl (psub_cons rfl (psub_cons rfl (psub_nil _))))) (ih345 h395 x407 hI fr fl343 (by omega) (by omega) (by rw [zHolds_s (x := x344) (x' := x407) (by omega) (by omega), ← m351]; refine hK.trans ?_; subst e394 e391 e388 e377 e370 e367; simp only [zHold1, eLine] <;> (repeat' split) <;> first | (exfalso; omega) | rfl) (hE) (by omega))
                          · rw [hE] at zq381
                            show RUN d_X9_goSecond 200 [(3, .inl x344), (0, .inr (.inr (.inl 96))), (1, .inl a0), (2, .inl a1)] [.inl x382] h342 _
                            refine N_if_ne (a := x382.toInt) 218 rfl rfl rfl (fun c409 => ?_) (fun c409 => ?_)
                            · refine N_iinc (a := x344.toInt) (c := 1) (fun w => [(3, .inl w), (0, .inr (.inr (.inl 96))), (1, .inl a0), (2, .inl a1)]) rfl rfl (fun _ => rfl) (by decide) rfl (by decide) (by omega) (fun x410 q411 => ?_)
                              refine R_goto 166 rfl rfl ?_
                              exact RUN_weak (psub_cons rfl (psub_cons rfl (psub_cons rfl (psub_cons rfl (psub_nil _))))) (ih345 h342 x410 hI fr fl343 (by omega) (by omega) (by rw [zHolds_s (x := x344) (x' := x410) (by omega) (by omega), ← m351]; refine hK.trans ?_; subst e377 e370 e367; simp only [zHold1, eLine] <;> (repeat' split) <;> first | (exfalso; omega) | rfl) (hE) (by omega))
                            · exfalso; omega
                  have k412 : (0 : Int32).toInt = 0 := by decide
                  exact lp341 _ h11 (0 : Int32) hI fr (FR.rf _ _) (by decide) (by omega) (by rw [hK]; rfl) (hE) (Nat.lt_succ_self _)
                · exfalso; omega
        · refine R_iload_n (k := 2) rfl rfl rfl ?_
          refine N_if_ne (a := a1.toInt) 82 rfl rfl rfl (fun c413 => ?_) (fun c413 => ?_)
          · have hK : kyOf h11 = zMid (evOf h) a0 a1 (kyOf h) := by
              unfold zMid
              split
              · first | (exfalso; omega) | (have hA := m31; rw [show (x13.toInt + 1).toNat = 0 by omega] at hA; exact hA)
              · exact m32 (by omega)
            refine R_aload_n (k := 0) rfl rfl rfl ?_
            refine R_getf_i (j := 18) rfl ft_9_253 sh_96 rfl ?_
            refine N_if_le (a := (h11.1 96 18).toInt) 164 rfl rfl rfl (fun c414 => ?_) (fun c414 => ?_)
            · exfalso; omega
            · refine R_aload_n (k := 0) rfl rfl rfl ?_
              refine R_getf_r (j := 22) rfl ft_9_46 sh_96 rfl ?_
              refine R_aload_n (k := 0) rfl rfl rfl ?_
              refine R_getf_r (j := 17) rfl ft_9_40 sh_96 rfl ?_
              refine R_iconst 0 rfl rfl ?_
              refine R_iald rfl sh_105 (by decide) ?_
              refine N_eq (fun x415 e416 => ?_)
              have q417 : 0 ≤ x415.toInt ∧ x415.toInt ≤ 5 := by rw [e416]; exact hI.1 105 _
              have e418 : x415 = (evOf h).2.2.2.1 (0 : Int32).toNatClampNeg := by rw [e416]; exact congrFun (congrArg (fun q : EV => q.2.2.2.1) hE) _
              refine R_iald rfl sh_107 ⟨by omega, by omega⟩ ?_
              refine N_eq (fun x419 e420 => ?_)
              have e421 : x419 = ((zMid (evOf h) a0 a1 (kyOf h)).1) x415.toNatClampNeg := by rw [e420]; exact (ky_at107 (nlt ⟨by omega, by omega⟩)).trans (congrFun (congrArg (fun q : KY => q.1) hK) _)
              refine R_iconst (-1) rfl rfl ?_
              refine N_icmp_ne (a := x419.toInt) (b := (-1)) 164 rfl rfl rfl (by decide) (fun c422 => ?_) (fun c422 => ?_)
              · have hK : kyOf h11 = zTake (evOf h) a0 (zMid (evOf h) a0 a1 (kyOf h)) := by
                  refine hK.trans ?_
                  subst e421 e418
                  simp only [zTake, zTake1, eMany, eLine, eFull] <;> (repeat' split) <;> first | (exfalso; omega) | rfl
                refine R_iconst 0 rfl rfl ?_
                refine R_istore_n (k := 3) rfl [(3, .inl 0), (0, .inr (.inr (.inl 96))), (1, .inl a0), (2, .inl a1)] rfl rfl (by decide) ?_
                have lp424 : ∀ (n423 : Nat) (h425 : PH) (x427 : Int32), INV h425 → FR [96, 107, 108, 109, 117, 118] h h425 → FR [107] h11 h425 → 0 ≤ x427.toInt ∧ x427.toInt ≤ 6 → x427.toInt ≤ (h11.1 96 18).toInt + 0 → (kyOf h425 = zHolds (evOf h) a0 x427.toNatClampNeg (zTake (evOf h) a0 (zMid (evOf h) a0 a1 (kyOf h)))) → (evOf h425 = evOf h) → (6 - x427.toInt).toNat < n423 → RUN d_X9_goSecond 166 [(3, .inl x427), (0, .inr (.inr (.inl 96))), (1, .inl a0), (2, .inl a1)] [] h425 (qg_X9_goSecond h a0 a1) := by
                  intro n423
                  induction n423 with
                  | zero => intro h425 x427 m429 m430 m431 m432 m433 m434 m435 hz; exact absurd hz (Nat.not_lt_zero _)
                  | succ n423 ih428 =>
                    intro h425 x427 hI fr fl426 m432 m433 m434 m435 hz
                    have s436 : (h425.1 96 41).toInt = (h11.1 96 41).toInt := by rw [(fl426 96 (by decide)).1]
                    have s437 : (h425.1 96 42).toInt = (h11.1 96 42).toInt := by rw [(fl426 96 (by decide)).1]
                    have s438 : (h425.1 96 19).toInt = (h11.1 96 19).toInt := by rw [(fl426 96 (by decide)).1]
                    have s439 : (h425.1 96 18).toInt = (h11.1 96 18).toInt := by rw [(fl426 96 (by decide)).1]
                    have s440 : (h425.1 96 20).toInt = (h11.1 96 20).toInt := by rw [(fl426 96 (by decide)).1]
                    have s441 : (h425.1 96 46).toInt = (h11.1 96 46).toInt := by rw [(fl426 96 (by decide)).1]
                    have s442 : (h425.1 96 44).toInt = (h11.1 96 44).toInt := by rw [(fl426 96 (by decide)).1]
                    have s443 : (h425.1 96 47).toInt = (h11.1 96 47).toInt := by rw [(fl426 96 (by decide)).1]
                    have s444 : (h425.1 96 48).toInt = (h11.1 96 48).toInt := by rw [(fl426 96 (by decide)).1]
                    have s445 : (h425.1 96 51).toInt = (h11.1 96 51).toInt := by rw [(fl426 96 (by decide)).1]
                    have fl12 : FR [96, 107, 108, 109, 117, 118] h h425 := fl12.trans fl426 (by decide)
                    have hE := m435
                    have hK : kyOf h425 = kyOf h425 := rfl
                    refine R_iload_n (k := 3) rfl rfl rfl ?_
                    refine R_aload_n (k := 0) rfl rfl rfl ?_
                    refine R_getf_i (j := 18) rfl ft_9_253 sh_96 rfl ?_
                    refine N_icmp_ge (a := x427.toInt) (b := (h425.1 96 18).toInt) 224 rfl rfl rfl rfl (fun c446 => ?_) (fun c446 => ?_)
                    · have hF : kyOf h425 = zSecond (evOf h) a0 a1 (kyOf h) := m434.trans (by rw [show x427 = (evOf h).2.2.2.2.1 from i_of _ (by omega)]; rfl)
                      exact R_vret rfl rfl ⟨hI, fr, ⟨by omega, by omega, by omega, by omega, by omega, by omega, by omega, by omega, by omega, by omega, hF, hE, trivial⟩, rfl⟩
                    · refine R_aload_n (k := 0) rfl rfl rfl ?_
                      refine R_getf_r (j := 22) rfl ft_9_46 sh_96 rfl ?_
                      refine R_aload_n (k := 0) rfl rfl rfl ?_
                      refine R_getf_r (j := 17) rfl ft_9_40 sh_96 rfl ?_
                      refine R_iload_n (k := 3) rfl rfl rfl ?_
                      refine R_iald rfl sh_105 ⟨by omega, by omega⟩ ?_
                      refine N_eq (fun x447 e448 => ?_)
                      have q449 : 0 ≤ x447.toInt ∧ x447.toInt ≤ 5 := by rw [e448]; exact hI.1 105 _
                      have e450 : x447 = (evOf h).2.2.2.1 x427.toNatClampNeg := by rw [e448]; exact congrFun (congrArg (fun q : EV => q.2.2.2.1) hE) _
                      refine R_iald rfl sh_107 ⟨by omega, by omega⟩ ?_
                      refine N_eq (fun x451 e452 => ?_)
                      have e453 : x451 = ((kyOf h425).1) x447.toNatClampNeg := by rw [e452]; exact (ky_at107 (nlt ⟨by omega, by omega⟩)).trans (congrFun (congrArg (fun q : KY => q.1) hK) _)
                      refine R_iconst (-1) rfl rfl ?_
                      refine N_icmp_eq (a := x451.toInt) (b := (-1)) 218 rfl rfl rfl (by decide) (fun c454 => ?_) (fun c454 => ?_)
                      · refine N_iinc (a := x427.toInt) (c := 1) (fun w => [(3, .inl w), (0, .inr (.inr (.inl 96))), (1, .inl a0), (2, .inl a1)]) rfl rfl (fun _ => rfl) (by decide) rfl (by decide) (by omega) (fun x455 q456 => ?_)
                        refine R_goto 166 rfl rfl ?_
                        exact RUN_weak (psub_cons rfl (psub_cons rfl (psub_cons rfl (psub_cons rfl (psub_nil _))))) (ih428 h425 x455 hI fr fl426 (by omega) (by omega) (by rw [zHolds_s (x := x427) (x' := x455) (by omega) (by omega), ← m434]; refine hK.trans ?_; subst e453 e450; simp only [zHold1, eLine] <;> (repeat' split) <;> first | (exfalso; omega) | rfl) (hE) (by omega))
                      · refine R_aload_n (k := 0) rfl rfl rfl ?_
                        refine R_aload_n (k := 0) rfl rfl rfl ?_
                        refine R_getf_r (j := 17) rfl ft_9_40 sh_96 rfl ?_
                        refine R_iload_n (k := 3) rfl rfl rfl ?_
                        refine R_iald rfl sh_105 ⟨by omega, by omega⟩ ?_
                        refine N_eq (fun x457 e458 => ?_)
                        have q459 : 0 ≤ x457.toInt ∧ x457.toInt ≤ 5 := by rw [e458]; exact hI.1 105 _
                        have e460 : x457 = (evOf h).2.2.2.1 x427.toNatClampNeg := by rw [e458]; exact congrFun (congrArg (fun q : EV => q.2.2.2.1) hE) _
                        refine R_iload_n (k := 1) rfl rfl rfl ?_
                        refine R_callV (v := .inr (.inr (.inl 96))) (As := [.inl x457, .inl a0]) (rest := []) rfl mt_9_i271 pp_X9_doesRest (by decide) rfl rfl rfl (Nat.le_of_ble_eq_true rfl) (Nat.le_of_ble_eq_true rfl) ((g_X9_doesRest h425 hI x457 a0 (by omega) (by omega)).mono (fun r461 h462 p463 => ?_))
                        obtain ⟨rfl, x465, rfl, (q466 | q466 | q466), zq464, -⟩ := p463
                        · rw [hE] at zq464
                          exfalso; omega
                        · rw [hE] at zq464
                          show RUN d_X9_goSecond 200 [(3, .inl x427), (0, .inr (.inr (.inl 96))), (1, .inl a0), (2, .inl a1)] [.inl x465] h425 _
                          refine N_if_ne (a := x465.toInt) 218 rfl rfl rfl (fun c467 => ?_) (fun c467 => ?_)
                          · exfalso; omega
                          · refine R_aload_n (k := 0) rfl rfl rfl ?_
                            refine R_getf_r (j := 22) rfl ft_9_46 sh_96 rfl ?_
                            refine R_aload_n (k := 0) rfl rfl rfl ?_
                            refine R_getf_r (j := 17) rfl ft_9_40 sh_96 rfl ?_
                            refine R_iload_n (k := 3) rfl rfl rfl ?_
                            refine R_iald rfl sh_105 ⟨by omega, by omega⟩ ?_
                            refine N_eq (fun x468 e469 => ?_)
                            have q470 : 0 ≤ x468.toInt ∧ x468.toInt ≤ 5 := by rw [e469]; exact hI.1 105 _
                            have e471 : x468 = (evOf h).2.2.2.1 x427.toNatClampNeg := by rw [e469]; exact congrFun (congrArg (fun q : EV => q.2.2.2.1) hE) _
                            refine R_dup2 rfl ?_
                            refine R_iald rfl sh_107 ⟨by omega, by omega⟩ ?_
                            refine N_eq (fun x472 e473 => ?_)
                            have e474 : x472 = ((kyOf h425).1) x468.toNatClampNeg := by rw [e473]; exact (ky_at107 (nlt ⟨by omega, by omega⟩)).trans (congrFun (congrArg (fun q : KY => q.1) hK) _)
                            refine R_iconst 1 rfl rfl ?_
                            have b475 := i_rng x472
                            refine R_iadd rfl ?_
                            refine N_eq (fun x476 e477 => ?_)
                            refine K_iast (a := x468.toInt) (lo := (-2147483648)) (hi' := 2147483647) rfl sh_107 rfl ⟨by omega, by omega⟩ hI (by decide) rfl (i_rng _) fr (by decide) (fun h478 g479 hI fr => ?_)
                            have fl426 : FR [107] h11 h478 := by rw [g479]; exact FR_wI _ _ fl426 (by decide)
                            have fl12 : FR [96, 107, 108, 109, 117, 118] h h478 := by rw [g479]; exact FR_wI _ _ fl12 (by decide)
                            have s480 : (h478.1 96 41).toInt = (h425.1 96 41).toInt := by rw [g479, wI_ne _ _ _ (by decide)]
                            have s481 : (h478.1 96 42).toInt = (h425.1 96 42).toInt := by rw [g479, wI_ne _ _ _ (by decide)]
                            have s482 : (h478.1 96 19).toInt = (h425.1 96 19).toInt := by rw [g479, wI_ne _ _ _ (by decide)]
                            have s483 : (h478.1 96 18).toInt = (h425.1 96 18).toInt := by rw [g479, wI_ne _ _ _ (by decide)]
                            have s484 : (h478.1 96 20).toInt = (h425.1 96 20).toInt := by rw [g479, wI_ne _ _ _ (by decide)]
                            have s485 : (h478.1 96 46).toInt = (h425.1 96 46).toInt := by rw [g479, wI_ne _ _ _ (by decide)]
                            have s486 : (h478.1 96 44).toInt = (h425.1 96 44).toInt := by rw [g479, wI_ne _ _ _ (by decide)]
                            have s487 : (h478.1 96 47).toInt = (h425.1 96 47).toInt := by rw [g479, wI_ne _ _ _ (by decide)]
                            have s488 : (h478.1 96 48).toInt = (h425.1 96 48).toInt := by rw [g479, wI_ne _ _ _ (by decide)]
                            have s489 : (h478.1 96 51).toInt = (h425.1 96 51).toInt := by rw [g479, wI_ne _ _ _ (by decide)]
                            have hK : kyOf h478 = (upd ((kyOf h425).1) x468.toNatClampNeg x476, (kyOf h425).2.1, (kyOf h425).2.2.1, (kyOf h425).2.2.2) := by rw [g479, ky_107 (nlt ⟨by omega, by omega⟩), hK] <;> rfl
                            have hE : evOf h478 = evOf h := by rw [g479, ev_o (by decide), hE]
                            refine N_iinc (a := x427.toInt) (c := 1) (fun w => [(3, .inl w), (0, .inr (.inr (.inl 96))), (1, .inl a0), (2, .inl a1)]) rfl rfl (fun _ => rfl) (by decide) rfl (by decide) (by omega) (fun x490 q491 => ?_)
                            refine R_goto 166 rfl rfl ?_
                            exact RUN_weak (psub_cons rfl (psub_cons rfl (psub_cons rfl (psub_cons rfl (psub_nil _))))) (ih428 h478 x490 hI fr fl426 (by omega) (by omega) (by rw [zHolds_s (x := x427) (x' := x490) (by omega) (by omega), ← m434]; refine hK.trans ?_; subst e477 e474 e471 e460 e453 e450; simp only [zHold1, eLine] <;> (repeat' split) <;> first | (exfalso; omega) | rfl) (hE) (by omega))
                        · rw [hE] at zq464
                          show RUN d_X9_goSecond 200 [(3, .inl x427), (0, .inr (.inr (.inl 96))), (1, .inl a0), (2, .inl a1)] [.inl x465] h425 _
                          refine N_if_ne (a := x465.toInt) 218 rfl rfl rfl (fun c492 => ?_) (fun c492 => ?_)
                          · refine N_iinc (a := x427.toInt) (c := 1) (fun w => [(3, .inl w), (0, .inr (.inr (.inl 96))), (1, .inl a0), (2, .inl a1)]) rfl rfl (fun _ => rfl) (by decide) rfl (by decide) (by omega) (fun x493 q494 => ?_)
                            refine R_goto 166 rfl rfl ?_
                            exact RUN_weak (psub_cons rfl (psub_cons rfl (psub_cons rfl (psub_cons rfl (psub_nil _))))) (ih428 h425 x493 hI fr fl426 (by omega) (by omega) (by rw [zHolds_s (x := x427) (x' := x493) (by omega) (by omega), ← m434]; refine hK.trans ?_; subst e460 e453 e450; simp only [zHold1, eLine] <;> (repeat' split) <;> first | (exfalso; omega) | rfl) (hE) (by omega))
                          · exfalso; omega
                have k495 : (0 : Int32).toInt = 0 := by decide
                exact lp424 _ h11 (0 : Int32) hI fr (FR.rf _ _) (by decide) (by omega) (by rw [hK]; rfl) (hE) (Nat.lt_succ_self _)
              · refine R_aload_n (k := 0) rfl rfl rfl ?_
                refine R_aload_n (k := 0) rfl rfl rfl ?_
                refine R_getf_r (j := 17) rfl ft_9_40 sh_96 rfl ?_
                refine R_iconst 0 rfl rfl ?_
                refine R_iald rfl sh_105 (by decide) ?_
                refine N_eq (fun x496 e497 => ?_)
                have q498 : 0 ≤ x496.toInt ∧ x496.toInt ≤ 5 := by rw [e497]; exact hI.1 105 _
                have e499 : x496 = (evOf h).2.2.2.1 (0 : Int32).toNatClampNeg := by rw [e497]; exact congrFun (congrArg (fun q : EV => q.2.2.2.1) hE) _
                refine R_iload_n (k := 1) rfl rfl rfl ?_
                refine R_callV (v := .inr (.inr (.inl 96))) (As := [.inl x496, .inl a0]) (rest := []) rfl mt_9_i271 pp_X9_doesRest (by decide) rfl rfl rfl (Nat.le_of_ble_eq_true rfl) (Nat.le_of_ble_eq_true rfl) ((g_X9_doesRest h11 hI x496 a0 (by omega) (by omega)).mono (fun r500 h501 p502 => ?_))
                obtain ⟨rfl, x504, rfl, (q505 | q505 | q505), zq503, -⟩ := p502
                · rw [hE] at zq503
                  exfalso; omega
                · rw [hE] at zq503
                  show RUN d_X9_goSecond 115 [(3, .inl x13), (0, .inr (.inr (.inl 96))), (1, .inl a0), (2, .inl a1)] [.inl x504] h11 _
                  refine N_if_ne (a := x504.toInt) 164 rfl rfl rfl (fun c506 => ?_) (fun c506 => ?_)
                  · exfalso; omega
                  · refine R_aload_n (k := 0) rfl rfl rfl ?_
                    refine R_getf_r (j := 24) rfl ft_9_52 sh_96 rfl ?_
                    refine R_iconst 0 rfl rfl ?_
                    refine R_iald rfl sh_109 (by decide) ?_
                    refine N_eq (fun x507 e508 => ?_)
                    have e509 : x507 = ((zMid (evOf h) a0 a1 (kyOf h)).2.2.1) (0 : Int32).toNatClampNeg := by rw [e508]; exact (ky_at109 (by decide)).trans (congrFun (congrArg (fun q : KY => q.2.2.1) hK) _)
                    refine N_if_le (a := x507.toInt) 164 rfl rfl rfl (fun c510 => ?_) (fun c510 => ?_)
                    · have hK : kyOf h11 = zTake (evOf h) a0 (zMid (evOf h) a0 a1 (kyOf h)) := by
                        refine hK.trans ?_
                        subst e509 e499 e421 e418
                        simp only [zTake, zTake1, eMany, eLine, eFull] <;> (repeat' split) <;> first | (exfalso; omega) | rfl
                      refine R_iconst 0 rfl rfl ?_
                      refine R_istore_n (k := 3) rfl [(3, .inl 0), (0, .inr (.inr (.inl 96))), (1, .inl a0), (2, .inl a1)] rfl rfl (by decide) ?_
                      have lp512 : ∀ (n511 : Nat) (h513 : PH) (x515 : Int32), INV h513 → FR [96, 107, 108, 109, 117, 118] h h513 → FR [107] h11 h513 → 0 ≤ x515.toInt ∧ x515.toInt ≤ 6 → x515.toInt ≤ (h11.1 96 18).toInt + 0 → (kyOf h513 = zHolds (evOf h) a0 x515.toNatClampNeg (zTake (evOf h) a0 (zMid (evOf h) a0 a1 (kyOf h)))) → (evOf h513 = evOf h) → (6 - x515.toInt).toNat < n511 → RUN d_X9_goSecond 166 [(3, .inl x515), (0, .inr (.inr (.inl 96))), (1, .inl a0), (2, .inl a1)] [] h513 (qg_X9_goSecond h a0 a1) := by
                        intro n511
                        induction n511 with
                        | zero => intro h513 x515 m517 m518 m519 m520 m521 m522 m523 hz; exact absurd hz (Nat.not_lt_zero _)
                        | succ n511 ih516 =>
                          intro h513 x515 hI fr fl514 m520 m521 m522 m523 hz
                          have s524 : (h513.1 96 41).toInt = (h11.1 96 41).toInt := by rw [(fl514 96 (by decide)).1]
                          have s525 : (h513.1 96 42).toInt = (h11.1 96 42).toInt := by rw [(fl514 96 (by decide)).1]
                          have s526 : (h513.1 96 19).toInt = (h11.1 96 19).toInt := by rw [(fl514 96 (by decide)).1]
                          have s527 : (h513.1 96 18).toInt = (h11.1 96 18).toInt := by rw [(fl514 96 (by decide)).1]
                          have s528 : (h513.1 96 20).toInt = (h11.1 96 20).toInt := by rw [(fl514 96 (by decide)).1]
                          have s529 : (h513.1 96 46).toInt = (h11.1 96 46).toInt := by rw [(fl514 96 (by decide)).1]
                          have s530 : (h513.1 96 44).toInt = (h11.1 96 44).toInt := by rw [(fl514 96 (by decide)).1]
                          have s531 : (h513.1 96 47).toInt = (h11.1 96 47).toInt := by rw [(fl514 96 (by decide)).1]
                          have s532 : (h513.1 96 48).toInt = (h11.1 96 48).toInt := by rw [(fl514 96 (by decide)).1]
                          have s533 : (h513.1 96 51).toInt = (h11.1 96 51).toInt := by rw [(fl514 96 (by decide)).1]
                          have fl12 : FR [96, 107, 108, 109, 117, 118] h h513 := fl12.trans fl514 (by decide)
                          have hE := m523
                          have hK : kyOf h513 = kyOf h513 := rfl
                          refine R_iload_n (k := 3) rfl rfl rfl ?_
                          refine R_aload_n (k := 0) rfl rfl rfl ?_
                          refine R_getf_i (j := 18) rfl ft_9_253 sh_96 rfl ?_
                          refine N_icmp_ge (a := x515.toInt) (b := (h513.1 96 18).toInt) 224 rfl rfl rfl rfl (fun c534 => ?_) (fun c534 => ?_)
                          · have hF : kyOf h513 = zSecond (evOf h) a0 a1 (kyOf h) := m522.trans (by rw [show x515 = (evOf h).2.2.2.2.1 from i_of _ (by omega)]; rfl)
                            exact R_vret rfl rfl ⟨hI, fr, ⟨by omega, by omega, by omega, by omega, by omega, by omega, by omega, by omega, by omega, by omega, hF, hE, trivial⟩, rfl⟩
                          · refine R_aload_n (k := 0) rfl rfl rfl ?_
                            refine R_getf_r (j := 22) rfl ft_9_46 sh_96 rfl ?_
                            refine R_aload_n (k := 0) rfl rfl rfl ?_
                            refine R_getf_r (j := 17) rfl ft_9_40 sh_96 rfl ?_
                            refine R_iload_n (k := 3) rfl rfl rfl ?_
                            refine R_iald rfl sh_105 ⟨by omega, by omega⟩ ?_
                            refine N_eq (fun x535 e536 => ?_)
                            have q537 : 0 ≤ x535.toInt ∧ x535.toInt ≤ 5 := by rw [e536]; exact hI.1 105 _
                            have e538 : x535 = (evOf h).2.2.2.1 x515.toNatClampNeg := by rw [e536]; exact congrFun (congrArg (fun q : EV => q.2.2.2.1) hE) _
                            refine R_iald rfl sh_107 ⟨by omega, by omega⟩ ?_
                            refine N_eq (fun x539 e540 => ?_)
                            have e541 : x539 = ((kyOf h513).1) x535.toNatClampNeg := by rw [e540]; exact (ky_at107 (nlt ⟨by omega, by omega⟩)).trans (congrFun (congrArg (fun q : KY => q.1) hK) _)
                            refine R_iconst (-1) rfl rfl ?_
                            refine N_icmp_eq (a := x539.toInt) (b := (-1)) 218 rfl rfl rfl (by decide) (fun c542 => ?_) (fun c542 => ?_)
                            · refine N_iinc (a := x515.toInt) (c := 1) (fun w => [(3, .inl w), (0, .inr (.inr (.inl 96))), (1, .inl a0), (2, .inl a1)]) rfl rfl (fun _ => rfl) (by decide) rfl (by decide) (by omega) (fun x543 q544 => ?_)
                              refine R_goto 166 rfl rfl ?_
                              exact RUN_weak (psub_cons rfl (psub_cons rfl (psub_cons rfl (psub_cons rfl (psub_nil _))))) (ih516 h513 x543 hI fr fl514 (by omega) (by omega) (by rw [zHolds_s (x := x515) (x' := x543) (by omega) (by omega), ← m522]; refine hK.trans ?_; subst e541 e538; simp only [zHold1, eLine] <;> (repeat' split) <;> first | (exfalso; omega) | rfl) (hE) (by omega))
                            · refine R_aload_n (k := 0) rfl rfl rfl ?_
                              refine R_aload_n (k := 0) rfl rfl rfl ?_
                              refine R_getf_r (j := 17) rfl ft_9_40 sh_96 rfl ?_
                              refine R_iload_n (k := 3) rfl rfl rfl ?_
                              refine R_iald rfl sh_105 ⟨by omega, by omega⟩ ?_
                              refine N_eq (fun x545 e546 => ?_)
                              have q547 : 0 ≤ x545.toInt ∧ x545.toInt ≤ 5 := by rw [e546]; exact hI.1 105 _
                              have e548 : x545 = (evOf h).2.2.2.1 x515.toNatClampNeg := by rw [e546]; exact congrFun (congrArg (fun q : EV => q.2.2.2.1) hE) _
                              refine R_iload_n (k := 1) rfl rfl rfl ?_
                              refine R_callV (v := .inr (.inr (.inl 96))) (As := [.inl x545, .inl a0]) (rest := []) rfl mt_9_i271 pp_X9_doesRest (by decide) rfl rfl rfl (Nat.le_of_ble_eq_true rfl) (Nat.le_of_ble_eq_true rfl) ((g_X9_doesRest h513 hI x545 a0 (by omega) (by omega)).mono (fun r549 h550 p551 => ?_))
                              obtain ⟨rfl, x553, rfl, (q554 | q554 | q554), zq552, -⟩ := p551
                              · rw [hE] at zq552
                                exfalso; omega
                              · rw [hE] at zq552
                                show RUN d_X9_goSecond 200 [(3, .inl x515), (0, .inr (.inr (.inl 96))), (1, .inl a0), (2, .inl a1)] [.inl x553] h513 _
                                refine N_if_ne (a := x553.toInt) 218 rfl rfl rfl (fun c555 => ?_) (fun c555 => ?_)
                                · exfalso; omega
                                · refine R_aload_n (k := 0) rfl rfl rfl ?_
                                  refine R_getf_r (j := 22) rfl ft_9_46 sh_96 rfl ?_
                                  refine R_aload_n (k := 0) rfl rfl rfl ?_
                                  refine R_getf_r (j := 17) rfl ft_9_40 sh_96 rfl ?_
                                  refine R_iload_n (k := 3) rfl rfl rfl ?_
                                  refine R_iald rfl sh_105 ⟨by omega, by omega⟩ ?_
                                  refine N_eq (fun x556 e557 => ?_)
                                  have q558 : 0 ≤ x556.toInt ∧ x556.toInt ≤ 5 := by rw [e557]; exact hI.1 105 _
                                  have e559 : x556 = (evOf h).2.2.2.1 x515.toNatClampNeg := by rw [e557]; exact congrFun (congrArg (fun q : EV => q.2.2.2.1) hE) _
                                  refine R_dup2 rfl ?_
                                  refine R_iald rfl sh_107 ⟨by omega, by omega⟩ ?_
                                  refine N_eq (fun x560 e561 => ?_)
                                  have e562 : x560 = ((kyOf h513).1) x556.toNatClampNeg := by rw [e561]; exact (ky_at107 (nlt ⟨by omega, by omega⟩)).trans (congrFun (congrArg (fun q : KY => q.1) hK) _)
                                  refine R_iconst 1 rfl rfl ?_
                                  have b563 := i_rng x560
                                  refine R_iadd rfl ?_
                                  refine N_eq (fun x564 e565 => ?_)
                                  refine K_iast (a := x556.toInt) (lo := (-2147483648)) (hi' := 2147483647) rfl sh_107 rfl ⟨by omega, by omega⟩ hI (by decide) rfl (i_rng _) fr (by decide) (fun h566 g567 hI fr => ?_)
                                  have fl514 : FR [107] h11 h566 := by rw [g567]; exact FR_wI _ _ fl514 (by decide)
                                  have fl12 : FR [96, 107, 108, 109, 117, 118] h h566 := by rw [g567]; exact FR_wI _ _ fl12 (by decide)
                                  have s568 : (h566.1 96 41).toInt = (h513.1 96 41).toInt := by rw [g567, wI_ne _ _ _ (by decide)]
                                  have s569 : (h566.1 96 42).toInt = (h513.1 96 42).toInt := by rw [g567, wI_ne _ _ _ (by decide)]
                                  have s570 : (h566.1 96 19).toInt = (h513.1 96 19).toInt := by rw [g567, wI_ne _ _ _ (by decide)]
                                  have s571 : (h566.1 96 18).toInt = (h513.1 96 18).toInt := by rw [g567, wI_ne _ _ _ (by decide)]
                                  have s572 : (h566.1 96 20).toInt = (h513.1 96 20).toInt := by rw [g567, wI_ne _ _ _ (by decide)]
                                  have s573 : (h566.1 96 46).toInt = (h513.1 96 46).toInt := by rw [g567, wI_ne _ _ _ (by decide)]
                                  have s574 : (h566.1 96 44).toInt = (h513.1 96 44).toInt := by rw [g567, wI_ne _ _ _ (by decide)]
                                  have s575 : (h566.1 96 47).toInt = (h513.1 96 47).toInt := by rw [g567, wI_ne _ _ _ (by decide)]
                                  have s576 : (h566.1 96 48).toInt = (h513.1 96 48).toInt := by rw [g567, wI_ne _ _ _ (by decide)]
                                  have s577 : (h566.1 96 51).toInt = (h513.1 96 51).toInt := by rw [g567, wI_ne _ _ _ (by decide)]
                                  have hK : kyOf h566 = (upd ((kyOf h513).1) x556.toNatClampNeg x564, (kyOf h513).2.1, (kyOf h513).2.2.1, (kyOf h513).2.2.2) := by rw [g567, ky_107 (nlt ⟨by omega, by omega⟩), hK] <;> rfl
                                  have hE : evOf h566 = evOf h := by rw [g567, ev_o (by decide), hE]
                                  refine N_iinc (a := x515.toInt) (c := 1) (fun w => [(3, .inl w), (0, .inr (.inr (.inl 96))), (1, .inl a0), (2, .inl a1)]) rfl rfl (fun _ => rfl) (by decide) rfl (by decide) (by omega) (fun x578 q579 => ?_)
                                  refine R_goto 166 rfl rfl ?_
                                  exact RUN_weak (psub_cons rfl (psub_cons rfl (psub_cons rfl (psub_cons rfl (psub_nil _))))) (ih516 h566 x578 hI fr fl514 (by omega) (by omega) (by rw [zHolds_s (x := x515) (x' := x578) (by omega) (by omega), ← m522]; refine hK.trans ?_; subst e565 e562 e559 e548 e541 e538; simp only [zHold1, eLine] <;> (repeat' split) <;> first | (exfalso; omega) | rfl) (hE) (by omega))
                              · rw [hE] at zq552
                                show RUN d_X9_goSecond 200 [(3, .inl x515), (0, .inr (.inr (.inl 96))), (1, .inl a0), (2, .inl a1)] [.inl x553] h513 _
                                refine N_if_ne (a := x553.toInt) 218 rfl rfl rfl (fun c580 => ?_) (fun c580 => ?_)
                                · refine N_iinc (a := x515.toInt) (c := 1) (fun w => [(3, .inl w), (0, .inr (.inr (.inl 96))), (1, .inl a0), (2, .inl a1)]) rfl rfl (fun _ => rfl) (by decide) rfl (by decide) (by omega) (fun x581 q582 => ?_)
                                  refine R_goto 166 rfl rfl ?_
                                  exact RUN_weak (psub_cons rfl (psub_cons rfl (psub_cons rfl (psub_cons rfl (psub_nil _))))) (ih516 h513 x581 hI fr fl514 (by omega) (by omega) (by rw [zHolds_s (x := x515) (x' := x581) (by omega) (by omega), ← m522]; refine hK.trans ?_; subst e548 e541 e538; simp only [zHold1, eLine] <;> (repeat' split) <;> first | (exfalso; omega) | rfl) (hE) (by omega))
                                · exfalso; omega
                      have k583 : (0 : Int32).toInt = 0 := by decide
                      exact lp512 _ h11 (0 : Int32) hI fr (FR.rf _ _) (by decide) (by omega) (by rw [hK]; rfl) (hE) (Nat.lt_succ_self _)
                    · refine R_aload_n (k := 0) rfl rfl rfl ?_
                      refine R_getf_r (j := 24) rfl ft_9_52 sh_96 rfl ?_
                      refine R_iconst 0 rfl rfl ?_
                      refine R_dup2 rfl ?_
                      refine R_iald rfl sh_109 (by decide) ?_
                      refine N_eq (fun x584 e585 => ?_)
                      have e586 : x584 = ((zMid (evOf h) a0 a1 (kyOf h)).2.2.1) (0 : Int32).toNatClampNeg := by rw [e585]; exact (ky_at109 (by decide)).trans (congrFun (congrArg (fun q : KY => q.2.2.1) hK) _)
                      refine R_iconst 1 rfl rfl ?_
                      have b587 := i_rng x584
                      refine R_isub rfl ?_
                      refine N_eq (fun x588 e589 => ?_)
                      refine K_iast (a := 0) (lo := (-2147483648)) (hi' := 2147483647) rfl sh_109 (by decide) (by decide) hI (by decide) rfl (i_rng _) fr (by decide) (fun h590 g591 hI fr => ?_)
                      have fl12 : FR [96, 107, 108, 109, 117, 118] h h590 := by rw [g591]; exact FR_wI _ _ fl12 (by decide)
                      have s592 : (h590.1 96 41).toInt = (h11.1 96 41).toInt := by rw [g591, wI_ne _ _ _ (by decide)]
                      have s593 : (h590.1 96 42).toInt = (h11.1 96 42).toInt := by rw [g591, wI_ne _ _ _ (by decide)]
                      have s594 : (h590.1 96 19).toInt = (h11.1 96 19).toInt := by rw [g591, wI_ne _ _ _ (by decide)]
                      have s595 : (h590.1 96 18).toInt = (h11.1 96 18).toInt := by rw [g591, wI_ne _ _ _ (by decide)]
                      have s596 : (h590.1 96 20).toInt = (h11.1 96 20).toInt := by rw [g591, wI_ne _ _ _ (by decide)]
                      have s597 : (h590.1 96 46).toInt = (h11.1 96 46).toInt := by rw [g591, wI_ne _ _ _ (by decide)]
                      have s598 : (h590.1 96 44).toInt = (h11.1 96 44).toInt := by rw [g591, wI_ne _ _ _ (by decide)]
                      have s599 : (h590.1 96 47).toInt = (h11.1 96 47).toInt := by rw [g591, wI_ne _ _ _ (by decide)]
                      have s600 : (h590.1 96 48).toInt = (h11.1 96 48).toInt := by rw [g591, wI_ne _ _ _ (by decide)]
                      have s601 : (h590.1 96 51).toInt = (h11.1 96 51).toInt := by rw [g591, wI_ne _ _ _ (by decide)]
                      have hK : kyOf h590 = ((zMid (evOf h) a0 a1 (kyOf h)).1, (zMid (evOf h) a0 a1 (kyOf h)).2.1, upd ((zMid (evOf h) a0 a1 (kyOf h)).2.2.1) (0 : Int32).toNatClampNeg x588, (zMid (evOf h) a0 a1 (kyOf h)).2.2.2) := by rw [g591, ky_109 (by decide), hK] <;> rfl
                      have hE : evOf h590 = evOf h := by rw [g591, ev_o (by decide), hE]
                      refine R_aload_n (k := 0) rfl rfl rfl ?_
                      refine R_getf_r (j := 22) rfl ft_9_46 sh_96 rfl ?_
                      refine R_aload_n (k := 0) rfl rfl rfl ?_
                      refine R_getf_r (j := 17) rfl ft_9_40 sh_96 rfl ?_
                      refine R_iconst 0 rfl rfl ?_
                      refine R_iald rfl sh_105 (by decide) ?_
                      refine N_eq (fun x602 e603 => ?_)
                      have q604 : 0 ≤ x602.toInt ∧ x602.toInt ≤ 5 := by rw [e603]; exact hI.1 105 _
                      have e605 : x602 = (evOf h).2.2.2.1 (0 : Int32).toNatClampNeg := by rw [e603]; exact congrFun (congrArg (fun q : EV => q.2.2.2.1) hE) _
                      refine R_iconst 0 rfl rfl ?_
                      refine K_iast (a := x602.toInt) (lo := (-2147483648)) (hi' := 2147483647) rfl sh_107 rfl ⟨by omega, by omega⟩ hI (by decide) rfl (by decide) fr (by decide) (fun h606 g607 hI fr => ?_)
                      have fl12 : FR [96, 107, 108, 109, 117, 118] h h606 := by rw [g607]; exact FR_wI _ _ fl12 (by decide)
                      have s608 : (h606.1 96 41).toInt = (h590.1 96 41).toInt := by rw [g607, wI_ne _ _ _ (by decide)]
                      have s609 : (h606.1 96 42).toInt = (h590.1 96 42).toInt := by rw [g607, wI_ne _ _ _ (by decide)]
                      have s610 : (h606.1 96 19).toInt = (h590.1 96 19).toInt := by rw [g607, wI_ne _ _ _ (by decide)]
                      have s611 : (h606.1 96 18).toInt = (h590.1 96 18).toInt := by rw [g607, wI_ne _ _ _ (by decide)]
                      have s612 : (h606.1 96 20).toInt = (h590.1 96 20).toInt := by rw [g607, wI_ne _ _ _ (by decide)]
                      have s613 : (h606.1 96 46).toInt = (h590.1 96 46).toInt := by rw [g607, wI_ne _ _ _ (by decide)]
                      have s614 : (h606.1 96 44).toInt = (h590.1 96 44).toInt := by rw [g607, wI_ne _ _ _ (by decide)]
                      have s615 : (h606.1 96 47).toInt = (h590.1 96 47).toInt := by rw [g607, wI_ne _ _ _ (by decide)]
                      have s616 : (h606.1 96 48).toInt = (h590.1 96 48).toInt := by rw [g607, wI_ne _ _ _ (by decide)]
                      have s617 : (h606.1 96 51).toInt = (h590.1 96 51).toInt := by rw [g607, wI_ne _ _ _ (by decide)]
                      have hK : kyOf h606 = (upd ((zMid (evOf h) a0 a1 (kyOf h)).1) x602.toNatClampNeg (0), (zMid (evOf h) a0 a1 (kyOf h)).2.1, upd ((zMid (evOf h) a0 a1 (kyOf h)).2.2.1) (0 : Int32).toNatClampNeg x588, (zMid (evOf h) a0 a1 (kyOf h)).2.2.2) := by rw [g607, ky_107 (nlt ⟨by omega, by omega⟩), hK] <;> rfl
                      have hE : evOf h606 = evOf h := by rw [g607, ev_o (by decide), hE]
                      refine R_aload_n (k := 0) rfl rfl rfl ?_
                      refine R_getf_r (j := 23) rfl ft_9_49 sh_96 rfl ?_
                      refine R_aload_n (k := 0) rfl rfl rfl ?_
                      refine R_getf_r (j := 17) rfl ft_9_40 sh_96 rfl ?_
                      refine R_iconst 0 rfl rfl ?_
                      refine R_iald rfl sh_105 (by decide) ?_
                      refine N_eq (fun x618 e619 => ?_)
                      have q620 : 0 ≤ x618.toInt ∧ x618.toInt ≤ 5 := by rw [e619]; exact hI.1 105 _
                      have e621 : x618 = (evOf h).2.2.2.1 (0 : Int32).toNatClampNeg := by rw [e619]; exact congrFun (congrArg (fun q : EV => q.2.2.2.1) hE) _
                      refine R_aload_n (k := 0) rfl rfl rfl ?_
                      refine R_getf_i (j := 20) rfl ft_9_259 sh_96 rfl ?_
                      refine N_eq (fun x622 e623 => ?_)
                      have e624 : x622 = (evOf h).2.2.2.2.2.1 := by rw [e623]; exact congrArg (fun q : EV => q.2.2.2.2.2.1) hE
                      refine K_iast (a := x618.toInt) (lo := (-2147483648)) (hi' := 2147483647) rfl sh_108 rfl ⟨by omega, by omega⟩ hI (by decide) rfl (i_rng _) fr (by decide) (fun h625 g626 hI fr => ?_)
                      have fl12 : FR [96, 107, 108, 109, 117, 118] h h625 := by rw [g626]; exact FR_wI _ _ fl12 (by decide)
                      have s627 : (h625.1 96 41).toInt = (h606.1 96 41).toInt := by rw [g626, wI_ne _ _ _ (by decide)]
                      have s628 : (h625.1 96 42).toInt = (h606.1 96 42).toInt := by rw [g626, wI_ne _ _ _ (by decide)]
                      have s629 : (h625.1 96 19).toInt = (h606.1 96 19).toInt := by rw [g626, wI_ne _ _ _ (by decide)]
                      have s630 : (h625.1 96 18).toInt = (h606.1 96 18).toInt := by rw [g626, wI_ne _ _ _ (by decide)]
                      have s631 : (h625.1 96 20).toInt = (h606.1 96 20).toInt := by rw [g626, wI_ne _ _ _ (by decide)]
                      have s632 : (h625.1 96 46).toInt = (h606.1 96 46).toInt := by rw [g626, wI_ne _ _ _ (by decide)]
                      have s633 : (h625.1 96 44).toInt = (h606.1 96 44).toInt := by rw [g626, wI_ne _ _ _ (by decide)]
                      have s634 : (h625.1 96 47).toInt = (h606.1 96 47).toInt := by rw [g626, wI_ne _ _ _ (by decide)]
                      have s635 : (h625.1 96 48).toInt = (h606.1 96 48).toInt := by rw [g626, wI_ne _ _ _ (by decide)]
                      have s636 : (h625.1 96 51).toInt = (h606.1 96 51).toInt := by rw [g626, wI_ne _ _ _ (by decide)]
                      have hK : kyOf h625 = (upd ((zMid (evOf h) a0 a1 (kyOf h)).1) x602.toNatClampNeg (0), upd ((zMid (evOf h) a0 a1 (kyOf h)).2.1) x618.toNatClampNeg x622, upd ((zMid (evOf h) a0 a1 (kyOf h)).2.2.1) (0 : Int32).toNatClampNeg x588, (zMid (evOf h) a0 a1 (kyOf h)).2.2.2) := by rw [g626, ky_108 (nlt ⟨by omega, by omega⟩), hK] <;> rfl
                      have hE : evOf h625 = evOf h := by rw [g626, ev_o (by decide), hE]
                      have hK : kyOf h625 = zTake (evOf h) a0 (zMid (evOf h) a0 a1 (kyOf h)) := by
                        refine hK.trans ?_
                        subst e624 e621 e605 e589 e586 e509 e499 e421 e418
                        simp only [zTake, zTake1, eMany, eLine, eFull] <;> (repeat' split) <;> first | (exfalso; omega) | rfl
                      refine R_iconst 0 rfl rfl ?_
                      refine R_istore_n (k := 3) rfl [(3, .inl 0), (0, .inr (.inr (.inl 96))), (1, .inl a0), (2, .inl a1)] rfl rfl (by decide) ?_
                      have lp638 : ∀ (n637 : Nat) (h639 : PH) (x641 : Int32), INV h639 → FR [96, 107, 108, 109, 117, 118] h h639 → FR [107] h625 h639 → 0 ≤ x641.toInt ∧ x641.toInt ≤ 6 → x641.toInt ≤ (h625.1 96 18).toInt + 0 → (kyOf h639 = zHolds (evOf h) a0 x641.toNatClampNeg (zTake (evOf h) a0 (zMid (evOf h) a0 a1 (kyOf h)))) → (evOf h639 = evOf h) → (6 - x641.toInt).toNat < n637 → RUN d_X9_goSecond 166 [(3, .inl x641), (0, .inr (.inr (.inl 96))), (1, .inl a0), (2, .inl a1)] [] h639 (qg_X9_goSecond h a0 a1) := by
                        intro n637
                        induction n637 with
                        | zero => intro h639 x641 m643 m644 m645 m646 m647 m648 m649 hz; exact absurd hz (Nat.not_lt_zero _)
                        | succ n637 ih642 =>
                          intro h639 x641 hI fr fl640 m646 m647 m648 m649 hz
                          have s650 : (h639.1 96 41).toInt = (h625.1 96 41).toInt := by rw [(fl640 96 (by decide)).1]
                          have s651 : (h639.1 96 42).toInt = (h625.1 96 42).toInt := by rw [(fl640 96 (by decide)).1]
                          have s652 : (h639.1 96 19).toInt = (h625.1 96 19).toInt := by rw [(fl640 96 (by decide)).1]
                          have s653 : (h639.1 96 18).toInt = (h625.1 96 18).toInt := by rw [(fl640 96 (by decide)).1]
                          have s654 : (h639.1 96 20).toInt = (h625.1 96 20).toInt := by rw [(fl640 96 (by decide)).1]
                          have s655 : (h639.1 96 46).toInt = (h625.1 96 46).toInt := by rw [(fl640 96 (by decide)).1]
                          have s656 : (h639.1 96 44).toInt = (h625.1 96 44).toInt := by rw [(fl640 96 (by decide)).1]
                          have s657 : (h639.1 96 47).toInt = (h625.1 96 47).toInt := by rw [(fl640 96 (by decide)).1]
                          have s658 : (h639.1 96 48).toInt = (h625.1 96 48).toInt := by rw [(fl640 96 (by decide)).1]
                          have s659 : (h639.1 96 51).toInt = (h625.1 96 51).toInt := by rw [(fl640 96 (by decide)).1]
                          have fl12 : FR [96, 107, 108, 109, 117, 118] h h639 := fl12.trans fl640 (by decide)
                          have hE := m649
                          have hK : kyOf h639 = kyOf h639 := rfl
                          refine R_iload_n (k := 3) rfl rfl rfl ?_
                          refine R_aload_n (k := 0) rfl rfl rfl ?_
                          refine R_getf_i (j := 18) rfl ft_9_253 sh_96 rfl ?_
                          refine N_icmp_ge (a := x641.toInt) (b := (h639.1 96 18).toInt) 224 rfl rfl rfl rfl (fun c660 => ?_) (fun c660 => ?_)
                          · have hF : kyOf h639 = zSecond (evOf h) a0 a1 (kyOf h) := m648.trans (by rw [show x641 = (evOf h).2.2.2.2.1 from i_of _ (by omega)]; rfl)
                            exact R_vret rfl rfl ⟨hI, fr, ⟨by omega, by omega, by omega, by omega, by omega, by omega, by omega, by omega, by omega, by omega, hF, hE, trivial⟩, rfl⟩
                          · refine R_aload_n (k := 0) rfl rfl rfl ?_
                            refine R_getf_r (j := 22) rfl ft_9_46 sh_96 rfl ?_
                            refine R_aload_n (k := 0) rfl rfl rfl ?_
                            refine R_getf_r (j := 17) rfl ft_9_40 sh_96 rfl ?_
                            refine R_iload_n (k := 3) rfl rfl rfl ?_
                            refine R_iald rfl sh_105 ⟨by omega, by omega⟩ ?_
                            refine N_eq (fun x661 e662 => ?_)
                            have q663 : 0 ≤ x661.toInt ∧ x661.toInt ≤ 5 := by rw [e662]; exact hI.1 105 _
                            have e664 : x661 = (evOf h).2.2.2.1 x641.toNatClampNeg := by rw [e662]; exact congrFun (congrArg (fun q : EV => q.2.2.2.1) hE) _
                            refine R_iald rfl sh_107 ⟨by omega, by omega⟩ ?_
                            refine N_eq (fun x665 e666 => ?_)
                            have e667 : x665 = ((kyOf h639).1) x661.toNatClampNeg := by rw [e666]; exact (ky_at107 (nlt ⟨by omega, by omega⟩)).trans (congrFun (congrArg (fun q : KY => q.1) hK) _)
                            refine R_iconst (-1) rfl rfl ?_
                            refine N_icmp_eq (a := x665.toInt) (b := (-1)) 218 rfl rfl rfl (by decide) (fun c668 => ?_) (fun c668 => ?_)
                            · refine N_iinc (a := x641.toInt) (c := 1) (fun w => [(3, .inl w), (0, .inr (.inr (.inl 96))), (1, .inl a0), (2, .inl a1)]) rfl rfl (fun _ => rfl) (by decide) rfl (by decide) (by omega) (fun x669 q670 => ?_)
                              refine R_goto 166 rfl rfl ?_
                              exact RUN_weak (psub_cons rfl (psub_cons rfl (psub_cons rfl (psub_cons rfl (psub_nil _))))) (ih642 h639 x669 hI fr fl640 (by omega) (by omega) (by rw [zHolds_s (x := x641) (x' := x669) (by omega) (by omega), ← m648]; refine hK.trans ?_; subst e667 e664; simp only [zHold1, eLine] <;> (repeat' split) <;> first | (exfalso; omega) | rfl) (hE) (by omega))
                            · refine R_aload_n (k := 0) rfl rfl rfl ?_
                              refine R_aload_n (k := 0) rfl rfl rfl ?_
                              refine R_getf_r (j := 17) rfl ft_9_40 sh_96 rfl ?_
                              refine R_iload_n (k := 3) rfl rfl rfl ?_
                              refine R_iald rfl sh_105 ⟨by omega, by omega⟩ ?_
                              refine N_eq (fun x671 e672 => ?_)
                              have q673 : 0 ≤ x671.toInt ∧ x671.toInt ≤ 5 := by rw [e672]; exact hI.1 105 _
                              have e674 : x671 = (evOf h).2.2.2.1 x641.toNatClampNeg := by rw [e672]; exact congrFun (congrArg (fun q : EV => q.2.2.2.1) hE) _
                              refine R_iload_n (k := 1) rfl rfl rfl ?_
                              refine R_callV (v := .inr (.inr (.inl 96))) (As := [.inl x671, .inl a0]) (rest := []) rfl mt_9_i271 pp_X9_doesRest (by decide) rfl rfl rfl (Nat.le_of_ble_eq_true rfl) (Nat.le_of_ble_eq_true rfl) ((g_X9_doesRest h639 hI x671 a0 (by omega) (by omega)).mono (fun r675 h676 p677 => ?_))
                              obtain ⟨rfl, x679, rfl, (q680 | q680 | q680), zq678, -⟩ := p677
                              · rw [hE] at zq678
                                exfalso; omega
                              · rw [hE] at zq678
                                show RUN d_X9_goSecond 200 [(3, .inl x641), (0, .inr (.inr (.inl 96))), (1, .inl a0), (2, .inl a1)] [.inl x679] h639 _
                                refine N_if_ne (a := x679.toInt) 218 rfl rfl rfl (fun c681 => ?_) (fun c681 => ?_)
                                · exfalso; omega
                                · refine R_aload_n (k := 0) rfl rfl rfl ?_
                                  refine R_getf_r (j := 22) rfl ft_9_46 sh_96 rfl ?_
                                  refine R_aload_n (k := 0) rfl rfl rfl ?_
                                  refine R_getf_r (j := 17) rfl ft_9_40 sh_96 rfl ?_
                                  refine R_iload_n (k := 3) rfl rfl rfl ?_
                                  refine R_iald rfl sh_105 ⟨by omega, by omega⟩ ?_
                                  refine N_eq (fun x682 e683 => ?_)
                                  have q684 : 0 ≤ x682.toInt ∧ x682.toInt ≤ 5 := by rw [e683]; exact hI.1 105 _
                                  have e685 : x682 = (evOf h).2.2.2.1 x641.toNatClampNeg := by rw [e683]; exact congrFun (congrArg (fun q : EV => q.2.2.2.1) hE) _
                                  refine R_dup2 rfl ?_
                                  refine R_iald rfl sh_107 ⟨by omega, by omega⟩ ?_
                                  refine N_eq (fun x686 e687 => ?_)
                                  have e688 : x686 = ((kyOf h639).1) x682.toNatClampNeg := by rw [e687]; exact (ky_at107 (nlt ⟨by omega, by omega⟩)).trans (congrFun (congrArg (fun q : KY => q.1) hK) _)
                                  refine R_iconst 1 rfl rfl ?_
                                  have b689 := i_rng x686
                                  refine R_iadd rfl ?_
                                  refine N_eq (fun x690 e691 => ?_)
                                  refine K_iast (a := x682.toInt) (lo := (-2147483648)) (hi' := 2147483647) rfl sh_107 rfl ⟨by omega, by omega⟩ hI (by decide) rfl (i_rng _) fr (by decide) (fun h692 g693 hI fr => ?_)
                                  have fl640 : FR [107] h625 h692 := by rw [g693]; exact FR_wI _ _ fl640 (by decide)
                                  have fl12 : FR [96, 107, 108, 109, 117, 118] h h692 := by rw [g693]; exact FR_wI _ _ fl12 (by decide)
                                  have s694 : (h692.1 96 41).toInt = (h639.1 96 41).toInt := by rw [g693, wI_ne _ _ _ (by decide)]
                                  have s695 : (h692.1 96 42).toInt = (h639.1 96 42).toInt := by rw [g693, wI_ne _ _ _ (by decide)]
                                  have s696 : (h692.1 96 19).toInt = (h639.1 96 19).toInt := by rw [g693, wI_ne _ _ _ (by decide)]
                                  have s697 : (h692.1 96 18).toInt = (h639.1 96 18).toInt := by rw [g693, wI_ne _ _ _ (by decide)]
                                  have s698 : (h692.1 96 20).toInt = (h639.1 96 20).toInt := by rw [g693, wI_ne _ _ _ (by decide)]
                                  have s699 : (h692.1 96 46).toInt = (h639.1 96 46).toInt := by rw [g693, wI_ne _ _ _ (by decide)]
                                  have s700 : (h692.1 96 44).toInt = (h639.1 96 44).toInt := by rw [g693, wI_ne _ _ _ (by decide)]
                                  have s701 : (h692.1 96 47).toInt = (h639.1 96 47).toInt := by rw [g693, wI_ne _ _ _ (by decide)]
                                  have s702 : (h692.1 96 48).toInt = (h639.1 96 48).toInt := by rw [g693, wI_ne _ _ _ (by decide)]
                                  have s703 : (h692.1 96 51).toInt = (h639.1 96 51).toInt := by rw [g693, wI_ne _ _ _ (by decide)]
                                  have hK : kyOf h692 = (upd ((kyOf h639).1) x682.toNatClampNeg x690, (kyOf h639).2.1, (kyOf h639).2.2.1, (kyOf h639).2.2.2) := by rw [g693, ky_107 (nlt ⟨by omega, by omega⟩), hK] <;> rfl
                                  have hE : evOf h692 = evOf h := by rw [g693, ev_o (by decide), hE]
                                  refine N_iinc (a := x641.toInt) (c := 1) (fun w => [(3, .inl w), (0, .inr (.inr (.inl 96))), (1, .inl a0), (2, .inl a1)]) rfl rfl (fun _ => rfl) (by decide) rfl (by decide) (by omega) (fun x704 q705 => ?_)
                                  refine R_goto 166 rfl rfl ?_
                                  exact RUN_weak (psub_cons rfl (psub_cons rfl (psub_cons rfl (psub_cons rfl (psub_nil _))))) (ih642 h692 x704 hI fr fl640 (by omega) (by omega) (by rw [zHolds_s (x := x641) (x' := x704) (by omega) (by omega), ← m648]; refine hK.trans ?_; subst e691 e688 e685 e674 e667 e664; simp only [zHold1, eLine] <;> (repeat' split) <;> first | (exfalso; omega) | rfl) (hE) (by omega))
                              · rw [hE] at zq678
                                show RUN d_X9_goSecond 200 [(3, .inl x641), (0, .inr (.inr (.inl 96))), (1, .inl a0), (2, .inl a1)] [.inl x679] h639 _
                                refine N_if_ne (a := x679.toInt) 218 rfl rfl rfl (fun c706 => ?_) (fun c706 => ?_)
                                · refine N_iinc (a := x641.toInt) (c := 1) (fun w => [(3, .inl w), (0, .inr (.inr (.inl 96))), (1, .inl a0), (2, .inl a1)]) rfl rfl (fun _ => rfl) (by decide) rfl (by decide) (by omega) (fun x707 q708 => ?_)
                                  refine R_goto 166 rfl rfl ?_
                                  exact RUN_weak (psub_cons rfl (psub_cons rfl (psub_cons rfl (psub_cons rfl (psub_nil _))))) (ih642 h639 x707 hI fr fl640 (by omega) (by omega) (by rw [zHolds_s (x := x641) (x' := x707) (by omega) (by omega), ← m648]; refine hK.trans ?_; subst e674 e667 e664; simp only [zHold1, eLine] <;> (repeat' split) <;> first | (exfalso; omega) | rfl) (hE) (by omega))
                                · exfalso; omega
                      have k709 : (0 : Int32).toInt = 0 := by decide
                      exact lp638 _ h625 (0 : Int32) hI fr (FR.rf _ _) (by decide) (by omega) (by rw [hK]; rfl) (hE) (Nat.lt_succ_self _)
                · rw [hE] at zq503
                  show RUN d_X9_goSecond 115 [(3, .inl x13), (0, .inr (.inr (.inl 96))), (1, .inl a0), (2, .inl a1)] [.inl x504] h11 _
                  refine N_if_ne (a := x504.toInt) 164 rfl rfl rfl (fun c710 => ?_) (fun c710 => ?_)
                  · have hK : kyOf h11 = zTake (evOf h) a0 (zMid (evOf h) a0 a1 (kyOf h)) := by
                      refine hK.trans ?_
                      subst e499 e421 e418
                      simp only [zTake, zTake1, eMany, eLine, eFull] <;> (repeat' split) <;> first | (exfalso; omega) | rfl
                    refine R_iconst 0 rfl rfl ?_
                    refine R_istore_n (k := 3) rfl [(3, .inl 0), (0, .inr (.inr (.inl 96))), (1, .inl a0), (2, .inl a1)] rfl rfl (by decide) ?_
                    have lp712 : ∀ (n711 : Nat) (h713 : PH) (x715 : Int32), INV h713 → FR [96, 107, 108, 109, 117, 118] h h713 → FR [107] h11 h713 → 0 ≤ x715.toInt ∧ x715.toInt ≤ 6 → x715.toInt ≤ (h11.1 96 18).toInt + 0 → (kyOf h713 = zHolds (evOf h) a0 x715.toNatClampNeg (zTake (evOf h) a0 (zMid (evOf h) a0 a1 (kyOf h)))) → (evOf h713 = evOf h) → (6 - x715.toInt).toNat < n711 → RUN d_X9_goSecond 166 [(3, .inl x715), (0, .inr (.inr (.inl 96))), (1, .inl a0), (2, .inl a1)] [] h713 (qg_X9_goSecond h a0 a1) := by
                      intro n711
                      induction n711 with
                      | zero => intro h713 x715 m717 m718 m719 m720 m721 m722 m723 hz; exact absurd hz (Nat.not_lt_zero _)
                      | succ n711 ih716 =>
                        intro h713 x715 hI fr fl714 m720 m721 m722 m723 hz
                        have s724 : (h713.1 96 41).toInt = (h11.1 96 41).toInt := by rw [(fl714 96 (by decide)).1]
                        have s725 : (h713.1 96 42).toInt = (h11.1 96 42).toInt := by rw [(fl714 96 (by decide)).1]
                        have s726 : (h713.1 96 19).toInt = (h11.1 96 19).toInt := by rw [(fl714 96 (by decide)).1]
                        have s727 : (h713.1 96 18).toInt = (h11.1 96 18).toInt := by rw [(fl714 96 (by decide)).1]
                        have s728 : (h713.1 96 20).toInt = (h11.1 96 20).toInt := by rw [(fl714 96 (by decide)).1]
                        have s729 : (h713.1 96 46).toInt = (h11.1 96 46).toInt := by rw [(fl714 96 (by decide)).1]
                        have s730 : (h713.1 96 44).toInt = (h11.1 96 44).toInt := by rw [(fl714 96 (by decide)).1]
                        have s731 : (h713.1 96 47).toInt = (h11.1 96 47).toInt := by rw [(fl714 96 (by decide)).1]
                        have s732 : (h713.1 96 48).toInt = (h11.1 96 48).toInt := by rw [(fl714 96 (by decide)).1]
                        have s733 : (h713.1 96 51).toInt = (h11.1 96 51).toInt := by rw [(fl714 96 (by decide)).1]
                        have fl12 : FR [96, 107, 108, 109, 117, 118] h h713 := fl12.trans fl714 (by decide)
                        have hE := m723
                        have hK : kyOf h713 = kyOf h713 := rfl
                        refine R_iload_n (k := 3) rfl rfl rfl ?_
                        refine R_aload_n (k := 0) rfl rfl rfl ?_
                        refine R_getf_i (j := 18) rfl ft_9_253 sh_96 rfl ?_
                        refine N_icmp_ge (a := x715.toInt) (b := (h713.1 96 18).toInt) 224 rfl rfl rfl rfl (fun c734 => ?_) (fun c734 => ?_)
                        · have hF : kyOf h713 = zSecond (evOf h) a0 a1 (kyOf h) := m722.trans (by rw [show x715 = (evOf h).2.2.2.2.1 from i_of _ (by omega)]; rfl)
                          exact R_vret rfl rfl ⟨hI, fr, ⟨by omega, by omega, by omega, by omega, by omega, by omega, by omega, by omega, by omega, by omega, hF, hE, trivial⟩, rfl⟩
                        · refine R_aload_n (k := 0) rfl rfl rfl ?_
                          refine R_getf_r (j := 22) rfl ft_9_46 sh_96 rfl ?_
                          refine R_aload_n (k := 0) rfl rfl rfl ?_
                          refine R_getf_r (j := 17) rfl ft_9_40 sh_96 rfl ?_
                          refine R_iload_n (k := 3) rfl rfl rfl ?_
                          refine R_iald rfl sh_105 ⟨by omega, by omega⟩ ?_
                          refine N_eq (fun x735 e736 => ?_)
                          have q737 : 0 ≤ x735.toInt ∧ x735.toInt ≤ 5 := by rw [e736]; exact hI.1 105 _
                          have e738 : x735 = (evOf h).2.2.2.1 x715.toNatClampNeg := by rw [e736]; exact congrFun (congrArg (fun q : EV => q.2.2.2.1) hE) _
                          refine R_iald rfl sh_107 ⟨by omega, by omega⟩ ?_
                          refine N_eq (fun x739 e740 => ?_)
                          have e741 : x739 = ((kyOf h713).1) x735.toNatClampNeg := by rw [e740]; exact (ky_at107 (nlt ⟨by omega, by omega⟩)).trans (congrFun (congrArg (fun q : KY => q.1) hK) _)
                          refine R_iconst (-1) rfl rfl ?_
                          refine N_icmp_eq (a := x739.toInt) (b := (-1)) 218 rfl rfl rfl (by decide) (fun c742 => ?_) (fun c742 => ?_)
                          · refine N_iinc (a := x715.toInt) (c := 1) (fun w => [(3, .inl w), (0, .inr (.inr (.inl 96))), (1, .inl a0), (2, .inl a1)]) rfl rfl (fun _ => rfl) (by decide) rfl (by decide) (by omega) (fun x743 q744 => ?_)
                            refine R_goto 166 rfl rfl ?_
                            exact RUN_weak (psub_cons rfl (psub_cons rfl (psub_cons rfl (psub_cons rfl (psub_nil _))))) (ih716 h713 x743 hI fr fl714 (by omega) (by omega) (by rw [zHolds_s (x := x715) (x' := x743) (by omega) (by omega), ← m722]; refine hK.trans ?_; subst e741 e738; simp only [zHold1, eLine] <;> (repeat' split) <;> first | (exfalso; omega) | rfl) (hE) (by omega))
                          · refine R_aload_n (k := 0) rfl rfl rfl ?_
                            refine R_aload_n (k := 0) rfl rfl rfl ?_
                            refine R_getf_r (j := 17) rfl ft_9_40 sh_96 rfl ?_
                            refine R_iload_n (k := 3) rfl rfl rfl ?_
                            refine R_iald rfl sh_105 ⟨by omega, by omega⟩ ?_
                            refine N_eq (fun x745 e746 => ?_)
                            have q747 : 0 ≤ x745.toInt ∧ x745.toInt ≤ 5 := by rw [e746]; exact hI.1 105 _
                            have e748 : x745 = (evOf h).2.2.2.1 x715.toNatClampNeg := by rw [e746]; exact congrFun (congrArg (fun q : EV => q.2.2.2.1) hE) _
                            refine R_iload_n (k := 1) rfl rfl rfl ?_
                            refine R_callV (v := .inr (.inr (.inl 96))) (As := [.inl x745, .inl a0]) (rest := []) rfl mt_9_i271 pp_X9_doesRest (by decide) rfl rfl rfl (Nat.le_of_ble_eq_true rfl) (Nat.le_of_ble_eq_true rfl) ((g_X9_doesRest h713 hI x745 a0 (by omega) (by omega)).mono (fun r749 h750 p751 => ?_))
                            obtain ⟨rfl, x753, rfl, (q754 | q754 | q754), zq752, -⟩ := p751
                            · rw [hE] at zq752
                              exfalso; omega
                            · rw [hE] at zq752
                              show RUN d_X9_goSecond 200 [(3, .inl x715), (0, .inr (.inr (.inl 96))), (1, .inl a0), (2, .inl a1)] [.inl x753] h713 _
                              refine N_if_ne (a := x753.toInt) 218 rfl rfl rfl (fun c755 => ?_) (fun c755 => ?_)
                              · exfalso; omega
                              · refine R_aload_n (k := 0) rfl rfl rfl ?_
                                refine R_getf_r (j := 22) rfl ft_9_46 sh_96 rfl ?_
                                refine R_aload_n (k := 0) rfl rfl rfl ?_
                                refine R_getf_r (j := 17) rfl ft_9_40 sh_96 rfl ?_
                                refine R_iload_n (k := 3) rfl rfl rfl ?_
                                refine R_iald rfl sh_105 ⟨by omega, by omega⟩ ?_
                                refine N_eq (fun x756 e757 => ?_)
                                have q758 : 0 ≤ x756.toInt ∧ x756.toInt ≤ 5 := by rw [e757]; exact hI.1 105 _
                                have e759 : x756 = (evOf h).2.2.2.1 x715.toNatClampNeg := by rw [e757]; exact congrFun (congrArg (fun q : EV => q.2.2.2.1) hE) _
                                refine R_dup2 rfl ?_
                                refine R_iald rfl sh_107 ⟨by omega, by omega⟩ ?_
                                refine N_eq (fun x760 e761 => ?_)
                                have e762 : x760 = ((kyOf h713).1) x756.toNatClampNeg := by rw [e761]; exact (ky_at107 (nlt ⟨by omega, by omega⟩)).trans (congrFun (congrArg (fun q : KY => q.1) hK) _)
                                refine R_iconst 1 rfl rfl ?_
                                have b763 := i_rng x760
                                refine R_iadd rfl ?_
                                refine N_eq (fun x764 e765 => ?_)
                                refine K_iast (a := x756.toInt) (lo := (-2147483648)) (hi' := 2147483647) rfl sh_107 rfl ⟨by omega, by omega⟩ hI (by decide) rfl (i_rng _) fr (by decide) (fun h766 g767 hI fr => ?_)
                                have fl714 : FR [107] h11 h766 := by rw [g767]; exact FR_wI _ _ fl714 (by decide)
                                have fl12 : FR [96, 107, 108, 109, 117, 118] h h766 := by rw [g767]; exact FR_wI _ _ fl12 (by decide)
                                have s768 : (h766.1 96 41).toInt = (h713.1 96 41).toInt := by rw [g767, wI_ne _ _ _ (by decide)]
                                have s769 : (h766.1 96 42).toInt = (h713.1 96 42).toInt := by rw [g767, wI_ne _ _ _ (by decide)]
                                have s770 : (h766.1 96 19).toInt = (h713.1 96 19).toInt := by rw [g767, wI_ne _ _ _ (by decide)]
                                have s771 : (h766.1 96 18).toInt = (h713.1 96 18).toInt := by rw [g767, wI_ne _ _ _ (by decide)]
                                have s772 : (h766.1 96 20).toInt = (h713.1 96 20).toInt := by rw [g767, wI_ne _ _ _ (by decide)]
                                have s773 : (h766.1 96 46).toInt = (h713.1 96 46).toInt := by rw [g767, wI_ne _ _ _ (by decide)]
                                have s774 : (h766.1 96 44).toInt = (h713.1 96 44).toInt := by rw [g767, wI_ne _ _ _ (by decide)]
                                have s775 : (h766.1 96 47).toInt = (h713.1 96 47).toInt := by rw [g767, wI_ne _ _ _ (by decide)]
                                have s776 : (h766.1 96 48).toInt = (h713.1 96 48).toInt := by rw [g767, wI_ne _ _ _ (by decide)]
                                have s777 : (h766.1 96 51).toInt = (h713.1 96 51).toInt := by rw [g767, wI_ne _ _ _ (by decide)]
                                have hK : kyOf h766 = (upd ((kyOf h713).1) x756.toNatClampNeg x764, (kyOf h713).2.1, (kyOf h713).2.2.1, (kyOf h713).2.2.2) := by rw [g767, ky_107 (nlt ⟨by omega, by omega⟩), hK] <;> rfl
                                have hE : evOf h766 = evOf h := by rw [g767, ev_o (by decide), hE]
                                refine N_iinc (a := x715.toInt) (c := 1) (fun w => [(3, .inl w), (0, .inr (.inr (.inl 96))), (1, .inl a0), (2, .inl a1)]) rfl rfl (fun _ => rfl) (by decide) rfl (by decide) (by omega) (fun x778 q779 => ?_)
                                refine R_goto 166 rfl rfl ?_
                                exact RUN_weak (psub_cons rfl (psub_cons rfl (psub_cons rfl (psub_cons rfl (psub_nil _))))) (ih716 h766 x778 hI fr fl714 (by omega) (by omega) (by rw [zHolds_s (x := x715) (x' := x778) (by omega) (by omega), ← m722]; refine hK.trans ?_; subst e765 e762 e759 e748 e741 e738; simp only [zHold1, eLine] <;> (repeat' split) <;> first | (exfalso; omega) | rfl) (hE) (by omega))
                            · rw [hE] at zq752
                              show RUN d_X9_goSecond 200 [(3, .inl x715), (0, .inr (.inr (.inl 96))), (1, .inl a0), (2, .inl a1)] [.inl x753] h713 _
                              refine N_if_ne (a := x753.toInt) 218 rfl rfl rfl (fun c780 => ?_) (fun c780 => ?_)
                              · refine N_iinc (a := x715.toInt) (c := 1) (fun w => [(3, .inl w), (0, .inr (.inr (.inl 96))), (1, .inl a0), (2, .inl a1)]) rfl rfl (fun _ => rfl) (by decide) rfl (by decide) (by omega) (fun x781 q782 => ?_)
                                refine R_goto 166 rfl rfl ?_
                                exact RUN_weak (psub_cons rfl (psub_cons rfl (psub_cons rfl (psub_cons rfl (psub_nil _))))) (ih716 h713 x781 hI fr fl714 (by omega) (by omega) (by rw [zHolds_s (x := x715) (x' := x781) (by omega) (by omega), ← m722]; refine hK.trans ?_; subst e748 e741 e738; simp only [zHold1, eLine] <;> (repeat' split) <;> first | (exfalso; omega) | rfl) (hE) (by omega))
                              · exfalso; omega
                    have k783 : (0 : Int32).toInt = 0 := by decide
                    exact lp712 _ h11 (0 : Int32) hI fr (FR.rf _ _) (by decide) (by omega) (by rw [hK]; rfl) (hE) (Nat.lt_succ_self _)
                  · exfalso; omega
          · refine R_aload_n (k := 0) rfl rfl rfl ?_
            refine R_iload_n (k := 3) rfl rfl rfl ?_
            refine R_iload_n (k := 1) rfl rfl rfl ?_
            refine R_callV (v := .inr (.inr (.inl 96))) (As := [.inl x13, .inl a0]) (rest := []) rfl mt_9_i278 pp_X9_goPlace (by decide) rfl rfl rfl (Nat.le_of_ble_eq_true rfl) (Nat.le_of_ble_eq_true rfl) ((g_X9_goPlace h11 hI x13 a0 (by omega) (by omega) (by omega)).mono (fun r784 h785 p786 => ?_))
            obtain ⟨hJ, fj, ⟨kp787, kp788, kp789, kp790, kp791, kp792, kp793, kp794, kp795, kp796, xq797, xq798, -⟩, rfl⟩ := p786
            have f799 := fj
            have fr := fr.trans fj (by decide)
            have hI := hJ
            have fl12 : FR [96, 107, 108, 109, 117, 118] h h785 := fl12.trans fj (by decide)
            have hK : kyOf h785 = zPlace (evOf h) x13 a0 (kyOf h11) := by rw [xq797, hE, hK]
            have hE : evOf h785 = evOf h := xq798.trans hE
            show RUN d_X9_goSecond 76 [(3, .inl x13), (0, .inr (.inr (.inl 96))), (1, .inl a0), (2, .inl a1)] [] h785 _
            refine N_iinc (a := x13.toInt) (c := (-1)) (fun w => [(3, .inl w), (0, .inr (.inr (.inl 96))), (1, .inl a0), (2, .inl a1)]) rfl rfl (fun _ => rfl) (by decide) rfl (by decide) (by omega) (fun x800 q801 => ?_)
            refine R_goto 62 rfl rfl ?_
            exact RUN_weak (psub_cons rfl (psub_cons rfl (psub_cons rfl (psub_cons rfl (psub_nil _))))) (ih14 h785 x800 hI fr fl12 (by omega) (by omega) (by omega) (by omega) (by omega) (by omega) (by omega) (by omega) (by omega) (by omega) (by omega) (by omega) (by omega) (by rw [hK, ← zPlaces_s (x := x13) (x' := x800) (by omega) (by omega)]; exact m31) (fun hc => absurd (show a1.toInt = 0 by omega) hc) (hE) (by omega))
    exact lp10 _ h x6 hI fr (FR.rf _ _) (by omega) rfl rfl rfl rfl rfl rfl rfl rfl rfl rfl (by omega) (by omega) ((congrArg (fun q => zPlaces (evOf h) a0 (x6.toInt + 1).toNat q) hK).trans (by rw [tn1 (x := x6) (y := (evOf h).2.2.2.2.1) (by omega) (by omega)])) (fun _ => hK) (hE) (Nat.lt_succ_self _)
  · refine R_aload_n (k := 0) rfl rfl rfl ?_
    refine R_getf_r (j := 24) rfl ft_9_52 sh_96 rfl ?_
    refine R_iconst 0 rfl rfl ?_
    refine R_dup2 rfl ?_
    refine R_iald rfl sh_109 (by decide) ?_
    refine N_eq (fun x802 e803 => ?_)
    have e804 : x802 = ((kyOf h).2.2.1) (0 : Int32).toNatClampNeg := by rw [e803]; exact (ky_at109 (by decide)).trans (congrFun (congrArg (fun q : KY => q.2.2.1) hK) _)
    refine R_aload_n (k := 0) rfl rfl rfl ?_
    refine R_getf_r (j := 24) rfl ft_9_52 sh_96 rfl ?_
    refine R_iconst 1 rfl rfl ?_
    refine R_iald rfl sh_109 (by decide) ?_
    refine N_eq (fun x805 e806 => ?_)
    have e807 : x805 = ((kyOf h).2.2.1) (1 : Int32).toNatClampNeg := by rw [e806]; exact (ky_at109 (by decide)).trans (congrFun (congrArg (fun q : KY => q.2.2.1) hK) _)
    have b808 := i_rng x802
    have b809 := i_rng x805
    refine R_iadd rfl ?_
    refine N_eq (fun x810 e811 => ?_)
    refine K_iast (a := 0) (lo := (-2147483648)) (hi' := 2147483647) rfl sh_109 (by decide) (by decide) hI (by decide) rfl (i_rng _) fr (by decide) (fun h812 g813 hI fr => ?_)
    have s814 : (h812.1 96 34).toInt = (h.1 96 34).toInt := by rw [g813, wI_ne _ _ _ (by decide)]
    have s815 : (h812.1 96 36).toInt = (h.1 96 36).toInt := by rw [g813, wI_ne _ _ _ (by decide)]
    have s816 : (h812.1 96 41).toInt = (h.1 96 41).toInt := by rw [g813, wI_ne _ _ _ (by decide)]
    have s817 : (h812.1 96 42).toInt = (h.1 96 42).toInt := by rw [g813, wI_ne _ _ _ (by decide)]
    have s818 : (h812.1 96 19).toInt = (h.1 96 19).toInt := by rw [g813, wI_ne _ _ _ (by decide)]
    have s819 : (h812.1 96 18).toInt = (h.1 96 18).toInt := by rw [g813, wI_ne _ _ _ (by decide)]
    have s820 : (h812.1 96 20).toInt = (h.1 96 20).toInt := by rw [g813, wI_ne _ _ _ (by decide)]
    have s821 : (h812.1 96 46).toInt = (h.1 96 46).toInt := by rw [g813, wI_ne _ _ _ (by decide)]
    have s822 : (h812.1 96 44).toInt = (h.1 96 44).toInt := by rw [g813, wI_ne _ _ _ (by decide)]
    have s823 : (h812.1 96 47).toInt = (h.1 96 47).toInt := by rw [g813, wI_ne _ _ _ (by decide)]
    have s824 : (h812.1 96 48).toInt = (h.1 96 48).toInt := by rw [g813, wI_ne _ _ _ (by decide)]
    have s825 : (h812.1 96 51).toInt = (h.1 96 51).toInt := by rw [g813, wI_ne _ _ _ (by decide)]
    have hK : kyOf h812 = ((kyOf h).1, (kyOf h).2.1, upd ((kyOf h).2.2.1) (0 : Int32).toNatClampNeg x810, (kyOf h).2.2.2) := by rw [g813, ky_109 (by decide), hK] <;> rfl
    have hE : evOf h812 = evOf h := by rw [g813, ev_o (by decide), hE]
    refine R_iconst 1 rfl rfl ?_
    refine R_istore_n (k := 3) rfl [(3, .inl 1), (0, .inr (.inr (.inl 96))), (1, .inl a0), (2, .inl a1)] rfl rfl (by decide) ?_
    have lp827 : ∀ (n826 : Nat) (h828 : PH) (x830 : Int32), INV h828 → FR [96, 107, 108, 109, 117, 118] h h828 → FR [96, 107, 108, 109, 117, 118] h812 h828 → 1 ≤ x830.toInt ∧ x830.toInt ≤ 22 → (h828.1 96 41).toInt = (h812.1 96 41).toInt → (h828.1 96 42).toInt = (h812.1 96 42).toInt → (h828.1 96 19).toInt = (h812.1 96 19).toInt → (h828.1 96 18).toInt = (h812.1 96 18).toInt → (h828.1 96 20).toInt = (h812.1 96 20).toInt → (h828.1 96 46).toInt = (h812.1 96 46).toInt → (h828.1 96 44).toInt = (h812.1 96 44).toInt → (h828.1 96 47).toInt = (h812.1 96 47).toInt → (h828.1 96 48).toInt = (h812.1 96 48).toInt → (h828.1 96 51).toInt = (h812.1 96 51).toInt → True → True → (kyOf h828 = ((kyOf h).1, (kyOf h).2.1, zShN (kyOf h).2.2.1 x830.toNatClampNeg, (kyOf h).2.2.2)) → (evOf h828 = evOf h) → (22 - x830.toInt).toNat < n826 → RUN d_X9_goSecond 21 [(3, .inl x830), (0, .inr (.inr (.inl 96))), (1, .inl a0), (2, .inl a1)] [] h828 (qg_X9_goSecond h a0 a1) := by
      intro n826
      induction n826 with
      | zero => intro h828 x830 m832 m833 m834 m835 m836 m837 m838 m839 m840 m841 m842 m843 m844 m845 m846 m847 m848 m849 hz; exact absurd hz (Nat.not_lt_zero _)
      | succ n826 ih831 =>
        intro h828 x830 hI fr fl829 m835 m836 m837 m838 m839 m840 m841 m842 m843 m844 m845 m846 m847 m848 m849 hz
        have hE := m849
        have hK : kyOf h828 = kyOf h828 := rfl
        refine R_iload_n (k := 3) rfl rfl rfl ?_
        refine R_bipush 22 rfl rfl ?_
        refine N_icmp_ge (a := x830.toInt) (b := 22) 47 rfl rfl rfl (by decide) (fun c850 => ?_) (fun c850 => ?_)
        · refine R_aload_n (k := 0) rfl rfl rfl ?_
          refine R_getf_r (j := 24) rfl ft_9_52 sh_96 rfl ?_
          refine R_bipush 22 rfl rfl ?_
          refine R_iconst 0 rfl rfl ?_
          refine K_iast (a := 22) (lo := (-2147483648)) (hi' := 2147483647) rfl sh_109 (by decide) (by decide) hI (by decide) rfl (by decide) fr (by decide) (fun h851 g852 hI fr => ?_)
          have fl829 : FR [96, 107, 108, 109, 117, 118] h812 h851 := by rw [g852]; exact FR_wI _ _ fl829 (by decide)
          have s853 : (h851.1 96 34).toInt = (h828.1 96 34).toInt := by rw [g852, wI_ne _ _ _ (by decide)]
          have s854 : (h851.1 96 36).toInt = (h828.1 96 36).toInt := by rw [g852, wI_ne _ _ _ (by decide)]
          have s855 : (h851.1 96 41).toInt = (h828.1 96 41).toInt := by rw [g852, wI_ne _ _ _ (by decide)]
          have s856 : (h851.1 96 42).toInt = (h828.1 96 42).toInt := by rw [g852, wI_ne _ _ _ (by decide)]
          have s857 : (h851.1 96 19).toInt = (h828.1 96 19).toInt := by rw [g852, wI_ne _ _ _ (by decide)]
          have s858 : (h851.1 96 18).toInt = (h828.1 96 18).toInt := by rw [g852, wI_ne _ _ _ (by decide)]
          have s859 : (h851.1 96 20).toInt = (h828.1 96 20).toInt := by rw [g852, wI_ne _ _ _ (by decide)]
          have s860 : (h851.1 96 46).toInt = (h828.1 96 46).toInt := by rw [g852, wI_ne _ _ _ (by decide)]
          have s861 : (h851.1 96 44).toInt = (h828.1 96 44).toInt := by rw [g852, wI_ne _ _ _ (by decide)]
          have s862 : (h851.1 96 47).toInt = (h828.1 96 47).toInt := by rw [g852, wI_ne _ _ _ (by decide)]
          have s863 : (h851.1 96 48).toInt = (h828.1 96 48).toInt := by rw [g852, wI_ne _ _ _ (by decide)]
          have s864 : (h851.1 96 51).toInt = (h828.1 96 51).toInt := by rw [g852, wI_ne _ _ _ (by decide)]
          have hK : kyOf h851 = ((kyOf h828).1, (kyOf h828).2.1, upd ((kyOf h828).2.2.1) (22 : Int32).toNatClampNeg (0), (kyOf h828).2.2.2) := by rw [g852, ky_109 (by decide), hK] <;> rfl
          have hE : evOf h851 = evOf h := by rw [g852, ev_o (by decide), hE]
          have hK : kyOf h851 = zPre a0 (kyOf h) := by refine hK.trans ?_; rw [m848, show x830 = 22 from i_of 22 (by rw [show (22 : Int32).toInt = 22 from rfl]; omega)]; unfold zPre; rw [if_pos (by omega)]; rfl
          refine R_aload_n (k := 0) rfl rfl rfl ?_
          refine R_getf_i (j := 18) rfl ft_9_253 sh_96 rfl ?_
          refine R_iconst 1 rfl rfl ?_
          refine R_isub rfl ?_
          refine N_eq (fun x865 e866 => ?_)
          have q867 : x865.toInt = (h851.1 96 18).toInt - 1 := by rw [e866]; exact i_sub rfl (by decide) (by omega)
          refine R_istore_n (k := 3) rfl [(3, .inl x865), (0, .inr (.inr (.inl 96))), (1, .inl a0), (2, .inl a1)] rfl rfl (by decide) ?_
          have lp869 : ∀ (n868 : Nat) (h870 : PH) (x872 : Int32), INV h870 → FR [96, 107, 108, 109, 117, 118] h h870 → FR [96, 107, 108, 109, 117, 118] h851 h870 → (-1) ≤ x872.toInt ∧ x872.toInt ≤ 5 → (h870.1 96 41).toInt = (h851.1 96 41).toInt → (h870.1 96 42).toInt = (h851.1 96 42).toInt → (h870.1 96 19).toInt = (h851.1 96 19).toInt → (h870.1 96 18).toInt = (h851.1 96 18).toInt → (h870.1 96 20).toInt = (h851.1 96 20).toInt → (h870.1 96 46).toInt = (h851.1 96 46).toInt → (h870.1 96 44).toInt = (h851.1 96 44).toInt → (h870.1 96 47).toInt = (h851.1 96 47).toInt → (h870.1 96 48).toInt = (h851.1 96 48).toInt → (h870.1 96 51).toInt = (h851.1 96 51).toInt → x872.toInt ≤ (h851.1 96 18).toInt + (-1) → x872.toInt ≤ (h851.1 96 18).toInt + 0 → (zPlaces (evOf h) a0 (x872.toInt + 1).toNat (kyOf h870) = zPlaces (evOf h) a0 (evOf h).2.2.2.2.1.toNatClampNeg (zPre a0 (kyOf h))) → (¬ a1.toInt = 0 → kyOf h870 = zPre a0 (kyOf h)) → (evOf h870 = evOf h) → (x872.toInt - (-1)).toNat < n868 → RUN d_X9_goSecond 62 [(3, .inl x872), (0, .inr (.inr (.inl 96))), (1, .inl a0), (2, .inl a1)] [] h870 (qg_X9_goSecond h a0 a1) := by
            intro n868
            induction n868 with
            | zero => intro h870 x872 m874 m875 m876 m877 m878 m879 m880 m881 m882 m883 m884 m885 m886 m887 m888 m889 m890 m891 m892 hz; exact absurd hz (Nat.not_lt_zero _)
            | succ n868 ih873 =>
              intro h870 x872 hI fr fl871 m877 m878 m879 m880 m881 m882 m883 m884 m885 m886 m887 m888 m889 m890 m891 m892 hz
              have fl829 : FR [96, 107, 108, 109, 117, 118] h812 h870 := fl829.trans fl871 (by decide)
              have hE := m892
              have hK : kyOf h870 = kyOf h870 := rfl
              refine R_iload_n (k := 3) rfl rfl rfl ?_
              refine N_if_lt (a := x872.toInt) 82 rfl rfl rfl (fun c893 => ?_) (fun c893 => ?_)
              · have hK : kyOf h870 = zMid (evOf h) a0 a1 (kyOf h) := by
                  unfold zMid
                  split
                  · first | (exfalso; omega) | (have hA := m890; rw [show (x872.toInt + 1).toNat = 0 by omega] at hA; exact hA)
                  · exact m891 (by omega)
                refine R_aload_n (k := 0) rfl rfl rfl ?_
                refine R_getf_i (j := 18) rfl ft_9_253 sh_96 rfl ?_
                refine N_if_le (a := (h870.1 96 18).toInt) 164 rfl rfl rfl (fun c894 => ?_) (fun c894 => ?_)
                · have hK : kyOf h870 = zTake (evOf h) a0 (zMid (evOf h) a0 a1 (kyOf h)) := by
                    refine hK.trans ?_
                    simp only [zTake, zTake1, eMany, eLine, eFull] <;> (repeat' split) <;> first | (exfalso; omega) | rfl
                  refine R_iconst 0 rfl rfl ?_
                  refine R_istore_n (k := 3) rfl [(3, .inl 0), (0, .inr (.inr (.inl 96))), (1, .inl a0), (2, .inl a1)] rfl rfl (by decide) ?_
                  have lp896 : ∀ (n895 : Nat) (x897 : Int32), 0 ≤ x897.toInt ∧ x897.toInt ≤ 0 → (kyOf h870 = zHolds (evOf h) a0 x897.toNatClampNeg (zTake (evOf h) a0 (zMid (evOf h) a0 a1 (kyOf h)))) → 0 < n895 → RUN d_X9_goSecond 166 [(3, .inl x897), (0, .inr (.inr (.inl 96))), (1, .inl a0), (2, .inl a1)] [] h870 (qg_X9_goSecond h a0 a1) := by
                    intro n895
                    induction n895 with
                    | zero => intro x897 m899 m900 hz; exact absurd hz (Nat.not_lt_zero _)
                    | succ n895 ih898 =>
                      intro x897 m899 m900 hz
                      refine R_iload_n (k := 3) rfl rfl rfl ?_
                      refine R_aload_n (k := 0) rfl rfl rfl ?_
                      refine R_getf_i (j := 18) rfl ft_9_253 sh_96 rfl ?_
                      refine N_icmp_ge (a := x897.toInt) (b := (h870.1 96 18).toInt) 224 rfl rfl rfl rfl (fun c901 => ?_) (fun c901 => ?_)
                      · have hF : kyOf h870 = zSecond (evOf h) a0 a1 (kyOf h) := m900.trans (by rw [show x897 = (evOf h).2.2.2.2.1 from i_of _ (by omega)]; rfl)
                        exact R_vret rfl rfl ⟨hI, fr, ⟨by omega, by omega, by omega, by omega, by omega, by omega, by omega, by omega, by omega, by omega, hF, hE, trivial⟩, rfl⟩
                      · exfalso; omega
                  have k902 : (0 : Int32).toInt = 0 := by decide
                  exact lp896 _ (0 : Int32) (by decide) (by rw [hK]; rfl) (Nat.lt_succ_self _)
                · refine R_aload_n (k := 0) rfl rfl rfl ?_
                  refine R_getf_r (j := 22) rfl ft_9_46 sh_96 rfl ?_
                  refine R_aload_n (k := 0) rfl rfl rfl ?_
                  refine R_getf_r (j := 17) rfl ft_9_40 sh_96 rfl ?_
                  refine R_iconst 0 rfl rfl ?_
                  refine R_iald rfl sh_105 (by decide) ?_
                  refine N_eq (fun x903 e904 => ?_)
                  have q905 : 0 ≤ x903.toInt ∧ x903.toInt ≤ 5 := by rw [e904]; exact hI.1 105 _
                  have e906 : x903 = (evOf h).2.2.2.1 (0 : Int32).toNatClampNeg := by rw [e904]; exact congrFun (congrArg (fun q : EV => q.2.2.2.1) hE) _
                  refine R_iald rfl sh_107 ⟨by omega, by omega⟩ ?_
                  refine N_eq (fun x907 e908 => ?_)
                  have e909 : x907 = ((zMid (evOf h) a0 a1 (kyOf h)).1) x903.toNatClampNeg := by rw [e908]; exact (ky_at107 (nlt ⟨by omega, by omega⟩)).trans (congrFun (congrArg (fun q : KY => q.1) hK) _)
                  refine R_iconst (-1) rfl rfl ?_
                  refine N_icmp_ne (a := x907.toInt) (b := (-1)) 164 rfl rfl rfl (by decide) (fun c910 => ?_) (fun c910 => ?_)
                  · have hK : kyOf h870 = zTake (evOf h) a0 (zMid (evOf h) a0 a1 (kyOf h)) := by
                      refine hK.trans ?_
                      subst e909 e906
                      simp only [zTake, zTake1, eMany, eLine, eFull] <;> (repeat' split) <;> first | (exfalso; omega) | rfl
                    refine R_iconst 0 rfl rfl ?_
                    refine R_istore_n (k := 3) rfl [(3, .inl 0), (0, .inr (.inr (.inl 96))), (1, .inl a0), (2, .inl a1)] rfl rfl (by decide) ?_
                    have lp912 : ∀ (n911 : Nat) (h913 : PH) (x915 : Int32), INV h913 → FR [96, 107, 108, 109, 117, 118] h h913 → FR [107] h870 h913 → 0 ≤ x915.toInt ∧ x915.toInt ≤ 6 → x915.toInt ≤ (h870.1 96 18).toInt + 0 → (kyOf h913 = zHolds (evOf h) a0 x915.toNatClampNeg (zTake (evOf h) a0 (zMid (evOf h) a0 a1 (kyOf h)))) → (evOf h913 = evOf h) → (6 - x915.toInt).toNat < n911 → RUN d_X9_goSecond 166 [(3, .inl x915), (0, .inr (.inr (.inl 96))), (1, .inl a0), (2, .inl a1)] [] h913 (qg_X9_goSecond h a0 a1) := by
                      intro n911
                      induction n911 with
                      | zero => intro h913 x915 m917 m918 m919 m920 m921 m922 m923 hz; exact absurd hz (Nat.not_lt_zero _)
                      | succ n911 ih916 =>
                        intro h913 x915 hI fr fl914 m920 m921 m922 m923 hz
                        have s924 : (h913.1 96 41).toInt = (h870.1 96 41).toInt := by rw [(fl914 96 (by decide)).1]
                        have s925 : (h913.1 96 42).toInt = (h870.1 96 42).toInt := by rw [(fl914 96 (by decide)).1]
                        have s926 : (h913.1 96 19).toInt = (h870.1 96 19).toInt := by rw [(fl914 96 (by decide)).1]
                        have s927 : (h913.1 96 18).toInt = (h870.1 96 18).toInt := by rw [(fl914 96 (by decide)).1]
                        have s928 : (h913.1 96 20).toInt = (h870.1 96 20).toInt := by rw [(fl914 96 (by decide)).1]
                        have s929 : (h913.1 96 46).toInt = (h870.1 96 46).toInt := by rw [(fl914 96 (by decide)).1]
                        have s930 : (h913.1 96 44).toInt = (h870.1 96 44).toInt := by rw [(fl914 96 (by decide)).1]
                        have s931 : (h913.1 96 47).toInt = (h870.1 96 47).toInt := by rw [(fl914 96 (by decide)).1]
                        have s932 : (h913.1 96 48).toInt = (h870.1 96 48).toInt := by rw [(fl914 96 (by decide)).1]
                        have s933 : (h913.1 96 51).toInt = (h870.1 96 51).toInt := by rw [(fl914 96 (by decide)).1]
                        have fl871 : FR [96, 107, 108, 109, 117, 118] h851 h913 := fl871.trans fl914 (by decide)
                        have fl829 : FR [96, 107, 108, 109, 117, 118] h812 h913 := fl829.trans fl914 (by decide)
                        have hE := m923
                        have hK : kyOf h913 = kyOf h913 := rfl
                        refine R_iload_n (k := 3) rfl rfl rfl ?_
                        refine R_aload_n (k := 0) rfl rfl rfl ?_
                        refine R_getf_i (j := 18) rfl ft_9_253 sh_96 rfl ?_
                        refine N_icmp_ge (a := x915.toInt) (b := (h913.1 96 18).toInt) 224 rfl rfl rfl rfl (fun c934 => ?_) (fun c934 => ?_)
                        · have hF : kyOf h913 = zSecond (evOf h) a0 a1 (kyOf h) := m922.trans (by rw [show x915 = (evOf h).2.2.2.2.1 from i_of _ (by omega)]; rfl)
                          exact R_vret rfl rfl ⟨hI, fr, ⟨by omega, by omega, by omega, by omega, by omega, by omega, by omega, by omega, by omega, by omega, hF, hE, trivial⟩, rfl⟩
                        · refine R_aload_n (k := 0) rfl rfl rfl ?_
                          refine R_getf_r (j := 22) rfl ft_9_46 sh_96 rfl ?_
                          refine R_aload_n (k := 0) rfl rfl rfl ?_
                          refine R_getf_r (j := 17) rfl ft_9_40 sh_96 rfl ?_
                          refine R_iload_n (k := 3) rfl rfl rfl ?_
                          refine R_iald rfl sh_105 ⟨by omega, by omega⟩ ?_
                          refine N_eq (fun x935 e936 => ?_)
                          have q937 : 0 ≤ x935.toInt ∧ x935.toInt ≤ 5 := by rw [e936]; exact hI.1 105 _
                          have e938 : x935 = (evOf h).2.2.2.1 x915.toNatClampNeg := by rw [e936]; exact congrFun (congrArg (fun q : EV => q.2.2.2.1) hE) _
                          refine R_iald rfl sh_107 ⟨by omega, by omega⟩ ?_
                          refine N_eq (fun x939 e940 => ?_)
                          have e941 : x939 = ((kyOf h913).1) x935.toNatClampNeg := by rw [e940]; exact (ky_at107 (nlt ⟨by omega, by omega⟩)).trans (congrFun (congrArg (fun q : KY => q.1) hK) _)
                          refine R_iconst (-1) rfl rfl ?_
                          refine N_icmp_eq (a := x939.toInt) (b := (-1)) 218 rfl rfl rfl (by decide) (fun c942 => ?_) (fun c942 => ?_)
                          · refine N_iinc (a := x915.toInt) (c := 1) (fun w => [(3, .inl w), (0, .inr (.inr (.inl 96))), (1, .inl a0), (2, .inl a1)]) rfl rfl (fun _ => rfl) (by decide) rfl (by decide) (by omega) (fun x943 q944 => ?_)
                            refine R_goto 166 rfl rfl ?_
                            exact RUN_weak (psub_cons rfl (psub_cons rfl (psub_cons rfl (psub_cons rfl (psub_nil _))))) (ih916 h913 x943 hI fr fl914 (by omega) (by omega) (by rw [zHolds_s (x := x915) (x' := x943) (by omega) (by omega), ← m922]; refine hK.trans ?_; subst e941 e938; simp only [zHold1, eLine] <;> (repeat' split) <;> first | (exfalso; omega) | rfl) (hE) (by omega))
                          · refine R_aload_n (k := 0) rfl rfl rfl ?_
                            refine R_aload_n (k := 0) rfl rfl rfl ?_
                            refine R_getf_r (j := 17) rfl ft_9_40 sh_96 rfl ?_
                            refine R_iload_n (k := 3) rfl rfl rfl ?_
                            refine R_iald rfl sh_105 ⟨by omega, by omega⟩ ?_
                            refine N_eq (fun x945 e946 => ?_)
                            have q947 : 0 ≤ x945.toInt ∧ x945.toInt ≤ 5 := by rw [e946]; exact hI.1 105 _
                            have e948 : x945 = (evOf h).2.2.2.1 x915.toNatClampNeg := by rw [e946]; exact congrFun (congrArg (fun q : EV => q.2.2.2.1) hE) _
                            refine R_iload_n (k := 1) rfl rfl rfl ?_
                            have b949 := i_rng a0
                            refine R_callV (v := .inr (.inr (.inl 96))) (As := [.inl x945, .inl a0]) (rest := []) rfl mt_9_i271 pp_X9_doesRest (by decide) rfl rfl rfl (Nat.le_of_ble_eq_true rfl) (Nat.le_of_ble_eq_true rfl) ((g_X9_doesRest h913 hI x945 a0 (by omega) (by omega)).mono (fun r950 h951 p952 => ?_))
                            obtain ⟨rfl, x954, rfl, (q955 | q955 | q955), zq953, -⟩ := p952
                            · rw [hE] at zq953
                              show RUN d_X9_goSecond 200 [(3, .inl x915), (0, .inr (.inr (.inl 96))), (1, .inl a0), (2, .inl a1)] [.inl x954] h913 _
                              refine N_if_ne (a := x954.toInt) 218 rfl rfl rfl (fun c956 => ?_) (fun c956 => ?_)
                              · exfalso; omega
                              · refine R_aload_n (k := 0) rfl rfl rfl ?_
                                refine R_getf_r (j := 22) rfl ft_9_46 sh_96 rfl ?_
                                refine R_aload_n (k := 0) rfl rfl rfl ?_
                                refine R_getf_r (j := 17) rfl ft_9_40 sh_96 rfl ?_
                                refine R_iload_n (k := 3) rfl rfl rfl ?_
                                refine R_iald rfl sh_105 ⟨by omega, by omega⟩ ?_
                                refine N_eq (fun x957 e958 => ?_)
                                have q959 : 0 ≤ x957.toInt ∧ x957.toInt ≤ 5 := by rw [e958]; exact hI.1 105 _
                                have e960 : x957 = (evOf h).2.2.2.1 x915.toNatClampNeg := by rw [e958]; exact congrFun (congrArg (fun q : EV => q.2.2.2.1) hE) _
                                refine R_dup2 rfl ?_
                                refine R_iald rfl sh_107 ⟨by omega, by omega⟩ ?_
                                refine N_eq (fun x961 e962 => ?_)
                                have e963 : x961 = ((kyOf h913).1) x957.toNatClampNeg := by rw [e962]; exact (ky_at107 (nlt ⟨by omega, by omega⟩)).trans (congrFun (congrArg (fun q : KY => q.1) hK) _)
                                refine R_iconst 1 rfl rfl ?_
                                have b964 := i_rng x961
                                refine R_iadd rfl ?_
                                refine N_eq (fun x965 e966 => ?_)
                                refine K_iast (a := x957.toInt) (lo := (-2147483648)) (hi' := 2147483647) rfl sh_107 rfl ⟨by omega, by omega⟩ hI (by decide) rfl (i_rng _) fr (by decide) (fun h967 g968 hI fr => ?_)
                                have fl914 : FR [107] h870 h967 := by rw [g968]; exact FR_wI _ _ fl914 (by decide)
                                have fl871 : FR [96, 107, 108, 109, 117, 118] h851 h967 := by rw [g968]; exact FR_wI _ _ fl871 (by decide)
                                have fl829 : FR [96, 107, 108, 109, 117, 118] h812 h967 := by rw [g968]; exact FR_wI _ _ fl829 (by decide)
                                have s969 : (h967.1 96 41).toInt = (h913.1 96 41).toInt := by rw [g968, wI_ne _ _ _ (by decide)]
                                have s970 : (h967.1 96 42).toInt = (h913.1 96 42).toInt := by rw [g968, wI_ne _ _ _ (by decide)]
                                have s971 : (h967.1 96 19).toInt = (h913.1 96 19).toInt := by rw [g968, wI_ne _ _ _ (by decide)]
                                have s972 : (h967.1 96 18).toInt = (h913.1 96 18).toInt := by rw [g968, wI_ne _ _ _ (by decide)]
                                have s973 : (h967.1 96 20).toInt = (h913.1 96 20).toInt := by rw [g968, wI_ne _ _ _ (by decide)]
                                have s974 : (h967.1 96 46).toInt = (h913.1 96 46).toInt := by rw [g968, wI_ne _ _ _ (by decide)]
                                have s975 : (h967.1 96 44).toInt = (h913.1 96 44).toInt := by rw [g968, wI_ne _ _ _ (by decide)]
                                have s976 : (h967.1 96 47).toInt = (h913.1 96 47).toInt := by rw [g968, wI_ne _ _ _ (by decide)]
                                have s977 : (h967.1 96 48).toInt = (h913.1 96 48).toInt := by rw [g968, wI_ne _ _ _ (by decide)]
                                have s978 : (h967.1 96 51).toInt = (h913.1 96 51).toInt := by rw [g968, wI_ne _ _ _ (by decide)]
                                have hK : kyOf h967 = (upd ((kyOf h913).1) x957.toNatClampNeg x965, (kyOf h913).2.1, (kyOf h913).2.2.1, (kyOf h913).2.2.2) := by rw [g968, ky_107 (nlt ⟨by omega, by omega⟩), hK] <;> rfl
                                have hE : evOf h967 = evOf h := by rw [g968, ev_o (by decide), hE]
                                refine N_iinc (a := x915.toInt) (c := 1) (fun w => [(3, .inl w), (0, .inr (.inr (.inl 96))), (1, .inl a0), (2, .inl a1)]) rfl rfl (fun _ => rfl) (by decide) rfl (by decide) (by omega) (fun x979 q980 => ?_)
                                refine R_goto 166 rfl rfl ?_
                                exact RUN_weak (psub_cons rfl (psub_cons rfl (psub_cons rfl (psub_cons rfl (psub_nil _))))) (ih916 h967 x979 hI fr fl914 (by omega) (by omega) (by rw [zHolds_s (x := x915) (x' := x979) (by omega) (by omega), ← m922]; refine hK.trans ?_; subst e966 e963 e960 e948 e941 e938; simp only [zHold1, eLine] <;> (repeat' split) <;> first | (exfalso; omega) | rfl) (hE) (by omega))
                            · rw [hE] at zq953
                              show RUN d_X9_goSecond 200 [(3, .inl x915), (0, .inr (.inr (.inl 96))), (1, .inl a0), (2, .inl a1)] [.inl x954] h913 _
                              refine N_if_ne (a := x954.toInt) 218 rfl rfl rfl (fun c981 => ?_) (fun c981 => ?_)
                              · exfalso; omega
                              · refine R_aload_n (k := 0) rfl rfl rfl ?_
                                refine R_getf_r (j := 22) rfl ft_9_46 sh_96 rfl ?_
                                refine R_aload_n (k := 0) rfl rfl rfl ?_
                                refine R_getf_r (j := 17) rfl ft_9_40 sh_96 rfl ?_
                                refine R_iload_n (k := 3) rfl rfl rfl ?_
                                refine R_iald rfl sh_105 ⟨by omega, by omega⟩ ?_
                                refine N_eq (fun x982 e983 => ?_)
                                have q984 : 0 ≤ x982.toInt ∧ x982.toInt ≤ 5 := by rw [e983]; exact hI.1 105 _
                                have e985 : x982 = (evOf h).2.2.2.1 x915.toNatClampNeg := by rw [e983]; exact congrFun (congrArg (fun q : EV => q.2.2.2.1) hE) _
                                refine R_dup2 rfl ?_
                                refine R_iald rfl sh_107 ⟨by omega, by omega⟩ ?_
                                refine N_eq (fun x986 e987 => ?_)
                                have e988 : x986 = ((kyOf h913).1) x982.toNatClampNeg := by rw [e987]; exact (ky_at107 (nlt ⟨by omega, by omega⟩)).trans (congrFun (congrArg (fun q : KY => q.1) hK) _)
                                refine R_iconst 1 rfl rfl ?_
                                have b989 := i_rng x986
                                refine R_iadd rfl ?_
                                refine N_eq (fun x990 e991 => ?_)
                                refine K_iast (a := x982.toInt) (lo := (-2147483648)) (hi' := 2147483647) rfl sh_107 rfl ⟨by omega, by omega⟩ hI (by decide) rfl (i_rng _) fr (by decide) (fun h992 g993 hI fr => ?_)
                                have fl914 : FR [107] h870 h992 := by rw [g993]; exact FR_wI _ _ fl914 (by decide)
                                have fl871 : FR [96, 107, 108, 109, 117, 118] h851 h992 := by rw [g993]; exact FR_wI _ _ fl871 (by decide)
                                have fl829 : FR [96, 107, 108, 109, 117, 118] h812 h992 := by rw [g993]; exact FR_wI _ _ fl829 (by decide)
                                have s994 : (h992.1 96 41).toInt = (h913.1 96 41).toInt := by rw [g993, wI_ne _ _ _ (by decide)]
                                have s995 : (h992.1 96 42).toInt = (h913.1 96 42).toInt := by rw [g993, wI_ne _ _ _ (by decide)]
                                have s996 : (h992.1 96 19).toInt = (h913.1 96 19).toInt := by rw [g993, wI_ne _ _ _ (by decide)]
                                have s997 : (h992.1 96 18).toInt = (h913.1 96 18).toInt := by rw [g993, wI_ne _ _ _ (by decide)]
                                have s998 : (h992.1 96 20).toInt = (h913.1 96 20).toInt := by rw [g993, wI_ne _ _ _ (by decide)]
                                have s999 : (h992.1 96 46).toInt = (h913.1 96 46).toInt := by rw [g993, wI_ne _ _ _ (by decide)]
                                have s1000 : (h992.1 96 44).toInt = (h913.1 96 44).toInt := by rw [g993, wI_ne _ _ _ (by decide)]
                                have s1001 : (h992.1 96 47).toInt = (h913.1 96 47).toInt := by rw [g993, wI_ne _ _ _ (by decide)]
                                have s1002 : (h992.1 96 48).toInt = (h913.1 96 48).toInt := by rw [g993, wI_ne _ _ _ (by decide)]
                                have s1003 : (h992.1 96 51).toInt = (h913.1 96 51).toInt := by rw [g993, wI_ne _ _ _ (by decide)]
                                have hK : kyOf h992 = (upd ((kyOf h913).1) x982.toNatClampNeg x990, (kyOf h913).2.1, (kyOf h913).2.2.1, (kyOf h913).2.2.2) := by rw [g993, ky_107 (nlt ⟨by omega, by omega⟩), hK] <;> rfl
                                have hE : evOf h992 = evOf h := by rw [g993, ev_o (by decide), hE]
                                refine N_iinc (a := x915.toInt) (c := 1) (fun w => [(3, .inl w), (0, .inr (.inr (.inl 96))), (1, .inl a0), (2, .inl a1)]) rfl rfl (fun _ => rfl) (by decide) rfl (by decide) (by omega) (fun x1004 q1005 => ?_)
                                refine R_goto 166 rfl rfl ?_
                                exact RUN_weak (psub_cons rfl (psub_cons rfl (psub_cons rfl (psub_cons rfl (psub_nil _))))) (ih916 h992 x1004 hI fr fl914 (by omega) (by omega) (by rw [zHolds_s (x := x915) (x' := x1004) (by omega) (by omega), ← m922]; refine hK.trans ?_; subst e991 e988 e985 e948 e941 e938; simp only [zHold1, eLine] <;> (repeat' split) <;> first | (exfalso; omega) | rfl) (hE) (by omega))
                            · rw [hE] at zq953
                              show RUN d_X9_goSecond 200 [(3, .inl x915), (0, .inr (.inr (.inl 96))), (1, .inl a0), (2, .inl a1)] [.inl x954] h913 _
                              refine N_if_ne (a := x954.toInt) 218 rfl rfl rfl (fun c1006 => ?_) (fun c1006 => ?_)
                              · refine N_iinc (a := x915.toInt) (c := 1) (fun w => [(3, .inl w), (0, .inr (.inr (.inl 96))), (1, .inl a0), (2, .inl a1)]) rfl rfl (fun _ => rfl) (by decide) rfl (by decide) (by omega) (fun x1007 q1008 => ?_)
                                refine R_goto 166 rfl rfl ?_
                                exact RUN_weak (psub_cons rfl (psub_cons rfl (psub_cons rfl (psub_cons rfl (psub_nil _))))) (ih916 h913 x1007 hI fr fl914 (by omega) (by omega) (by rw [zHolds_s (x := x915) (x' := x1007) (by omega) (by omega), ← m922]; refine hK.trans ?_; subst e948 e941 e938; simp only [zHold1, eLine] <;> (repeat' split) <;> first | (exfalso; omega) | rfl) (hE) (by omega))
                              · exfalso; omega
                    have k1009 : (0 : Int32).toInt = 0 := by decide
                    exact lp912 _ h870 (0 : Int32) hI fr (FR.rf _ _) (by decide) (by omega) (by rw [hK]; rfl) (hE) (Nat.lt_succ_self _)
                  · refine R_aload_n (k := 0) rfl rfl rfl ?_
                    refine R_aload_n (k := 0) rfl rfl rfl ?_
                    refine R_getf_r (j := 17) rfl ft_9_40 sh_96 rfl ?_
                    refine R_iconst 0 rfl rfl ?_
                    refine R_iald rfl sh_105 (by decide) ?_
                    refine N_eq (fun x1010 e1011 => ?_)
                    have q1012 : 0 ≤ x1010.toInt ∧ x1010.toInt ≤ 5 := by rw [e1011]; exact hI.1 105 _
                    have e1013 : x1010 = (evOf h).2.2.2.1 (0 : Int32).toNatClampNeg := by rw [e1011]; exact congrFun (congrArg (fun q : EV => q.2.2.2.1) hE) _
                    refine R_iload_n (k := 1) rfl rfl rfl ?_
                    have b1014 := i_rng a0
                    refine R_callV (v := .inr (.inr (.inl 96))) (As := [.inl x1010, .inl a0]) (rest := []) rfl mt_9_i271 pp_X9_doesRest (by decide) rfl rfl rfl (Nat.le_of_ble_eq_true rfl) (Nat.le_of_ble_eq_true rfl) ((g_X9_doesRest h870 hI x1010 a0 (by omega) (by omega)).mono (fun r1015 h1016 p1017 => ?_))
                    obtain ⟨rfl, x1019, rfl, (q1020 | q1020 | q1020), zq1018, -⟩ := p1017
                    · rw [hE] at zq1018
                      show RUN d_X9_goSecond 115 [(3, .inl x872), (0, .inr (.inr (.inl 96))), (1, .inl a0), (2, .inl a1)] [.inl x1019] h870 _
                      refine N_if_ne (a := x1019.toInt) 164 rfl rfl rfl (fun c1021 => ?_) (fun c1021 => ?_)
                      · exfalso; omega
                      · refine R_aload_n (k := 0) rfl rfl rfl ?_
                        refine R_getf_r (j := 24) rfl ft_9_52 sh_96 rfl ?_
                        refine R_iconst 0 rfl rfl ?_
                        refine R_iald rfl sh_109 (by decide) ?_
                        refine N_eq (fun x1022 e1023 => ?_)
                        have e1024 : x1022 = ((zMid (evOf h) a0 a1 (kyOf h)).2.2.1) (0 : Int32).toNatClampNeg := by rw [e1023]; exact (ky_at109 (by decide)).trans (congrFun (congrArg (fun q : KY => q.2.2.1) hK) _)
                        refine N_if_le (a := x1022.toInt) 164 rfl rfl rfl (fun c1025 => ?_) (fun c1025 => ?_)
                        · have hK : kyOf h870 = zTake (evOf h) a0 (zMid (evOf h) a0 a1 (kyOf h)) := by
                            refine hK.trans ?_
                            subst e1024 e1013 e909 e906
                            simp only [zTake, zTake1, eMany, eLine, eFull] <;> (repeat' split) <;> first | (exfalso; omega) | rfl
                          refine R_iconst 0 rfl rfl ?_
                          refine R_istore_n (k := 3) rfl [(3, .inl 0), (0, .inr (.inr (.inl 96))), (1, .inl a0), (2, .inl a1)] rfl rfl (by decide) ?_
                          have lp1027 : ∀ (n1026 : Nat) (h1028 : PH) (x1030 : Int32), INV h1028 → FR [96, 107, 108, 109, 117, 118] h h1028 → FR [107] h870 h1028 → 0 ≤ x1030.toInt ∧ x1030.toInt ≤ 6 → x1030.toInt ≤ (h870.1 96 18).toInt + 0 → (kyOf h1028 = zHolds (evOf h) a0 x1030.toNatClampNeg (zTake (evOf h) a0 (zMid (evOf h) a0 a1 (kyOf h)))) → (evOf h1028 = evOf h) → (6 - x1030.toInt).toNat < n1026 → RUN d_X9_goSecond 166 [(3, .inl x1030), (0, .inr (.inr (.inl 96))), (1, .inl a0), (2, .inl a1)] [] h1028 (qg_X9_goSecond h a0 a1) := by
                            intro n1026
                            induction n1026 with
                            | zero => intro h1028 x1030 m1032 m1033 m1034 m1035 m1036 m1037 m1038 hz; exact absurd hz (Nat.not_lt_zero _)
                            | succ n1026 ih1031 =>
                              intro h1028 x1030 hI fr fl1029 m1035 m1036 m1037 m1038 hz
                              have s1039 : (h1028.1 96 41).toInt = (h870.1 96 41).toInt := by rw [(fl1029 96 (by decide)).1]
                              have s1040 : (h1028.1 96 42).toInt = (h870.1 96 42).toInt := by rw [(fl1029 96 (by decide)).1]
                              have s1041 : (h1028.1 96 19).toInt = (h870.1 96 19).toInt := by rw [(fl1029 96 (by decide)).1]
                              have s1042 : (h1028.1 96 18).toInt = (h870.1 96 18).toInt := by rw [(fl1029 96 (by decide)).1]
                              have s1043 : (h1028.1 96 20).toInt = (h870.1 96 20).toInt := by rw [(fl1029 96 (by decide)).1]
                              have s1044 : (h1028.1 96 46).toInt = (h870.1 96 46).toInt := by rw [(fl1029 96 (by decide)).1]
                              have s1045 : (h1028.1 96 44).toInt = (h870.1 96 44).toInt := by rw [(fl1029 96 (by decide)).1]
                              have s1046 : (h1028.1 96 47).toInt = (h870.1 96 47).toInt := by rw [(fl1029 96 (by decide)).1]
                              have s1047 : (h1028.1 96 48).toInt = (h870.1 96 48).toInt := by rw [(fl1029 96 (by decide)).1]
                              have s1048 : (h1028.1 96 51).toInt = (h870.1 96 51).toInt := by rw [(fl1029 96 (by decide)).1]
                              have fl871 : FR [96, 107, 108, 109, 117, 118] h851 h1028 := fl871.trans fl1029 (by decide)
                              have fl829 : FR [96, 107, 108, 109, 117, 118] h812 h1028 := fl829.trans fl1029 (by decide)
                              have hE := m1038
                              have hK : kyOf h1028 = kyOf h1028 := rfl
                              refine R_iload_n (k := 3) rfl rfl rfl ?_
                              refine R_aload_n (k := 0) rfl rfl rfl ?_
                              refine R_getf_i (j := 18) rfl ft_9_253 sh_96 rfl ?_
                              refine N_icmp_ge (a := x1030.toInt) (b := (h1028.1 96 18).toInt) 224 rfl rfl rfl rfl (fun c1049 => ?_) (fun c1049 => ?_)
                              · have hF : kyOf h1028 = zSecond (evOf h) a0 a1 (kyOf h) := m1037.trans (by rw [show x1030 = (evOf h).2.2.2.2.1 from i_of _ (by omega)]; rfl)
                                exact R_vret rfl rfl ⟨hI, fr, ⟨by omega, by omega, by omega, by omega, by omega, by omega, by omega, by omega, by omega, by omega, hF, hE, trivial⟩, rfl⟩
                              · refine R_aload_n (k := 0) rfl rfl rfl ?_
                                refine R_getf_r (j := 22) rfl ft_9_46 sh_96 rfl ?_
                                refine R_aload_n (k := 0) rfl rfl rfl ?_
                                refine R_getf_r (j := 17) rfl ft_9_40 sh_96 rfl ?_
                                refine R_iload_n (k := 3) rfl rfl rfl ?_
                                refine R_iald rfl sh_105 ⟨by omega, by omega⟩ ?_
                                refine N_eq (fun x1050 e1051 => ?_)
                                have q1052 : 0 ≤ x1050.toInt ∧ x1050.toInt ≤ 5 := by rw [e1051]; exact hI.1 105 _
                                have e1053 : x1050 = (evOf h).2.2.2.1 x1030.toNatClampNeg := by rw [e1051]; exact congrFun (congrArg (fun q : EV => q.2.2.2.1) hE) _
                                refine R_iald rfl sh_107 ⟨by omega, by omega⟩ ?_
                                refine N_eq (fun x1054 e1055 => ?_)
                                have e1056 : x1054 = ((kyOf h1028).1) x1050.toNatClampNeg := by rw [e1055]; exact (ky_at107 (nlt ⟨by omega, by omega⟩)).trans (congrFun (congrArg (fun q : KY => q.1) hK) _)
                                refine R_iconst (-1) rfl rfl ?_
                                refine N_icmp_eq (a := x1054.toInt) (b := (-1)) 218 rfl rfl rfl (by decide) (fun c1057 => ?_) (fun c1057 => ?_)
                                · refine N_iinc (a := x1030.toInt) (c := 1) (fun w => [(3, .inl w), (0, .inr (.inr (.inl 96))), (1, .inl a0), (2, .inl a1)]) rfl rfl (fun _ => rfl) (by decide) rfl (by decide) (by omega) (fun x1058 q1059 => ?_)
                                  refine R_goto 166 rfl rfl ?_
                                  exact RUN_weak (psub_cons rfl (psub_cons rfl (psub_cons rfl (psub_cons rfl (psub_nil _))))) (ih1031 h1028 x1058 hI fr fl1029 (by omega) (by omega) (by rw [zHolds_s (x := x1030) (x' := x1058) (by omega) (by omega), ← m1037]; refine hK.trans ?_; subst e1056 e1053; simp only [zHold1, eLine] <;> (repeat' split) <;> first | (exfalso; omega) | rfl) (hE) (by omega))
                                · refine R_aload_n (k := 0) rfl rfl rfl ?_
                                  refine R_aload_n (k := 0) rfl rfl rfl ?_
                                  refine R_getf_r (j := 17) rfl ft_9_40 sh_96 rfl ?_
                                  refine R_iload_n (k := 3) rfl rfl rfl ?_
                                  refine R_iald rfl sh_105 ⟨by omega, by omega⟩ ?_
                                  refine N_eq (fun x1060 e1061 => ?_)
                                  have q1062 : 0 ≤ x1060.toInt ∧ x1060.toInt ≤ 5 := by rw [e1061]; exact hI.1 105 _
                                  have e1063 : x1060 = (evOf h).2.2.2.1 x1030.toNatClampNeg := by rw [e1061]; exact congrFun (congrArg (fun q : EV => q.2.2.2.1) hE) _
                                  refine R_iload_n (k := 1) rfl rfl rfl ?_
                                  have b1064 := i_rng a0
                                  refine R_callV (v := .inr (.inr (.inl 96))) (As := [.inl x1060, .inl a0]) (rest := []) rfl mt_9_i271 pp_X9_doesRest (by decide) rfl rfl rfl (Nat.le_of_ble_eq_true rfl) (Nat.le_of_ble_eq_true rfl) ((g_X9_doesRest h1028 hI x1060 a0 (by omega) (by omega)).mono (fun r1065 h1066 p1067 => ?_))
                                  obtain ⟨rfl, x1069, rfl, (q1070 | q1070 | q1070), zq1068, -⟩ := p1067
                                  · rw [hE] at zq1068
                                    show RUN d_X9_goSecond 200 [(3, .inl x1030), (0, .inr (.inr (.inl 96))), (1, .inl a0), (2, .inl a1)] [.inl x1069] h1028 _
                                    refine N_if_ne (a := x1069.toInt) 218 rfl rfl rfl (fun c1071 => ?_) (fun c1071 => ?_)
                                    · exfalso; omega
                                    · refine R_aload_n (k := 0) rfl rfl rfl ?_
                                      refine R_getf_r (j := 22) rfl ft_9_46 sh_96 rfl ?_
                                      refine R_aload_n (k := 0) rfl rfl rfl ?_
                                      refine R_getf_r (j := 17) rfl ft_9_40 sh_96 rfl ?_
                                      refine R_iload_n (k := 3) rfl rfl rfl ?_
                                      refine R_iald rfl sh_105 ⟨by omega, by omega⟩ ?_
                                      refine N_eq (fun x1072 e1073 => ?_)
                                      have q1074 : 0 ≤ x1072.toInt ∧ x1072.toInt ≤ 5 := by rw [e1073]; exact hI.1 105 _
                                      have e1075 : x1072 = (evOf h).2.2.2.1 x1030.toNatClampNeg := by rw [e1073]; exact congrFun (congrArg (fun q : EV => q.2.2.2.1) hE) _
                                      refine R_dup2 rfl ?_
                                      refine R_iald rfl sh_107 ⟨by omega, by omega⟩ ?_
                                      refine N_eq (fun x1076 e1077 => ?_)
                                      have e1078 : x1076 = ((kyOf h1028).1) x1072.toNatClampNeg := by rw [e1077]; exact (ky_at107 (nlt ⟨by omega, by omega⟩)).trans (congrFun (congrArg (fun q : KY => q.1) hK) _)
                                      refine R_iconst 1 rfl rfl ?_
                                      have b1079 := i_rng x1076
                                      refine R_iadd rfl ?_
                                      refine N_eq (fun x1080 e1081 => ?_)
                                      refine K_iast (a := x1072.toInt) (lo := (-2147483648)) (hi' := 2147483647) rfl sh_107 rfl ⟨by omega, by omega⟩ hI (by decide) rfl (i_rng _) fr (by decide) (fun h1082 g1083 hI fr => ?_)
                                      have fl1029 : FR [107] h870 h1082 := by rw [g1083]; exact FR_wI _ _ fl1029 (by decide)
                                      have fl871 : FR [96, 107, 108, 109, 117, 118] h851 h1082 := by rw [g1083]; exact FR_wI _ _ fl871 (by decide)
                                      have fl829 : FR [96, 107, 108, 109, 117, 118] h812 h1082 := by rw [g1083]; exact FR_wI _ _ fl829 (by decide)
                                      have s1084 : (h1082.1 96 41).toInt = (h1028.1 96 41).toInt := by rw [g1083, wI_ne _ _ _ (by decide)]
                                      have s1085 : (h1082.1 96 42).toInt = (h1028.1 96 42).toInt := by rw [g1083, wI_ne _ _ _ (by decide)]
                                      have s1086 : (h1082.1 96 19).toInt = (h1028.1 96 19).toInt := by rw [g1083, wI_ne _ _ _ (by decide)]
                                      have s1087 : (h1082.1 96 18).toInt = (h1028.1 96 18).toInt := by rw [g1083, wI_ne _ _ _ (by decide)]
                                      have s1088 : (h1082.1 96 20).toInt = (h1028.1 96 20).toInt := by rw [g1083, wI_ne _ _ _ (by decide)]
                                      have s1089 : (h1082.1 96 46).toInt = (h1028.1 96 46).toInt := by rw [g1083, wI_ne _ _ _ (by decide)]
                                      have s1090 : (h1082.1 96 44).toInt = (h1028.1 96 44).toInt := by rw [g1083, wI_ne _ _ _ (by decide)]
                                      have s1091 : (h1082.1 96 47).toInt = (h1028.1 96 47).toInt := by rw [g1083, wI_ne _ _ _ (by decide)]
                                      have s1092 : (h1082.1 96 48).toInt = (h1028.1 96 48).toInt := by rw [g1083, wI_ne _ _ _ (by decide)]
                                      have s1093 : (h1082.1 96 51).toInt = (h1028.1 96 51).toInt := by rw [g1083, wI_ne _ _ _ (by decide)]
                                      have hK : kyOf h1082 = (upd ((kyOf h1028).1) x1072.toNatClampNeg x1080, (kyOf h1028).2.1, (kyOf h1028).2.2.1, (kyOf h1028).2.2.2) := by rw [g1083, ky_107 (nlt ⟨by omega, by omega⟩), hK] <;> rfl
                                      have hE : evOf h1082 = evOf h := by rw [g1083, ev_o (by decide), hE]
                                      refine N_iinc (a := x1030.toInt) (c := 1) (fun w => [(3, .inl w), (0, .inr (.inr (.inl 96))), (1, .inl a0), (2, .inl a1)]) rfl rfl (fun _ => rfl) (by decide) rfl (by decide) (by omega) (fun x1094 q1095 => ?_)
                                      refine R_goto 166 rfl rfl ?_
                                      exact RUN_weak (psub_cons rfl (psub_cons rfl (psub_cons rfl (psub_cons rfl (psub_nil _))))) (ih1031 h1082 x1094 hI fr fl1029 (by omega) (by omega) (by rw [zHolds_s (x := x1030) (x' := x1094) (by omega) (by omega), ← m1037]; refine hK.trans ?_; subst e1081 e1078 e1075 e1063 e1056 e1053; simp only [zHold1, eLine] <;> (repeat' split) <;> first | (exfalso; omega) | rfl) (hE) (by omega))
                                  · rw [hE] at zq1068
                                    exfalso; omega
                                  · rw [hE] at zq1068
                                    exfalso; omega
                          have k1096 : (0 : Int32).toInt = 0 := by decide
                          exact lp1027 _ h870 (0 : Int32) hI fr (FR.rf _ _) (by decide) (by omega) (by rw [hK]; rfl) (hE) (Nat.lt_succ_self _)
                        · refine R_aload_n (k := 0) rfl rfl rfl ?_
                          refine R_getf_r (j := 24) rfl ft_9_52 sh_96 rfl ?_
                          refine R_iconst 0 rfl rfl ?_
                          refine R_dup2 rfl ?_
                          refine R_iald rfl sh_109 (by decide) ?_
                          refine N_eq (fun x1097 e1098 => ?_)
                          have e1099 : x1097 = ((zMid (evOf h) a0 a1 (kyOf h)).2.2.1) (0 : Int32).toNatClampNeg := by rw [e1098]; exact (ky_at109 (by decide)).trans (congrFun (congrArg (fun q : KY => q.2.2.1) hK) _)
                          refine R_iconst 1 rfl rfl ?_
                          have b1100 := i_rng x1097
                          refine R_isub rfl ?_
                          refine N_eq (fun x1101 e1102 => ?_)
                          refine K_iast (a := 0) (lo := (-2147483648)) (hi' := 2147483647) rfl sh_109 (by decide) (by decide) hI (by decide) rfl (i_rng _) fr (by decide) (fun h1103 g1104 hI fr => ?_)
                          have fl871 : FR [96, 107, 108, 109, 117, 118] h851 h1103 := by rw [g1104]; exact FR_wI _ _ fl871 (by decide)
                          have fl829 : FR [96, 107, 108, 109, 117, 118] h812 h1103 := by rw [g1104]; exact FR_wI _ _ fl829 (by decide)
                          have s1105 : (h1103.1 96 41).toInt = (h870.1 96 41).toInt := by rw [g1104, wI_ne _ _ _ (by decide)]
                          have s1106 : (h1103.1 96 42).toInt = (h870.1 96 42).toInt := by rw [g1104, wI_ne _ _ _ (by decide)]
                          have s1107 : (h1103.1 96 19).toInt = (h870.1 96 19).toInt := by rw [g1104, wI_ne _ _ _ (by decide)]
                          have s1108 : (h1103.1 96 18).toInt = (h870.1 96 18).toInt := by rw [g1104, wI_ne _ _ _ (by decide)]
                          have s1109 : (h1103.1 96 20).toInt = (h870.1 96 20).toInt := by rw [g1104, wI_ne _ _ _ (by decide)]
                          have s1110 : (h1103.1 96 46).toInt = (h870.1 96 46).toInt := by rw [g1104, wI_ne _ _ _ (by decide)]
                          have s1111 : (h1103.1 96 44).toInt = (h870.1 96 44).toInt := by rw [g1104, wI_ne _ _ _ (by decide)]
                          have s1112 : (h1103.1 96 47).toInt = (h870.1 96 47).toInt := by rw [g1104, wI_ne _ _ _ (by decide)]
                          have s1113 : (h1103.1 96 48).toInt = (h870.1 96 48).toInt := by rw [g1104, wI_ne _ _ _ (by decide)]
                          have s1114 : (h1103.1 96 51).toInt = (h870.1 96 51).toInt := by rw [g1104, wI_ne _ _ _ (by decide)]
                          have hK : kyOf h1103 = ((zMid (evOf h) a0 a1 (kyOf h)).1, (zMid (evOf h) a0 a1 (kyOf h)).2.1, upd ((zMid (evOf h) a0 a1 (kyOf h)).2.2.1) (0 : Int32).toNatClampNeg x1101, (zMid (evOf h) a0 a1 (kyOf h)).2.2.2) := by rw [g1104, ky_109 (by decide), hK] <;> rfl
                          have hE : evOf h1103 = evOf h := by rw [g1104, ev_o (by decide), hE]
                          refine R_aload_n (k := 0) rfl rfl rfl ?_
                          refine R_getf_r (j := 22) rfl ft_9_46 sh_96 rfl ?_
                          refine R_aload_n (k := 0) rfl rfl rfl ?_
                          refine R_getf_r (j := 17) rfl ft_9_40 sh_96 rfl ?_
                          refine R_iconst 0 rfl rfl ?_
                          refine R_iald rfl sh_105 (by decide) ?_
                          refine N_eq (fun x1115 e1116 => ?_)
                          have q1117 : 0 ≤ x1115.toInt ∧ x1115.toInt ≤ 5 := by rw [e1116]; exact hI.1 105 _
                          have e1118 : x1115 = (evOf h).2.2.2.1 (0 : Int32).toNatClampNeg := by rw [e1116]; exact congrFun (congrArg (fun q : EV => q.2.2.2.1) hE) _
                          refine R_iconst 0 rfl rfl ?_
                          refine K_iast (a := x1115.toInt) (lo := (-2147483648)) (hi' := 2147483647) rfl sh_107 rfl ⟨by omega, by omega⟩ hI (by decide) rfl (by decide) fr (by decide) (fun h1119 g1120 hI fr => ?_)
                          have fl871 : FR [96, 107, 108, 109, 117, 118] h851 h1119 := by rw [g1120]; exact FR_wI _ _ fl871 (by decide)
                          have fl829 : FR [96, 107, 108, 109, 117, 118] h812 h1119 := by rw [g1120]; exact FR_wI _ _ fl829 (by decide)
                          have s1121 : (h1119.1 96 41).toInt = (h1103.1 96 41).toInt := by rw [g1120, wI_ne _ _ _ (by decide)]
                          have s1122 : (h1119.1 96 42).toInt = (h1103.1 96 42).toInt := by rw [g1120, wI_ne _ _ _ (by decide)]
                          have s1123 : (h1119.1 96 19).toInt = (h1103.1 96 19).toInt := by rw [g1120, wI_ne _ _ _ (by decide)]
                          have s1124 : (h1119.1 96 18).toInt = (h1103.1 96 18).toInt := by rw [g1120, wI_ne _ _ _ (by decide)]
                          have s1125 : (h1119.1 96 20).toInt = (h1103.1 96 20).toInt := by rw [g1120, wI_ne _ _ _ (by decide)]
                          have s1126 : (h1119.1 96 46).toInt = (h1103.1 96 46).toInt := by rw [g1120, wI_ne _ _ _ (by decide)]
                          have s1127 : (h1119.1 96 44).toInt = (h1103.1 96 44).toInt := by rw [g1120, wI_ne _ _ _ (by decide)]
                          have s1128 : (h1119.1 96 47).toInt = (h1103.1 96 47).toInt := by rw [g1120, wI_ne _ _ _ (by decide)]
                          have s1129 : (h1119.1 96 48).toInt = (h1103.1 96 48).toInt := by rw [g1120, wI_ne _ _ _ (by decide)]
                          have s1130 : (h1119.1 96 51).toInt = (h1103.1 96 51).toInt := by rw [g1120, wI_ne _ _ _ (by decide)]
                          have hK : kyOf h1119 = (upd ((zMid (evOf h) a0 a1 (kyOf h)).1) x1115.toNatClampNeg (0), (zMid (evOf h) a0 a1 (kyOf h)).2.1, upd ((zMid (evOf h) a0 a1 (kyOf h)).2.2.1) (0 : Int32).toNatClampNeg x1101, (zMid (evOf h) a0 a1 (kyOf h)).2.2.2) := by rw [g1120, ky_107 (nlt ⟨by omega, by omega⟩), hK] <;> rfl
                          have hE : evOf h1119 = evOf h := by rw [g1120, ev_o (by decide), hE]
                          refine R_aload_n (k := 0) rfl rfl rfl ?_
                          refine R_getf_r (j := 23) rfl ft_9_49 sh_96 rfl ?_
                          refine R_aload_n (k := 0) rfl rfl rfl ?_
                          refine R_getf_r (j := 17) rfl ft_9_40 sh_96 rfl ?_
                          refine R_iconst 0 rfl rfl ?_
                          refine R_iald rfl sh_105 (by decide) ?_
                          refine N_eq (fun x1131 e1132 => ?_)
                          have q1133 : 0 ≤ x1131.toInt ∧ x1131.toInt ≤ 5 := by rw [e1132]; exact hI.1 105 _
                          have e1134 : x1131 = (evOf h).2.2.2.1 (0 : Int32).toNatClampNeg := by rw [e1132]; exact congrFun (congrArg (fun q : EV => q.2.2.2.1) hE) _
                          refine R_aload_n (k := 0) rfl rfl rfl ?_
                          refine R_getf_i (j := 20) rfl ft_9_259 sh_96 rfl ?_
                          refine N_eq (fun x1135 e1136 => ?_)
                          have e1137 : x1135 = (evOf h).2.2.2.2.2.1 := by rw [e1136]; exact congrArg (fun q : EV => q.2.2.2.2.2.1) hE
                          refine K_iast (a := x1131.toInt) (lo := (-2147483648)) (hi' := 2147483647) rfl sh_108 rfl ⟨by omega, by omega⟩ hI (by decide) rfl (i_rng _) fr (by decide) (fun h1138 g1139 hI fr => ?_)
                          have fl871 : FR [96, 107, 108, 109, 117, 118] h851 h1138 := by rw [g1139]; exact FR_wI _ _ fl871 (by decide)
                          have fl829 : FR [96, 107, 108, 109, 117, 118] h812 h1138 := by rw [g1139]; exact FR_wI _ _ fl829 (by decide)
                          have s1140 : (h1138.1 96 41).toInt = (h1119.1 96 41).toInt := by rw [g1139, wI_ne _ _ _ (by decide)]
                          have s1141 : (h1138.1 96 42).toInt = (h1119.1 96 42).toInt := by rw [g1139, wI_ne _ _ _ (by decide)]
                          have s1142 : (h1138.1 96 19).toInt = (h1119.1 96 19).toInt := by rw [g1139, wI_ne _ _ _ (by decide)]
                          have s1143 : (h1138.1 96 18).toInt = (h1119.1 96 18).toInt := by rw [g1139, wI_ne _ _ _ (by decide)]
                          have s1144 : (h1138.1 96 20).toInt = (h1119.1 96 20).toInt := by rw [g1139, wI_ne _ _ _ (by decide)]
                          have s1145 : (h1138.1 96 46).toInt = (h1119.1 96 46).toInt := by rw [g1139, wI_ne _ _ _ (by decide)]
                          have s1146 : (h1138.1 96 44).toInt = (h1119.1 96 44).toInt := by rw [g1139, wI_ne _ _ _ (by decide)]
                          have s1147 : (h1138.1 96 47).toInt = (h1119.1 96 47).toInt := by rw [g1139, wI_ne _ _ _ (by decide)]
                          have s1148 : (h1138.1 96 48).toInt = (h1119.1 96 48).toInt := by rw [g1139, wI_ne _ _ _ (by decide)]
                          have s1149 : (h1138.1 96 51).toInt = (h1119.1 96 51).toInt := by rw [g1139, wI_ne _ _ _ (by decide)]
                          have hK : kyOf h1138 = (upd ((zMid (evOf h) a0 a1 (kyOf h)).1) x1115.toNatClampNeg (0), upd ((zMid (evOf h) a0 a1 (kyOf h)).2.1) x1131.toNatClampNeg x1135, upd ((zMid (evOf h) a0 a1 (kyOf h)).2.2.1) (0 : Int32).toNatClampNeg x1101, (zMid (evOf h) a0 a1 (kyOf h)).2.2.2) := by rw [g1139, ky_108 (nlt ⟨by omega, by omega⟩), hK] <;> rfl
                          have hE : evOf h1138 = evOf h := by rw [g1139, ev_o (by decide), hE]
                          have hK : kyOf h1138 = zTake (evOf h) a0 (zMid (evOf h) a0 a1 (kyOf h)) := by
                            refine hK.trans ?_
                            subst e1137 e1134 e1118 e1102 e1099 e1024 e1013 e909 e906
                            simp only [zTake, zTake1, eMany, eLine, eFull] <;> (repeat' split) <;> first | (exfalso; omega) | rfl
                          refine R_iconst 0 rfl rfl ?_
                          refine R_istore_n (k := 3) rfl [(3, .inl 0), (0, .inr (.inr (.inl 96))), (1, .inl a0), (2, .inl a1)] rfl rfl (by decide) ?_
                          have lp1151 : ∀ (n1150 : Nat) (h1152 : PH) (x1154 : Int32), INV h1152 → FR [96, 107, 108, 109, 117, 118] h h1152 → FR [107] h1138 h1152 → 0 ≤ x1154.toInt ∧ x1154.toInt ≤ 6 → x1154.toInt ≤ (h1138.1 96 18).toInt + 0 → (kyOf h1152 = zHolds (evOf h) a0 x1154.toNatClampNeg (zTake (evOf h) a0 (zMid (evOf h) a0 a1 (kyOf h)))) → (evOf h1152 = evOf h) → (6 - x1154.toInt).toNat < n1150 → RUN d_X9_goSecond 166 [(3, .inl x1154), (0, .inr (.inr (.inl 96))), (1, .inl a0), (2, .inl a1)] [] h1152 (qg_X9_goSecond h a0 a1) := by
                            intro n1150
                            induction n1150 with
                            | zero => intro h1152 x1154 m1156 m1157 m1158 m1159 m1160 m1161 m1162 hz; exact absurd hz (Nat.not_lt_zero _)
                            | succ n1150 ih1155 =>
                              intro h1152 x1154 hI fr fl1153 m1159 m1160 m1161 m1162 hz
                              have s1163 : (h1152.1 96 41).toInt = (h1138.1 96 41).toInt := by rw [(fl1153 96 (by decide)).1]
                              have s1164 : (h1152.1 96 42).toInt = (h1138.1 96 42).toInt := by rw [(fl1153 96 (by decide)).1]
                              have s1165 : (h1152.1 96 19).toInt = (h1138.1 96 19).toInt := by rw [(fl1153 96 (by decide)).1]
                              have s1166 : (h1152.1 96 18).toInt = (h1138.1 96 18).toInt := by rw [(fl1153 96 (by decide)).1]
                              have s1167 : (h1152.1 96 20).toInt = (h1138.1 96 20).toInt := by rw [(fl1153 96 (by decide)).1]
                              have s1168 : (h1152.1 96 46).toInt = (h1138.1 96 46).toInt := by rw [(fl1153 96 (by decide)).1]
                              have s1169 : (h1152.1 96 44).toInt = (h1138.1 96 44).toInt := by rw [(fl1153 96 (by decide)).1]
                              have s1170 : (h1152.1 96 47).toInt = (h1138.1 96 47).toInt := by rw [(fl1153 96 (by decide)).1]
                              have s1171 : (h1152.1 96 48).toInt = (h1138.1 96 48).toInt := by rw [(fl1153 96 (by decide)).1]
                              have s1172 : (h1152.1 96 51).toInt = (h1138.1 96 51).toInt := by rw [(fl1153 96 (by decide)).1]
                              have fl871 : FR [96, 107, 108, 109, 117, 118] h851 h1152 := fl871.trans fl1153 (by decide)
                              have fl829 : FR [96, 107, 108, 109, 117, 118] h812 h1152 := fl829.trans fl1153 (by decide)
                              have hE := m1162
                              have hK : kyOf h1152 = kyOf h1152 := rfl
                              refine R_iload_n (k := 3) rfl rfl rfl ?_
                              refine R_aload_n (k := 0) rfl rfl rfl ?_
                              refine R_getf_i (j := 18) rfl ft_9_253 sh_96 rfl ?_
                              refine N_icmp_ge (a := x1154.toInt) (b := (h1152.1 96 18).toInt) 224 rfl rfl rfl rfl (fun c1173 => ?_) (fun c1173 => ?_)
                              · have hF : kyOf h1152 = zSecond (evOf h) a0 a1 (kyOf h) := m1161.trans (by rw [show x1154 = (evOf h).2.2.2.2.1 from i_of _ (by omega)]; rfl)
                                exact R_vret rfl rfl ⟨hI, fr, ⟨by omega, by omega, by omega, by omega, by omega, by omega, by omega, by omega, by omega, by omega, hF, hE, trivial⟩, rfl⟩
                              · refine R_aload_n (k := 0) rfl rfl rfl ?_
                                refine R_getf_r (j := 22) rfl ft_9_46 sh_96 rfl ?_
                                refine R_aload_n (k := 0) rfl rfl rfl ?_
                                refine R_getf_r (j := 17) rfl ft_9_40 sh_96 rfl ?_
                                refine R_iload_n (k := 3) rfl rfl rfl ?_
                                refine R_iald rfl sh_105 ⟨by omega, by omega⟩ ?_
                                refine N_eq (fun x1174 e1175 => ?_)
                                have q1176 : 0 ≤ x1174.toInt ∧ x1174.toInt ≤ 5 := by rw [e1175]; exact hI.1 105 _
                                have e1177 : x1174 = (evOf h).2.2.2.1 x1154.toNatClampNeg := by rw [e1175]; exact congrFun (congrArg (fun q : EV => q.2.2.2.1) hE) _
                                refine R_iald rfl sh_107 ⟨by omega, by omega⟩ ?_
                                refine N_eq (fun x1178 e1179 => ?_)
                                have e1180 : x1178 = ((kyOf h1152).1) x1174.toNatClampNeg := by rw [e1179]; exact (ky_at107 (nlt ⟨by omega, by omega⟩)).trans (congrFun (congrArg (fun q : KY => q.1) hK) _)
                                refine R_iconst (-1) rfl rfl ?_
                                refine N_icmp_eq (a := x1178.toInt) (b := (-1)) 218 rfl rfl rfl (by decide) (fun c1181 => ?_) (fun c1181 => ?_)
                                · refine N_iinc (a := x1154.toInt) (c := 1) (fun w => [(3, .inl w), (0, .inr (.inr (.inl 96))), (1, .inl a0), (2, .inl a1)]) rfl rfl (fun _ => rfl) (by decide) rfl (by decide) (by omega) (fun x1182 q1183 => ?_)
                                  refine R_goto 166 rfl rfl ?_
                                  exact RUN_weak (psub_cons rfl (psub_cons rfl (psub_cons rfl (psub_cons rfl (psub_nil _))))) (ih1155 h1152 x1182 hI fr fl1153 (by omega) (by omega) (by rw [zHolds_s (x := x1154) (x' := x1182) (by omega) (by omega), ← m1161]; refine hK.trans ?_; subst e1180 e1177; simp only [zHold1, eLine] <;> (repeat' split) <;> first | (exfalso; omega) | rfl) (hE) (by omega))
                                · refine R_aload_n (k := 0) rfl rfl rfl ?_
                                  refine R_aload_n (k := 0) rfl rfl rfl ?_
                                  refine R_getf_r (j := 17) rfl ft_9_40 sh_96 rfl ?_
                                  refine R_iload_n (k := 3) rfl rfl rfl ?_
                                  refine R_iald rfl sh_105 ⟨by omega, by omega⟩ ?_
                                  refine N_eq (fun x1184 e1185 => ?_)
                                  have q1186 : 0 ≤ x1184.toInt ∧ x1184.toInt ≤ 5 := by rw [e1185]; exact hI.1 105 _
                                  have e1187 : x1184 = (evOf h).2.2.2.1 x1154.toNatClampNeg := by rw [e1185]; exact congrFun (congrArg (fun q : EV => q.2.2.2.1) hE) _
                                  refine R_iload_n (k := 1) rfl rfl rfl ?_
                                  have b1188 := i_rng a0
                                  refine R_callV (v := .inr (.inr (.inl 96))) (As := [.inl x1184, .inl a0]) (rest := []) rfl mt_9_i271 pp_X9_doesRest (by decide) rfl rfl rfl (Nat.le_of_ble_eq_true rfl) (Nat.le_of_ble_eq_true rfl) ((g_X9_doesRest h1152 hI x1184 a0 (by omega) (by omega)).mono (fun r1189 h1190 p1191 => ?_))
                                  obtain ⟨rfl, x1193, rfl, (q1194 | q1194 | q1194), zq1192, -⟩ := p1191
                                  · rw [hE] at zq1192
                                    show RUN d_X9_goSecond 200 [(3, .inl x1154), (0, .inr (.inr (.inl 96))), (1, .inl a0), (2, .inl a1)] [.inl x1193] h1152 _
                                    refine N_if_ne (a := x1193.toInt) 218 rfl rfl rfl (fun c1195 => ?_) (fun c1195 => ?_)
                                    · exfalso; omega
                                    · refine R_aload_n (k := 0) rfl rfl rfl ?_
                                      refine R_getf_r (j := 22) rfl ft_9_46 sh_96 rfl ?_
                                      refine R_aload_n (k := 0) rfl rfl rfl ?_
                                      refine R_getf_r (j := 17) rfl ft_9_40 sh_96 rfl ?_
                                      refine R_iload_n (k := 3) rfl rfl rfl ?_
                                      refine R_iald rfl sh_105 ⟨by omega, by omega⟩ ?_
                                      refine N_eq (fun x1196 e1197 => ?_)
                                      have q1198 : 0 ≤ x1196.toInt ∧ x1196.toInt ≤ 5 := by rw [e1197]; exact hI.1 105 _
                                      have e1199 : x1196 = (evOf h).2.2.2.1 x1154.toNatClampNeg := by rw [e1197]; exact congrFun (congrArg (fun q : EV => q.2.2.2.1) hE) _
                                      refine R_dup2 rfl ?_
                                      refine R_iald rfl sh_107 ⟨by omega, by omega⟩ ?_
                                      refine N_eq (fun x1200 e1201 => ?_)
                                      have e1202 : x1200 = ((kyOf h1152).1) x1196.toNatClampNeg := by rw [e1201]; exact (ky_at107 (nlt ⟨by omega, by omega⟩)).trans (congrFun (congrArg (fun q : KY => q.1) hK) _)
                                      refine R_iconst 1 rfl rfl ?_
                                      have b1203 := i_rng x1200
                                      refine R_iadd rfl ?_
                                      refine N_eq (fun x1204 e1205 => ?_)
                                      refine K_iast (a := x1196.toInt) (lo := (-2147483648)) (hi' := 2147483647) rfl sh_107 rfl ⟨by omega, by omega⟩ hI (by decide) rfl (i_rng _) fr (by decide) (fun h1206 g1207 hI fr => ?_)
                                      have fl1153 : FR [107] h1138 h1206 := by rw [g1207]; exact FR_wI _ _ fl1153 (by decide)
                                      have fl871 : FR [96, 107, 108, 109, 117, 118] h851 h1206 := by rw [g1207]; exact FR_wI _ _ fl871 (by decide)
                                      have fl829 : FR [96, 107, 108, 109, 117, 118] h812 h1206 := by rw [g1207]; exact FR_wI _ _ fl829 (by decide)
                                      have s1208 : (h1206.1 96 41).toInt = (h1152.1 96 41).toInt := by rw [g1207, wI_ne _ _ _ (by decide)]
                                      have s1209 : (h1206.1 96 42).toInt = (h1152.1 96 42).toInt := by rw [g1207, wI_ne _ _ _ (by decide)]
                                      have s1210 : (h1206.1 96 19).toInt = (h1152.1 96 19).toInt := by rw [g1207, wI_ne _ _ _ (by decide)]
                                      have s1211 : (h1206.1 96 18).toInt = (h1152.1 96 18).toInt := by rw [g1207, wI_ne _ _ _ (by decide)]
                                      have s1212 : (h1206.1 96 20).toInt = (h1152.1 96 20).toInt := by rw [g1207, wI_ne _ _ _ (by decide)]
                                      have s1213 : (h1206.1 96 46).toInt = (h1152.1 96 46).toInt := by rw [g1207, wI_ne _ _ _ (by decide)]
                                      have s1214 : (h1206.1 96 44).toInt = (h1152.1 96 44).toInt := by rw [g1207, wI_ne _ _ _ (by decide)]
                                      have s1215 : (h1206.1 96 47).toInt = (h1152.1 96 47).toInt := by rw [g1207, wI_ne _ _ _ (by decide)]
                                      have s1216 : (h1206.1 96 48).toInt = (h1152.1 96 48).toInt := by rw [g1207, wI_ne _ _ _ (by decide)]
                                      have s1217 : (h1206.1 96 51).toInt = (h1152.1 96 51).toInt := by rw [g1207, wI_ne _ _ _ (by decide)]
                                      have hK : kyOf h1206 = (upd ((kyOf h1152).1) x1196.toNatClampNeg x1204, (kyOf h1152).2.1, (kyOf h1152).2.2.1, (kyOf h1152).2.2.2) := by rw [g1207, ky_107 (nlt ⟨by omega, by omega⟩), hK] <;> rfl
                                      have hE : evOf h1206 = evOf h := by rw [g1207, ev_o (by decide), hE]
                                      refine N_iinc (a := x1154.toInt) (c := 1) (fun w => [(3, .inl w), (0, .inr (.inr (.inl 96))), (1, .inl a0), (2, .inl a1)]) rfl rfl (fun _ => rfl) (by decide) rfl (by decide) (by omega) (fun x1218 q1219 => ?_)
                                      refine R_goto 166 rfl rfl ?_
                                      exact RUN_weak (psub_cons rfl (psub_cons rfl (psub_cons rfl (psub_cons rfl (psub_nil _))))) (ih1155 h1206 x1218 hI fr fl1153 (by omega) (by omega) (by rw [zHolds_s (x := x1154) (x' := x1218) (by omega) (by omega), ← m1161]; refine hK.trans ?_; subst e1205 e1202 e1199 e1187 e1180 e1177; simp only [zHold1, eLine] <;> (repeat' split) <;> first | (exfalso; omega) | rfl) (hE) (by omega))
                                  · rw [hE] at zq1192
                                    exfalso; omega
                                  · rw [hE] at zq1192
                                    exfalso; omega
                          have k1220 : (0 : Int32).toInt = 0 := by decide
                          exact lp1151 _ h1138 (0 : Int32) hI fr (FR.rf _ _) (by decide) (by omega) (by rw [hK]; rfl) (hE) (Nat.lt_succ_self _)
                    · rw [hE] at zq1018
                      show RUN d_X9_goSecond 115 [(3, .inl x872), (0, .inr (.inr (.inl 96))), (1, .inl a0), (2, .inl a1)] [.inl x1019] h870 _
                      refine N_if_ne (a := x1019.toInt) 164 rfl rfl rfl (fun c1221 => ?_) (fun c1221 => ?_)
                      · exfalso; omega
                      · refine R_aload_n (k := 0) rfl rfl rfl ?_
                        refine R_getf_r (j := 24) rfl ft_9_52 sh_96 rfl ?_
                        refine R_iconst 0 rfl rfl ?_
                        refine R_iald rfl sh_109 (by decide) ?_
                        refine N_eq (fun x1222 e1223 => ?_)
                        have e1224 : x1222 = ((zMid (evOf h) a0 a1 (kyOf h)).2.2.1) (0 : Int32).toNatClampNeg := by rw [e1223]; exact (ky_at109 (by decide)).trans (congrFun (congrArg (fun q : KY => q.2.2.1) hK) _)
                        refine N_if_le (a := x1222.toInt) 164 rfl rfl rfl (fun c1225 => ?_) (fun c1225 => ?_)
                        · have hK : kyOf h870 = zTake (evOf h) a0 (zMid (evOf h) a0 a1 (kyOf h)) := by
                            refine hK.trans ?_
                            subst e1224 e1013 e909 e906
                            simp only [zTake, zTake1, eMany, eLine, eFull] <;> (repeat' split) <;> first | (exfalso; omega) | rfl
                          refine R_iconst 0 rfl rfl ?_
                          refine R_istore_n (k := 3) rfl [(3, .inl 0), (0, .inr (.inr (.inl 96))), (1, .inl a0), (2, .inl a1)] rfl rfl (by decide) ?_
                          have lp1227 : ∀ (n1226 : Nat) (h1228 : PH) (x1230 : Int32), INV h1228 → FR [96, 107, 108, 109, 117, 118] h h1228 → FR [107] h870 h1228 → 0 ≤ x1230.toInt ∧ x1230.toInt ≤ 6 → x1230.toInt ≤ (h870.1 96 18).toInt + 0 → (kyOf h1228 = zHolds (evOf h) a0 x1230.toNatClampNeg (zTake (evOf h) a0 (zMid (evOf h) a0 a1 (kyOf h)))) → (evOf h1228 = evOf h) → (6 - x1230.toInt).toNat < n1226 → RUN d_X9_goSecond 166 [(3, .inl x1230), (0, .inr (.inr (.inl 96))), (1, .inl a0), (2, .inl a1)] [] h1228 (qg_X9_goSecond h a0 a1) := by
                            intro n1226
                            induction n1226 with
                            | zero => intro h1228 x1230 m1232 m1233 m1234 m1235 m1236 m1237 m1238 hz; exact absurd hz (Nat.not_lt_zero _)
                            | succ n1226 ih1231 =>
                              intro h1228 x1230 hI fr fl1229 m1235 m1236 m1237 m1238 hz
                              have s1239 : (h1228.1 96 41).toInt = (h870.1 96 41).toInt := by rw [(fl1229 96 (by decide)).1]
                              have s1240 : (h1228.1 96 42).toInt = (h870.1 96 42).toInt := by rw [(fl1229 96 (by decide)).1]
                              have s1241 : (h1228.1 96 19).toInt = (h870.1 96 19).toInt := by rw [(fl1229 96 (by decide)).1]
                              have s1242 : (h1228.1 96 18).toInt = (h870.1 96 18).toInt := by rw [(fl1229 96 (by decide)).1]
                              have s1243 : (h1228.1 96 20).toInt = (h870.1 96 20).toInt := by rw [(fl1229 96 (by decide)).1]
                              have s1244 : (h1228.1 96 46).toInt = (h870.1 96 46).toInt := by rw [(fl1229 96 (by decide)).1]
                              have s1245 : (h1228.1 96 44).toInt = (h870.1 96 44).toInt := by rw [(fl1229 96 (by decide)).1]
                              have s1246 : (h1228.1 96 47).toInt = (h870.1 96 47).toInt := by rw [(fl1229 96 (by decide)).1]
                              have s1247 : (h1228.1 96 48).toInt = (h870.1 96 48).toInt := by rw [(fl1229 96 (by decide)).1]
                              have s1248 : (h1228.1 96 51).toInt = (h870.1 96 51).toInt := by rw [(fl1229 96 (by decide)).1]
                              have fl871 : FR [96, 107, 108, 109, 117, 118] h851 h1228 := fl871.trans fl1229 (by decide)
                              have fl829 : FR [96, 107, 108, 109, 117, 118] h812 h1228 := fl829.trans fl1229 (by decide)
                              have hE := m1238
                              have hK : kyOf h1228 = kyOf h1228 := rfl
                              refine R_iload_n (k := 3) rfl rfl rfl ?_
                              refine R_aload_n (k := 0) rfl rfl rfl ?_
                              refine R_getf_i (j := 18) rfl ft_9_253 sh_96 rfl ?_
                              refine N_icmp_ge (a := x1230.toInt) (b := (h1228.1 96 18).toInt) 224 rfl rfl rfl rfl (fun c1249 => ?_) (fun c1249 => ?_)
                              · have hF : kyOf h1228 = zSecond (evOf h) a0 a1 (kyOf h) := m1237.trans (by rw [show x1230 = (evOf h).2.2.2.2.1 from i_of _ (by omega)]; rfl)
                                exact R_vret rfl rfl ⟨hI, fr, ⟨by omega, by omega, by omega, by omega, by omega, by omega, by omega, by omega, by omega, by omega, hF, hE, trivial⟩, rfl⟩
                              · refine R_aload_n (k := 0) rfl rfl rfl ?_
                                refine R_getf_r (j := 22) rfl ft_9_46 sh_96 rfl ?_
                                refine R_aload_n (k := 0) rfl rfl rfl ?_
                                refine R_getf_r (j := 17) rfl ft_9_40 sh_96 rfl ?_
                                refine R_iload_n (k := 3) rfl rfl rfl ?_
                                refine R_iald rfl sh_105 ⟨by omega, by omega⟩ ?_
                                refine N_eq (fun x1250 e1251 => ?_)
                                have q1252 : 0 ≤ x1250.toInt ∧ x1250.toInt ≤ 5 := by rw [e1251]; exact hI.1 105 _
                                have e1253 : x1250 = (evOf h).2.2.2.1 x1230.toNatClampNeg := by rw [e1251]; exact congrFun (congrArg (fun q : EV => q.2.2.2.1) hE) _
                                refine R_iald rfl sh_107 ⟨by omega, by omega⟩ ?_
                                refine N_eq (fun x1254 e1255 => ?_)
                                have e1256 : x1254 = ((kyOf h1228).1) x1250.toNatClampNeg := by rw [e1255]; exact (ky_at107 (nlt ⟨by omega, by omega⟩)).trans (congrFun (congrArg (fun q : KY => q.1) hK) _)
                                refine R_iconst (-1) rfl rfl ?_
                                refine N_icmp_eq (a := x1254.toInt) (b := (-1)) 218 rfl rfl rfl (by decide) (fun c1257 => ?_) (fun c1257 => ?_)
                                · refine N_iinc (a := x1230.toInt) (c := 1) (fun w => [(3, .inl w), (0, .inr (.inr (.inl 96))), (1, .inl a0), (2, .inl a1)]) rfl rfl (fun _ => rfl) (by decide) rfl (by decide) (by omega) (fun x1258 q1259 => ?_)
                                  refine R_goto 166 rfl rfl ?_
                                  exact RUN_weak (psub_cons rfl (psub_cons rfl (psub_cons rfl (psub_cons rfl (psub_nil _))))) (ih1231 h1228 x1258 hI fr fl1229 (by omega) (by omega) (by rw [zHolds_s (x := x1230) (x' := x1258) (by omega) (by omega), ← m1237]; refine hK.trans ?_; subst e1256 e1253; simp only [zHold1, eLine] <;> (repeat' split) <;> first | (exfalso; omega) | rfl) (hE) (by omega))
                                · refine R_aload_n (k := 0) rfl rfl rfl ?_
                                  refine R_aload_n (k := 0) rfl rfl rfl ?_
                                  refine R_getf_r (j := 17) rfl ft_9_40 sh_96 rfl ?_
                                  refine R_iload_n (k := 3) rfl rfl rfl ?_
                                  refine R_iald rfl sh_105 ⟨by omega, by omega⟩ ?_
                                  refine N_eq (fun x1260 e1261 => ?_)
                                  have q1262 : 0 ≤ x1260.toInt ∧ x1260.toInt ≤ 5 := by rw [e1261]; exact hI.1 105 _
                                  have e1263 : x1260 = (evOf h).2.2.2.1 x1230.toNatClampNeg := by rw [e1261]; exact congrFun (congrArg (fun q : EV => q.2.2.2.1) hE) _
                                  refine R_iload_n (k := 1) rfl rfl rfl ?_
                                  refine R_callV (v := .inr (.inr (.inl 96))) (As := [.inl x1260, .inl a0]) (rest := []) rfl mt_9_i271 pp_X9_doesRest (by decide) rfl rfl rfl (Nat.le_of_ble_eq_true rfl) (Nat.le_of_ble_eq_true rfl) ((g_X9_doesRest h1228 hI x1260 a0 (by omega) (by omega)).mono (fun r1264 h1265 p1266 => ?_))
                                  obtain ⟨rfl, x1268, rfl, (q1269 | q1269 | q1269), zq1267, -⟩ := p1266
                                  · rw [hE] at zq1267
                                    exfalso; omega
                                  · rw [hE] at zq1267
                                    show RUN d_X9_goSecond 200 [(3, .inl x1230), (0, .inr (.inr (.inl 96))), (1, .inl a0), (2, .inl a1)] [.inl x1268] h1228 _
                                    refine N_if_ne (a := x1268.toInt) 218 rfl rfl rfl (fun c1270 => ?_) (fun c1270 => ?_)
                                    · exfalso; omega
                                    · refine R_aload_n (k := 0) rfl rfl rfl ?_
                                      refine R_getf_r (j := 22) rfl ft_9_46 sh_96 rfl ?_
                                      refine R_aload_n (k := 0) rfl rfl rfl ?_
                                      refine R_getf_r (j := 17) rfl ft_9_40 sh_96 rfl ?_
                                      refine R_iload_n (k := 3) rfl rfl rfl ?_
                                      refine R_iald rfl sh_105 ⟨by omega, by omega⟩ ?_
                                      refine N_eq (fun x1271 e1272 => ?_)
                                      have q1273 : 0 ≤ x1271.toInt ∧ x1271.toInt ≤ 5 := by rw [e1272]; exact hI.1 105 _
                                      have e1274 : x1271 = (evOf h).2.2.2.1 x1230.toNatClampNeg := by rw [e1272]; exact congrFun (congrArg (fun q : EV => q.2.2.2.1) hE) _
                                      refine R_dup2 rfl ?_
                                      refine R_iald rfl sh_107 ⟨by omega, by omega⟩ ?_
                                      refine N_eq (fun x1275 e1276 => ?_)
                                      have e1277 : x1275 = ((kyOf h1228).1) x1271.toNatClampNeg := by rw [e1276]; exact (ky_at107 (nlt ⟨by omega, by omega⟩)).trans (congrFun (congrArg (fun q : KY => q.1) hK) _)
                                      refine R_iconst 1 rfl rfl ?_
                                      have b1278 := i_rng x1275
                                      refine R_iadd rfl ?_
                                      refine N_eq (fun x1279 e1280 => ?_)
                                      refine K_iast (a := x1271.toInt) (lo := (-2147483648)) (hi' := 2147483647) rfl sh_107 rfl ⟨by omega, by omega⟩ hI (by decide) rfl (i_rng _) fr (by decide) (fun h1281 g1282 hI fr => ?_)
                                      have fl1229 : FR [107] h870 h1281 := by rw [g1282]; exact FR_wI _ _ fl1229 (by decide)
                                      have fl871 : FR [96, 107, 108, 109, 117, 118] h851 h1281 := by rw [g1282]; exact FR_wI _ _ fl871 (by decide)
                                      have fl829 : FR [96, 107, 108, 109, 117, 118] h812 h1281 := by rw [g1282]; exact FR_wI _ _ fl829 (by decide)
                                      have s1283 : (h1281.1 96 41).toInt = (h1228.1 96 41).toInt := by rw [g1282, wI_ne _ _ _ (by decide)]
                                      have s1284 : (h1281.1 96 42).toInt = (h1228.1 96 42).toInt := by rw [g1282, wI_ne _ _ _ (by decide)]
                                      have s1285 : (h1281.1 96 19).toInt = (h1228.1 96 19).toInt := by rw [g1282, wI_ne _ _ _ (by decide)]
                                      have s1286 : (h1281.1 96 18).toInt = (h1228.1 96 18).toInt := by rw [g1282, wI_ne _ _ _ (by decide)]
                                      have s1287 : (h1281.1 96 20).toInt = (h1228.1 96 20).toInt := by rw [g1282, wI_ne _ _ _ (by decide)]
                                      have s1288 : (h1281.1 96 46).toInt = (h1228.1 96 46).toInt := by rw [g1282, wI_ne _ _ _ (by decide)]
                                      have s1289 : (h1281.1 96 44).toInt = (h1228.1 96 44).toInt := by rw [g1282, wI_ne _ _ _ (by decide)]
                                      have s1290 : (h1281.1 96 47).toInt = (h1228.1 96 47).toInt := by rw [g1282, wI_ne _ _ _ (by decide)]
                                      have s1291 : (h1281.1 96 48).toInt = (h1228.1 96 48).toInt := by rw [g1282, wI_ne _ _ _ (by decide)]
                                      have s1292 : (h1281.1 96 51).toInt = (h1228.1 96 51).toInt := by rw [g1282, wI_ne _ _ _ (by decide)]
                                      have hK : kyOf h1281 = (upd ((kyOf h1228).1) x1271.toNatClampNeg x1279, (kyOf h1228).2.1, (kyOf h1228).2.2.1, (kyOf h1228).2.2.2) := by rw [g1282, ky_107 (nlt ⟨by omega, by omega⟩), hK] <;> rfl
                                      have hE : evOf h1281 = evOf h := by rw [g1282, ev_o (by decide), hE]
                                      refine N_iinc (a := x1230.toInt) (c := 1) (fun w => [(3, .inl w), (0, .inr (.inr (.inl 96))), (1, .inl a0), (2, .inl a1)]) rfl rfl (fun _ => rfl) (by decide) rfl (by decide) (by omega) (fun x1293 q1294 => ?_)
                                      refine R_goto 166 rfl rfl ?_
                                      exact RUN_weak (psub_cons rfl (psub_cons rfl (psub_cons rfl (psub_cons rfl (psub_nil _))))) (ih1231 h1281 x1293 hI fr fl1229 (by omega) (by omega) (by rw [zHolds_s (x := x1230) (x' := x1293) (by omega) (by omega), ← m1237]; refine hK.trans ?_; subst e1280 e1277 e1274 e1263 e1256 e1253; simp only [zHold1, eLine] <;> (repeat' split) <;> first | (exfalso; omega) | rfl) (hE) (by omega))
                                  · rw [hE] at zq1267
                                    show RUN d_X9_goSecond 200 [(3, .inl x1230), (0, .inr (.inr (.inl 96))), (1, .inl a0), (2, .inl a1)] [.inl x1268] h1228 _
                                    refine N_if_ne (a := x1268.toInt) 218 rfl rfl rfl (fun c1295 => ?_) (fun c1295 => ?_)
                                    · refine N_iinc (a := x1230.toInt) (c := 1) (fun w => [(3, .inl w), (0, .inr (.inr (.inl 96))), (1, .inl a0), (2, .inl a1)]) rfl rfl (fun _ => rfl) (by decide) rfl (by decide) (by omega) (fun x1296 q1297 => ?_)
                                      refine R_goto 166 rfl rfl ?_
                                      exact RUN_weak (psub_cons rfl (psub_cons rfl (psub_cons rfl (psub_cons rfl (psub_nil _))))) (ih1231 h1228 x1296 hI fr fl1229 (by omega) (by omega) (by rw [zHolds_s (x := x1230) (x' := x1296) (by omega) (by omega), ← m1237]; refine hK.trans ?_; subst e1263 e1256 e1253; simp only [zHold1, eLine] <;> (repeat' split) <;> first | (exfalso; omega) | rfl) (hE) (by omega))
                                    · exfalso; omega
                          have k1298 : (0 : Int32).toInt = 0 := by decide
                          exact lp1227 _ h870 (0 : Int32) hI fr (FR.rf _ _) (by decide) (by omega) (by rw [hK]; rfl) (hE) (Nat.lt_succ_self _)
                        · refine R_aload_n (k := 0) rfl rfl rfl ?_
                          refine R_getf_r (j := 24) rfl ft_9_52 sh_96 rfl ?_
                          refine R_iconst 0 rfl rfl ?_
                          refine R_dup2 rfl ?_
                          refine R_iald rfl sh_109 (by decide) ?_
                          refine N_eq (fun x1299 e1300 => ?_)
                          have e1301 : x1299 = ((zMid (evOf h) a0 a1 (kyOf h)).2.2.1) (0 : Int32).toNatClampNeg := by rw [e1300]; exact (ky_at109 (by decide)).trans (congrFun (congrArg (fun q : KY => q.2.2.1) hK) _)
                          refine R_iconst 1 rfl rfl ?_
                          have b1302 := i_rng x1299
                          refine R_isub rfl ?_
                          refine N_eq (fun x1303 e1304 => ?_)
                          refine K_iast (a := 0) (lo := (-2147483648)) (hi' := 2147483647) rfl sh_109 (by decide) (by decide) hI (by decide) rfl (i_rng _) fr (by decide) (fun h1305 g1306 hI fr => ?_)
                          have fl871 : FR [96, 107, 108, 109, 117, 118] h851 h1305 := by rw [g1306]; exact FR_wI _ _ fl871 (by decide)
                          have fl829 : FR [96, 107, 108, 109, 117, 118] h812 h1305 := by rw [g1306]; exact FR_wI _ _ fl829 (by decide)
                          have s1307 : (h1305.1 96 41).toInt = (h870.1 96 41).toInt := by rw [g1306, wI_ne _ _ _ (by decide)]
                          have s1308 : (h1305.1 96 42).toInt = (h870.1 96 42).toInt := by rw [g1306, wI_ne _ _ _ (by decide)]
                          have s1309 : (h1305.1 96 19).toInt = (h870.1 96 19).toInt := by rw [g1306, wI_ne _ _ _ (by decide)]
                          have s1310 : (h1305.1 96 18).toInt = (h870.1 96 18).toInt := by rw [g1306, wI_ne _ _ _ (by decide)]
                          have s1311 : (h1305.1 96 20).toInt = (h870.1 96 20).toInt := by rw [g1306, wI_ne _ _ _ (by decide)]
                          have s1312 : (h1305.1 96 46).toInt = (h870.1 96 46).toInt := by rw [g1306, wI_ne _ _ _ (by decide)]
                          have s1313 : (h1305.1 96 44).toInt = (h870.1 96 44).toInt := by rw [g1306, wI_ne _ _ _ (by decide)]
                          have s1314 : (h1305.1 96 47).toInt = (h870.1 96 47).toInt := by rw [g1306, wI_ne _ _ _ (by decide)]
                          have s1315 : (h1305.1 96 48).toInt = (h870.1 96 48).toInt := by rw [g1306, wI_ne _ _ _ (by decide)]
                          have s1316 : (h1305.1 96 51).toInt = (h870.1 96 51).toInt := by rw [g1306, wI_ne _ _ _ (by decide)]
                          have hK : kyOf h1305 = ((zMid (evOf h) a0 a1 (kyOf h)).1, (zMid (evOf h) a0 a1 (kyOf h)).2.1, upd ((zMid (evOf h) a0 a1 (kyOf h)).2.2.1) (0 : Int32).toNatClampNeg x1303, (zMid (evOf h) a0 a1 (kyOf h)).2.2.2) := by rw [g1306, ky_109 (by decide), hK] <;> rfl
                          have hE : evOf h1305 = evOf h := by rw [g1306, ev_o (by decide), hE]
                          refine R_aload_n (k := 0) rfl rfl rfl ?_
                          refine R_getf_r (j := 22) rfl ft_9_46 sh_96 rfl ?_
                          refine R_aload_n (k := 0) rfl rfl rfl ?_
                          refine R_getf_r (j := 17) rfl ft_9_40 sh_96 rfl ?_
                          refine R_iconst 0 rfl rfl ?_
                          refine R_iald rfl sh_105 (by decide) ?_
                          refine N_eq (fun x1317 e1318 => ?_)
                          have q1319 : 0 ≤ x1317.toInt ∧ x1317.toInt ≤ 5 := by rw [e1318]; exact hI.1 105 _
                          have e1320 : x1317 = (evOf h).2.2.2.1 (0 : Int32).toNatClampNeg := by rw [e1318]; exact congrFun (congrArg (fun q : EV => q.2.2.2.1) hE) _
                          refine R_iconst 0 rfl rfl ?_
                          refine K_iast (a := x1317.toInt) (lo := (-2147483648)) (hi' := 2147483647) rfl sh_107 rfl ⟨by omega, by omega⟩ hI (by decide) rfl (by decide) fr (by decide) (fun h1321 g1322 hI fr => ?_)
                          have fl871 : FR [96, 107, 108, 109, 117, 118] h851 h1321 := by rw [g1322]; exact FR_wI _ _ fl871 (by decide)
                          have fl829 : FR [96, 107, 108, 109, 117, 118] h812 h1321 := by rw [g1322]; exact FR_wI _ _ fl829 (by decide)
                          have s1323 : (h1321.1 96 41).toInt = (h1305.1 96 41).toInt := by rw [g1322, wI_ne _ _ _ (by decide)]
                          have s1324 : (h1321.1 96 42).toInt = (h1305.1 96 42).toInt := by rw [g1322, wI_ne _ _ _ (by decide)]
                          have s1325 : (h1321.1 96 19).toInt = (h1305.1 96 19).toInt := by rw [g1322, wI_ne _ _ _ (by decide)]
                          have s1326 : (h1321.1 96 18).toInt = (h1305.1 96 18).toInt := by rw [g1322, wI_ne _ _ _ (by decide)]
                          have s1327 : (h1321.1 96 20).toInt = (h1305.1 96 20).toInt := by rw [g1322, wI_ne _ _ _ (by decide)]
                          have s1328 : (h1321.1 96 46).toInt = (h1305.1 96 46).toInt := by rw [g1322, wI_ne _ _ _ (by decide)]
                          have s1329 : (h1321.1 96 44).toInt = (h1305.1 96 44).toInt := by rw [g1322, wI_ne _ _ _ (by decide)]
                          have s1330 : (h1321.1 96 47).toInt = (h1305.1 96 47).toInt := by rw [g1322, wI_ne _ _ _ (by decide)]
                          have s1331 : (h1321.1 96 48).toInt = (h1305.1 96 48).toInt := by rw [g1322, wI_ne _ _ _ (by decide)]
                          have s1332 : (h1321.1 96 51).toInt = (h1305.1 96 51).toInt := by rw [g1322, wI_ne _ _ _ (by decide)]
                          have hK : kyOf h1321 = (upd ((zMid (evOf h) a0 a1 (kyOf h)).1) x1317.toNatClampNeg (0), (zMid (evOf h) a0 a1 (kyOf h)).2.1, upd ((zMid (evOf h) a0 a1 (kyOf h)).2.2.1) (0 : Int32).toNatClampNeg x1303, (zMid (evOf h) a0 a1 (kyOf h)).2.2.2) := by rw [g1322, ky_107 (nlt ⟨by omega, by omega⟩), hK] <;> rfl
                          have hE : evOf h1321 = evOf h := by rw [g1322, ev_o (by decide), hE]
                          refine R_aload_n (k := 0) rfl rfl rfl ?_
                          refine R_getf_r (j := 23) rfl ft_9_49 sh_96 rfl ?_
                          refine R_aload_n (k := 0) rfl rfl rfl ?_
                          refine R_getf_r (j := 17) rfl ft_9_40 sh_96 rfl ?_
                          refine R_iconst 0 rfl rfl ?_
                          refine R_iald rfl sh_105 (by decide) ?_
                          refine N_eq (fun x1333 e1334 => ?_)
                          have q1335 : 0 ≤ x1333.toInt ∧ x1333.toInt ≤ 5 := by rw [e1334]; exact hI.1 105 _
                          have e1336 : x1333 = (evOf h).2.2.2.1 (0 : Int32).toNatClampNeg := by rw [e1334]; exact congrFun (congrArg (fun q : EV => q.2.2.2.1) hE) _
                          refine R_aload_n (k := 0) rfl rfl rfl ?_
                          refine R_getf_i (j := 20) rfl ft_9_259 sh_96 rfl ?_
                          refine N_eq (fun x1337 e1338 => ?_)
                          have e1339 : x1337 = (evOf h).2.2.2.2.2.1 := by rw [e1338]; exact congrArg (fun q : EV => q.2.2.2.2.2.1) hE
                          refine K_iast (a := x1333.toInt) (lo := (-2147483648)) (hi' := 2147483647) rfl sh_108 rfl ⟨by omega, by omega⟩ hI (by decide) rfl (i_rng _) fr (by decide) (fun h1340 g1341 hI fr => ?_)
                          have fl871 : FR [96, 107, 108, 109, 117, 118] h851 h1340 := by rw [g1341]; exact FR_wI _ _ fl871 (by decide)
                          have fl829 : FR [96, 107, 108, 109, 117, 118] h812 h1340 := by rw [g1341]; exact FR_wI _ _ fl829 (by decide)
                          have s1342 : (h1340.1 96 41).toInt = (h1321.1 96 41).toInt := by rw [g1341, wI_ne _ _ _ (by decide)]
                          have s1343 : (h1340.1 96 42).toInt = (h1321.1 96 42).toInt := by rw [g1341, wI_ne _ _ _ (by decide)]
                          have s1344 : (h1340.1 96 19).toInt = (h1321.1 96 19).toInt := by rw [g1341, wI_ne _ _ _ (by decide)]
                          have s1345 : (h1340.1 96 18).toInt = (h1321.1 96 18).toInt := by rw [g1341, wI_ne _ _ _ (by decide)]
                          have s1346 : (h1340.1 96 20).toInt = (h1321.1 96 20).toInt := by rw [g1341, wI_ne _ _ _ (by decide)]
                          have s1347 : (h1340.1 96 46).toInt = (h1321.1 96 46).toInt := by rw [g1341, wI_ne _ _ _ (by decide)]
                          have s1348 : (h1340.1 96 44).toInt = (h1321.1 96 44).toInt := by rw [g1341, wI_ne _ _ _ (by decide)]
                          have s1349 : (h1340.1 96 47).toInt = (h1321.1 96 47).toInt := by rw [g1341, wI_ne _ _ _ (by decide)]
                          have s1350 : (h1340.1 96 48).toInt = (h1321.1 96 48).toInt := by rw [g1341, wI_ne _ _ _ (by decide)]
                          have s1351 : (h1340.1 96 51).toInt = (h1321.1 96 51).toInt := by rw [g1341, wI_ne _ _ _ (by decide)]
                          have hK : kyOf h1340 = (upd ((zMid (evOf h) a0 a1 (kyOf h)).1) x1317.toNatClampNeg (0), upd ((zMid (evOf h) a0 a1 (kyOf h)).2.1) x1333.toNatClampNeg x1337, upd ((zMid (evOf h) a0 a1 (kyOf h)).2.2.1) (0 : Int32).toNatClampNeg x1303, (zMid (evOf h) a0 a1 (kyOf h)).2.2.2) := by rw [g1341, ky_108 (nlt ⟨by omega, by omega⟩), hK] <;> rfl
                          have hE : evOf h1340 = evOf h := by rw [g1341, ev_o (by decide), hE]
                          have hK : kyOf h1340 = zTake (evOf h) a0 (zMid (evOf h) a0 a1 (kyOf h)) := by
                            refine hK.trans ?_
                            subst e1339 e1336 e1320 e1304 e1301 e1224 e1013 e909 e906
                            simp only [zTake, zTake1, eMany, eLine, eFull] <;> (repeat' split) <;> first | (exfalso; omega) | rfl
                          refine R_iconst 0 rfl rfl ?_
                          refine R_istore_n (k := 3) rfl [(3, .inl 0), (0, .inr (.inr (.inl 96))), (1, .inl a0), (2, .inl a1)] rfl rfl (by decide) ?_
                          have lp1353 : ∀ (n1352 : Nat) (h1354 : PH) (x1356 : Int32), INV h1354 → FR [96, 107, 108, 109, 117, 118] h h1354 → FR [107] h1340 h1354 → 0 ≤ x1356.toInt ∧ x1356.toInt ≤ 6 → x1356.toInt ≤ (h1340.1 96 18).toInt + 0 → (kyOf h1354 = zHolds (evOf h) a0 x1356.toNatClampNeg (zTake (evOf h) a0 (zMid (evOf h) a0 a1 (kyOf h)))) → (evOf h1354 = evOf h) → (6 - x1356.toInt).toNat < n1352 → RUN d_X9_goSecond 166 [(3, .inl x1356), (0, .inr (.inr (.inl 96))), (1, .inl a0), (2, .inl a1)] [] h1354 (qg_X9_goSecond h a0 a1) := by
                            intro n1352
                            induction n1352 with
                            | zero => intro h1354 x1356 m1358 m1359 m1360 m1361 m1362 m1363 m1364 hz; exact absurd hz (Nat.not_lt_zero _)
                            | succ n1352 ih1357 =>
                              intro h1354 x1356 hI fr fl1355 m1361 m1362 m1363 m1364 hz
                              have s1365 : (h1354.1 96 41).toInt = (h1340.1 96 41).toInt := by rw [(fl1355 96 (by decide)).1]
                              have s1366 : (h1354.1 96 42).toInt = (h1340.1 96 42).toInt := by rw [(fl1355 96 (by decide)).1]
                              have s1367 : (h1354.1 96 19).toInt = (h1340.1 96 19).toInt := by rw [(fl1355 96 (by decide)).1]
                              have s1368 : (h1354.1 96 18).toInt = (h1340.1 96 18).toInt := by rw [(fl1355 96 (by decide)).1]
                              have s1369 : (h1354.1 96 20).toInt = (h1340.1 96 20).toInt := by rw [(fl1355 96 (by decide)).1]
                              have s1370 : (h1354.1 96 46).toInt = (h1340.1 96 46).toInt := by rw [(fl1355 96 (by decide)).1]
                              have s1371 : (h1354.1 96 44).toInt = (h1340.1 96 44).toInt := by rw [(fl1355 96 (by decide)).1]
                              have s1372 : (h1354.1 96 47).toInt = (h1340.1 96 47).toInt := by rw [(fl1355 96 (by decide)).1]
                              have s1373 : (h1354.1 96 48).toInt = (h1340.1 96 48).toInt := by rw [(fl1355 96 (by decide)).1]
                              have s1374 : (h1354.1 96 51).toInt = (h1340.1 96 51).toInt := by rw [(fl1355 96 (by decide)).1]
                              have fl871 : FR [96, 107, 108, 109, 117, 118] h851 h1354 := fl871.trans fl1355 (by decide)
                              have fl829 : FR [96, 107, 108, 109, 117, 118] h812 h1354 := fl829.trans fl1355 (by decide)
                              have hE := m1364
                              have hK : kyOf h1354 = kyOf h1354 := rfl
                              refine R_iload_n (k := 3) rfl rfl rfl ?_
                              refine R_aload_n (k := 0) rfl rfl rfl ?_
                              refine R_getf_i (j := 18) rfl ft_9_253 sh_96 rfl ?_
                              refine N_icmp_ge (a := x1356.toInt) (b := (h1354.1 96 18).toInt) 224 rfl rfl rfl rfl (fun c1375 => ?_) (fun c1375 => ?_)
                              · have hF : kyOf h1354 = zSecond (evOf h) a0 a1 (kyOf h) := m1363.trans (by rw [show x1356 = (evOf h).2.2.2.2.1 from i_of _ (by omega)]; rfl)
                                exact R_vret rfl rfl ⟨hI, fr, ⟨by omega, by omega, by omega, by omega, by omega, by omega, by omega, by omega, by omega, by omega, hF, hE, trivial⟩, rfl⟩
                              · refine R_aload_n (k := 0) rfl rfl rfl ?_
                                refine R_getf_r (j := 22) rfl ft_9_46 sh_96 rfl ?_
                                refine R_aload_n (k := 0) rfl rfl rfl ?_
                                refine R_getf_r (j := 17) rfl ft_9_40 sh_96 rfl ?_
                                refine R_iload_n (k := 3) rfl rfl rfl ?_
                                refine R_iald rfl sh_105 ⟨by omega, by omega⟩ ?_
                                refine N_eq (fun x1376 e1377 => ?_)
                                have q1378 : 0 ≤ x1376.toInt ∧ x1376.toInt ≤ 5 := by rw [e1377]; exact hI.1 105 _
                                have e1379 : x1376 = (evOf h).2.2.2.1 x1356.toNatClampNeg := by rw [e1377]; exact congrFun (congrArg (fun q : EV => q.2.2.2.1) hE) _
                                refine R_iald rfl sh_107 ⟨by omega, by omega⟩ ?_
                                refine N_eq (fun x1380 e1381 => ?_)
                                have e1382 : x1380 = ((kyOf h1354).1) x1376.toNatClampNeg := by rw [e1381]; exact (ky_at107 (nlt ⟨by omega, by omega⟩)).trans (congrFun (congrArg (fun q : KY => q.1) hK) _)
                                refine R_iconst (-1) rfl rfl ?_
                                refine N_icmp_eq (a := x1380.toInt) (b := (-1)) 218 rfl rfl rfl (by decide) (fun c1383 => ?_) (fun c1383 => ?_)
                                · refine N_iinc (a := x1356.toInt) (c := 1) (fun w => [(3, .inl w), (0, .inr (.inr (.inl 96))), (1, .inl a0), (2, .inl a1)]) rfl rfl (fun _ => rfl) (by decide) rfl (by decide) (by omega) (fun x1384 q1385 => ?_)
                                  refine R_goto 166 rfl rfl ?_
                                  exact RUN_weak (psub_cons rfl (psub_cons rfl (psub_cons rfl (psub_cons rfl (psub_nil _))))) (ih1357 h1354 x1384 hI fr fl1355 (by omega) (by omega) (by rw [zHolds_s (x := x1356) (x' := x1384) (by omega) (by omega), ← m1363]; refine hK.trans ?_; subst e1382 e1379; simp only [zHold1, eLine] <;> (repeat' split) <;> first | (exfalso; omega) | rfl) (hE) (by omega))
                                · refine R_aload_n (k := 0) rfl rfl rfl ?_
                                  refine R_aload_n (k := 0) rfl rfl rfl ?_
                                  refine R_getf_r (j := 17) rfl ft_9_40 sh_96 rfl ?_
                                  refine R_iload_n (k := 3) rfl rfl rfl ?_
                                  refine R_iald rfl sh_105 ⟨by omega, by omega⟩ ?_
                                  refine N_eq (fun x1386 e1387 => ?_)
                                  have q1388 : 0 ≤ x1386.toInt ∧ x1386.toInt ≤ 5 := by rw [e1387]; exact hI.1 105 _
                                  have e1389 : x1386 = (evOf h).2.2.2.1 x1356.toNatClampNeg := by rw [e1387]; exact congrFun (congrArg (fun q : EV => q.2.2.2.1) hE) _
                                  refine R_iload_n (k := 1) rfl rfl rfl ?_
                                  refine R_callV (v := .inr (.inr (.inl 96))) (As := [.inl x1386, .inl a0]) (rest := []) rfl mt_9_i271 pp_X9_doesRest (by decide) rfl rfl rfl (Nat.le_of_ble_eq_true rfl) (Nat.le_of_ble_eq_true rfl) ((g_X9_doesRest h1354 hI x1386 a0 (by omega) (by omega)).mono (fun r1390 h1391 p1392 => ?_))
                                  obtain ⟨rfl, x1394, rfl, (q1395 | q1395 | q1395), zq1393, -⟩ := p1392
                                  · rw [hE] at zq1393
                                    exfalso; omega
                                  · rw [hE] at zq1393
                                    show RUN d_X9_goSecond 200 [(3, .inl x1356), (0, .inr (.inr (.inl 96))), (1, .inl a0), (2, .inl a1)] [.inl x1394] h1354 _
                                    refine N_if_ne (a := x1394.toInt) 218 rfl rfl rfl (fun c1396 => ?_) (fun c1396 => ?_)
                                    · exfalso; omega
                                    · refine R_aload_n (k := 0) rfl rfl rfl ?_
                                      refine R_getf_r (j := 22) rfl ft_9_46 sh_96 rfl ?_
                                      refine R_aload_n (k := 0) rfl rfl rfl ?_
                                      refine R_getf_r (j := 17) rfl ft_9_40 sh_96 rfl ?_
                                      refine R_iload_n (k := 3) rfl rfl rfl ?_
                                      refine R_iald rfl sh_105 ⟨by omega, by omega⟩ ?_
                                      refine N_eq (fun x1397 e1398 => ?_)
                                      have q1399 : 0 ≤ x1397.toInt ∧ x1397.toInt ≤ 5 := by rw [e1398]; exact hI.1 105 _
                                      have e1400 : x1397 = (evOf h).2.2.2.1 x1356.toNatClampNeg := by rw [e1398]; exact congrFun (congrArg (fun q : EV => q.2.2.2.1) hE) _
                                      refine R_dup2 rfl ?_
                                      refine R_iald rfl sh_107 ⟨by omega, by omega⟩ ?_
                                      refine N_eq (fun x1401 e1402 => ?_)
                                      have e1403 : x1401 = ((kyOf h1354).1) x1397.toNatClampNeg := by rw [e1402]; exact (ky_at107 (nlt ⟨by omega, by omega⟩)).trans (congrFun (congrArg (fun q : KY => q.1) hK) _)
                                      refine R_iconst 1 rfl rfl ?_
                                      have b1404 := i_rng x1401
                                      refine R_iadd rfl ?_
                                      refine N_eq (fun x1405 e1406 => ?_)
                                      refine K_iast (a := x1397.toInt) (lo := (-2147483648)) (hi' := 2147483647) rfl sh_107 rfl ⟨by omega, by omega⟩ hI (by decide) rfl (i_rng _) fr (by decide) (fun h1407 g1408 hI fr => ?_)
                                      have fl1355 : FR [107] h1340 h1407 := by rw [g1408]; exact FR_wI _ _ fl1355 (by decide)
                                      have fl871 : FR [96, 107, 108, 109, 117, 118] h851 h1407 := by rw [g1408]; exact FR_wI _ _ fl871 (by decide)
                                      have fl829 : FR [96, 107, 108, 109, 117, 118] h812 h1407 := by rw [g1408]; exact FR_wI _ _ fl829 (by decide)
                                      have s1409 : (h1407.1 96 41).toInt = (h1354.1 96 41).toInt := by rw [g1408, wI_ne _ _ _ (by decide)]
                                      have s1410 : (h1407.1 96 42).toInt = (h1354.1 96 42).toInt := by rw [g1408, wI_ne _ _ _ (by decide)]
                                      have s1411 : (h1407.1 96 19).toInt = (h1354.1 96 19).toInt := by rw [g1408, wI_ne _ _ _ (by decide)]
                                      have s1412 : (h1407.1 96 18).toInt = (h1354.1 96 18).toInt := by rw [g1408, wI_ne _ _ _ (by decide)]
                                      have s1413 : (h1407.1 96 20).toInt = (h1354.1 96 20).toInt := by rw [g1408, wI_ne _ _ _ (by decide)]
                                      have s1414 : (h1407.1 96 46).toInt = (h1354.1 96 46).toInt := by rw [g1408, wI_ne _ _ _ (by decide)]
                                      have s1415 : (h1407.1 96 44).toInt = (h1354.1 96 44).toInt := by rw [g1408, wI_ne _ _ _ (by decide)]
                                      have s1416 : (h1407.1 96 47).toInt = (h1354.1 96 47).toInt := by rw [g1408, wI_ne _ _ _ (by decide)]
                                      have s1417 : (h1407.1 96 48).toInt = (h1354.1 96 48).toInt := by rw [g1408, wI_ne _ _ _ (by decide)]
                                      have s1418 : (h1407.1 96 51).toInt = (h1354.1 96 51).toInt := by rw [g1408, wI_ne _ _ _ (by decide)]
                                      have hK : kyOf h1407 = (upd ((kyOf h1354).1) x1397.toNatClampNeg x1405, (kyOf h1354).2.1, (kyOf h1354).2.2.1, (kyOf h1354).2.2.2) := by rw [g1408, ky_107 (nlt ⟨by omega, by omega⟩), hK] <;> rfl
                                      have hE : evOf h1407 = evOf h := by rw [g1408, ev_o (by decide), hE]
                                      refine N_iinc (a := x1356.toInt) (c := 1) (fun w => [(3, .inl w), (0, .inr (.inr (.inl 96))), (1, .inl a0), (2, .inl a1)]) rfl rfl (fun _ => rfl) (by decide) rfl (by decide) (by omega) (fun x1419 q1420 => ?_)
                                      refine R_goto 166 rfl rfl ?_
                                      exact RUN_weak (psub_cons rfl (psub_cons rfl (psub_cons rfl (psub_cons rfl (psub_nil _))))) (ih1357 h1407 x1419 hI fr fl1355 (by omega) (by omega) (by rw [zHolds_s (x := x1356) (x' := x1419) (by omega) (by omega), ← m1363]; refine hK.trans ?_; subst e1406 e1403 e1400 e1389 e1382 e1379; simp only [zHold1, eLine] <;> (repeat' split) <;> first | (exfalso; omega) | rfl) (hE) (by omega))
                                  · rw [hE] at zq1393
                                    show RUN d_X9_goSecond 200 [(3, .inl x1356), (0, .inr (.inr (.inl 96))), (1, .inl a0), (2, .inl a1)] [.inl x1394] h1354 _
                                    refine N_if_ne (a := x1394.toInt) 218 rfl rfl rfl (fun c1421 => ?_) (fun c1421 => ?_)
                                    · refine N_iinc (a := x1356.toInt) (c := 1) (fun w => [(3, .inl w), (0, .inr (.inr (.inl 96))), (1, .inl a0), (2, .inl a1)]) rfl rfl (fun _ => rfl) (by decide) rfl (by decide) (by omega) (fun x1422 q1423 => ?_)
                                      refine R_goto 166 rfl rfl ?_
                                      exact RUN_weak (psub_cons rfl (psub_cons rfl (psub_cons rfl (psub_cons rfl (psub_nil _))))) (ih1357 h1354 x1422 hI fr fl1355 (by omega) (by omega) (by rw [zHolds_s (x := x1356) (x' := x1422) (by omega) (by omega), ← m1363]; refine hK.trans ?_; subst e1389 e1382 e1379; simp only [zHold1, eLine] <;> (repeat' split) <;> first | (exfalso; omega) | rfl) (hE) (by omega))
                                    · exfalso; omega
                          have k1424 : (0 : Int32).toInt = 0 := by decide
                          exact lp1353 _ h1340 (0 : Int32) hI fr (FR.rf _ _) (by decide) (by omega) (by rw [hK]; rfl) (hE) (Nat.lt_succ_self _)
                    · rw [hE] at zq1018
                      show RUN d_X9_goSecond 115 [(3, .inl x872), (0, .inr (.inr (.inl 96))), (1, .inl a0), (2, .inl a1)] [.inl x1019] h870 _
                      refine N_if_ne (a := x1019.toInt) 164 rfl rfl rfl (fun c1425 => ?_) (fun c1425 => ?_)
                      · have hK : kyOf h870 = zTake (evOf h) a0 (zMid (evOf h) a0 a1 (kyOf h)) := by
                          refine hK.trans ?_
                          subst e1013 e909 e906
                          simp only [zTake, zTake1, eMany, eLine, eFull] <;> (repeat' split) <;> first | (exfalso; omega) | rfl
                        refine R_iconst 0 rfl rfl ?_
                        refine R_istore_n (k := 3) rfl [(3, .inl 0), (0, .inr (.inr (.inl 96))), (1, .inl a0), (2, .inl a1)] rfl rfl (by decide) ?_
                        have lp1427 : ∀ (n1426 : Nat) (h1428 : PH) (x1430 : Int32), INV h1428 → FR [96, 107, 108, 109, 117, 118] h h1428 → FR [107] h870 h1428 → 0 ≤ x1430.toInt ∧ x1430.toInt ≤ 6 → x1430.toInt ≤ (h870.1 96 18).toInt + 0 → (kyOf h1428 = zHolds (evOf h) a0 x1430.toNatClampNeg (zTake (evOf h) a0 (zMid (evOf h) a0 a1 (kyOf h)))) → (evOf h1428 = evOf h) → (6 - x1430.toInt).toNat < n1426 → RUN d_X9_goSecond 166 [(3, .inl x1430), (0, .inr (.inr (.inl 96))), (1, .inl a0), (2, .inl a1)] [] h1428 (qg_X9_goSecond h a0 a1) := by
                          intro n1426
                          induction n1426 with
                          | zero => intro h1428 x1430 m1432 m1433 m1434 m1435 m1436 m1437 m1438 hz; exact absurd hz (Nat.not_lt_zero _)
                          | succ n1426 ih1431 =>
                            intro h1428 x1430 hI fr fl1429 m1435 m1436 m1437 m1438 hz
                            have s1439 : (h1428.1 96 41).toInt = (h870.1 96 41).toInt := by rw [(fl1429 96 (by decide)).1]
                            have s1440 : (h1428.1 96 42).toInt = (h870.1 96 42).toInt := by rw [(fl1429 96 (by decide)).1]
                            have s1441 : (h1428.1 96 19).toInt = (h870.1 96 19).toInt := by rw [(fl1429 96 (by decide)).1]
                            have s1442 : (h1428.1 96 18).toInt = (h870.1 96 18).toInt := by rw [(fl1429 96 (by decide)).1]
                            have s1443 : (h1428.1 96 20).toInt = (h870.1 96 20).toInt := by rw [(fl1429 96 (by decide)).1]
                            have s1444 : (h1428.1 96 46).toInt = (h870.1 96 46).toInt := by rw [(fl1429 96 (by decide)).1]
                            have s1445 : (h1428.1 96 44).toInt = (h870.1 96 44).toInt := by rw [(fl1429 96 (by decide)).1]
                            have s1446 : (h1428.1 96 47).toInt = (h870.1 96 47).toInt := by rw [(fl1429 96 (by decide)).1]
                            have s1447 : (h1428.1 96 48).toInt = (h870.1 96 48).toInt := by rw [(fl1429 96 (by decide)).1]
                            have s1448 : (h1428.1 96 51).toInt = (h870.1 96 51).toInt := by rw [(fl1429 96 (by decide)).1]
                            have fl871 : FR [96, 107, 108, 109, 117, 118] h851 h1428 := fl871.trans fl1429 (by decide)
                            have fl829 : FR [96, 107, 108, 109, 117, 118] h812 h1428 := fl829.trans fl1429 (by decide)
                            have hE := m1438
                            have hK : kyOf h1428 = kyOf h1428 := rfl
                            refine R_iload_n (k := 3) rfl rfl rfl ?_
                            refine R_aload_n (k := 0) rfl rfl rfl ?_
                            refine R_getf_i (j := 18) rfl ft_9_253 sh_96 rfl ?_
                            refine N_icmp_ge (a := x1430.toInt) (b := (h1428.1 96 18).toInt) 224 rfl rfl rfl rfl (fun c1449 => ?_) (fun c1449 => ?_)
                            · have hF : kyOf h1428 = zSecond (evOf h) a0 a1 (kyOf h) := m1437.trans (by rw [show x1430 = (evOf h).2.2.2.2.1 from i_of _ (by omega)]; rfl)
                              exact R_vret rfl rfl ⟨hI, fr, ⟨by omega, by omega, by omega, by omega, by omega, by omega, by omega, by omega, by omega, by omega, hF, hE, trivial⟩, rfl⟩
                            · refine R_aload_n (k := 0) rfl rfl rfl ?_
                              refine R_getf_r (j := 22) rfl ft_9_46 sh_96 rfl ?_
                              refine R_aload_n (k := 0) rfl rfl rfl ?_
                              refine R_getf_r (j := 17) rfl ft_9_40 sh_96 rfl ?_
                              refine R_iload_n (k := 3) rfl rfl rfl ?_
                              refine R_iald rfl sh_105 ⟨by omega, by omega⟩ ?_
                              refine N_eq (fun x1450 e1451 => ?_)
                              have q1452 : 0 ≤ x1450.toInt ∧ x1450.toInt ≤ 5 := by rw [e1451]; exact hI.1 105 _
                              have e1453 : x1450 = (evOf h).2.2.2.1 x1430.toNatClampNeg := by rw [e1451]; exact congrFun (congrArg (fun q : EV => q.2.2.2.1) hE) _
                              refine R_iald rfl sh_107 ⟨by omega, by omega⟩ ?_
                              refine N_eq (fun x1454 e1455 => ?_)
                              have e1456 : x1454 = ((kyOf h1428).1) x1450.toNatClampNeg := by rw [e1455]; exact (ky_at107 (nlt ⟨by omega, by omega⟩)).trans (congrFun (congrArg (fun q : KY => q.1) hK) _)
                              refine R_iconst (-1) rfl rfl ?_
                              refine N_icmp_eq (a := x1454.toInt) (b := (-1)) 218 rfl rfl rfl (by decide) (fun c1457 => ?_) (fun c1457 => ?_)
                              · refine N_iinc (a := x1430.toInt) (c := 1) (fun w => [(3, .inl w), (0, .inr (.inr (.inl 96))), (1, .inl a0), (2, .inl a1)]) rfl rfl (fun _ => rfl) (by decide) rfl (by decide) (by omega) (fun x1458 q1459 => ?_)
                                refine R_goto 166 rfl rfl ?_
                                exact RUN_weak (psub_cons rfl (psub_cons rfl (psub_cons rfl (psub_cons rfl (psub_nil _))))) (ih1431 h1428 x1458 hI fr fl1429 (by omega) (by omega) (by rw [zHolds_s (x := x1430) (x' := x1458) (by omega) (by omega), ← m1437]; refine hK.trans ?_; subst e1456 e1453; simp only [zHold1, eLine] <;> (repeat' split) <;> first | (exfalso; omega) | rfl) (hE) (by omega))
                              · refine R_aload_n (k := 0) rfl rfl rfl ?_
                                refine R_aload_n (k := 0) rfl rfl rfl ?_
                                refine R_getf_r (j := 17) rfl ft_9_40 sh_96 rfl ?_
                                refine R_iload_n (k := 3) rfl rfl rfl ?_
                                refine R_iald rfl sh_105 ⟨by omega, by omega⟩ ?_
                                refine N_eq (fun x1460 e1461 => ?_)
                                have q1462 : 0 ≤ x1460.toInt ∧ x1460.toInt ≤ 5 := by rw [e1461]; exact hI.1 105 _
                                have e1463 : x1460 = (evOf h).2.2.2.1 x1430.toNatClampNeg := by rw [e1461]; exact congrFun (congrArg (fun q : EV => q.2.2.2.1) hE) _
                                refine R_iload_n (k := 1) rfl rfl rfl ?_
                                refine R_callV (v := .inr (.inr (.inl 96))) (As := [.inl x1460, .inl a0]) (rest := []) rfl mt_9_i271 pp_X9_doesRest (by decide) rfl rfl rfl (Nat.le_of_ble_eq_true rfl) (Nat.le_of_ble_eq_true rfl) ((g_X9_doesRest h1428 hI x1460 a0 (by omega) (by omega)).mono (fun r1464 h1465 p1466 => ?_))
                                obtain ⟨rfl, x1468, rfl, (q1469 | q1469 | q1469), zq1467, -⟩ := p1466
                                · rw [hE] at zq1467
                                  exfalso; omega
                                · rw [hE] at zq1467
                                  show RUN d_X9_goSecond 200 [(3, .inl x1430), (0, .inr (.inr (.inl 96))), (1, .inl a0), (2, .inl a1)] [.inl x1468] h1428 _
                                  refine N_if_ne (a := x1468.toInt) 218 rfl rfl rfl (fun c1470 => ?_) (fun c1470 => ?_)
                                  · exfalso; omega
                                  · refine R_aload_n (k := 0) rfl rfl rfl ?_
                                    refine R_getf_r (j := 22) rfl ft_9_46 sh_96 rfl ?_
                                    refine R_aload_n (k := 0) rfl rfl rfl ?_
                                    refine R_getf_r (j := 17) rfl ft_9_40 sh_96 rfl ?_
                                    refine R_iload_n (k := 3) rfl rfl rfl ?_
                                    refine R_iald rfl sh_105 ⟨by omega, by omega⟩ ?_
                                    refine N_eq (fun x1471 e1472 => ?_)
                                    have q1473 : 0 ≤ x1471.toInt ∧ x1471.toInt ≤ 5 := by rw [e1472]; exact hI.1 105 _
                                    have e1474 : x1471 = (evOf h).2.2.2.1 x1430.toNatClampNeg := by rw [e1472]; exact congrFun (congrArg (fun q : EV => q.2.2.2.1) hE) _
                                    refine R_dup2 rfl ?_
                                    refine R_iald rfl sh_107 ⟨by omega, by omega⟩ ?_
                                    refine N_eq (fun x1475 e1476 => ?_)
                                    have e1477 : x1475 = ((kyOf h1428).1) x1471.toNatClampNeg := by rw [e1476]; exact (ky_at107 (nlt ⟨by omega, by omega⟩)).trans (congrFun (congrArg (fun q : KY => q.1) hK) _)
                                    refine R_iconst 1 rfl rfl ?_
                                    have b1478 := i_rng x1475
                                    refine R_iadd rfl ?_
                                    refine N_eq (fun x1479 e1480 => ?_)
                                    refine K_iast (a := x1471.toInt) (lo := (-2147483648)) (hi' := 2147483647) rfl sh_107 rfl ⟨by omega, by omega⟩ hI (by decide) rfl (i_rng _) fr (by decide) (fun h1481 g1482 hI fr => ?_)
                                    have fl1429 : FR [107] h870 h1481 := by rw [g1482]; exact FR_wI _ _ fl1429 (by decide)
                                    have fl871 : FR [96, 107, 108, 109, 117, 118] h851 h1481 := by rw [g1482]; exact FR_wI _ _ fl871 (by decide)
                                    have fl829 : FR [96, 107, 108, 109, 117, 118] h812 h1481 := by rw [g1482]; exact FR_wI _ _ fl829 (by decide)
                                    have s1483 : (h1481.1 96 41).toInt = (h1428.1 96 41).toInt := by rw [g1482, wI_ne _ _ _ (by decide)]
                                    have s1484 : (h1481.1 96 42).toInt = (h1428.1 96 42).toInt := by rw [g1482, wI_ne _ _ _ (by decide)]
                                    have s1485 : (h1481.1 96 19).toInt = (h1428.1 96 19).toInt := by rw [g1482, wI_ne _ _ _ (by decide)]
                                    have s1486 : (h1481.1 96 18).toInt = (h1428.1 96 18).toInt := by rw [g1482, wI_ne _ _ _ (by decide)]
                                    have s1487 : (h1481.1 96 20).toInt = (h1428.1 96 20).toInt := by rw [g1482, wI_ne _ _ _ (by decide)]
                                    have s1488 : (h1481.1 96 46).toInt = (h1428.1 96 46).toInt := by rw [g1482, wI_ne _ _ _ (by decide)]
                                    have s1489 : (h1481.1 96 44).toInt = (h1428.1 96 44).toInt := by rw [g1482, wI_ne _ _ _ (by decide)]
                                    have s1490 : (h1481.1 96 47).toInt = (h1428.1 96 47).toInt := by rw [g1482, wI_ne _ _ _ (by decide)]
                                    have s1491 : (h1481.1 96 48).toInt = (h1428.1 96 48).toInt := by rw [g1482, wI_ne _ _ _ (by decide)]
                                    have s1492 : (h1481.1 96 51).toInt = (h1428.1 96 51).toInt := by rw [g1482, wI_ne _ _ _ (by decide)]
                                    have hK : kyOf h1481 = (upd ((kyOf h1428).1) x1471.toNatClampNeg x1479, (kyOf h1428).2.1, (kyOf h1428).2.2.1, (kyOf h1428).2.2.2) := by rw [g1482, ky_107 (nlt ⟨by omega, by omega⟩), hK] <;> rfl
                                    have hE : evOf h1481 = evOf h := by rw [g1482, ev_o (by decide), hE]
                                    refine N_iinc (a := x1430.toInt) (c := 1) (fun w => [(3, .inl w), (0, .inr (.inr (.inl 96))), (1, .inl a0), (2, .inl a1)]) rfl rfl (fun _ => rfl) (by decide) rfl (by decide) (by omega) (fun x1493 q1494 => ?_)
                                    refine R_goto 166 rfl rfl ?_
                                    exact RUN_weak (psub_cons rfl (psub_cons rfl (psub_cons rfl (psub_cons rfl (psub_nil _))))) (ih1431 h1481 x1493 hI fr fl1429 (by omega) (by omega) (by rw [zHolds_s (x := x1430) (x' := x1493) (by omega) (by omega), ← m1437]; refine hK.trans ?_; subst e1480 e1477 e1474 e1463 e1456 e1453; simp only [zHold1, eLine] <;> (repeat' split) <;> first | (exfalso; omega) | rfl) (hE) (by omega))
                                · rw [hE] at zq1467
                                  show RUN d_X9_goSecond 200 [(3, .inl x1430), (0, .inr (.inr (.inl 96))), (1, .inl a0), (2, .inl a1)] [.inl x1468] h1428 _
                                  refine N_if_ne (a := x1468.toInt) 218 rfl rfl rfl (fun c1495 => ?_) (fun c1495 => ?_)
                                  · refine N_iinc (a := x1430.toInt) (c := 1) (fun w => [(3, .inl w), (0, .inr (.inr (.inl 96))), (1, .inl a0), (2, .inl a1)]) rfl rfl (fun _ => rfl) (by decide) rfl (by decide) (by omega) (fun x1496 q1497 => ?_)
                                    refine R_goto 166 rfl rfl ?_
                                    exact RUN_weak (psub_cons rfl (psub_cons rfl (psub_cons rfl (psub_cons rfl (psub_nil _))))) (ih1431 h1428 x1496 hI fr fl1429 (by omega) (by omega) (by rw [zHolds_s (x := x1430) (x' := x1496) (by omega) (by omega), ← m1437]; refine hK.trans ?_; subst e1463 e1456 e1453; simp only [zHold1, eLine] <;> (repeat' split) <;> first | (exfalso; omega) | rfl) (hE) (by omega))
                                  · exfalso; omega
                        have k1498 : (0 : Int32).toInt = 0 := by decide
                        exact lp1427 _ h870 (0 : Int32) hI fr (FR.rf _ _) (by decide) (by omega) (by rw [hK]; rfl) (hE) (Nat.lt_succ_self _)
                      · exfalso; omega
              · refine R_iload_n (k := 2) rfl rfl rfl ?_
                refine N_if_ne (a := a1.toInt) 82 rfl rfl rfl (fun c1499 => ?_) (fun c1499 => ?_)
                · have hK : kyOf h870 = zMid (evOf h) a0 a1 (kyOf h) := by
                    unfold zMid
                    split
                    · first | (exfalso; omega) | (have hA := m890; rw [show (x872.toInt + 1).toNat = 0 by omega] at hA; exact hA)
                    · exact m891 (by omega)
                  refine R_aload_n (k := 0) rfl rfl rfl ?_
                  refine R_getf_i (j := 18) rfl ft_9_253 sh_96 rfl ?_
                  refine N_if_le (a := (h870.1 96 18).toInt) 164 rfl rfl rfl (fun c1500 => ?_) (fun c1500 => ?_)
                  · exfalso; omega
                  · refine R_aload_n (k := 0) rfl rfl rfl ?_
                    refine R_getf_r (j := 22) rfl ft_9_46 sh_96 rfl ?_
                    refine R_aload_n (k := 0) rfl rfl rfl ?_
                    refine R_getf_r (j := 17) rfl ft_9_40 sh_96 rfl ?_
                    refine R_iconst 0 rfl rfl ?_
                    refine R_iald rfl sh_105 (by decide) ?_
                    refine N_eq (fun x1501 e1502 => ?_)
                    have q1503 : 0 ≤ x1501.toInt ∧ x1501.toInt ≤ 5 := by rw [e1502]; exact hI.1 105 _
                    have e1504 : x1501 = (evOf h).2.2.2.1 (0 : Int32).toNatClampNeg := by rw [e1502]; exact congrFun (congrArg (fun q : EV => q.2.2.2.1) hE) _
                    refine R_iald rfl sh_107 ⟨by omega, by omega⟩ ?_
                    refine N_eq (fun x1505 e1506 => ?_)
                    have e1507 : x1505 = ((zMid (evOf h) a0 a1 (kyOf h)).1) x1501.toNatClampNeg := by rw [e1506]; exact (ky_at107 (nlt ⟨by omega, by omega⟩)).trans (congrFun (congrArg (fun q : KY => q.1) hK) _)
                    refine R_iconst (-1) rfl rfl ?_
                    refine N_icmp_ne (a := x1505.toInt) (b := (-1)) 164 rfl rfl rfl (by decide) (fun c1508 => ?_) (fun c1508 => ?_)
                    · have hK : kyOf h870 = zTake (evOf h) a0 (zMid (evOf h) a0 a1 (kyOf h)) := by
                        refine hK.trans ?_
                        subst e1507 e1504
                        simp only [zTake, zTake1, eMany, eLine, eFull] <;> (repeat' split) <;> first | (exfalso; omega) | rfl
                      refine R_iconst 0 rfl rfl ?_
                      refine R_istore_n (k := 3) rfl [(3, .inl 0), (0, .inr (.inr (.inl 96))), (1, .inl a0), (2, .inl a1)] rfl rfl (by decide) ?_
                      have lp1510 : ∀ (n1509 : Nat) (h1511 : PH) (x1513 : Int32), INV h1511 → FR [96, 107, 108, 109, 117, 118] h h1511 → FR [107] h870 h1511 → 0 ≤ x1513.toInt ∧ x1513.toInt ≤ 6 → x1513.toInt ≤ (h870.1 96 18).toInt + 0 → (kyOf h1511 = zHolds (evOf h) a0 x1513.toNatClampNeg (zTake (evOf h) a0 (zMid (evOf h) a0 a1 (kyOf h)))) → (evOf h1511 = evOf h) → (6 - x1513.toInt).toNat < n1509 → RUN d_X9_goSecond 166 [(3, .inl x1513), (0, .inr (.inr (.inl 96))), (1, .inl a0), (2, .inl a1)] [] h1511 (qg_X9_goSecond h a0 a1) := by
                        intro n1509
                        induction n1509 with
                        | zero => intro h1511 x1513 m1515 m1516 m1517 m1518 m1519 m1520 m1521 hz; exact absurd hz (Nat.not_lt_zero _)
                        | succ n1509 ih1514 =>
                          intro h1511 x1513 hI fr fl1512 m1518 m1519 m1520 m1521 hz
                          have s1522 : (h1511.1 96 41).toInt = (h870.1 96 41).toInt := by rw [(fl1512 96 (by decide)).1]
                          have s1523 : (h1511.1 96 42).toInt = (h870.1 96 42).toInt := by rw [(fl1512 96 (by decide)).1]
                          have s1524 : (h1511.1 96 19).toInt = (h870.1 96 19).toInt := by rw [(fl1512 96 (by decide)).1]
                          have s1525 : (h1511.1 96 18).toInt = (h870.1 96 18).toInt := by rw [(fl1512 96 (by decide)).1]
                          have s1526 : (h1511.1 96 20).toInt = (h870.1 96 20).toInt := by rw [(fl1512 96 (by decide)).1]
                          have s1527 : (h1511.1 96 46).toInt = (h870.1 96 46).toInt := by rw [(fl1512 96 (by decide)).1]
                          have s1528 : (h1511.1 96 44).toInt = (h870.1 96 44).toInt := by rw [(fl1512 96 (by decide)).1]
                          have s1529 : (h1511.1 96 47).toInt = (h870.1 96 47).toInt := by rw [(fl1512 96 (by decide)).1]
                          have s1530 : (h1511.1 96 48).toInt = (h870.1 96 48).toInt := by rw [(fl1512 96 (by decide)).1]
                          have s1531 : (h1511.1 96 51).toInt = (h870.1 96 51).toInt := by rw [(fl1512 96 (by decide)).1]
                          have fl871 : FR [96, 107, 108, 109, 117, 118] h851 h1511 := fl871.trans fl1512 (by decide)
                          have fl829 : FR [96, 107, 108, 109, 117, 118] h812 h1511 := fl829.trans fl1512 (by decide)
                          have hE := m1521
                          have hK : kyOf h1511 = kyOf h1511 := rfl
                          refine R_iload_n (k := 3) rfl rfl rfl ?_
                          refine R_aload_n (k := 0) rfl rfl rfl ?_
                          refine R_getf_i (j := 18) rfl ft_9_253 sh_96 rfl ?_
                          refine N_icmp_ge (a := x1513.toInt) (b := (h1511.1 96 18).toInt) 224 rfl rfl rfl rfl (fun c1532 => ?_) (fun c1532 => ?_)
                          · have hF : kyOf h1511 = zSecond (evOf h) a0 a1 (kyOf h) := m1520.trans (by rw [show x1513 = (evOf h).2.2.2.2.1 from i_of _ (by omega)]; rfl)
                            exact R_vret rfl rfl ⟨hI, fr, ⟨by omega, by omega, by omega, by omega, by omega, by omega, by omega, by omega, by omega, by omega, hF, hE, trivial⟩, rfl⟩
                          · refine R_aload_n (k := 0) rfl rfl rfl ?_
                            refine R_getf_r (j := 22) rfl ft_9_46 sh_96 rfl ?_
                            refine R_aload_n (k := 0) rfl rfl rfl ?_
                            refine R_getf_r (j := 17) rfl ft_9_40 sh_96 rfl ?_
                            refine R_iload_n (k := 3) rfl rfl rfl ?_
                            refine R_iald rfl sh_105 ⟨by omega, by omega⟩ ?_
                            refine N_eq (fun x1533 e1534 => ?_)
                            have q1535 : 0 ≤ x1533.toInt ∧ x1533.toInt ≤ 5 := by rw [e1534]; exact hI.1 105 _
                            have e1536 : x1533 = (evOf h).2.2.2.1 x1513.toNatClampNeg := by rw [e1534]; exact congrFun (congrArg (fun q : EV => q.2.2.2.1) hE) _
                            refine R_iald rfl sh_107 ⟨by omega, by omega⟩ ?_
                            refine N_eq (fun x1537 e1538 => ?_)
                            have e1539 : x1537 = ((kyOf h1511).1) x1533.toNatClampNeg := by rw [e1538]; exact (ky_at107 (nlt ⟨by omega, by omega⟩)).trans (congrFun (congrArg (fun q : KY => q.1) hK) _)
                            refine R_iconst (-1) rfl rfl ?_
                            refine N_icmp_eq (a := x1537.toInt) (b := (-1)) 218 rfl rfl rfl (by decide) (fun c1540 => ?_) (fun c1540 => ?_)
                            · refine N_iinc (a := x1513.toInt) (c := 1) (fun w => [(3, .inl w), (0, .inr (.inr (.inl 96))), (1, .inl a0), (2, .inl a1)]) rfl rfl (fun _ => rfl) (by decide) rfl (by decide) (by omega) (fun x1541 q1542 => ?_)
                              refine R_goto 166 rfl rfl ?_
                              exact RUN_weak (psub_cons rfl (psub_cons rfl (psub_cons rfl (psub_cons rfl (psub_nil _))))) (ih1514 h1511 x1541 hI fr fl1512 (by omega) (by omega) (by rw [zHolds_s (x := x1513) (x' := x1541) (by omega) (by omega), ← m1520]; refine hK.trans ?_; subst e1539 e1536; simp only [zHold1, eLine] <;> (repeat' split) <;> first | (exfalso; omega) | rfl) (hE) (by omega))
                            · refine R_aload_n (k := 0) rfl rfl rfl ?_
                              refine R_aload_n (k := 0) rfl rfl rfl ?_
                              refine R_getf_r (j := 17) rfl ft_9_40 sh_96 rfl ?_
                              refine R_iload_n (k := 3) rfl rfl rfl ?_
                              refine R_iald rfl sh_105 ⟨by omega, by omega⟩ ?_
                              refine N_eq (fun x1543 e1544 => ?_)
                              have q1545 : 0 ≤ x1543.toInt ∧ x1543.toInt ≤ 5 := by rw [e1544]; exact hI.1 105 _
                              have e1546 : x1543 = (evOf h).2.2.2.1 x1513.toNatClampNeg := by rw [e1544]; exact congrFun (congrArg (fun q : EV => q.2.2.2.1) hE) _
                              refine R_iload_n (k := 1) rfl rfl rfl ?_
                              have b1547 := i_rng a0
                              refine R_callV (v := .inr (.inr (.inl 96))) (As := [.inl x1543, .inl a0]) (rest := []) rfl mt_9_i271 pp_X9_doesRest (by decide) rfl rfl rfl (Nat.le_of_ble_eq_true rfl) (Nat.le_of_ble_eq_true rfl) ((g_X9_doesRest h1511 hI x1543 a0 (by omega) (by omega)).mono (fun r1548 h1549 p1550 => ?_))
                              obtain ⟨rfl, x1552, rfl, (q1553 | q1553 | q1553), zq1551, -⟩ := p1550
                              · rw [hE] at zq1551
                                show RUN d_X9_goSecond 200 [(3, .inl x1513), (0, .inr (.inr (.inl 96))), (1, .inl a0), (2, .inl a1)] [.inl x1552] h1511 _
                                refine N_if_ne (a := x1552.toInt) 218 rfl rfl rfl (fun c1554 => ?_) (fun c1554 => ?_)
                                · exfalso; omega
                                · refine R_aload_n (k := 0) rfl rfl rfl ?_
                                  refine R_getf_r (j := 22) rfl ft_9_46 sh_96 rfl ?_
                                  refine R_aload_n (k := 0) rfl rfl rfl ?_
                                  refine R_getf_r (j := 17) rfl ft_9_40 sh_96 rfl ?_
                                  refine R_iload_n (k := 3) rfl rfl rfl ?_
                                  refine R_iald rfl sh_105 ⟨by omega, by omega⟩ ?_
                                  refine N_eq (fun x1555 e1556 => ?_)
                                  have q1557 : 0 ≤ x1555.toInt ∧ x1555.toInt ≤ 5 := by rw [e1556]; exact hI.1 105 _
                                  have e1558 : x1555 = (evOf h).2.2.2.1 x1513.toNatClampNeg := by rw [e1556]; exact congrFun (congrArg (fun q : EV => q.2.2.2.1) hE) _
                                  refine R_dup2 rfl ?_
                                  refine R_iald rfl sh_107 ⟨by omega, by omega⟩ ?_
                                  refine N_eq (fun x1559 e1560 => ?_)
                                  have e1561 : x1559 = ((kyOf h1511).1) x1555.toNatClampNeg := by rw [e1560]; exact (ky_at107 (nlt ⟨by omega, by omega⟩)).trans (congrFun (congrArg (fun q : KY => q.1) hK) _)
                                  refine R_iconst 1 rfl rfl ?_
                                  have b1562 := i_rng x1559
                                  refine R_iadd rfl ?_
                                  refine N_eq (fun x1563 e1564 => ?_)
                                  refine K_iast (a := x1555.toInt) (lo := (-2147483648)) (hi' := 2147483647) rfl sh_107 rfl ⟨by omega, by omega⟩ hI (by decide) rfl (i_rng _) fr (by decide) (fun h1565 g1566 hI fr => ?_)
                                  have fl1512 : FR [107] h870 h1565 := by rw [g1566]; exact FR_wI _ _ fl1512 (by decide)
                                  have fl871 : FR [96, 107, 108, 109, 117, 118] h851 h1565 := by rw [g1566]; exact FR_wI _ _ fl871 (by decide)
                                  have fl829 : FR [96, 107, 108, 109, 117, 118] h812 h1565 := by rw [g1566]; exact FR_wI _ _ fl829 (by decide)
                                  have s1567 : (h1565.1 96 41).toInt = (h1511.1 96 41).toInt := by rw [g1566, wI_ne _ _ _ (by decide)]
                                  have s1568 : (h1565.1 96 42).toInt = (h1511.1 96 42).toInt := by rw [g1566, wI_ne _ _ _ (by decide)]
                                  have s1569 : (h1565.1 96 19).toInt = (h1511.1 96 19).toInt := by rw [g1566, wI_ne _ _ _ (by decide)]
                                  have s1570 : (h1565.1 96 18).toInt = (h1511.1 96 18).toInt := by rw [g1566, wI_ne _ _ _ (by decide)]
                                  have s1571 : (h1565.1 96 20).toInt = (h1511.1 96 20).toInt := by rw [g1566, wI_ne _ _ _ (by decide)]
                                  have s1572 : (h1565.1 96 46).toInt = (h1511.1 96 46).toInt := by rw [g1566, wI_ne _ _ _ (by decide)]
                                  have s1573 : (h1565.1 96 44).toInt = (h1511.1 96 44).toInt := by rw [g1566, wI_ne _ _ _ (by decide)]
                                  have s1574 : (h1565.1 96 47).toInt = (h1511.1 96 47).toInt := by rw [g1566, wI_ne _ _ _ (by decide)]
                                  have s1575 : (h1565.1 96 48).toInt = (h1511.1 96 48).toInt := by rw [g1566, wI_ne _ _ _ (by decide)]
                                  have s1576 : (h1565.1 96 51).toInt = (h1511.1 96 51).toInt := by rw [g1566, wI_ne _ _ _ (by decide)]
                                  have hK : kyOf h1565 = (upd ((kyOf h1511).1) x1555.toNatClampNeg x1563, (kyOf h1511).2.1, (kyOf h1511).2.2.1, (kyOf h1511).2.2.2) := by rw [g1566, ky_107 (nlt ⟨by omega, by omega⟩), hK] <;> rfl
                                  have hE : evOf h1565 = evOf h := by rw [g1566, ev_o (by decide), hE]
                                  refine N_iinc (a := x1513.toInt) (c := 1) (fun w => [(3, .inl w), (0, .inr (.inr (.inl 96))), (1, .inl a0), (2, .inl a1)]) rfl rfl (fun _ => rfl) (by decide) rfl (by decide) (by omega) (fun x1577 q1578 => ?_)
                                  refine R_goto 166 rfl rfl ?_
                                  exact RUN_weak (psub_cons rfl (psub_cons rfl (psub_cons rfl (psub_cons rfl (psub_nil _))))) (ih1514 h1565 x1577 hI fr fl1512 (by omega) (by omega) (by rw [zHolds_s (x := x1513) (x' := x1577) (by omega) (by omega), ← m1520]; refine hK.trans ?_; subst e1564 e1561 e1558 e1546 e1539 e1536; simp only [zHold1, eLine] <;> (repeat' split) <;> first | (exfalso; omega) | rfl) (hE) (by omega))
                              · rw [hE] at zq1551
                                show RUN d_X9_goSecond 200 [(3, .inl x1513), (0, .inr (.inr (.inl 96))), (1, .inl a0), (2, .inl a1)] [.inl x1552] h1511 _
                                refine N_if_ne (a := x1552.toInt) 218 rfl rfl rfl (fun c1579 => ?_) (fun c1579 => ?_)
                                · exfalso; omega
                                · refine R_aload_n (k := 0) rfl rfl rfl ?_
                                  refine R_getf_r (j := 22) rfl ft_9_46 sh_96 rfl ?_
                                  refine R_aload_n (k := 0) rfl rfl rfl ?_
                                  refine R_getf_r (j := 17) rfl ft_9_40 sh_96 rfl ?_
                                  refine R_iload_n (k := 3) rfl rfl rfl ?_
                                  refine R_iald rfl sh_105 ⟨by omega, by omega⟩ ?_
                                  refine N_eq (fun x1580 e1581 => ?_)
                                  have q1582 : 0 ≤ x1580.toInt ∧ x1580.toInt ≤ 5 := by rw [e1581]; exact hI.1 105 _
                                  have e1583 : x1580 = (evOf h).2.2.2.1 x1513.toNatClampNeg := by rw [e1581]; exact congrFun (congrArg (fun q : EV => q.2.2.2.1) hE) _
                                  refine R_dup2 rfl ?_
                                  refine R_iald rfl sh_107 ⟨by omega, by omega⟩ ?_
                                  refine N_eq (fun x1584 e1585 => ?_)
                                  have e1586 : x1584 = ((kyOf h1511).1) x1580.toNatClampNeg := by rw [e1585]; exact (ky_at107 (nlt ⟨by omega, by omega⟩)).trans (congrFun (congrArg (fun q : KY => q.1) hK) _)
                                  refine R_iconst 1 rfl rfl ?_
                                  have b1587 := i_rng x1584
                                  refine R_iadd rfl ?_
                                  refine N_eq (fun x1588 e1589 => ?_)
                                  refine K_iast (a := x1580.toInt) (lo := (-2147483648)) (hi' := 2147483647) rfl sh_107 rfl ⟨by omega, by omega⟩ hI (by decide) rfl (i_rng _) fr (by decide) (fun h1590 g1591 hI fr => ?_)
                                  have fl1512 : FR [107] h870 h1590 := by rw [g1591]; exact FR_wI _ _ fl1512 (by decide)
                                  have fl871 : FR [96, 107, 108, 109, 117, 118] h851 h1590 := by rw [g1591]; exact FR_wI _ _ fl871 (by decide)
                                  have fl829 : FR [96, 107, 108, 109, 117, 118] h812 h1590 := by rw [g1591]; exact FR_wI _ _ fl829 (by decide)
                                  have s1592 : (h1590.1 96 41).toInt = (h1511.1 96 41).toInt := by rw [g1591, wI_ne _ _ _ (by decide)]
                                  have s1593 : (h1590.1 96 42).toInt = (h1511.1 96 42).toInt := by rw [g1591, wI_ne _ _ _ (by decide)]
                                  have s1594 : (h1590.1 96 19).toInt = (h1511.1 96 19).toInt := by rw [g1591, wI_ne _ _ _ (by decide)]
                                  have s1595 : (h1590.1 96 18).toInt = (h1511.1 96 18).toInt := by rw [g1591, wI_ne _ _ _ (by decide)]
                                  have s1596 : (h1590.1 96 20).toInt = (h1511.1 96 20).toInt := by rw [g1591, wI_ne _ _ _ (by decide)]
                                  have s1597 : (h1590.1 96 46).toInt = (h1511.1 96 46).toInt := by rw [g1591, wI_ne _ _ _ (by decide)]
                                  have s1598 : (h1590.1 96 44).toInt = (h1511.1 96 44).toInt := by rw [g1591, wI_ne _ _ _ (by decide)]
                                  have s1599 : (h1590.1 96 47).toInt = (h1511.1 96 47).toInt := by rw [g1591, wI_ne _ _ _ (by decide)]
                                  have s1600 : (h1590.1 96 48).toInt = (h1511.1 96 48).toInt := by rw [g1591, wI_ne _ _ _ (by decide)]
                                  have s1601 : (h1590.1 96 51).toInt = (h1511.1 96 51).toInt := by rw [g1591, wI_ne _ _ _ (by decide)]
                                  have hK : kyOf h1590 = (upd ((kyOf h1511).1) x1580.toNatClampNeg x1588, (kyOf h1511).2.1, (kyOf h1511).2.2.1, (kyOf h1511).2.2.2) := by rw [g1591, ky_107 (nlt ⟨by omega, by omega⟩), hK] <;> rfl
                                  have hE : evOf h1590 = evOf h := by rw [g1591, ev_o (by decide), hE]
                                  refine N_iinc (a := x1513.toInt) (c := 1) (fun w => [(3, .inl w), (0, .inr (.inr (.inl 96))), (1, .inl a0), (2, .inl a1)]) rfl rfl (fun _ => rfl) (by decide) rfl (by decide) (by omega) (fun x1602 q1603 => ?_)
                                  refine R_goto 166 rfl rfl ?_
                                  exact RUN_weak (psub_cons rfl (psub_cons rfl (psub_cons rfl (psub_cons rfl (psub_nil _))))) (ih1514 h1590 x1602 hI fr fl1512 (by omega) (by omega) (by rw [zHolds_s (x := x1513) (x' := x1602) (by omega) (by omega), ← m1520]; refine hK.trans ?_; subst e1589 e1586 e1583 e1546 e1539 e1536; simp only [zHold1, eLine] <;> (repeat' split) <;> first | (exfalso; omega) | rfl) (hE) (by omega))
                              · rw [hE] at zq1551
                                show RUN d_X9_goSecond 200 [(3, .inl x1513), (0, .inr (.inr (.inl 96))), (1, .inl a0), (2, .inl a1)] [.inl x1552] h1511 _
                                refine N_if_ne (a := x1552.toInt) 218 rfl rfl rfl (fun c1604 => ?_) (fun c1604 => ?_)
                                · refine N_iinc (a := x1513.toInt) (c := 1) (fun w => [(3, .inl w), (0, .inr (.inr (.inl 96))), (1, .inl a0), (2, .inl a1)]) rfl rfl (fun _ => rfl) (by decide) rfl (by decide) (by omega) (fun x1605 q1606 => ?_)
                                  refine R_goto 166 rfl rfl ?_
                                  exact RUN_weak (psub_cons rfl (psub_cons rfl (psub_cons rfl (psub_cons rfl (psub_nil _))))) (ih1514 h1511 x1605 hI fr fl1512 (by omega) (by omega) (by rw [zHolds_s (x := x1513) (x' := x1605) (by omega) (by omega), ← m1520]; refine hK.trans ?_; subst e1546 e1539 e1536; simp only [zHold1, eLine] <;> (repeat' split) <;> first | (exfalso; omega) | rfl) (hE) (by omega))
                                · exfalso; omega
                      have k1607 : (0 : Int32).toInt = 0 := by decide
                      exact lp1510 _ h870 (0 : Int32) hI fr (FR.rf _ _) (by decide) (by omega) (by rw [hK]; rfl) (hE) (Nat.lt_succ_self _)
                    · refine R_aload_n (k := 0) rfl rfl rfl ?_
                      refine R_aload_n (k := 0) rfl rfl rfl ?_
                      refine R_getf_r (j := 17) rfl ft_9_40 sh_96 rfl ?_
                      refine R_iconst 0 rfl rfl ?_
                      refine R_iald rfl sh_105 (by decide) ?_
                      refine N_eq (fun x1608 e1609 => ?_)
                      have q1610 : 0 ≤ x1608.toInt ∧ x1608.toInt ≤ 5 := by rw [e1609]; exact hI.1 105 _
                      have e1611 : x1608 = (evOf h).2.2.2.1 (0 : Int32).toNatClampNeg := by rw [e1609]; exact congrFun (congrArg (fun q : EV => q.2.2.2.1) hE) _
                      refine R_iload_n (k := 1) rfl rfl rfl ?_
                      have b1612 := i_rng a0
                      refine R_callV (v := .inr (.inr (.inl 96))) (As := [.inl x1608, .inl a0]) (rest := []) rfl mt_9_i271 pp_X9_doesRest (by decide) rfl rfl rfl (Nat.le_of_ble_eq_true rfl) (Nat.le_of_ble_eq_true rfl) ((g_X9_doesRest h870 hI x1608 a0 (by omega) (by omega)).mono (fun r1613 h1614 p1615 => ?_))
                      obtain ⟨rfl, x1617, rfl, (q1618 | q1618 | q1618), zq1616, -⟩ := p1615
                      · rw [hE] at zq1616
                        show RUN d_X9_goSecond 115 [(3, .inl x872), (0, .inr (.inr (.inl 96))), (1, .inl a0), (2, .inl a1)] [.inl x1617] h870 _
                        refine N_if_ne (a := x1617.toInt) 164 rfl rfl rfl (fun c1619 => ?_) (fun c1619 => ?_)
                        · exfalso; omega
                        · refine R_aload_n (k := 0) rfl rfl rfl ?_
                          refine R_getf_r (j := 24) rfl ft_9_52 sh_96 rfl ?_
                          refine R_iconst 0 rfl rfl ?_
                          refine R_iald rfl sh_109 (by decide) ?_
                          refine N_eq (fun x1620 e1621 => ?_)
                          have e1622 : x1620 = ((zMid (evOf h) a0 a1 (kyOf h)).2.2.1) (0 : Int32).toNatClampNeg := by rw [e1621]; exact (ky_at109 (by decide)).trans (congrFun (congrArg (fun q : KY => q.2.2.1) hK) _)
                          refine N_if_le (a := x1620.toInt) 164 rfl rfl rfl (fun c1623 => ?_) (fun c1623 => ?_)
                          · have hK : kyOf h870 = zTake (evOf h) a0 (zMid (evOf h) a0 a1 (kyOf h)) := by
                              refine hK.trans ?_
                              subst e1622 e1611 e1507 e1504
                              simp only [zTake, zTake1, eMany, eLine, eFull] <;> (repeat' split) <;> first | (exfalso; omega) | rfl
                            refine R_iconst 0 rfl rfl ?_
                            refine R_istore_n (k := 3) rfl [(3, .inl 0), (0, .inr (.inr (.inl 96))), (1, .inl a0), (2, .inl a1)] rfl rfl (by decide) ?_
                            have lp1625 : ∀ (n1624 : Nat) (h1626 : PH) (x1628 : Int32), INV h1626 → FR [96, 107, 108, 109, 117, 118] h h1626 → FR [107] h870 h1626 → 0 ≤ x1628.toInt ∧ x1628.toInt ≤ 6 → x1628.toInt ≤ (h870.1 96 18).toInt + 0 → (kyOf h1626 = zHolds (evOf h) a0 x1628.toNatClampNeg (zTake (evOf h) a0 (zMid (evOf h) a0 a1 (kyOf h)))) → (evOf h1626 = evOf h) → (6 - x1628.toInt).toNat < n1624 → RUN d_X9_goSecond 166 [(3, .inl x1628), (0, .inr (.inr (.inl 96))), (1, .inl a0), (2, .inl a1)] [] h1626 (qg_X9_goSecond h a0 a1) := by
                              intro n1624
                              induction n1624 with
                              | zero => intro h1626 x1628 m1630 m1631 m1632 m1633 m1634 m1635 m1636 hz; exact absurd hz (Nat.not_lt_zero _)
                              | succ n1624 ih1629 =>
                                intro h1626 x1628 hI fr fl1627 m1633 m1634 m1635 m1636 hz
                                have s1637 : (h1626.1 96 41).toInt = (h870.1 96 41).toInt := by rw [(fl1627 96 (by decide)).1]
                                have s1638 : (h1626.1 96 42).toInt = (h870.1 96 42).toInt := by rw [(fl1627 96 (by decide)).1]
                                have s1639 : (h1626.1 96 19).toInt = (h870.1 96 19).toInt := by rw [(fl1627 96 (by decide)).1]
                                have s1640 : (h1626.1 96 18).toInt = (h870.1 96 18).toInt := by rw [(fl1627 96 (by decide)).1]
                                have s1641 : (h1626.1 96 20).toInt = (h870.1 96 20).toInt := by rw [(fl1627 96 (by decide)).1]
                                have s1642 : (h1626.1 96 46).toInt = (h870.1 96 46).toInt := by rw [(fl1627 96 (by decide)).1]
                                have s1643 : (h1626.1 96 44).toInt = (h870.1 96 44).toInt := by rw [(fl1627 96 (by decide)).1]
                                have s1644 : (h1626.1 96 47).toInt = (h870.1 96 47).toInt := by rw [(fl1627 96 (by decide)).1]
                                have s1645 : (h1626.1 96 48).toInt = (h870.1 96 48).toInt := by rw [(fl1627 96 (by decide)).1]
                                have s1646 : (h1626.1 96 51).toInt = (h870.1 96 51).toInt := by rw [(fl1627 96 (by decide)).1]
                                have fl871 : FR [96, 107, 108, 109, 117, 118] h851 h1626 := fl871.trans fl1627 (by decide)
                                have fl829 : FR [96, 107, 108, 109, 117, 118] h812 h1626 := fl829.trans fl1627 (by decide)
                                have hE := m1636
                                have hK : kyOf h1626 = kyOf h1626 := rfl
                                refine R_iload_n (k := 3) rfl rfl rfl ?_
                                refine R_aload_n (k := 0) rfl rfl rfl ?_
                                refine R_getf_i (j := 18) rfl ft_9_253 sh_96 rfl ?_
                                refine N_icmp_ge (a := x1628.toInt) (b := (h1626.1 96 18).toInt) 224 rfl rfl rfl rfl (fun c1647 => ?_) (fun c1647 => ?_)
                                · have hF : kyOf h1626 = zSecond (evOf h) a0 a1 (kyOf h) := m1635.trans (by rw [show x1628 = (evOf h).2.2.2.2.1 from i_of _ (by omega)]; rfl)
                                  exact R_vret rfl rfl ⟨hI, fr, ⟨by omega, by omega, by omega, by omega, by omega, by omega, by omega, by omega, by omega, by omega, hF, hE, trivial⟩, rfl⟩
                                · refine R_aload_n (k := 0) rfl rfl rfl ?_
                                  refine R_getf_r (j := 22) rfl ft_9_46 sh_96 rfl ?_
                                  refine R_aload_n (k := 0) rfl rfl rfl ?_
                                  refine R_getf_r (j := 17) rfl ft_9_40 sh_96 rfl ?_
                                  refine R_iload_n (k := 3) rfl rfl rfl ?_
                                  refine R_iald rfl sh_105 ⟨by omega, by omega⟩ ?_
                                  refine N_eq (fun x1648 e1649 => ?_)
                                  have q1650 : 0 ≤ x1648.toInt ∧ x1648.toInt ≤ 5 := by rw [e1649]; exact hI.1 105 _
                                  have e1651 : x1648 = (evOf h).2.2.2.1 x1628.toNatClampNeg := by rw [e1649]; exact congrFun (congrArg (fun q : EV => q.2.2.2.1) hE) _
                                  refine R_iald rfl sh_107 ⟨by omega, by omega⟩ ?_
                                  refine N_eq (fun x1652 e1653 => ?_)
                                  have e1654 : x1652 = ((kyOf h1626).1) x1648.toNatClampNeg := by rw [e1653]; exact (ky_at107 (nlt ⟨by omega, by omega⟩)).trans (congrFun (congrArg (fun q : KY => q.1) hK) _)
                                  refine R_iconst (-1) rfl rfl ?_
                                  refine N_icmp_eq (a := x1652.toInt) (b := (-1)) 218 rfl rfl rfl (by decide) (fun c1655 => ?_) (fun c1655 => ?_)
                                  · refine N_iinc (a := x1628.toInt) (c := 1) (fun w => [(3, .inl w), (0, .inr (.inr (.inl 96))), (1, .inl a0), (2, .inl a1)]) rfl rfl (fun _ => rfl) (by decide) rfl (by decide) (by omega) (fun x1656 q1657 => ?_)
                                    refine R_goto 166 rfl rfl ?_
                                    exact RUN_weak (psub_cons rfl (psub_cons rfl (psub_cons rfl (psub_cons rfl (psub_nil _))))) (ih1629 h1626 x1656 hI fr fl1627 (by omega) (by omega) (by rw [zHolds_s (x := x1628) (x' := x1656) (by omega) (by omega), ← m1635]; refine hK.trans ?_; subst e1654 e1651; simp only [zHold1, eLine] <;> (repeat' split) <;> first | (exfalso; omega) | rfl) (hE) (by omega))
                                  · refine R_aload_n (k := 0) rfl rfl rfl ?_
                                    refine R_aload_n (k := 0) rfl rfl rfl ?_
                                    refine R_getf_r (j := 17) rfl ft_9_40 sh_96 rfl ?_
                                    refine R_iload_n (k := 3) rfl rfl rfl ?_
                                    refine R_iald rfl sh_105 ⟨by omega, by omega⟩ ?_
                                    refine N_eq (fun x1658 e1659 => ?_)
                                    have q1660 : 0 ≤ x1658.toInt ∧ x1658.toInt ≤ 5 := by rw [e1659]; exact hI.1 105 _
                                    have e1661 : x1658 = (evOf h).2.2.2.1 x1628.toNatClampNeg := by rw [e1659]; exact congrFun (congrArg (fun q : EV => q.2.2.2.1) hE) _
                                    refine R_iload_n (k := 1) rfl rfl rfl ?_
                                    have b1662 := i_rng a0
                                    refine R_callV (v := .inr (.inr (.inl 96))) (As := [.inl x1658, .inl a0]) (rest := []) rfl mt_9_i271 pp_X9_doesRest (by decide) rfl rfl rfl (Nat.le_of_ble_eq_true rfl) (Nat.le_of_ble_eq_true rfl) ((g_X9_doesRest h1626 hI x1658 a0 (by omega) (by omega)).mono (fun r1663 h1664 p1665 => ?_))
                                    obtain ⟨rfl, x1667, rfl, (q1668 | q1668 | q1668), zq1666, -⟩ := p1665
                                    · rw [hE] at zq1666
                                      show RUN d_X9_goSecond 200 [(3, .inl x1628), (0, .inr (.inr (.inl 96))), (1, .inl a0), (2, .inl a1)] [.inl x1667] h1626 _
                                      refine N_if_ne (a := x1667.toInt) 218 rfl rfl rfl (fun c1669 => ?_) (fun c1669 => ?_)
                                      · exfalso; omega
                                      · refine R_aload_n (k := 0) rfl rfl rfl ?_
                                        refine R_getf_r (j := 22) rfl ft_9_46 sh_96 rfl ?_
                                        refine R_aload_n (k := 0) rfl rfl rfl ?_
                                        refine R_getf_r (j := 17) rfl ft_9_40 sh_96 rfl ?_
                                        refine R_iload_n (k := 3) rfl rfl rfl ?_
                                        refine R_iald rfl sh_105 ⟨by omega, by omega⟩ ?_
                                        refine N_eq (fun x1670 e1671 => ?_)
                                        have q1672 : 0 ≤ x1670.toInt ∧ x1670.toInt ≤ 5 := by rw [e1671]; exact hI.1 105 _
                                        have e1673 : x1670 = (evOf h).2.2.2.1 x1628.toNatClampNeg := by rw [e1671]; exact congrFun (congrArg (fun q : EV => q.2.2.2.1) hE) _
                                        refine R_dup2 rfl ?_
                                        refine R_iald rfl sh_107 ⟨by omega, by omega⟩ ?_
                                        refine N_eq (fun x1674 e1675 => ?_)
                                        have e1676 : x1674 = ((kyOf h1626).1) x1670.toNatClampNeg := by rw [e1675]; exact (ky_at107 (nlt ⟨by omega, by omega⟩)).trans (congrFun (congrArg (fun q : KY => q.1) hK) _)
                                        refine R_iconst 1 rfl rfl ?_
                                        have b1677 := i_rng x1674
                                        refine R_iadd rfl ?_
                                        refine N_eq (fun x1678 e1679 => ?_)
                                        refine K_iast (a := x1670.toInt) (lo := (-2147483648)) (hi' := 2147483647) rfl sh_107 rfl ⟨by omega, by omega⟩ hI (by decide) rfl (i_rng _) fr (by decide) (fun h1680 g1681 hI fr => ?_)
                                        have fl1627 : FR [107] h870 h1680 := by rw [g1681]; exact FR_wI _ _ fl1627 (by decide)
                                        have fl871 : FR [96, 107, 108, 109, 117, 118] h851 h1680 := by rw [g1681]; exact FR_wI _ _ fl871 (by decide)
                                        have fl829 : FR [96, 107, 108, 109, 117, 118] h812 h1680 := by rw [g1681]; exact FR_wI _ _ fl829 (by decide)
                                        have s1682 : (h1680.1 96 41).toInt = (h1626.1 96 41).toInt := by rw [g1681, wI_ne _ _ _ (by decide)]
                                        have s1683 : (h1680.1 96 42).toInt = (h1626.1 96 42).toInt := by rw [g1681, wI_ne _ _ _ (by decide)]
                                        have s1684 : (h1680.1 96 19).toInt = (h1626.1 96 19).toInt := by rw [g1681, wI_ne _ _ _ (by decide)]
                                        have s1685 : (h1680.1 96 18).toInt = (h1626.1 96 18).toInt := by rw [g1681, wI_ne _ _ _ (by decide)]
                                        have s1686 : (h1680.1 96 20).toInt = (h1626.1 96 20).toInt := by rw [g1681, wI_ne _ _ _ (by decide)]
                                        have s1687 : (h1680.1 96 46).toInt = (h1626.1 96 46).toInt := by rw [g1681, wI_ne _ _ _ (by decide)]
                                        have s1688 : (h1680.1 96 44).toInt = (h1626.1 96 44).toInt := by rw [g1681, wI_ne _ _ _ (by decide)]
                                        have s1689 : (h1680.1 96 47).toInt = (h1626.1 96 47).toInt := by rw [g1681, wI_ne _ _ _ (by decide)]
                                        have s1690 : (h1680.1 96 48).toInt = (h1626.1 96 48).toInt := by rw [g1681, wI_ne _ _ _ (by decide)]
                                        have s1691 : (h1680.1 96 51).toInt = (h1626.1 96 51).toInt := by rw [g1681, wI_ne _ _ _ (by decide)]
                                        have hK : kyOf h1680 = (upd ((kyOf h1626).1) x1670.toNatClampNeg x1678, (kyOf h1626).2.1, (kyOf h1626).2.2.1, (kyOf h1626).2.2.2) := by rw [g1681, ky_107 (nlt ⟨by omega, by omega⟩), hK] <;> rfl
                                        have hE : evOf h1680 = evOf h := by rw [g1681, ev_o (by decide), hE]
                                        refine N_iinc (a := x1628.toInt) (c := 1) (fun w => [(3, .inl w), (0, .inr (.inr (.inl 96))), (1, .inl a0), (2, .inl a1)]) rfl rfl (fun _ => rfl) (by decide) rfl (by decide) (by omega) (fun x1692 q1693 => ?_)
                                        refine R_goto 166 rfl rfl ?_
                                        exact RUN_weak (psub_cons rfl (psub_cons rfl (psub_cons rfl (psub_cons rfl (psub_nil _))))) (ih1629 h1680 x1692 hI fr fl1627 (by omega) (by omega) (by rw [zHolds_s (x := x1628) (x' := x1692) (by omega) (by omega), ← m1635]; refine hK.trans ?_; subst e1679 e1676 e1673 e1661 e1654 e1651; simp only [zHold1, eLine] <;> (repeat' split) <;> first | (exfalso; omega) | rfl) (hE) (by omega))
                                    · rw [hE] at zq1666
                                      exfalso; omega
                                    · rw [hE] at zq1666
                                      exfalso; omega
                            have k1694 : (0 : Int32).toInt = 0 := by decide
                            exact lp1625 _ h870 (0 : Int32) hI fr (FR.rf _ _) (by decide) (by omega) (by rw [hK]; rfl) (hE) (Nat.lt_succ_self _)
                          · refine R_aload_n (k := 0) rfl rfl rfl ?_
                            refine R_getf_r (j := 24) rfl ft_9_52 sh_96 rfl ?_
                            refine R_iconst 0 rfl rfl ?_
                            refine R_dup2 rfl ?_
                            refine R_iald rfl sh_109 (by decide) ?_
                            refine N_eq (fun x1695 e1696 => ?_)
                            have e1697 : x1695 = ((zMid (evOf h) a0 a1 (kyOf h)).2.2.1) (0 : Int32).toNatClampNeg := by rw [e1696]; exact (ky_at109 (by decide)).trans (congrFun (congrArg (fun q : KY => q.2.2.1) hK) _)
                            refine R_iconst 1 rfl rfl ?_
                            have b1698 := i_rng x1695
                            refine R_isub rfl ?_
                            refine N_eq (fun x1699 e1700 => ?_)
                            refine K_iast (a := 0) (lo := (-2147483648)) (hi' := 2147483647) rfl sh_109 (by decide) (by decide) hI (by decide) rfl (i_rng _) fr (by decide) (fun h1701 g1702 hI fr => ?_)
                            have fl871 : FR [96, 107, 108, 109, 117, 118] h851 h1701 := by rw [g1702]; exact FR_wI _ _ fl871 (by decide)
                            have fl829 : FR [96, 107, 108, 109, 117, 118] h812 h1701 := by rw [g1702]; exact FR_wI _ _ fl829 (by decide)
                            have s1703 : (h1701.1 96 41).toInt = (h870.1 96 41).toInt := by rw [g1702, wI_ne _ _ _ (by decide)]
                            have s1704 : (h1701.1 96 42).toInt = (h870.1 96 42).toInt := by rw [g1702, wI_ne _ _ _ (by decide)]
                            have s1705 : (h1701.1 96 19).toInt = (h870.1 96 19).toInt := by rw [g1702, wI_ne _ _ _ (by decide)]
                            have s1706 : (h1701.1 96 18).toInt = (h870.1 96 18).toInt := by rw [g1702, wI_ne _ _ _ (by decide)]
                            have s1707 : (h1701.1 96 20).toInt = (h870.1 96 20).toInt := by rw [g1702, wI_ne _ _ _ (by decide)]
                            have s1708 : (h1701.1 96 46).toInt = (h870.1 96 46).toInt := by rw [g1702, wI_ne _ _ _ (by decide)]
                            have s1709 : (h1701.1 96 44).toInt = (h870.1 96 44).toInt := by rw [g1702, wI_ne _ _ _ (by decide)]
                            have s1710 : (h1701.1 96 47).toInt = (h870.1 96 47).toInt := by rw [g1702, wI_ne _ _ _ (by decide)]
                            have s1711 : (h1701.1 96 48).toInt = (h870.1 96 48).toInt := by rw [g1702, wI_ne _ _ _ (by decide)]
                            have s1712 : (h1701.1 96 51).toInt = (h870.1 96 51).toInt := by rw [g1702, wI_ne _ _ _ (by decide)]
                            have hK : kyOf h1701 = ((zMid (evOf h) a0 a1 (kyOf h)).1, (zMid (evOf h) a0 a1 (kyOf h)).2.1, upd ((zMid (evOf h) a0 a1 (kyOf h)).2.2.1) (0 : Int32).toNatClampNeg x1699, (zMid (evOf h) a0 a1 (kyOf h)).2.2.2) := by rw [g1702, ky_109 (by decide), hK] <;> rfl
                            have hE : evOf h1701 = evOf h := by rw [g1702, ev_o (by decide), hE]
                            refine R_aload_n (k := 0) rfl rfl rfl ?_
                            refine R_getf_r (j := 22) rfl ft_9_46 sh_96 rfl ?_
                            refine R_aload_n (k := 0) rfl rfl rfl ?_
                            refine R_getf_r (j := 17) rfl ft_9_40 sh_96 rfl ?_
                            refine R_iconst 0 rfl rfl ?_
                            refine R_iald rfl sh_105 (by decide) ?_
                            refine N_eq (fun x1713 e1714 => ?_)
                            have q1715 : 0 ≤ x1713.toInt ∧ x1713.toInt ≤ 5 := by rw [e1714]; exact hI.1 105 _
                            have e1716 : x1713 = (evOf h).2.2.2.1 (0 : Int32).toNatClampNeg := by rw [e1714]; exact congrFun (congrArg (fun q : EV => q.2.2.2.1) hE) _
                            refine R_iconst 0 rfl rfl ?_
                            refine K_iast (a := x1713.toInt) (lo := (-2147483648)) (hi' := 2147483647) rfl sh_107 rfl ⟨by omega, by omega⟩ hI (by decide) rfl (by decide) fr (by decide) (fun h1717 g1718 hI fr => ?_)
                            have fl871 : FR [96, 107, 108, 109, 117, 118] h851 h1717 := by rw [g1718]; exact FR_wI _ _ fl871 (by decide)
                            have fl829 : FR [96, 107, 108, 109, 117, 118] h812 h1717 := by rw [g1718]; exact FR_wI _ _ fl829 (by decide)
                            have s1719 : (h1717.1 96 41).toInt = (h1701.1 96 41).toInt := by rw [g1718, wI_ne _ _ _ (by decide)]
                            have s1720 : (h1717.1 96 42).toInt = (h1701.1 96 42).toInt := by rw [g1718, wI_ne _ _ _ (by decide)]
                            have s1721 : (h1717.1 96 19).toInt = (h1701.1 96 19).toInt := by rw [g1718, wI_ne _ _ _ (by decide)]
                            have s1722 : (h1717.1 96 18).toInt = (h1701.1 96 18).toInt := by rw [g1718, wI_ne _ _ _ (by decide)]
                            have s1723 : (h1717.1 96 20).toInt = (h1701.1 96 20).toInt := by rw [g1718, wI_ne _ _ _ (by decide)]
                            have s1724 : (h1717.1 96 46).toInt = (h1701.1 96 46).toInt := by rw [g1718, wI_ne _ _ _ (by decide)]
                            have s1725 : (h1717.1 96 44).toInt = (h1701.1 96 44).toInt := by rw [g1718, wI_ne _ _ _ (by decide)]
                            have s1726 : (h1717.1 96 47).toInt = (h1701.1 96 47).toInt := by rw [g1718, wI_ne _ _ _ (by decide)]
                            have s1727 : (h1717.1 96 48).toInt = (h1701.1 96 48).toInt := by rw [g1718, wI_ne _ _ _ (by decide)]
                            have s1728 : (h1717.1 96 51).toInt = (h1701.1 96 51).toInt := by rw [g1718, wI_ne _ _ _ (by decide)]
                            have hK : kyOf h1717 = (upd ((zMid (evOf h) a0 a1 (kyOf h)).1) x1713.toNatClampNeg (0), (zMid (evOf h) a0 a1 (kyOf h)).2.1, upd ((zMid (evOf h) a0 a1 (kyOf h)).2.2.1) (0 : Int32).toNatClampNeg x1699, (zMid (evOf h) a0 a1 (kyOf h)).2.2.2) := by rw [g1718, ky_107 (nlt ⟨by omega, by omega⟩), hK] <;> rfl
                            have hE : evOf h1717 = evOf h := by rw [g1718, ev_o (by decide), hE]
                            refine R_aload_n (k := 0) rfl rfl rfl ?_
                            refine R_getf_r (j := 23) rfl ft_9_49 sh_96 rfl ?_
                            refine R_aload_n (k := 0) rfl rfl rfl ?_
                            refine R_getf_r (j := 17) rfl ft_9_40 sh_96 rfl ?_
                            refine R_iconst 0 rfl rfl ?_
                            refine R_iald rfl sh_105 (by decide) ?_
                            refine N_eq (fun x1729 e1730 => ?_)
                            have q1731 : 0 ≤ x1729.toInt ∧ x1729.toInt ≤ 5 := by rw [e1730]; exact hI.1 105 _
                            have e1732 : x1729 = (evOf h).2.2.2.1 (0 : Int32).toNatClampNeg := by rw [e1730]; exact congrFun (congrArg (fun q : EV => q.2.2.2.1) hE) _
                            refine R_aload_n (k := 0) rfl rfl rfl ?_
                            refine R_getf_i (j := 20) rfl ft_9_259 sh_96 rfl ?_
                            refine N_eq (fun x1733 e1734 => ?_)
                            have e1735 : x1733 = (evOf h).2.2.2.2.2.1 := by rw [e1734]; exact congrArg (fun q : EV => q.2.2.2.2.2.1) hE
                            refine K_iast (a := x1729.toInt) (lo := (-2147483648)) (hi' := 2147483647) rfl sh_108 rfl ⟨by omega, by omega⟩ hI (by decide) rfl (i_rng _) fr (by decide) (fun h1736 g1737 hI fr => ?_)
                            have fl871 : FR [96, 107, 108, 109, 117, 118] h851 h1736 := by rw [g1737]; exact FR_wI _ _ fl871 (by decide)
                            have fl829 : FR [96, 107, 108, 109, 117, 118] h812 h1736 := by rw [g1737]; exact FR_wI _ _ fl829 (by decide)
                            have s1738 : (h1736.1 96 41).toInt = (h1717.1 96 41).toInt := by rw [g1737, wI_ne _ _ _ (by decide)]
                            have s1739 : (h1736.1 96 42).toInt = (h1717.1 96 42).toInt := by rw [g1737, wI_ne _ _ _ (by decide)]
                            have s1740 : (h1736.1 96 19).toInt = (h1717.1 96 19).toInt := by rw [g1737, wI_ne _ _ _ (by decide)]
                            have s1741 : (h1736.1 96 18).toInt = (h1717.1 96 18).toInt := by rw [g1737, wI_ne _ _ _ (by decide)]
                            have s1742 : (h1736.1 96 20).toInt = (h1717.1 96 20).toInt := by rw [g1737, wI_ne _ _ _ (by decide)]
                            have s1743 : (h1736.1 96 46).toInt = (h1717.1 96 46).toInt := by rw [g1737, wI_ne _ _ _ (by decide)]
                            have s1744 : (h1736.1 96 44).toInt = (h1717.1 96 44).toInt := by rw [g1737, wI_ne _ _ _ (by decide)]
                            have s1745 : (h1736.1 96 47).toInt = (h1717.1 96 47).toInt := by rw [g1737, wI_ne _ _ _ (by decide)]
                            have s1746 : (h1736.1 96 48).toInt = (h1717.1 96 48).toInt := by rw [g1737, wI_ne _ _ _ (by decide)]
                            have s1747 : (h1736.1 96 51).toInt = (h1717.1 96 51).toInt := by rw [g1737, wI_ne _ _ _ (by decide)]
                            have hK : kyOf h1736 = (upd ((zMid (evOf h) a0 a1 (kyOf h)).1) x1713.toNatClampNeg (0), upd ((zMid (evOf h) a0 a1 (kyOf h)).2.1) x1729.toNatClampNeg x1733, upd ((zMid (evOf h) a0 a1 (kyOf h)).2.2.1) (0 : Int32).toNatClampNeg x1699, (zMid (evOf h) a0 a1 (kyOf h)).2.2.2) := by rw [g1737, ky_108 (nlt ⟨by omega, by omega⟩), hK] <;> rfl
                            have hE : evOf h1736 = evOf h := by rw [g1737, ev_o (by decide), hE]
                            have hK : kyOf h1736 = zTake (evOf h) a0 (zMid (evOf h) a0 a1 (kyOf h)) := by
                              refine hK.trans ?_
                              subst e1735 e1732 e1716 e1700 e1697 e1622 e1611 e1507 e1504
                              simp only [zTake, zTake1, eMany, eLine, eFull] <;> (repeat' split) <;> first | (exfalso; omega) | rfl
                            refine R_iconst 0 rfl rfl ?_
                            refine R_istore_n (k := 3) rfl [(3, .inl 0), (0, .inr (.inr (.inl 96))), (1, .inl a0), (2, .inl a1)] rfl rfl (by decide) ?_
                            have lp1749 : ∀ (n1748 : Nat) (h1750 : PH) (x1752 : Int32), INV h1750 → FR [96, 107, 108, 109, 117, 118] h h1750 → FR [107] h1736 h1750 → 0 ≤ x1752.toInt ∧ x1752.toInt ≤ 6 → x1752.toInt ≤ (h1736.1 96 18).toInt + 0 → (kyOf h1750 = zHolds (evOf h) a0 x1752.toNatClampNeg (zTake (evOf h) a0 (zMid (evOf h) a0 a1 (kyOf h)))) → (evOf h1750 = evOf h) → (6 - x1752.toInt).toNat < n1748 → RUN d_X9_goSecond 166 [(3, .inl x1752), (0, .inr (.inr (.inl 96))), (1, .inl a0), (2, .inl a1)] [] h1750 (qg_X9_goSecond h a0 a1) := by
                              intro n1748
                              induction n1748 with
                              | zero => intro h1750 x1752 m1754 m1755 m1756 m1757 m1758 m1759 m1760 hz; exact absurd hz (Nat.not_lt_zero _)
                              | succ n1748 ih1753 =>
                                intro h1750 x1752 hI fr fl1751 m1757 m1758 m1759 m1760 hz
                                have s1761 : (h1750.1 96 41).toInt = (h1736.1 96 41).toInt := by rw [(fl1751 96 (by decide)).1]
                                have s1762 : (h1750.1 96 42).toInt = (h1736.1 96 42).toInt := by rw [(fl1751 96 (by decide)).1]
                                have s1763 : (h1750.1 96 19).toInt = (h1736.1 96 19).toInt := by rw [(fl1751 96 (by decide)).1]
                                have s1764 : (h1750.1 96 18).toInt = (h1736.1 96 18).toInt := by rw [(fl1751 96 (by decide)).1]
                                have s1765 : (h1750.1 96 20).toInt = (h1736.1 96 20).toInt := by rw [(fl1751 96 (by decide)).1]
                                have s1766 : (h1750.1 96 46).toInt = (h1736.1 96 46).toInt := by rw [(fl1751 96 (by decide)).1]
                                have s1767 : (h1750.1 96 44).toInt = (h1736.1 96 44).toInt := by rw [(fl1751 96 (by decide)).1]
                                have s1768 : (h1750.1 96 47).toInt = (h1736.1 96 47).toInt := by rw [(fl1751 96 (by decide)).1]
                                have s1769 : (h1750.1 96 48).toInt = (h1736.1 96 48).toInt := by rw [(fl1751 96 (by decide)).1]
                                have s1770 : (h1750.1 96 51).toInt = (h1736.1 96 51).toInt := by rw [(fl1751 96 (by decide)).1]
                                have fl871 : FR [96, 107, 108, 109, 117, 118] h851 h1750 := fl871.trans fl1751 (by decide)
                                have fl829 : FR [96, 107, 108, 109, 117, 118] h812 h1750 := fl829.trans fl1751 (by decide)
                                have hE := m1760
                                have hK : kyOf h1750 = kyOf h1750 := rfl
                                refine R_iload_n (k := 3) rfl rfl rfl ?_
                                refine R_aload_n (k := 0) rfl rfl rfl ?_
                                refine R_getf_i (j := 18) rfl ft_9_253 sh_96 rfl ?_
                                refine N_icmp_ge (a := x1752.toInt) (b := (h1750.1 96 18).toInt) 224 rfl rfl rfl rfl (fun c1771 => ?_) (fun c1771 => ?_)
                                · have hF : kyOf h1750 = zSecond (evOf h) a0 a1 (kyOf h) := m1759.trans (by rw [show x1752 = (evOf h).2.2.2.2.1 from i_of _ (by omega)]; rfl)
                                  exact R_vret rfl rfl ⟨hI, fr, ⟨by omega, by omega, by omega, by omega, by omega, by omega, by omega, by omega, by omega, by omega, hF, hE, trivial⟩, rfl⟩
                                · refine R_aload_n (k := 0) rfl rfl rfl ?_
                                  refine R_getf_r (j := 22) rfl ft_9_46 sh_96 rfl ?_
                                  refine R_aload_n (k := 0) rfl rfl rfl ?_
                                  refine R_getf_r (j := 17) rfl ft_9_40 sh_96 rfl ?_
                                  refine R_iload_n (k := 3) rfl rfl rfl ?_
                                  refine R_iald rfl sh_105 ⟨by omega, by omega⟩ ?_
                                  refine N_eq (fun x1772 e1773 => ?_)
                                  have q1774 : 0 ≤ x1772.toInt ∧ x1772.toInt ≤ 5 := by rw [e1773]; exact hI.1 105 _
                                  have e1775 : x1772 = (evOf h).2.2.2.1 x1752.toNatClampNeg := by rw [e1773]; exact congrFun (congrArg (fun q : EV => q.2.2.2.1) hE) _
                                  refine R_iald rfl sh_107 ⟨by omega, by omega⟩ ?_
                                  refine N_eq (fun x1776 e1777 => ?_)
                                  have e1778 : x1776 = ((kyOf h1750).1) x1772.toNatClampNeg := by rw [e1777]; exact (ky_at107 (nlt ⟨by omega, by omega⟩)).trans (congrFun (congrArg (fun q : KY => q.1) hK) _)
                                  refine R_iconst (-1) rfl rfl ?_
                                  refine N_icmp_eq (a := x1776.toInt) (b := (-1)) 218 rfl rfl rfl (by decide) (fun c1779 => ?_) (fun c1779 => ?_)
                                  · refine N_iinc (a := x1752.toInt) (c := 1) (fun w => [(3, .inl w), (0, .inr (.inr (.inl 96))), (1, .inl a0), (2, .inl a1)]) rfl rfl (fun _ => rfl) (by decide) rfl (by decide) (by omega) (fun x1780 q1781 => ?_)
                                    refine R_goto 166 rfl rfl ?_
                                    exact RUN_weak (psub_cons rfl (psub_cons rfl (psub_cons rfl (psub_cons rfl (psub_nil _))))) (ih1753 h1750 x1780 hI fr fl1751 (by omega) (by omega) (by rw [zHolds_s (x := x1752) (x' := x1780) (by omega) (by omega), ← m1759]; refine hK.trans ?_; subst e1778 e1775; simp only [zHold1, eLine] <;> (repeat' split) <;> first | (exfalso; omega) | rfl) (hE) (by omega))
                                  · refine R_aload_n (k := 0) rfl rfl rfl ?_
                                    refine R_aload_n (k := 0) rfl rfl rfl ?_
                                    refine R_getf_r (j := 17) rfl ft_9_40 sh_96 rfl ?_
                                    refine R_iload_n (k := 3) rfl rfl rfl ?_
                                    refine R_iald rfl sh_105 ⟨by omega, by omega⟩ ?_
                                    refine N_eq (fun x1782 e1783 => ?_)
                                    have q1784 : 0 ≤ x1782.toInt ∧ x1782.toInt ≤ 5 := by rw [e1783]; exact hI.1 105 _
                                    have e1785 : x1782 = (evOf h).2.2.2.1 x1752.toNatClampNeg := by rw [e1783]; exact congrFun (congrArg (fun q : EV => q.2.2.2.1) hE) _
                                    refine R_iload_n (k := 1) rfl rfl rfl ?_
                                    have b1786 := i_rng a0
                                    refine R_callV (v := .inr (.inr (.inl 96))) (As := [.inl x1782, .inl a0]) (rest := []) rfl mt_9_i271 pp_X9_doesRest (by decide) rfl rfl rfl (Nat.le_of_ble_eq_true rfl) (Nat.le_of_ble_eq_true rfl) ((g_X9_doesRest h1750 hI x1782 a0 (by omega) (by omega)).mono (fun r1787 h1788 p1789 => ?_))
                                    obtain ⟨rfl, x1791, rfl, (q1792 | q1792 | q1792), zq1790, -⟩ := p1789
                                    · rw [hE] at zq1790
                                      show RUN d_X9_goSecond 200 [(3, .inl x1752), (0, .inr (.inr (.inl 96))), (1, .inl a0), (2, .inl a1)] [.inl x1791] h1750 _
                                      refine N_if_ne (a := x1791.toInt) 218 rfl rfl rfl (fun c1793 => ?_) (fun c1793 => ?_)
                                      · exfalso; omega
                                      · refine R_aload_n (k := 0) rfl rfl rfl ?_
                                        refine R_getf_r (j := 22) rfl ft_9_46 sh_96 rfl ?_
                                        refine R_aload_n (k := 0) rfl rfl rfl ?_
                                        refine R_getf_r (j := 17) rfl ft_9_40 sh_96 rfl ?_
                                        refine R_iload_n (k := 3) rfl rfl rfl ?_
                                        refine R_iald rfl sh_105 ⟨by omega, by omega⟩ ?_
                                        refine N_eq (fun x1794 e1795 => ?_)
                                        have q1796 : 0 ≤ x1794.toInt ∧ x1794.toInt ≤ 5 := by rw [e1795]; exact hI.1 105 _
                                        have e1797 : x1794 = (evOf h).2.2.2.1 x1752.toNatClampNeg := by rw [e1795]; exact congrFun (congrArg (fun q : EV => q.2.2.2.1) hE) _
                                        refine R_dup2 rfl ?_
                                        refine R_iald rfl sh_107 ⟨by omega, by omega⟩ ?_
                                        refine N_eq (fun x1798 e1799 => ?_)
                                        have e1800 : x1798 = ((kyOf h1750).1) x1794.toNatClampNeg := by rw [e1799]; exact (ky_at107 (nlt ⟨by omega, by omega⟩)).trans (congrFun (congrArg (fun q : KY => q.1) hK) _)
                                        refine R_iconst 1 rfl rfl ?_
                                        have b1801 := i_rng x1798
                                        refine R_iadd rfl ?_
                                        refine N_eq (fun x1802 e1803 => ?_)
                                        refine K_iast (a := x1794.toInt) (lo := (-2147483648)) (hi' := 2147483647) rfl sh_107 rfl ⟨by omega, by omega⟩ hI (by decide) rfl (i_rng _) fr (by decide) (fun h1804 g1805 hI fr => ?_)
                                        have fl1751 : FR [107] h1736 h1804 := by rw [g1805]; exact FR_wI _ _ fl1751 (by decide)
                                        have fl871 : FR [96, 107, 108, 109, 117, 118] h851 h1804 := by rw [g1805]; exact FR_wI _ _ fl871 (by decide)
                                        have fl829 : FR [96, 107, 108, 109, 117, 118] h812 h1804 := by rw [g1805]; exact FR_wI _ _ fl829 (by decide)
                                        have s1806 : (h1804.1 96 41).toInt = (h1750.1 96 41).toInt := by rw [g1805, wI_ne _ _ _ (by decide)]
                                        have s1807 : (h1804.1 96 42).toInt = (h1750.1 96 42).toInt := by rw [g1805, wI_ne _ _ _ (by decide)]
                                        have s1808 : (h1804.1 96 19).toInt = (h1750.1 96 19).toInt := by rw [g1805, wI_ne _ _ _ (by decide)]
                                        have s1809 : (h1804.1 96 18).toInt = (h1750.1 96 18).toInt := by rw [g1805, wI_ne _ _ _ (by decide)]
                                        have s1810 : (h1804.1 96 20).toInt = (h1750.1 96 20).toInt := by rw [g1805, wI_ne _ _ _ (by decide)]
                                        have s1811 : (h1804.1 96 46).toInt = (h1750.1 96 46).toInt := by rw [g1805, wI_ne _ _ _ (by decide)]
                                        have s1812 : (h1804.1 96 44).toInt = (h1750.1 96 44).toInt := by rw [g1805, wI_ne _ _ _ (by decide)]
                                        have s1813 : (h1804.1 96 47).toInt = (h1750.1 96 47).toInt := by rw [g1805, wI_ne _ _ _ (by decide)]
                                        have s1814 : (h1804.1 96 48).toInt = (h1750.1 96 48).toInt := by rw [g1805, wI_ne _ _ _ (by decide)]
                                        have s1815 : (h1804.1 96 51).toInt = (h1750.1 96 51).toInt := by rw [g1805, wI_ne _ _ _ (by decide)]
                                        have hK : kyOf h1804 = (upd ((kyOf h1750).1) x1794.toNatClampNeg x1802, (kyOf h1750).2.1, (kyOf h1750).2.2.1, (kyOf h1750).2.2.2) := by rw [g1805, ky_107 (nlt ⟨by omega, by omega⟩), hK] <;> rfl
                                        have hE : evOf h1804 = evOf h := by rw [g1805, ev_o (by decide), hE]
                                        refine N_iinc (a := x1752.toInt) (c := 1) (fun w => [(3, .inl w), (0, .inr (.inr (.inl 96))), (1, .inl a0), (2, .inl a1)]) rfl rfl (fun _ => rfl) (by decide) rfl (by decide) (by omega) (fun x1816 q1817 => ?_)
                                        refine R_goto 166 rfl rfl ?_
                                        exact RUN_weak (psub_cons rfl (psub_cons rfl (psub_cons rfl (psub_cons rfl (psub_nil _))))) (ih1753 h1804 x1816 hI fr fl1751 (by omega) (by omega) (by rw [zHolds_s (x := x1752) (x' := x1816) (by omega) (by omega), ← m1759]; refine hK.trans ?_; subst e1803 e1800 e1797 e1785 e1778 e1775; simp only [zHold1, eLine] <;> (repeat' split) <;> first | (exfalso; omega) | rfl) (hE) (by omega))
                                    · rw [hE] at zq1790
                                      exfalso; omega
                                    · rw [hE] at zq1790
                                      exfalso; omega
                            have k1818 : (0 : Int32).toInt = 0 := by decide
                            exact lp1749 _ h1736 (0 : Int32) hI fr (FR.rf _ _) (by decide) (by omega) (by rw [hK]; rfl) (hE) (Nat.lt_succ_self _)
                      · rw [hE] at zq1616
                        show RUN d_X9_goSecond 115 [(3, .inl x872), (0, .inr (.inr (.inl 96))), (1, .inl a0), (2, .inl a1)] [.inl x1617] h870 _
                        refine N_if_ne (a := x1617.toInt) 164 rfl rfl rfl (fun c1819 => ?_) (fun c1819 => ?_)
                        · exfalso; omega
                        · refine R_aload_n (k := 0) rfl rfl rfl ?_
                          refine R_getf_r (j := 24) rfl ft_9_52 sh_96 rfl ?_
                          refine R_iconst 0 rfl rfl ?_
                          refine R_iald rfl sh_109 (by decide) ?_
                          refine N_eq (fun x1820 e1821 => ?_)
                          have e1822 : x1820 = ((zMid (evOf h) a0 a1 (kyOf h)).2.2.1) (0 : Int32).toNatClampNeg := by rw [e1821]; exact (ky_at109 (by decide)).trans (congrFun (congrArg (fun q : KY => q.2.2.1) hK) _)
                          refine N_if_le (a := x1820.toInt) 164 rfl rfl rfl (fun c1823 => ?_) (fun c1823 => ?_)
                          · have hK : kyOf h870 = zTake (evOf h) a0 (zMid (evOf h) a0 a1 (kyOf h)) := by
                              refine hK.trans ?_
                              subst e1822 e1611 e1507 e1504
                              simp only [zTake, zTake1, eMany, eLine, eFull] <;> (repeat' split) <;> first | (exfalso; omega) | rfl
                            refine R_iconst 0 rfl rfl ?_
                            refine R_istore_n (k := 3) rfl [(3, .inl 0), (0, .inr (.inr (.inl 96))), (1, .inl a0), (2, .inl a1)] rfl rfl (by decide) ?_
                            have lp1825 : ∀ (n1824 : Nat) (h1826 : PH) (x1828 : Int32), INV h1826 → FR [96, 107, 108, 109, 117, 118] h h1826 → FR [107] h870 h1826 → 0 ≤ x1828.toInt ∧ x1828.toInt ≤ 6 → x1828.toInt ≤ (h870.1 96 18).toInt + 0 → (kyOf h1826 = zHolds (evOf h) a0 x1828.toNatClampNeg (zTake (evOf h) a0 (zMid (evOf h) a0 a1 (kyOf h)))) → (evOf h1826 = evOf h) → (6 - x1828.toInt).toNat < n1824 → RUN d_X9_goSecond 166 [(3, .inl x1828), (0, .inr (.inr (.inl 96))), (1, .inl a0), (2, .inl a1)] [] h1826 (qg_X9_goSecond h a0 a1) := by
                              intro n1824
                              induction n1824 with
                              | zero => intro h1826 x1828 m1830 m1831 m1832 m1833 m1834 m1835 m1836 hz; exact absurd hz (Nat.not_lt_zero _)
                              | succ n1824 ih1829 =>
                                intro h1826 x1828 hI fr fl1827 m1833 m1834 m1835 m1836 hz
                                have s1837 : (h1826.1 96 41).toInt = (h870.1 96 41).toInt := by rw [(fl1827 96 (by decide)).1]
                                have s1838 : (h1826.1 96 42).toInt = (h870.1 96 42).toInt := by rw [(fl1827 96 (by decide)).1]
                                have s1839 : (h1826.1 96 19).toInt = (h870.1 96 19).toInt := by rw [(fl1827 96 (by decide)).1]
                                have s1840 : (h1826.1 96 18).toInt = (h870.1 96 18).toInt := by rw [(fl1827 96 (by decide)).1]
                                have s1841 : (h1826.1 96 20).toInt = (h870.1 96 20).toInt := by rw [(fl1827 96 (by decide)).1]
                                have s1842 : (h1826.1 96 46).toInt = (h870.1 96 46).toInt := by rw [(fl1827 96 (by decide)).1]
                                have s1843 : (h1826.1 96 44).toInt = (h870.1 96 44).toInt := by rw [(fl1827 96 (by decide)).1]
                                have s1844 : (h1826.1 96 47).toInt = (h870.1 96 47).toInt := by rw [(fl1827 96 (by decide)).1]
                                have s1845 : (h1826.1 96 48).toInt = (h870.1 96 48).toInt := by rw [(fl1827 96 (by decide)).1]
                                have s1846 : (h1826.1 96 51).toInt = (h870.1 96 51).toInt := by rw [(fl1827 96 (by decide)).1]
                                have fl871 : FR [96, 107, 108, 109, 117, 118] h851 h1826 := fl871.trans fl1827 (by decide)
                                have fl829 : FR [96, 107, 108, 109, 117, 118] h812 h1826 := fl829.trans fl1827 (by decide)
                                have hE := m1836
                                have hK : kyOf h1826 = kyOf h1826 := rfl
                                refine R_iload_n (k := 3) rfl rfl rfl ?_
                                refine R_aload_n (k := 0) rfl rfl rfl ?_
                                refine R_getf_i (j := 18) rfl ft_9_253 sh_96 rfl ?_
                                refine N_icmp_ge (a := x1828.toInt) (b := (h1826.1 96 18).toInt) 224 rfl rfl rfl rfl (fun c1847 => ?_) (fun c1847 => ?_)
                                · have hF : kyOf h1826 = zSecond (evOf h) a0 a1 (kyOf h) := m1835.trans (by rw [show x1828 = (evOf h).2.2.2.2.1 from i_of _ (by omega)]; rfl)
                                  exact R_vret rfl rfl ⟨hI, fr, ⟨by omega, by omega, by omega, by omega, by omega, by omega, by omega, by omega, by omega, by omega, hF, hE, trivial⟩, rfl⟩
                                · refine R_aload_n (k := 0) rfl rfl rfl ?_
                                  refine R_getf_r (j := 22) rfl ft_9_46 sh_96 rfl ?_
                                  refine R_aload_n (k := 0) rfl rfl rfl ?_
                                  refine R_getf_r (j := 17) rfl ft_9_40 sh_96 rfl ?_
                                  refine R_iload_n (k := 3) rfl rfl rfl ?_
                                  refine R_iald rfl sh_105 ⟨by omega, by omega⟩ ?_
                                  refine N_eq (fun x1848 e1849 => ?_)
                                  have q1850 : 0 ≤ x1848.toInt ∧ x1848.toInt ≤ 5 := by rw [e1849]; exact hI.1 105 _
                                  have e1851 : x1848 = (evOf h).2.2.2.1 x1828.toNatClampNeg := by rw [e1849]; exact congrFun (congrArg (fun q : EV => q.2.2.2.1) hE) _
                                  refine R_iald rfl sh_107 ⟨by omega, by omega⟩ ?_
                                  refine N_eq (fun x1852 e1853 => ?_)
                                  have e1854 : x1852 = ((kyOf h1826).1) x1848.toNatClampNeg := by rw [e1853]; exact (ky_at107 (nlt ⟨by omega, by omega⟩)).trans (congrFun (congrArg (fun q : KY => q.1) hK) _)
                                  refine R_iconst (-1) rfl rfl ?_
                                  refine N_icmp_eq (a := x1852.toInt) (b := (-1)) 218 rfl rfl rfl (by decide) (fun c1855 => ?_) (fun c1855 => ?_)
                                  · refine N_iinc (a := x1828.toInt) (c := 1) (fun w => [(3, .inl w), (0, .inr (.inr (.inl 96))), (1, .inl a0), (2, .inl a1)]) rfl rfl (fun _ => rfl) (by decide) rfl (by decide) (by omega) (fun x1856 q1857 => ?_)
                                    refine R_goto 166 rfl rfl ?_
                                    exact RUN_weak (psub_cons rfl (psub_cons rfl (psub_cons rfl (psub_cons rfl (psub_nil _))))) (ih1829 h1826 x1856 hI fr fl1827 (by omega) (by omega) (by rw [zHolds_s (x := x1828) (x' := x1856) (by omega) (by omega), ← m1835]; refine hK.trans ?_; subst e1854 e1851; simp only [zHold1, eLine] <;> (repeat' split) <;> first | (exfalso; omega) | rfl) (hE) (by omega))
                                  · refine R_aload_n (k := 0) rfl rfl rfl ?_
                                    refine R_aload_n (k := 0) rfl rfl rfl ?_
                                    refine R_getf_r (j := 17) rfl ft_9_40 sh_96 rfl ?_
                                    refine R_iload_n (k := 3) rfl rfl rfl ?_
                                    refine R_iald rfl sh_105 ⟨by omega, by omega⟩ ?_
                                    refine N_eq (fun x1858 e1859 => ?_)
                                    have q1860 : 0 ≤ x1858.toInt ∧ x1858.toInt ≤ 5 := by rw [e1859]; exact hI.1 105 _
                                    have e1861 : x1858 = (evOf h).2.2.2.1 x1828.toNatClampNeg := by rw [e1859]; exact congrFun (congrArg (fun q : EV => q.2.2.2.1) hE) _
                                    refine R_iload_n (k := 1) rfl rfl rfl ?_
                                    refine R_callV (v := .inr (.inr (.inl 96))) (As := [.inl x1858, .inl a0]) (rest := []) rfl mt_9_i271 pp_X9_doesRest (by decide) rfl rfl rfl (Nat.le_of_ble_eq_true rfl) (Nat.le_of_ble_eq_true rfl) ((g_X9_doesRest h1826 hI x1858 a0 (by omega) (by omega)).mono (fun r1862 h1863 p1864 => ?_))
                                    obtain ⟨rfl, x1866, rfl, (q1867 | q1867 | q1867), zq1865, -⟩ := p1864
                                    · rw [hE] at zq1865
                                      exfalso; omega
                                    · rw [hE] at zq1865
                                      show RUN d_X9_goSecond 200 [(3, .inl x1828), (0, .inr (.inr (.inl 96))), (1, .inl a0), (2, .inl a1)] [.inl x1866] h1826 _
                                      refine N_if_ne (a := x1866.toInt) 218 rfl rfl rfl (fun c1868 => ?_) (fun c1868 => ?_)
                                      · exfalso; omega
                                      · refine R_aload_n (k := 0) rfl rfl rfl ?_
                                        refine R_getf_r (j := 22) rfl ft_9_46 sh_96 rfl ?_
                                        refine R_aload_n (k := 0) rfl rfl rfl ?_
                                        refine R_getf_r (j := 17) rfl ft_9_40 sh_96 rfl ?_
                                        refine R_iload_n (k := 3) rfl rfl rfl ?_
                                        refine R_iald rfl sh_105 ⟨by omega, by omega⟩ ?_
                                        refine N_eq (fun x1869 e1870 => ?_)
                                        have q1871 : 0 ≤ x1869.toInt ∧ x1869.toInt ≤ 5 := by rw [e1870]; exact hI.1 105 _
                                        have e1872 : x1869 = (evOf h).2.2.2.1 x1828.toNatClampNeg := by rw [e1870]; exact congrFun (congrArg (fun q : EV => q.2.2.2.1) hE) _
                                        refine R_dup2 rfl ?_
                                        refine R_iald rfl sh_107 ⟨by omega, by omega⟩ ?_
                                        refine N_eq (fun x1873 e1874 => ?_)
                                        have e1875 : x1873 = ((kyOf h1826).1) x1869.toNatClampNeg := by rw [e1874]; exact (ky_at107 (nlt ⟨by omega, by omega⟩)).trans (congrFun (congrArg (fun q : KY => q.1) hK) _)
                                        refine R_iconst 1 rfl rfl ?_
                                        have b1876 := i_rng x1873
                                        refine R_iadd rfl ?_
                                        refine N_eq (fun x1877 e1878 => ?_)
                                        refine K_iast (a := x1869.toInt) (lo := (-2147483648)) (hi' := 2147483647) rfl sh_107 rfl ⟨by omega, by omega⟩ hI (by decide) rfl (i_rng _) fr (by decide) (fun h1879 g1880 hI fr => ?_)
                                        have fl1827 : FR [107] h870 h1879 := by rw [g1880]; exact FR_wI _ _ fl1827 (by decide)
                                        have fl871 : FR [96, 107, 108, 109, 117, 118] h851 h1879 := by rw [g1880]; exact FR_wI _ _ fl871 (by decide)
                                        have fl829 : FR [96, 107, 108, 109, 117, 118] h812 h1879 := by rw [g1880]; exact FR_wI _ _ fl829 (by decide)
                                        have s1881 : (h1879.1 96 41).toInt = (h1826.1 96 41).toInt := by rw [g1880, wI_ne _ _ _ (by decide)]
                                        have s1882 : (h1879.1 96 42).toInt = (h1826.1 96 42).toInt := by rw [g1880, wI_ne _ _ _ (by decide)]
                                        have s1883 : (h1879.1 96 19).toInt = (h1826.1 96 19).toInt := by rw [g1880, wI_ne _ _ _ (by decide)]
                                        have s1884 : (h1879.1 96 18).toInt = (h1826.1 96 18).toInt := by rw [g1880, wI_ne _ _ _ (by decide)]
                                        have s1885 : (h1879.1 96 20).toInt = (h1826.1 96 20).toInt := by rw [g1880, wI_ne _ _ _ (by decide)]
                                        have s1886 : (h1879.1 96 46).toInt = (h1826.1 96 46).toInt := by rw [g1880, wI_ne _ _ _ (by decide)]
                                        have s1887 : (h1879.1 96 44).toInt = (h1826.1 96 44).toInt := by rw [g1880, wI_ne _ _ _ (by decide)]
                                        have s1888 : (h1879.1 96 47).toInt = (h1826.1 96 47).toInt := by rw [g1880, wI_ne _ _ _ (by decide)]
                                        have s1889 : (h1879.1 96 48).toInt = (h1826.1 96 48).toInt := by rw [g1880, wI_ne _ _ _ (by decide)]
                                        have s1890 : (h1879.1 96 51).toInt = (h1826.1 96 51).toInt := by rw [g1880, wI_ne _ _ _ (by decide)]
                                        have hK : kyOf h1879 = (upd ((kyOf h1826).1) x1869.toNatClampNeg x1877, (kyOf h1826).2.1, (kyOf h1826).2.2.1, (kyOf h1826).2.2.2) := by rw [g1880, ky_107 (nlt ⟨by omega, by omega⟩), hK] <;> rfl
                                        have hE : evOf h1879 = evOf h := by rw [g1880, ev_o (by decide), hE]
                                        refine N_iinc (a := x1828.toInt) (c := 1) (fun w => [(3, .inl w), (0, .inr (.inr (.inl 96))), (1, .inl a0), (2, .inl a1)]) rfl rfl (fun _ => rfl) (by decide) rfl (by decide) (by omega) (fun x1891 q1892 => ?_)
                                        refine R_goto 166 rfl rfl ?_
                                        exact RUN_weak (psub_cons rfl (psub_cons rfl (psub_cons rfl (psub_cons rfl (psub_nil _))))) (ih1829 h1879 x1891 hI fr fl1827 (by omega) (by omega) (by rw [zHolds_s (x := x1828) (x' := x1891) (by omega) (by omega), ← m1835]; refine hK.trans ?_; subst e1878 e1875 e1872 e1861 e1854 e1851; simp only [zHold1, eLine] <;> (repeat' split) <;> first | (exfalso; omega) | rfl) (hE) (by omega))
                                    · rw [hE] at zq1865
                                      show RUN d_X9_goSecond 200 [(3, .inl x1828), (0, .inr (.inr (.inl 96))), (1, .inl a0), (2, .inl a1)] [.inl x1866] h1826 _
                                      refine N_if_ne (a := x1866.toInt) 218 rfl rfl rfl (fun c1893 => ?_) (fun c1893 => ?_)
                                      · refine N_iinc (a := x1828.toInt) (c := 1) (fun w => [(3, .inl w), (0, .inr (.inr (.inl 96))), (1, .inl a0), (2, .inl a1)]) rfl rfl (fun _ => rfl) (by decide) rfl (by decide) (by omega) (fun x1894 q1895 => ?_)
                                        refine R_goto 166 rfl rfl ?_
                                        exact RUN_weak (psub_cons rfl (psub_cons rfl (psub_cons rfl (psub_cons rfl (psub_nil _))))) (ih1829 h1826 x1894 hI fr fl1827 (by omega) (by omega) (by rw [zHolds_s (x := x1828) (x' := x1894) (by omega) (by omega), ← m1835]; refine hK.trans ?_; subst e1861 e1854 e1851; simp only [zHold1, eLine] <;> (repeat' split) <;> first | (exfalso; omega) | rfl) (hE) (by omega))
                                      · exfalso; omega
                            have k1896 : (0 : Int32).toInt = 0 := by decide
                            exact lp1825 _ h870 (0 : Int32) hI fr (FR.rf _ _) (by decide) (by omega) (by rw [hK]; rfl) (hE) (Nat.lt_succ_self _)
                          · refine R_aload_n (k := 0) rfl rfl rfl ?_
                            refine R_getf_r (j := 24) rfl ft_9_52 sh_96 rfl ?_
                            refine R_iconst 0 rfl rfl ?_
                            refine R_dup2 rfl ?_
                            refine R_iald rfl sh_109 (by decide) ?_
                            refine N_eq (fun x1897 e1898 => ?_)
                            have e1899 : x1897 = ((zMid (evOf h) a0 a1 (kyOf h)).2.2.1) (0 : Int32).toNatClampNeg := by rw [e1898]; exact (ky_at109 (by decide)).trans (congrFun (congrArg (fun q : KY => q.2.2.1) hK) _)
                            refine R_iconst 1 rfl rfl ?_
                            have b1900 := i_rng x1897
                            refine R_isub rfl ?_
                            refine N_eq (fun x1901 e1902 => ?_)
                            refine K_iast (a := 0) (lo := (-2147483648)) (hi' := 2147483647) rfl sh_109 (by decide) (by decide) hI (by decide) rfl (i_rng _) fr (by decide) (fun h1903 g1904 hI fr => ?_)
                            have fl871 : FR [96, 107, 108, 109, 117, 118] h851 h1903 := by rw [g1904]; exact FR_wI _ _ fl871 (by decide)
                            have fl829 : FR [96, 107, 108, 109, 117, 118] h812 h1903 := by rw [g1904]; exact FR_wI _ _ fl829 (by decide)
                            have s1905 : (h1903.1 96 41).toInt = (h870.1 96 41).toInt := by rw [g1904, wI_ne _ _ _ (by decide)]
                            have s1906 : (h1903.1 96 42).toInt = (h870.1 96 42).toInt := by rw [g1904, wI_ne _ _ _ (by decide)]
                            have s1907 : (h1903.1 96 19).toInt = (h870.1 96 19).toInt := by rw [g1904, wI_ne _ _ _ (by decide)]
                            have s1908 : (h1903.1 96 18).toInt = (h870.1 96 18).toInt := by rw [g1904, wI_ne _ _ _ (by decide)]
                            have s1909 : (h1903.1 96 20).toInt = (h870.1 96 20).toInt := by rw [g1904, wI_ne _ _ _ (by decide)]
                            have s1910 : (h1903.1 96 46).toInt = (h870.1 96 46).toInt := by rw [g1904, wI_ne _ _ _ (by decide)]
                            have s1911 : (h1903.1 96 44).toInt = (h870.1 96 44).toInt := by rw [g1904, wI_ne _ _ _ (by decide)]
                            have s1912 : (h1903.1 96 47).toInt = (h870.1 96 47).toInt := by rw [g1904, wI_ne _ _ _ (by decide)]
                            have s1913 : (h1903.1 96 48).toInt = (h870.1 96 48).toInt := by rw [g1904, wI_ne _ _ _ (by decide)]
                            have s1914 : (h1903.1 96 51).toInt = (h870.1 96 51).toInt := by rw [g1904, wI_ne _ _ _ (by decide)]
                            have hK : kyOf h1903 = ((zMid (evOf h) a0 a1 (kyOf h)).1, (zMid (evOf h) a0 a1 (kyOf h)).2.1, upd ((zMid (evOf h) a0 a1 (kyOf h)).2.2.1) (0 : Int32).toNatClampNeg x1901, (zMid (evOf h) a0 a1 (kyOf h)).2.2.2) := by rw [g1904, ky_109 (by decide), hK] <;> rfl
                            have hE : evOf h1903 = evOf h := by rw [g1904, ev_o (by decide), hE]
                            refine R_aload_n (k := 0) rfl rfl rfl ?_
                            refine R_getf_r (j := 22) rfl ft_9_46 sh_96 rfl ?_
                            refine R_aload_n (k := 0) rfl rfl rfl ?_
                            refine R_getf_r (j := 17) rfl ft_9_40 sh_96 rfl ?_
                            refine R_iconst 0 rfl rfl ?_
                            refine R_iald rfl sh_105 (by decide) ?_
                            refine N_eq (fun x1915 e1916 => ?_)
                            have q1917 : 0 ≤ x1915.toInt ∧ x1915.toInt ≤ 5 := by rw [e1916]; exact hI.1 105 _
                            have e1918 : x1915 = (evOf h).2.2.2.1 (0 : Int32).toNatClampNeg := by rw [e1916]; exact congrFun (congrArg (fun q : EV => q.2.2.2.1) hE) _
                            refine R_iconst 0 rfl rfl ?_
                            refine K_iast (a := x1915.toInt) (lo := (-2147483648)) (hi' := 2147483647) rfl sh_107 rfl ⟨by omega, by omega⟩ hI (by decide) rfl (by decide) fr (by decide) (fun h1919 g1920 hI fr => ?_)
                            have fl871 : FR [96, 107, 108, 109, 117, 118] h851 h1919 := by rw [g1920]; exact FR_wI _ _ fl871 (by decide)
                            have fl829 : FR [96, 107, 108, 109, 117, 118] h812 h1919 := by rw [g1920]; exact FR_wI _ _ fl829 (by decide)
                            have s1921 : (h1919.1 96 41).toInt = (h1903.1 96 41).toInt := by rw [g1920, wI_ne _ _ _ (by decide)]
                            have s1922 : (h1919.1 96 42).toInt = (h1903.1 96 42).toInt := by rw [g1920, wI_ne _ _ _ (by decide)]
                            have s1923 : (h1919.1 96 19).toInt = (h1903.1 96 19).toInt := by rw [g1920, wI_ne _ _ _ (by decide)]
                            have s1924 : (h1919.1 96 18).toInt = (h1903.1 96 18).toInt := by rw [g1920, wI_ne _ _ _ (by decide)]
                            have s1925 : (h1919.1 96 20).toInt = (h1903.1 96 20).toInt := by rw [g1920, wI_ne _ _ _ (by decide)]
                            have s1926 : (h1919.1 96 46).toInt = (h1903.1 96 46).toInt := by rw [g1920, wI_ne _ _ _ (by decide)]
                            have s1927 : (h1919.1 96 44).toInt = (h1903.1 96 44).toInt := by rw [g1920, wI_ne _ _ _ (by decide)]
                            have s1928 : (h1919.1 96 47).toInt = (h1903.1 96 47).toInt := by rw [g1920, wI_ne _ _ _ (by decide)]
                            have s1929 : (h1919.1 96 48).toInt = (h1903.1 96 48).toInt := by rw [g1920, wI_ne _ _ _ (by decide)]
                            have s1930 : (h1919.1 96 51).toInt = (h1903.1 96 51).toInt := by rw [g1920, wI_ne _ _ _ (by decide)]
                            have hK : kyOf h1919 = (upd ((zMid (evOf h) a0 a1 (kyOf h)).1) x1915.toNatClampNeg (0), (zMid (evOf h) a0 a1 (kyOf h)).2.1, upd ((zMid (evOf h) a0 a1 (kyOf h)).2.2.1) (0 : Int32).toNatClampNeg x1901, (zMid (evOf h) a0 a1 (kyOf h)).2.2.2) := by rw [g1920, ky_107 (nlt ⟨by omega, by omega⟩), hK] <;> rfl
                            have hE : evOf h1919 = evOf h := by rw [g1920, ev_o (by decide), hE]
                            refine R_aload_n (k := 0) rfl rfl rfl ?_
                            refine R_getf_r (j := 23) rfl ft_9_49 sh_96 rfl ?_
                            refine R_aload_n (k := 0) rfl rfl rfl ?_
                            refine R_getf_r (j := 17) rfl ft_9_40 sh_96 rfl ?_
                            refine R_iconst 0 rfl rfl ?_
                            refine R_iald rfl sh_105 (by decide) ?_
                            refine N_eq (fun x1931 e1932 => ?_)
                            have q1933 : 0 ≤ x1931.toInt ∧ x1931.toInt ≤ 5 := by rw [e1932]; exact hI.1 105 _
                            have e1934 : x1931 = (evOf h).2.2.2.1 (0 : Int32).toNatClampNeg := by rw [e1932]; exact congrFun (congrArg (fun q : EV => q.2.2.2.1) hE) _
                            refine R_aload_n (k := 0) rfl rfl rfl ?_
                            refine R_getf_i (j := 20) rfl ft_9_259 sh_96 rfl ?_
                            refine N_eq (fun x1935 e1936 => ?_)
                            have e1937 : x1935 = (evOf h).2.2.2.2.2.1 := by rw [e1936]; exact congrArg (fun q : EV => q.2.2.2.2.2.1) hE
                            refine K_iast (a := x1931.toInt) (lo := (-2147483648)) (hi' := 2147483647) rfl sh_108 rfl ⟨by omega, by omega⟩ hI (by decide) rfl (i_rng _) fr (by decide) (fun h1938 g1939 hI fr => ?_)
                            have fl871 : FR [96, 107, 108, 109, 117, 118] h851 h1938 := by rw [g1939]; exact FR_wI _ _ fl871 (by decide)
                            have fl829 : FR [96, 107, 108, 109, 117, 118] h812 h1938 := by rw [g1939]; exact FR_wI _ _ fl829 (by decide)
                            have s1940 : (h1938.1 96 41).toInt = (h1919.1 96 41).toInt := by rw [g1939, wI_ne _ _ _ (by decide)]
                            have s1941 : (h1938.1 96 42).toInt = (h1919.1 96 42).toInt := by rw [g1939, wI_ne _ _ _ (by decide)]
                            have s1942 : (h1938.1 96 19).toInt = (h1919.1 96 19).toInt := by rw [g1939, wI_ne _ _ _ (by decide)]
                            have s1943 : (h1938.1 96 18).toInt = (h1919.1 96 18).toInt := by rw [g1939, wI_ne _ _ _ (by decide)]
                            have s1944 : (h1938.1 96 20).toInt = (h1919.1 96 20).toInt := by rw [g1939, wI_ne _ _ _ (by decide)]
                            have s1945 : (h1938.1 96 46).toInt = (h1919.1 96 46).toInt := by rw [g1939, wI_ne _ _ _ (by decide)]
                            have s1946 : (h1938.1 96 44).toInt = (h1919.1 96 44).toInt := by rw [g1939, wI_ne _ _ _ (by decide)]
                            have s1947 : (h1938.1 96 47).toInt = (h1919.1 96 47).toInt := by rw [g1939, wI_ne _ _ _ (by decide)]
                            have s1948 : (h1938.1 96 48).toInt = (h1919.1 96 48).toInt := by rw [g1939, wI_ne _ _ _ (by decide)]
                            have s1949 : (h1938.1 96 51).toInt = (h1919.1 96 51).toInt := by rw [g1939, wI_ne _ _ _ (by decide)]
                            have hK : kyOf h1938 = (upd ((zMid (evOf h) a0 a1 (kyOf h)).1) x1915.toNatClampNeg (0), upd ((zMid (evOf h) a0 a1 (kyOf h)).2.1) x1931.toNatClampNeg x1935, upd ((zMid (evOf h) a0 a1 (kyOf h)).2.2.1) (0 : Int32).toNatClampNeg x1901, (zMid (evOf h) a0 a1 (kyOf h)).2.2.2) := by rw [g1939, ky_108 (nlt ⟨by omega, by omega⟩), hK] <;> rfl
                            have hE : evOf h1938 = evOf h := by rw [g1939, ev_o (by decide), hE]
                            have hK : kyOf h1938 = zTake (evOf h) a0 (zMid (evOf h) a0 a1 (kyOf h)) := by
                              refine hK.trans ?_
                              subst e1937 e1934 e1918 e1902 e1899 e1822 e1611 e1507 e1504
                              simp only [zTake, zTake1, eMany, eLine, eFull] <;> (repeat' split) <;> first | (exfalso; omega) | rfl
                            refine R_iconst 0 rfl rfl ?_
                            refine R_istore_n (k := 3) rfl [(3, .inl 0), (0, .inr (.inr (.inl 96))), (1, .inl a0), (2, .inl a1)] rfl rfl (by decide) ?_
                            have lp1951 : ∀ (n1950 : Nat) (h1952 : PH) (x1954 : Int32), INV h1952 → FR [96, 107, 108, 109, 117, 118] h h1952 → FR [107] h1938 h1952 → 0 ≤ x1954.toInt ∧ x1954.toInt ≤ 6 → x1954.toInt ≤ (h1938.1 96 18).toInt + 0 → (kyOf h1952 = zHolds (evOf h) a0 x1954.toNatClampNeg (zTake (evOf h) a0 (zMid (evOf h) a0 a1 (kyOf h)))) → (evOf h1952 = evOf h) → (6 - x1954.toInt).toNat < n1950 → RUN d_X9_goSecond 166 [(3, .inl x1954), (0, .inr (.inr (.inl 96))), (1, .inl a0), (2, .inl a1)] [] h1952 (qg_X9_goSecond h a0 a1) := by
                              intro n1950
                              induction n1950 with
                              | zero => intro h1952 x1954 m1956 m1957 m1958 m1959 m1960 m1961 m1962 hz; exact absurd hz (Nat.not_lt_zero _)
                              | succ n1950 ih1955 =>
                                intro h1952 x1954 hI fr fl1953 m1959 m1960 m1961 m1962 hz
                                have s1963 : (h1952.1 96 41).toInt = (h1938.1 96 41).toInt := by rw [(fl1953 96 (by decide)).1]
                                have s1964 : (h1952.1 96 42).toInt = (h1938.1 96 42).toInt := by rw [(fl1953 96 (by decide)).1]
                                have s1965 : (h1952.1 96 19).toInt = (h1938.1 96 19).toInt := by rw [(fl1953 96 (by decide)).1]
                                have s1966 : (h1952.1 96 18).toInt = (h1938.1 96 18).toInt := by rw [(fl1953 96 (by decide)).1]
                                have s1967 : (h1952.1 96 20).toInt = (h1938.1 96 20).toInt := by rw [(fl1953 96 (by decide)).1]
                                have s1968 : (h1952.1 96 46).toInt = (h1938.1 96 46).toInt := by rw [(fl1953 96 (by decide)).1]
                                have s1969 : (h1952.1 96 44).toInt = (h1938.1 96 44).toInt := by rw [(fl1953 96 (by decide)).1]
                                have s1970 : (h1952.1 96 47).toInt = (h1938.1 96 47).toInt := by rw [(fl1953 96 (by decide)).1]
                                have s1971 : (h1952.1 96 48).toInt = (h1938.1 96 48).toInt := by rw [(fl1953 96 (by decide)).1]
                                have s1972 : (h1952.1 96 51).toInt = (h1938.1 96 51).toInt := by rw [(fl1953 96 (by decide)).1]
                                have fl871 : FR [96, 107, 108, 109, 117, 118] h851 h1952 := fl871.trans fl1953 (by decide)
                                have fl829 : FR [96, 107, 108, 109, 117, 118] h812 h1952 := fl829.trans fl1953 (by decide)
                                have hE := m1962
                                have hK : kyOf h1952 = kyOf h1952 := rfl
                                refine R_iload_n (k := 3) rfl rfl rfl ?_
                                refine R_aload_n (k := 0) rfl rfl rfl ?_
                                refine R_getf_i (j := 18) rfl ft_9_253 sh_96 rfl ?_
                                refine N_icmp_ge (a := x1954.toInt) (b := (h1952.1 96 18).toInt) 224 rfl rfl rfl rfl (fun c1973 => ?_) (fun c1973 => ?_)
                                · have hF : kyOf h1952 = zSecond (evOf h) a0 a1 (kyOf h) := m1961.trans (by rw [show x1954 = (evOf h).2.2.2.2.1 from i_of _ (by omega)]; rfl)
                                  exact R_vret rfl rfl ⟨hI, fr, ⟨by omega, by omega, by omega, by omega, by omega, by omega, by omega, by omega, by omega, by omega, hF, hE, trivial⟩, rfl⟩
                                · refine R_aload_n (k := 0) rfl rfl rfl ?_
                                  refine R_getf_r (j := 22) rfl ft_9_46 sh_96 rfl ?_
                                  refine R_aload_n (k := 0) rfl rfl rfl ?_
                                  refine R_getf_r (j := 17) rfl ft_9_40 sh_96 rfl ?_
                                  refine R_iload_n (k := 3) rfl rfl rfl ?_
                                  refine R_iald rfl sh_105 ⟨by omega, by omega⟩ ?_
                                  refine N_eq (fun x1974 e1975 => ?_)
                                  have q1976 : 0 ≤ x1974.toInt ∧ x1974.toInt ≤ 5 := by rw [e1975]; exact hI.1 105 _
                                  have e1977 : x1974 = (evOf h).2.2.2.1 x1954.toNatClampNeg := by rw [e1975]; exact congrFun (congrArg (fun q : EV => q.2.2.2.1) hE) _
                                  refine R_iald rfl sh_107 ⟨by omega, by omega⟩ ?_
                                  refine N_eq (fun x1978 e1979 => ?_)
                                  have e1980 : x1978 = ((kyOf h1952).1) x1974.toNatClampNeg := by rw [e1979]; exact (ky_at107 (nlt ⟨by omega, by omega⟩)).trans (congrFun (congrArg (fun q : KY => q.1) hK) _)
                                  refine R_iconst (-1) rfl rfl ?_
                                  refine N_icmp_eq (a := x1978.toInt) (b := (-1)) 218 rfl rfl rfl (by decide) (fun c1981 => ?_) (fun c1981 => ?_)
                                  · refine N_iinc (a := x1954.toInt) (c := 1) (fun w => [(3, .inl w), (0, .inr (.inr (.inl 96))), (1, .inl a0), (2, .inl a1)]) rfl rfl (fun _ => rfl) (by decide) rfl (by decide) (by omega) (fun x1982 q1983 => ?_)
                                    refine R_goto 166 rfl rfl ?_
                                    exact RUN_weak (psub_cons rfl (psub_cons rfl (psub_cons rfl (psub_cons rfl (psub_nil _))))) (ih1955 h1952 x1982 hI fr fl1953 (by omega) (by omega) (by rw [zHolds_s (x := x1954) (x' := x1982) (by omega) (by omega), ← m1961]; refine hK.trans ?_; subst e1980 e1977; simp only [zHold1, eLine] <;> (repeat' split) <;> first | (exfalso; omega) | rfl) (hE) (by omega))
                                  · refine R_aload_n (k := 0) rfl rfl rfl ?_
                                    refine R_aload_n (k := 0) rfl rfl rfl ?_
                                    refine R_getf_r (j := 17) rfl ft_9_40 sh_96 rfl ?_
                                    refine R_iload_n (k := 3) rfl rfl rfl ?_
                                    refine R_iald rfl sh_105 ⟨by omega, by omega⟩ ?_
                                    refine N_eq (fun x1984 e1985 => ?_)
                                    have q1986 : 0 ≤ x1984.toInt ∧ x1984.toInt ≤ 5 := by rw [e1985]; exact hI.1 105 _
                                    have e1987 : x1984 = (evOf h).2.2.2.1 x1954.toNatClampNeg := by rw [e1985]; exact congrFun (congrArg (fun q : EV => q.2.2.2.1) hE) _
                                    refine R_iload_n (k := 1) rfl rfl rfl ?_
                                    refine R_callV (v := .inr (.inr (.inl 96))) (As := [.inl x1984, .inl a0]) (rest := []) rfl mt_9_i271 pp_X9_doesRest (by decide) rfl rfl rfl (Nat.le_of_ble_eq_true rfl) (Nat.le_of_ble_eq_true rfl) ((g_X9_doesRest h1952 hI x1984 a0 (by omega) (by omega)).mono (fun r1988 h1989 p1990 => ?_))
                                    obtain ⟨rfl, x1992, rfl, (q1993 | q1993 | q1993), zq1991, -⟩ := p1990
                                    · rw [hE] at zq1991
                                      exfalso; omega
                                    · rw [hE] at zq1991
                                      show RUN d_X9_goSecond 200 [(3, .inl x1954), (0, .inr (.inr (.inl 96))), (1, .inl a0), (2, .inl a1)] [.inl x1992] h1952 _
                                      refine N_if_ne (a := x1992.toInt) 218 rfl rfl rfl (fun c1994 => ?_) (fun c1994 => ?_)
                                      · exfalso; omega
                                      · refine R_aload_n (k := 0) rfl rfl rfl ?_
                                        refine R_getf_r (j := 22) rfl ft_9_46 sh_96 rfl ?_
                                        refine R_aload_n (k := 0) rfl rfl rfl ?_
                                        refine R_getf_r (j := 17) rfl ft_9_40 sh_96 rfl ?_
                                        refine R_iload_n (k := 3) rfl rfl rfl ?_
                                        refine R_iald rfl sh_105 ⟨by omega, by omega⟩ ?_
                                        refine N_eq (fun x1995 e1996 => ?_)
                                        have q1997 : 0 ≤ x1995.toInt ∧ x1995.toInt ≤ 5 := by rw [e1996]; exact hI.1 105 _
                                        have e1998 : x1995 = (evOf h).2.2.2.1 x1954.toNatClampNeg := by rw [e1996]; exact congrFun (congrArg (fun q : EV => q.2.2.2.1) hE) _
                                        refine R_dup2 rfl ?_
                                        refine R_iald rfl sh_107 ⟨by omega, by omega⟩ ?_
                                        refine N_eq (fun x1999 e2000 => ?_)
                                        have e2001 : x1999 = ((kyOf h1952).1) x1995.toNatClampNeg := by rw [e2000]; exact (ky_at107 (nlt ⟨by omega, by omega⟩)).trans (congrFun (congrArg (fun q : KY => q.1) hK) _)
                                        refine R_iconst 1 rfl rfl ?_
                                        have b2002 := i_rng x1999
                                        refine R_iadd rfl ?_
                                        refine N_eq (fun x2003 e2004 => ?_)
                                        refine K_iast (a := x1995.toInt) (lo := (-2147483648)) (hi' := 2147483647) rfl sh_107 rfl ⟨by omega, by omega⟩ hI (by decide) rfl (i_rng _) fr (by decide) (fun h2005 g2006 hI fr => ?_)
                                        have fl1953 : FR [107] h1938 h2005 := by rw [g2006]; exact FR_wI _ _ fl1953 (by decide)
                                        have fl871 : FR [96, 107, 108, 109, 117, 118] h851 h2005 := by rw [g2006]; exact FR_wI _ _ fl871 (by decide)
                                        have fl829 : FR [96, 107, 108, 109, 117, 118] h812 h2005 := by rw [g2006]; exact FR_wI _ _ fl829 (by decide)
                                        have s2007 : (h2005.1 96 41).toInt = (h1952.1 96 41).toInt := by rw [g2006, wI_ne _ _ _ (by decide)]
                                        have s2008 : (h2005.1 96 42).toInt = (h1952.1 96 42).toInt := by rw [g2006, wI_ne _ _ _ (by decide)]
                                        have s2009 : (h2005.1 96 19).toInt = (h1952.1 96 19).toInt := by rw [g2006, wI_ne _ _ _ (by decide)]
                                        have s2010 : (h2005.1 96 18).toInt = (h1952.1 96 18).toInt := by rw [g2006, wI_ne _ _ _ (by decide)]
                                        have s2011 : (h2005.1 96 20).toInt = (h1952.1 96 20).toInt := by rw [g2006, wI_ne _ _ _ (by decide)]
                                        have s2012 : (h2005.1 96 46).toInt = (h1952.1 96 46).toInt := by rw [g2006, wI_ne _ _ _ (by decide)]
                                        have s2013 : (h2005.1 96 44).toInt = (h1952.1 96 44).toInt := by rw [g2006, wI_ne _ _ _ (by decide)]
                                        have s2014 : (h2005.1 96 47).toInt = (h1952.1 96 47).toInt := by rw [g2006, wI_ne _ _ _ (by decide)]
                                        have s2015 : (h2005.1 96 48).toInt = (h1952.1 96 48).toInt := by rw [g2006, wI_ne _ _ _ (by decide)]
                                        have s2016 : (h2005.1 96 51).toInt = (h1952.1 96 51).toInt := by rw [g2006, wI_ne _ _ _ (by decide)]
                                        have hK : kyOf h2005 = (upd ((kyOf h1952).1) x1995.toNatClampNeg x2003, (kyOf h1952).2.1, (kyOf h1952).2.2.1, (kyOf h1952).2.2.2) := by rw [g2006, ky_107 (nlt ⟨by omega, by omega⟩), hK] <;> rfl
                                        have hE : evOf h2005 = evOf h := by rw [g2006, ev_o (by decide), hE]
                                        refine N_iinc (a := x1954.toInt) (c := 1) (fun w => [(3, .inl w), (0, .inr (.inr (.inl 96))), (1, .inl a0), (2, .inl a1)]) rfl rfl (fun _ => rfl) (by decide) rfl (by decide) (by omega) (fun x2017 q2018 => ?_)
                                        refine R_goto 166 rfl rfl ?_
                                        exact RUN_weak (psub_cons rfl (psub_cons rfl (psub_cons rfl (psub_cons rfl (psub_nil _))))) (ih1955 h2005 x2017 hI fr fl1953 (by omega) (by omega) (by rw [zHolds_s (x := x1954) (x' := x2017) (by omega) (by omega), ← m1961]; refine hK.trans ?_; subst e2004 e2001 e1998 e1987 e1980 e1977; simp only [zHold1, eLine] <;> (repeat' split) <;> first | (exfalso; omega) | rfl) (hE) (by omega))
                                    · rw [hE] at zq1991
                                      show RUN d_X9_goSecond 200 [(3, .inl x1954), (0, .inr (.inr (.inl 96))), (1, .inl a0), (2, .inl a1)] [.inl x1992] h1952 _
                                      refine N_if_ne (a := x1992.toInt) 218 rfl rfl rfl (fun c2019 => ?_) (fun c2019 => ?_)
                                      · refine N_iinc (a := x1954.toInt) (c := 1) (fun w => [(3, .inl w), (0, .inr (.inr (.inl 96))), (1, .inl a0), (2, .inl a1)]) rfl rfl (fun _ => rfl) (by decide) rfl (by decide) (by omega) (fun x2020 q2021 => ?_)
                                        refine R_goto 166 rfl rfl ?_
                                        exact RUN_weak (psub_cons rfl (psub_cons rfl (psub_cons rfl (psub_cons rfl (psub_nil _))))) (ih1955 h1952 x2020 hI fr fl1953 (by omega) (by omega) (by rw [zHolds_s (x := x1954) (x' := x2020) (by omega) (by omega), ← m1961]; refine hK.trans ?_; subst e1987 e1980 e1977; simp only [zHold1, eLine] <;> (repeat' split) <;> first | (exfalso; omega) | rfl) (hE) (by omega))
                                      · exfalso; omega
                            have k2022 : (0 : Int32).toInt = 0 := by decide
                            exact lp1951 _ h1938 (0 : Int32) hI fr (FR.rf _ _) (by decide) (by omega) (by rw [hK]; rfl) (hE) (Nat.lt_succ_self _)
                      · rw [hE] at zq1616
                        show RUN d_X9_goSecond 115 [(3, .inl x872), (0, .inr (.inr (.inl 96))), (1, .inl a0), (2, .inl a1)] [.inl x1617] h870 _
                        refine N_if_ne (a := x1617.toInt) 164 rfl rfl rfl (fun c2023 => ?_) (fun c2023 => ?_)
                        · have hK : kyOf h870 = zTake (evOf h) a0 (zMid (evOf h) a0 a1 (kyOf h)) := by
                            refine hK.trans ?_
                            subst e1611 e1507 e1504
                            simp only [zTake, zTake1, eMany, eLine, eFull] <;> (repeat' split) <;> first | (exfalso; omega) | rfl
                          refine R_iconst 0 rfl rfl ?_
                          refine R_istore_n (k := 3) rfl [(3, .inl 0), (0, .inr (.inr (.inl 96))), (1, .inl a0), (2, .inl a1)] rfl rfl (by decide) ?_
                          have lp2025 : ∀ (n2024 : Nat) (h2026 : PH) (x2028 : Int32), INV h2026 → FR [96, 107, 108, 109, 117, 118] h h2026 → FR [107] h870 h2026 → 0 ≤ x2028.toInt ∧ x2028.toInt ≤ 6 → x2028.toInt ≤ (h870.1 96 18).toInt + 0 → (kyOf h2026 = zHolds (evOf h) a0 x2028.toNatClampNeg (zTake (evOf h) a0 (zMid (evOf h) a0 a1 (kyOf h)))) → (evOf h2026 = evOf h) → (6 - x2028.toInt).toNat < n2024 → RUN d_X9_goSecond 166 [(3, .inl x2028), (0, .inr (.inr (.inl 96))), (1, .inl a0), (2, .inl a1)] [] h2026 (qg_X9_goSecond h a0 a1) := by
                            intro n2024
                            induction n2024 with
                            | zero => intro h2026 x2028 m2030 m2031 m2032 m2033 m2034 m2035 m2036 hz; exact absurd hz (Nat.not_lt_zero _)
                            | succ n2024 ih2029 =>
                              intro h2026 x2028 hI fr fl2027 m2033 m2034 m2035 m2036 hz
                              have s2037 : (h2026.1 96 41).toInt = (h870.1 96 41).toInt := by rw [(fl2027 96 (by decide)).1]
                              have s2038 : (h2026.1 96 42).toInt = (h870.1 96 42).toInt := by rw [(fl2027 96 (by decide)).1]
                              have s2039 : (h2026.1 96 19).toInt = (h870.1 96 19).toInt := by rw [(fl2027 96 (by decide)).1]
                              have s2040 : (h2026.1 96 18).toInt = (h870.1 96 18).toInt := by rw [(fl2027 96 (by decide)).1]
                              have s2041 : (h2026.1 96 20).toInt = (h870.1 96 20).toInt := by rw [(fl2027 96 (by decide)).1]
                              have s2042 : (h2026.1 96 46).toInt = (h870.1 96 46).toInt := by rw [(fl2027 96 (by decide)).1]
                              have s2043 : (h2026.1 96 44).toInt = (h870.1 96 44).toInt := by rw [(fl2027 96 (by decide)).1]
                              have s2044 : (h2026.1 96 47).toInt = (h870.1 96 47).toInt := by rw [(fl2027 96 (by decide)).1]
                              have s2045 : (h2026.1 96 48).toInt = (h870.1 96 48).toInt := by rw [(fl2027 96 (by decide)).1]
                              have s2046 : (h2026.1 96 51).toInt = (h870.1 96 51).toInt := by rw [(fl2027 96 (by decide)).1]
                              have fl871 : FR [96, 107, 108, 109, 117, 118] h851 h2026 := fl871.trans fl2027 (by decide)
                              have fl829 : FR [96, 107, 108, 109, 117, 118] h812 h2026 := fl829.trans fl2027 (by decide)
                              have hE := m2036
                              have hK : kyOf h2026 = kyOf h2026 := rfl
                              refine R_iload_n (k := 3) rfl rfl rfl ?_
                              refine R_aload_n (k := 0) rfl rfl rfl ?_
                              refine R_getf_i (j := 18) rfl ft_9_253 sh_96 rfl ?_
                              refine N_icmp_ge (a := x2028.toInt) (b := (h2026.1 96 18).toInt) 224 rfl rfl rfl rfl (fun c2047 => ?_) (fun c2047 => ?_)
                              · have hF : kyOf h2026 = zSecond (evOf h) a0 a1 (kyOf h) := m2035.trans (by rw [show x2028 = (evOf h).2.2.2.2.1 from i_of _ (by omega)]; rfl)
                                exact R_vret rfl rfl ⟨hI, fr, ⟨by omega, by omega, by omega, by omega, by omega, by omega, by omega, by omega, by omega, by omega, hF, hE, trivial⟩, rfl⟩
                              · refine R_aload_n (k := 0) rfl rfl rfl ?_
                                refine R_getf_r (j := 22) rfl ft_9_46 sh_96 rfl ?_
                                refine R_aload_n (k := 0) rfl rfl rfl ?_
                                refine R_getf_r (j := 17) rfl ft_9_40 sh_96 rfl ?_
                                refine R_iload_n (k := 3) rfl rfl rfl ?_
                                refine R_iald rfl sh_105 ⟨by omega, by omega⟩ ?_
                                refine N_eq (fun x2048 e2049 => ?_)
                                have q2050 : 0 ≤ x2048.toInt ∧ x2048.toInt ≤ 5 := by rw [e2049]; exact hI.1 105 _
                                have e2051 : x2048 = (evOf h).2.2.2.1 x2028.toNatClampNeg := by rw [e2049]; exact congrFun (congrArg (fun q : EV => q.2.2.2.1) hE) _
                                refine R_iald rfl sh_107 ⟨by omega, by omega⟩ ?_
                                refine N_eq (fun x2052 e2053 => ?_)
                                have e2054 : x2052 = ((kyOf h2026).1) x2048.toNatClampNeg := by rw [e2053]; exact (ky_at107 (nlt ⟨by omega, by omega⟩)).trans (congrFun (congrArg (fun q : KY => q.1) hK) _)
                                refine R_iconst (-1) rfl rfl ?_
                                refine N_icmp_eq (a := x2052.toInt) (b := (-1)) 218 rfl rfl rfl (by decide) (fun c2055 => ?_) (fun c2055 => ?_)
                                · refine N_iinc (a := x2028.toInt) (c := 1) (fun w => [(3, .inl w), (0, .inr (.inr (.inl 96))), (1, .inl a0), (2, .inl a1)]) rfl rfl (fun _ => rfl) (by decide) rfl (by decide) (by omega) (fun x2056 q2057 => ?_)
                                  refine R_goto 166 rfl rfl ?_
                                  exact RUN_weak (psub_cons rfl (psub_cons rfl (psub_cons rfl (psub_cons rfl (psub_nil _))))) (ih2029 h2026 x2056 hI fr fl2027 (by omega) (by omega) (by rw [zHolds_s (x := x2028) (x' := x2056) (by omega) (by omega), ← m2035]; refine hK.trans ?_; subst e2054 e2051; simp only [zHold1, eLine] <;> (repeat' split) <;> first | (exfalso; omega) | rfl) (hE) (by omega))
                                · refine R_aload_n (k := 0) rfl rfl rfl ?_
                                  refine R_aload_n (k := 0) rfl rfl rfl ?_
                                  refine R_getf_r (j := 17) rfl ft_9_40 sh_96 rfl ?_
                                  refine R_iload_n (k := 3) rfl rfl rfl ?_
                                  refine R_iald rfl sh_105 ⟨by omega, by omega⟩ ?_
                                  refine N_eq (fun x2058 e2059 => ?_)
                                  have q2060 : 0 ≤ x2058.toInt ∧ x2058.toInt ≤ 5 := by rw [e2059]; exact hI.1 105 _
                                  have e2061 : x2058 = (evOf h).2.2.2.1 x2028.toNatClampNeg := by rw [e2059]; exact congrFun (congrArg (fun q : EV => q.2.2.2.1) hE) _
                                  refine R_iload_n (k := 1) rfl rfl rfl ?_
                                  refine R_callV (v := .inr (.inr (.inl 96))) (As := [.inl x2058, .inl a0]) (rest := []) rfl mt_9_i271 pp_X9_doesRest (by decide) rfl rfl rfl (Nat.le_of_ble_eq_true rfl) (Nat.le_of_ble_eq_true rfl) ((g_X9_doesRest h2026 hI x2058 a0 (by omega) (by omega)).mono (fun r2062 h2063 p2064 => ?_))
                                  obtain ⟨rfl, x2066, rfl, (q2067 | q2067 | q2067), zq2065, -⟩ := p2064
                                  · rw [hE] at zq2065
                                    exfalso; omega
                                  · rw [hE] at zq2065
                                    show RUN d_X9_goSecond 200 [(3, .inl x2028), (0, .inr (.inr (.inl 96))), (1, .inl a0), (2, .inl a1)] [.inl x2066] h2026 _
                                    refine N_if_ne (a := x2066.toInt) 218 rfl rfl rfl (fun c2068 => ?_) (fun c2068 => ?_)
                                    · exfalso; omega
                                    · refine R_aload_n (k := 0) rfl rfl rfl ?_
                                      refine R_getf_r (j := 22) rfl ft_9_46 sh_96 rfl ?_
                                      refine R_aload_n (k := 0) rfl rfl rfl ?_
                                      refine R_getf_r (j := 17) rfl ft_9_40 sh_96 rfl ?_
                                      refine R_iload_n (k := 3) rfl rfl rfl ?_
                                      refine R_iald rfl sh_105 ⟨by omega, by omega⟩ ?_
                                      refine N_eq (fun x2069 e2070 => ?_)
                                      have q2071 : 0 ≤ x2069.toInt ∧ x2069.toInt ≤ 5 := by rw [e2070]; exact hI.1 105 _
                                      have e2072 : x2069 = (evOf h).2.2.2.1 x2028.toNatClampNeg := by rw [e2070]; exact congrFun (congrArg (fun q : EV => q.2.2.2.1) hE) _
                                      refine R_dup2 rfl ?_
                                      refine R_iald rfl sh_107 ⟨by omega, by omega⟩ ?_
                                      refine N_eq (fun x2073 e2074 => ?_)
                                      have e2075 : x2073 = ((kyOf h2026).1) x2069.toNatClampNeg := by rw [e2074]; exact (ky_at107 (nlt ⟨by omega, by omega⟩)).trans (congrFun (congrArg (fun q : KY => q.1) hK) _)
                                      refine R_iconst 1 rfl rfl ?_
                                      have b2076 := i_rng x2073
                                      refine R_iadd rfl ?_
                                      refine N_eq (fun x2077 e2078 => ?_)
                                      refine K_iast (a := x2069.toInt) (lo := (-2147483648)) (hi' := 2147483647) rfl sh_107 rfl ⟨by omega, by omega⟩ hI (by decide) rfl (i_rng _) fr (by decide) (fun h2079 g2080 hI fr => ?_)
                                      have fl2027 : FR [107] h870 h2079 := by rw [g2080]; exact FR_wI _ _ fl2027 (by decide)
                                      have fl871 : FR [96, 107, 108, 109, 117, 118] h851 h2079 := by rw [g2080]; exact FR_wI _ _ fl871 (by decide)
                                      have fl829 : FR [96, 107, 108, 109, 117, 118] h812 h2079 := by rw [g2080]; exact FR_wI _ _ fl829 (by decide)
                                      have s2081 : (h2079.1 96 41).toInt = (h2026.1 96 41).toInt := by rw [g2080, wI_ne _ _ _ (by decide)]
                                      have s2082 : (h2079.1 96 42).toInt = (h2026.1 96 42).toInt := by rw [g2080, wI_ne _ _ _ (by decide)]
                                      have s2083 : (h2079.1 96 19).toInt = (h2026.1 96 19).toInt := by rw [g2080, wI_ne _ _ _ (by decide)]
                                      have s2084 : (h2079.1 96 18).toInt = (h2026.1 96 18).toInt := by rw [g2080, wI_ne _ _ _ (by decide)]
                                      have s2085 : (h2079.1 96 20).toInt = (h2026.1 96 20).toInt := by rw [g2080, wI_ne _ _ _ (by decide)]
                                      have s2086 : (h2079.1 96 46).toInt = (h2026.1 96 46).toInt := by rw [g2080, wI_ne _ _ _ (by decide)]
                                      have s2087 : (h2079.1 96 44).toInt = (h2026.1 96 44).toInt := by rw [g2080, wI_ne _ _ _ (by decide)]
                                      have s2088 : (h2079.1 96 47).toInt = (h2026.1 96 47).toInt := by rw [g2080, wI_ne _ _ _ (by decide)]
                                      have s2089 : (h2079.1 96 48).toInt = (h2026.1 96 48).toInt := by rw [g2080, wI_ne _ _ _ (by decide)]
                                      have s2090 : (h2079.1 96 51).toInt = (h2026.1 96 51).toInt := by rw [g2080, wI_ne _ _ _ (by decide)]
                                      have hK : kyOf h2079 = (upd ((kyOf h2026).1) x2069.toNatClampNeg x2077, (kyOf h2026).2.1, (kyOf h2026).2.2.1, (kyOf h2026).2.2.2) := by rw [g2080, ky_107 (nlt ⟨by omega, by omega⟩), hK] <;> rfl
                                      have hE : evOf h2079 = evOf h := by rw [g2080, ev_o (by decide), hE]
                                      refine N_iinc (a := x2028.toInt) (c := 1) (fun w => [(3, .inl w), (0, .inr (.inr (.inl 96))), (1, .inl a0), (2, .inl a1)]) rfl rfl (fun _ => rfl) (by decide) rfl (by decide) (by omega) (fun x2091 q2092 => ?_)
                                      refine R_goto 166 rfl rfl ?_
                                      exact RUN_weak (psub_cons rfl (psub_cons rfl (psub_cons rfl (psub_cons rfl (psub_nil _))))) (ih2029 h2079 x2091 hI fr fl2027 (by omega) (by omega) (by rw [zHolds_s (x := x2028) (x' := x2091) (by omega) (by omega), ← m2035]; refine hK.trans ?_; subst e2078 e2075 e2072 e2061 e2054 e2051; simp only [zHold1, eLine] <;> (repeat' split) <;> first | (exfalso; omega) | rfl) (hE) (by omega))
                                  · rw [hE] at zq2065
                                    show RUN d_X9_goSecond 200 [(3, .inl x2028), (0, .inr (.inr (.inl 96))), (1, .inl a0), (2, .inl a1)] [.inl x2066] h2026 _
                                    refine N_if_ne (a := x2066.toInt) 218 rfl rfl rfl (fun c2093 => ?_) (fun c2093 => ?_)
                                    · refine N_iinc (a := x2028.toInt) (c := 1) (fun w => [(3, .inl w), (0, .inr (.inr (.inl 96))), (1, .inl a0), (2, .inl a1)]) rfl rfl (fun _ => rfl) (by decide) rfl (by decide) (by omega) (fun x2094 q2095 => ?_)
                                      refine R_goto 166 rfl rfl ?_
                                      exact RUN_weak (psub_cons rfl (psub_cons rfl (psub_cons rfl (psub_cons rfl (psub_nil _))))) (ih2029 h2026 x2094 hI fr fl2027 (by omega) (by omega) (by rw [zHolds_s (x := x2028) (x' := x2094) (by omega) (by omega), ← m2035]; refine hK.trans ?_; subst e2061 e2054 e2051; simp only [zHold1, eLine] <;> (repeat' split) <;> first | (exfalso; omega) | rfl) (hE) (by omega))
                                    · exfalso; omega
                          have k2096 : (0 : Int32).toInt = 0 := by decide
                          exact lp2025 _ h870 (0 : Int32) hI fr (FR.rf _ _) (by decide) (by omega) (by rw [hK]; rfl) (hE) (Nat.lt_succ_self _)
                        · exfalso; omega
                · refine R_aload_n (k := 0) rfl rfl rfl ?_
                  refine R_iload_n (k := 3) rfl rfl rfl ?_
                  refine R_iload_n (k := 1) rfl rfl rfl ?_
                  have b2097 := i_rng a0
                  refine R_callV (v := .inr (.inr (.inl 96))) (As := [.inl x872, .inl a0]) (rest := []) rfl mt_9_i278 pp_X9_goPlace (by decide) rfl rfl rfl (Nat.le_of_ble_eq_true rfl) (Nat.le_of_ble_eq_true rfl) ((g_X9_goPlace h870 hI x872 a0 (by omega) (by omega) (by omega)).mono (fun r2098 h2099 p2100 => ?_))
                  obtain ⟨hJ, fj, ⟨kp2101, kp2102, kp2103, kp2104, kp2105, kp2106, kp2107, kp2108, kp2109, kp2110, xq2111, xq2112, -⟩, rfl⟩ := p2100
                  have f2113 := fj
                  have fr := fr.trans fj (by decide)
                  have hI := hJ
                  have fl871 : FR [96, 107, 108, 109, 117, 118] h851 h2099 := fl871.trans fj (by decide)
                  have fl829 : FR [96, 107, 108, 109, 117, 118] h812 h2099 := fl829.trans fj (by decide)
                  have hK : kyOf h2099 = zPlace (evOf h) x872 a0 (kyOf h870) := by rw [xq2111, hE, hK]
                  have hE : evOf h2099 = evOf h := xq2112.trans hE
                  show RUN d_X9_goSecond 76 [(3, .inl x872), (0, .inr (.inr (.inl 96))), (1, .inl a0), (2, .inl a1)] [] h2099 _
                  refine N_iinc (a := x872.toInt) (c := (-1)) (fun w => [(3, .inl w), (0, .inr (.inr (.inl 96))), (1, .inl a0), (2, .inl a1)]) rfl rfl (fun _ => rfl) (by decide) rfl (by decide) (by omega) (fun x2114 q2115 => ?_)
                  refine R_goto 62 rfl rfl ?_
                  exact RUN_weak (psub_cons rfl (psub_cons rfl (psub_cons rfl (psub_cons rfl (psub_nil _))))) (ih873 h2099 x2114 hI fr fl871 (by omega) (by omega) (by omega) (by omega) (by omega) (by omega) (by omega) (by omega) (by omega) (by omega) (by omega) (by omega) (by omega) (by rw [hK, ← zPlaces_s (x := x872) (x' := x2114) (by omega) (by omega)]; exact m890) (fun hc => absurd (show a1.toInt = 0 by omega) hc) (hE) (by omega))
          exact lp869 _ h851 x865 hI fr (FR.rf _ _) (by omega) rfl rfl rfl rfl rfl rfl rfl rfl rfl rfl (by omega) (by omega) ((congrArg (fun q => zPlaces (evOf h) a0 (x865.toInt + 1).toNat q) hK).trans (by rw [tn1 (x := x865) (y := (evOf h).2.2.2.2.1) (by omega) (by omega)])) (fun _ => hK) (hE) (Nat.lt_succ_self _)
        · refine R_aload_n (k := 0) rfl rfl rfl ?_
          refine R_getf_r (j := 24) rfl ft_9_52 sh_96 rfl ?_
          refine R_iload_n (k := 3) rfl rfl rfl ?_
          refine R_aload_n (k := 0) rfl rfl rfl ?_
          refine R_getf_r (j := 24) rfl ft_9_52 sh_96 rfl ?_
          refine R_iload_n (k := 3) rfl rfl rfl ?_
          refine R_iconst 1 rfl rfl ?_
          refine R_iadd rfl ?_
          refine N_eq (fun x2116 e2117 => ?_)
          have q2118 : x2116.toInt = x830.toInt + 1 := by rw [e2117]; exact i_add rfl (by decide) (by omega)
          refine R_iald rfl sh_109 ⟨by omega, by omega⟩ ?_
          refine N_eq (fun x2119 e2120 => ?_)
          have e2121 : x2119 = ((kyOf h828).2.2.1) x2116.toNatClampNeg := by rw [e2120]; exact (ky_at109 (nlt ⟨by omega, by omega⟩)).trans (congrFun (congrArg (fun q : KY => q.2.2.1) hK) _)
          refine K_iast (a := x830.toInt) (lo := (-2147483648)) (hi' := 2147483647) rfl sh_109 rfl ⟨by omega, by omega⟩ hI (by decide) rfl (i_rng _) fr (by decide) (fun h2122 g2123 hI fr => ?_)
          have fl829 : FR [96, 107, 108, 109, 117, 118] h812 h2122 := by rw [g2123]; exact FR_wI _ _ fl829 (by decide)
          have s2124 : (h2122.1 96 34).toInt = (h828.1 96 34).toInt := by rw [g2123, wI_ne _ _ _ (by decide)]
          have s2125 : (h2122.1 96 36).toInt = (h828.1 96 36).toInt := by rw [g2123, wI_ne _ _ _ (by decide)]
          have s2126 : (h2122.1 96 41).toInt = (h828.1 96 41).toInt := by rw [g2123, wI_ne _ _ _ (by decide)]
          have s2127 : (h2122.1 96 42).toInt = (h828.1 96 42).toInt := by rw [g2123, wI_ne _ _ _ (by decide)]
          have s2128 : (h2122.1 96 19).toInt = (h828.1 96 19).toInt := by rw [g2123, wI_ne _ _ _ (by decide)]
          have s2129 : (h2122.1 96 18).toInt = (h828.1 96 18).toInt := by rw [g2123, wI_ne _ _ _ (by decide)]
          have s2130 : (h2122.1 96 20).toInt = (h828.1 96 20).toInt := by rw [g2123, wI_ne _ _ _ (by decide)]
          have s2131 : (h2122.1 96 46).toInt = (h828.1 96 46).toInt := by rw [g2123, wI_ne _ _ _ (by decide)]
          have s2132 : (h2122.1 96 44).toInt = (h828.1 96 44).toInt := by rw [g2123, wI_ne _ _ _ (by decide)]
          have s2133 : (h2122.1 96 47).toInt = (h828.1 96 47).toInt := by rw [g2123, wI_ne _ _ _ (by decide)]
          have s2134 : (h2122.1 96 48).toInt = (h828.1 96 48).toInt := by rw [g2123, wI_ne _ _ _ (by decide)]
          have s2135 : (h2122.1 96 51).toInt = (h828.1 96 51).toInt := by rw [g2123, wI_ne _ _ _ (by decide)]
          have hK : kyOf h2122 = ((kyOf h828).1, (kyOf h828).2.1, upd ((kyOf h828).2.2.1) x830.toNatClampNeg x2119, (kyOf h828).2.2.2) := by rw [g2123, ky_109 (nlt ⟨by omega, by omega⟩), hK] <;> rfl
          have hE : evOf h2122 = evOf h := by rw [g2123, ev_o (by decide), hE]
          refine N_iinc (a := x830.toInt) (c := 1) (fun w => [(3, .inl w), (0, .inr (.inr (.inl 96))), (1, .inl a0), (2, .inl a1)]) rfl rfl (fun _ => rfl) (by decide) rfl (by decide) (by omega) (fun x2136 q2137 => ?_)
          refine R_goto 21 rfl rfl ?_
          exact RUN_weak (psub_cons rfl (psub_cons rfl (psub_cons rfl (psub_cons rfl (psub_nil _))))) (ih831 h2122 x2136 hI fr fl829 (by omega) (by omega) (by omega) (by omega) (by omega) (by omega) (by omega) (by omega) (by omega) (by omega) (by omega) trivial trivial (by rw [zShN_s (b := (kyOf h).2.2.1) (x := x830) (x' := x2136) (y := x2116) (by omega) (by omega) (by omega)]; refine hK.trans ?_; subst e2121; rw [m848] <;> rfl) (hE) (by omega))
    have k2138 : (1 : Int32).toInt = 1 := by decide
    exact lp827 _ h812 (1 : Int32) hI fr (FR.rf _ _) (by decide) rfl rfl rfl rfl rfl rfl rfl rfl rfl rfl trivial trivial (by refine hK.trans ?_; subst e811 e807 e804; rw [zShN_1]) (hE) (Nat.lt_succ_self _)
