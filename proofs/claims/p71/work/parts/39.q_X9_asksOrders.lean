abbrev qg_X9_asksOrders (h : PH)  : Option PV → PH → Prop := fun r h' => INV h' ∧ FR [96, 103, 104, 105, 106, 107, 108, 109, 110, 111, 112, 113, 114, 115, 116, 117, 118, 119, 120, 123] h h' ∧ (True) ∧ ∃ z : Int32, r = some (.inl z) ∧ ((z.toInt = 0 ∧ (h.1 97 10).toInt ≤ 0) ∨ (z.toInt = 1 ∧ 1 ≤ (h.1 97 0).toInt ∧ (h.1 97 0).toInt ≤ 60 ∧ 1 ≤ (h.1 97 10).toInt))
set_option maxHeartbeats 4000000 in
set_option maxRecDepth 100000 in
theorem g_X9_asksOrders (h : PH) (hI : INV h)  : CALL d_X9_asksOrders [.inr (.inr (.inl 96))] h (qg_X9_asksOrders h) := by
  show RUN d_X9_asksOrders 0 [(0, .inr (.inr (.inl 96)))] [] h _
  have fr : FR [96, 103, 104, 105, 106, 107, 108, 109, 110, 111, 112, 113, 114, 115, 116, 117, 118, 119, 120, 123] h h := FR.rf _ _
  refine R_aload_n (k := 0) rfl rfl rfl ?_
  have b1 : (0 : Int) ≤ (h.1 97 0).toInt ∧ (h.1 97 0).toInt ≤ 60 := hI.1 97 0
  have e2 : 0 < (h.1 97 10).toInt → 1 ≤ (h.1 97 0).toInt := hI.2.2.2.2.2.1.2.1
  refine R_callV (v := .inr (.inr (.inl 96))) (As := []) (rest := []) rfl mt_9_i301 pp_X9_isBrigade (by decide) rfl rfl rfl (Nat.le_of_ble_eq_true rfl) (Nat.le_of_ble_eq_true rfl) ((k_X9_isBrigade h hI).mono (fun r3 h4 p5 => ?_))
  obtain ⟨rfl, x6, rfl, q7 | q7⟩ := p5
  · show RUN d_X9_asksOrders 4 [(0, .inr (.inr (.inl 96)))] [.inl x6] h _
    refine N_if_ne (a := x6.toInt) 9 rfl rfl rfl (fun c8 => ?_) (fun c8 => ?_)
    · exfalso; omega
    · refine R_iconst 0 rfl rfl ?_
      exact R_iret rfl rfl rfl ⟨hI, fr, trivial, _, rfl, by rw [show (0 : Int32).toInt = 0 from rfl] <;> omega⟩
  · show RUN d_X9_asksOrders 4 [(0, .inr (.inr (.inl 96)))] [.inl x6] h _
    refine N_if_ne (a := x6.toInt) 9 rfl rfl rfl (fun c9 => ?_) (fun c9 => ?_)
    · refine R_aload_n (k := 0) rfl rfl rfl ?_
      refine R_callV (v := .inr (.inr (.inl 96))) (As := []) (rest := []) rfl mt_9_i298 pp_X9_asItIs (by decide) rfl rfl rfl (Nat.le_of_ble_eq_true rfl) (Nat.le_of_ble_eq_true rfl) ((g_X9_asItIs h hI).mono (fun r10 h11 p12 => ?_))
      obtain ⟨hJ, fj, ⟨kp13, xq14, xq15, xq16, -⟩, rfl⟩ := p12
      have f17 := fj
      have fr := fr.trans fj (by decide)
      have hI := hJ
      have s18 : (h11.1 97 10).toInt = (h.1 97 10).toInt := by rw [(f17 97 (by decide)).1]
      have s19 : (h11.1 97 0).toInt = (h.1 97 0).toInt := by rw [(f17 97 (by decide)).1]
      have b20 : (0 : Int) ≤ (h11.1 97 5).toInt ∧ (h11.1 97 5).toInt ≤ 6 := hI.1 97 5
      have e21 : 0 < (h11.1 97 5).toInt → 1 ≤ (h11.1 97 0).toInt := hI.2.2.2.2.2.1.2.2
      have b22 : (0 : Int) ≤ (h11.1 97 1).toInt ∧ (h11.1 97 1).toInt ≤ 8 := hI.1 97 1
      have b23 : (0 : Int) ≤ (h11.1 96 18).toInt ∧ (h11.1 96 18).toInt ≤ 6 := hI.1 96 18
      show RUN d_X9_asksOrders 13 [(0, .inr (.inr (.inl 96)))] [] h11 _
      have hA := xq14
      refine R_aload_n (k := 0) rfl rfl rfl ?_
      refine R_iconst 0 rfl rfl ?_
      refine K_putf (j := 44) (lo := (-2147483648)) (hi' := 2147483647) rfl ft_9_399 sh_96 rfl hI (by decide) rfl (by decide) fr (by decide) (fun h24 g25 hI fr => ?_)
      have s26 : (h24.1 97 10).toInt = (h11.1 97 10).toInt := by rw [g25, wI_ne _ _ _ (by decide)]
      have s27 : (h24.1 97 0).toInt = (h11.1 97 0).toInt := by rw [g25, wI_ne _ _ _ (by decide)]
      have s28 : (h24.1 97 5).toInt = (h11.1 97 5).toInt := by rw [g25, wI_ne _ _ _ (by decide)]
      have s29 : (h24.1 97 1).toInt = (h11.1 97 1).toInt := by rw [g25, wI_ne _ _ _ (by decide)]
      have s30 : (h24.1 96 18).toInt = (h11.1 96 18).toInt := by rw [g25, wI_at (by decide)]
      have s31 : (h24.1 96 19).toInt = (h11.1 96 19).toInt := by rw [g25, wI_at (by decide)]
      have hA : AIS h24 := by rw [g25]; exact AIS_o (by decide) hA
      have s32 : (h24.1 96 44).toInt = 0 := by rw [g25, wI_is]; rfl
      refine R_aload_n (k := 0) rfl rfl rfl ?_
      refine R_iconst 0 rfl rfl ?_
      refine K_putf (j := 46) (lo := (-2147483648)) (hi' := 2147483647) rfl ft_9_408 sh_96 rfl hI (by decide) rfl (by decide) fr (by decide) (fun h33 g34 hI fr => ?_)
      have s35 : (h33.1 97 10).toInt = (h24.1 97 10).toInt := by rw [g34, wI_ne _ _ _ (by decide)]
      have s36 : (h33.1 97 0).toInt = (h24.1 97 0).toInt := by rw [g34, wI_ne _ _ _ (by decide)]
      have s37 : (h33.1 97 5).toInt = (h24.1 97 5).toInt := by rw [g34, wI_ne _ _ _ (by decide)]
      have s38 : (h33.1 97 1).toInt = (h24.1 97 1).toInt := by rw [g34, wI_ne _ _ _ (by decide)]
      have s39 : (h33.1 96 18).toInt = (h24.1 96 18).toInt := by rw [g34, wI_at (by decide)]
      have s40 : (h33.1 96 19).toInt = (h24.1 96 19).toInt := by rw [g34, wI_at (by decide)]
      have s41 : (h33.1 96 44).toInt = (h24.1 96 44).toInt := by rw [g34, wI_at (by decide)]
      have hA : AIS h33 := by rw [g34]; exact AIS_o (by decide) hA
      have s42 : (h33.1 96 46).toInt = 0 := by rw [g34, wI_is]; rfl
      refine R_aload_n (k := 0) rfl rfl rfl ?_
      refine R_iconst (-1) rfl rfl ?_
      refine K_putf (j := 47) (lo := (-2147483648)) (hi' := 2147483647) rfl ft_9_414 sh_96 rfl hI (by decide) rfl (by decide) fr (by decide) (fun h43 g44 hI fr => ?_)
      have s45 : (h43.1 97 10).toInt = (h33.1 97 10).toInt := by rw [g44, wI_ne _ _ _ (by decide)]
      have s46 : (h43.1 97 0).toInt = (h33.1 97 0).toInt := by rw [g44, wI_ne _ _ _ (by decide)]
      have s47 : (h43.1 97 5).toInt = (h33.1 97 5).toInt := by rw [g44, wI_ne _ _ _ (by decide)]
      have s48 : (h43.1 97 1).toInt = (h33.1 97 1).toInt := by rw [g44, wI_ne _ _ _ (by decide)]
      have s49 : (h43.1 96 18).toInt = (h33.1 96 18).toInt := by rw [g44, wI_at (by decide)]
      have s50 : (h43.1 96 19).toInt = (h33.1 96 19).toInt := by rw [g44, wI_at (by decide)]
      have s51 : (h43.1 96 44).toInt = (h33.1 96 44).toInt := by rw [g44, wI_at (by decide)]
      have s52 : (h43.1 96 46).toInt = (h33.1 96 46).toInt := by rw [g44, wI_at (by decide)]
      have hA : AIS h43 := by rw [g44]; exact AIS_o (by decide) hA
      have s53 : (h43.1 96 47).toInt = (-1) := by rw [g44, wI_is]; rfl
      refine R_aload_n (k := 0) rfl rfl rfl ?_
      refine R_ldcw_i (x := 1000000000) rfl kt_9_417 ?_
      refine K_putf (j := 48) (lo := (-2147483648)) (hi' := 2147483647) rfl ft_9_411 sh_96 rfl hI (by decide) rfl (by decide) fr (by decide) (fun h54 g55 hI fr => ?_)
      have s56 : (h54.1 97 10).toInt = (h43.1 97 10).toInt := by rw [g55, wI_ne _ _ _ (by decide)]
      have s57 : (h54.1 97 0).toInt = (h43.1 97 0).toInt := by rw [g55, wI_ne _ _ _ (by decide)]
      have s58 : (h54.1 97 5).toInt = (h43.1 97 5).toInt := by rw [g55, wI_ne _ _ _ (by decide)]
      have s59 : (h54.1 97 1).toInt = (h43.1 97 1).toInt := by rw [g55, wI_ne _ _ _ (by decide)]
      have s60 : (h54.1 96 18).toInt = (h43.1 96 18).toInt := by rw [g55, wI_at (by decide)]
      have s61 : (h54.1 96 19).toInt = (h43.1 96 19).toInt := by rw [g55, wI_at (by decide)]
      have s62 : (h54.1 96 44).toInt = (h43.1 96 44).toInt := by rw [g55, wI_at (by decide)]
      have s63 : (h54.1 96 46).toInt = (h43.1 96 46).toInt := by rw [g55, wI_at (by decide)]
      have s64 : (h54.1 96 47).toInt = (h43.1 96 47).toInt := by rw [g55, wI_at (by decide)]
      have hA : AIS h54 := by rw [g55]; exact AIS_o (by decide) hA
      have s65 : (h54.1 96 48).toInt = 1000000000 := by rw [g55, wI_is]; rfl
      refine R_iconst 1 rfl rfl ?_
      have hJ0 := AIS_inj hA
      refine R_istore_n (k := 1) rfl [(1, .inl 1), (0, .inr (.inr (.inl 96)))] rfl rfl (by decide) ?_
      have lp67 : ∀ (n66 : Nat) (h68 : PH) (x70 : Int32), INV h68 → FR [96, 103, 104, 105, 106, 107, 108, 109, 110, 111, 112, 113, 114, 115, 116, 117, 118, 119, 120, 123] h h68 → FR [96, 105, 107, 108, 109, 110, 111, 112, 113, 114, 115, 116, 117, 118, 119, 120, 123] h54 h68 → 0 ≤ x70.toInt ∧ x70.toInt ≤ 1 → (INJ6 (h68.1 105)) → (720 - (rkL (h68.1 105) : Int) + x70.toInt).toNat < n66 → RUN d_X9_asksOrders 37 [(1, .inl x70), (0, .inr (.inr (.inl 96)))] [] h68 (qg_X9_asksOrders h) := by
        intro n66
        induction n66 with
        | zero => intro h68 x70 m72 m73 m74 m75 m76 hz; exact absurd hz (Nat.not_lt_zero _)
        | succ n66 ih71 =>
          intro h68 x70 hI fr fl69 m75 m76 hz
          have s77 : (h68.1 97 10).toInt = (h54.1 97 10).toInt := by rw [(fl69 97 (by decide)).1]
          have s78 : (h68.1 97 0).toInt = (h54.1 97 0).toInt := by rw [(fl69 97 (by decide)).1]
          have s79 : (h68.1 97 5).toInt = (h54.1 97 5).toInt := by rw [(fl69 97 (by decide)).1]
          have s80 : (h68.1 97 1).toInt = (h54.1 97 1).toInt := by rw [(fl69 97 (by decide)).1]
          have rq81 : h68.1 105 = h68.1 105 := rfl
          refine R_iload_n (k := 1) rfl rfl rfl ?_
          refine N_if_eq (a := x70.toInt) 60 rfl rfl rfl (fun c82 => ?_) (fun c82 => ?_)
          · refine R_iconst 1 rfl rfl ?_
            have s83 : (h68.1 97 0).toInt = (h.1 97 0).toInt := by rw [(fr 97 (by decide)).1]
            have s84 : (h68.1 97 10).toInt = (h.1 97 10).toInt := by rw [(fr 97 (by decide)).1]
            exact R_iret rfl rfl rfl ⟨hI, fr, trivial, _, rfl, by rw [show (1 : Int32).toInt = 1 from rfl] <;> omega⟩
          · refine R_aload_n (k := 0) rfl rfl rfl ?_
            have b85 : (0 : Int) ≤ (h68.1 97 6).toInt ∧ (h68.1 97 6).toInt ≤ 5 := hI.1 97 6
            refine R_callV (v := .inr (.inr (.inl 96))) (As := []) (rest := []) rfl mt_9_i418 pp_X9_keepsAll (by decide) rfl rfl rfl (Nat.le_of_ble_eq_true rfl) (Nat.le_of_ble_eq_true rfl) ((k_X9_keepsAll h68 hI).mono (fun r86 h87 p88 => ?_))
            obtain ⟨rfl, x89, rfl, q90 | q90⟩ := p88
            · show RUN d_X9_asksOrders 45 [(1, .inl x70), (0, .inr (.inr (.inl 96)))] [.inl x89] h68 _
              refine N_if_eq (a := x89.toInt) 52 rfl rfl rfl (fun c91 => ?_) (fun c91 => ?_)
              · exfalso; omega
              · refine R_aload_n (k := 0) rfl rfl rfl ?_
                refine R_callV (v := .inr (.inr (.inl 96))) (As := []) (rest := []) rfl mt_9_i421 pp_X9_keepOrder (by decide) rfl rfl rfl (Nat.le_of_ble_eq_true rfl) (Nat.le_of_ble_eq_true rfl) ((k_X9_keepOrder h68 hI (by omega)).mono (fun r92 h93 p94 => ?_))
                obtain ⟨hJ, fj, -, rfl⟩ := p94
                have f95 := fj
                have fr := fr.trans fj (by decide)
                have hI := hJ
                have fl69 : FR [96, 105, 107, 108, 109, 110, 111, 112, 113, 114, 115, 116, 117, 118, 119, 120, 123] h54 h93 := fl69.trans fj (by decide)
                have s96 : (h93.1 97 10).toInt = (h68.1 97 10).toInt := by rw [(f95 97 (by decide)).1]
                have s97 : (h93.1 97 0).toInt = (h68.1 97 0).toInt := by rw [(f95 97 (by decide)).1]
                have s98 : (h93.1 97 5).toInt = (h68.1 97 5).toInt := by rw [(f95 97 (by decide)).1]
                have s99 : (h93.1 97 1).toInt = (h68.1 97 1).toInt := by rw [(f95 97 (by decide)).1]
                have s100 : (h93.1 97 6).toInt = (h68.1 97 6).toInt := by rw [(f95 97 (by decide)).1]
                have rq101 : h93.1 105 = h68.1 105 := (f95 105 (by decide)).1.trans rq81
                show RUN d_X9_asksOrders 52 [(1, .inl x70), (0, .inr (.inr (.inl 96)))] [] h93 _
                refine R_aload_n (k := 0) rfl rfl rfl ?_
                refine R_callV (v := .inr (.inr (.inl 96))) (As := []) (rest := []) rfl mt_9_i424 pp_X9_nextLine (by decide) rfl rfl rfl (Nat.le_of_ble_eq_true rfl) (Nat.le_of_ble_eq_true rfl) ((g_X9_nextLine h93 hI (INJ6_of rq101 m76)).mono (fun r102 h103 p104 => ?_))
                obtain ⟨hJ, fj, ⟨xq105, -⟩, x107, rfl, (q108 | q108), zq106, -⟩ := p104
                · have f109 := fj
                  have fr := fr.trans fj (by decide)
                  have hI := hJ
                  have fl69 : FR [96, 105, 107, 108, 109, 110, 111, 112, 113, 114, 115, 116, 117, 118, 119, 120, 123] h54 h103 := fl69.trans fj (by decide)
                  have s110 : (h103.1 97 10).toInt = (h93.1 97 10).toInt := by rw [(f109 97 (by decide)).1]
                  have s111 : (h103.1 97 0).toInt = (h93.1 97 0).toInt := by rw [(f109 97 (by decide)).1]
                  have s112 : (h103.1 97 5).toInt = (h93.1 97 5).toInt := by rw [(f109 97 (by decide)).1]
                  have s113 : (h103.1 97 1).toInt = (h93.1 97 1).toInt := by rw [(f109 97 (by decide)).1]
                  have s114 : (h103.1 97 6).toInt = (h93.1 97 6).toInt := by rw [(f109 97 (by decide)).1]
                  show RUN d_X9_asksOrders 56 [(1, .inl x70), (0, .inr (.inr (.inl 96)))] [.inl x107] h103 _
                  refine R_istore_n (k := 1) rfl [(1, .inl x107), (0, .inr (.inr (.inl 96)))] rfl rfl (by decide) ?_
                  refine R_goto 37 rfl rfl ?_
                  have rkb : (rkL (h68.1 105) : Int) + x107.toInt ≤ (rkL (h103.1 105) : Int) := by rw [← rq101]; exact zq106
                  have rkt := rkL_top hI xq105
                  exact RUN_weak (psub_cons rfl (psub_cons rfl (psub_nil _))) (ih71 h103 x107 hI fr fl69 (by omega) (xq105) (by omega))
                · have f115 := fj
                  have fr := fr.trans fj (by decide)
                  have hI := hJ
                  have fl69 : FR [96, 105, 107, 108, 109, 110, 111, 112, 113, 114, 115, 116, 117, 118, 119, 120, 123] h54 h103 := fl69.trans fj (by decide)
                  have s116 : (h103.1 97 10).toInt = (h93.1 97 10).toInt := by rw [(f115 97 (by decide)).1]
                  have s117 : (h103.1 97 0).toInt = (h93.1 97 0).toInt := by rw [(f115 97 (by decide)).1]
                  have s118 : (h103.1 97 5).toInt = (h93.1 97 5).toInt := by rw [(f115 97 (by decide)).1]
                  have s119 : (h103.1 97 1).toInt = (h93.1 97 1).toInt := by rw [(f115 97 (by decide)).1]
                  have s120 : (h103.1 97 6).toInt = (h93.1 97 6).toInt := by rw [(f115 97 (by decide)).1]
                  show RUN d_X9_asksOrders 56 [(1, .inl x70), (0, .inr (.inr (.inl 96)))] [.inl x107] h103 _
                  refine R_istore_n (k := 1) rfl [(1, .inl x107), (0, .inr (.inr (.inl 96)))] rfl rfl (by decide) ?_
                  refine R_goto 37 rfl rfl ?_
                  have rkb : (rkL (h68.1 105) : Int) + x107.toInt ≤ (rkL (h103.1 105) : Int) := by rw [← rq101]; exact zq106
                  have rkt := rkL_top hI xq105
                  exact RUN_weak (psub_cons rfl (psub_cons rfl (psub_nil _))) (ih71 h103 x107 hI fr fl69 (by omega) (xq105) (by omega))
            · show RUN d_X9_asksOrders 45 [(1, .inl x70), (0, .inr (.inr (.inl 96)))] [.inl x89] h68 _
              refine N_if_eq (a := x89.toInt) 52 rfl rfl rfl (fun c121 => ?_) (fun c121 => ?_)
              · refine R_aload_n (k := 0) rfl rfl rfl ?_
                refine R_callV (v := .inr (.inr (.inl 96))) (As := []) (rest := []) rfl mt_9_i424 pp_X9_nextLine (by decide) rfl rfl rfl (Nat.le_of_ble_eq_true rfl) (Nat.le_of_ble_eq_true rfl) ((g_X9_nextLine h68 hI (INJ6_of rq81 m76)).mono (fun r122 h123 p124 => ?_))
                obtain ⟨hJ, fj, ⟨xq125, -⟩, x127, rfl, (q128 | q128), zq126, -⟩ := p124
                · have f129 := fj
                  have fr := fr.trans fj (by decide)
                  have hI := hJ
                  have fl69 : FR [96, 105, 107, 108, 109, 110, 111, 112, 113, 114, 115, 116, 117, 118, 119, 120, 123] h54 h123 := fl69.trans fj (by decide)
                  have s130 : (h123.1 97 10).toInt = (h68.1 97 10).toInt := by rw [(f129 97 (by decide)).1]
                  have s131 : (h123.1 97 0).toInt = (h68.1 97 0).toInt := by rw [(f129 97 (by decide)).1]
                  have s132 : (h123.1 97 5).toInt = (h68.1 97 5).toInt := by rw [(f129 97 (by decide)).1]
                  have s133 : (h123.1 97 1).toInt = (h68.1 97 1).toInt := by rw [(f129 97 (by decide)).1]
                  have s134 : (h123.1 97 6).toInt = (h68.1 97 6).toInt := by rw [(f129 97 (by decide)).1]
                  show RUN d_X9_asksOrders 56 [(1, .inl x70), (0, .inr (.inr (.inl 96)))] [.inl x127] h123 _
                  refine R_istore_n (k := 1) rfl [(1, .inl x127), (0, .inr (.inr (.inl 96)))] rfl rfl (by decide) ?_
                  refine R_goto 37 rfl rfl ?_
                  have rkb : (rkL (h68.1 105) : Int) + x127.toInt ≤ (rkL (h123.1 105) : Int) := by rw [← rq81]; exact zq126
                  have rkt := rkL_top hI xq125
                  exact RUN_weak (psub_cons rfl (psub_cons rfl (psub_nil _))) (ih71 h123 x127 hI fr fl69 (by omega) (xq125) (by omega))
                · have f135 := fj
                  have fr := fr.trans fj (by decide)
                  have hI := hJ
                  have fl69 : FR [96, 105, 107, 108, 109, 110, 111, 112, 113, 114, 115, 116, 117, 118, 119, 120, 123] h54 h123 := fl69.trans fj (by decide)
                  have s136 : (h123.1 97 10).toInt = (h68.1 97 10).toInt := by rw [(f135 97 (by decide)).1]
                  have s137 : (h123.1 97 0).toInt = (h68.1 97 0).toInt := by rw [(f135 97 (by decide)).1]
                  have s138 : (h123.1 97 5).toInt = (h68.1 97 5).toInt := by rw [(f135 97 (by decide)).1]
                  have s139 : (h123.1 97 1).toInt = (h68.1 97 1).toInt := by rw [(f135 97 (by decide)).1]
                  have s140 : (h123.1 97 6).toInt = (h68.1 97 6).toInt := by rw [(f135 97 (by decide)).1]
                  show RUN d_X9_asksOrders 56 [(1, .inl x70), (0, .inr (.inr (.inl 96)))] [.inl x127] h123 _
                  refine R_istore_n (k := 1) rfl [(1, .inl x127), (0, .inr (.inr (.inl 96)))] rfl rfl (by decide) ?_
                  refine R_goto 37 rfl rfl ?_
                  have rkb : (rkL (h68.1 105) : Int) + x127.toInt ≤ (rkL (h123.1 105) : Int) := by rw [← rq81]; exact zq126
                  have rkt := rkL_top hI xq125
                  exact RUN_weak (psub_cons rfl (psub_cons rfl (psub_nil _))) (ih71 h123 x127 hI fr fl69 (by omega) (xq125) (by omega))
              · exfalso; omega
      have k141 : (1 : Int32).toInt = 1 := by decide
      exact lp67 _ h54 (1 : Int32) hI fr (FR.rf _ _) (by decide) (hJ0) (Nat.lt_succ_self _)
    · exfalso; omega
