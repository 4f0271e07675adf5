/-! strings: rows of constants -/
section
variable {d : PMd} {pc : Nat} {L : PL} {st : List PV} {h : PH} {Q : Option PV → PH → Prop}
theorem R_getf_c9 {i : Nat} (hi : d.2.2.2.2.2.2.2[pc]? = some (some (.getfield 9, 3))) (hd : d.1 = 12) (hl : i < pStrs.length) (kk : RUN d (pc + 3) L (.inr (.inr (.inr (i + 15))) :: st) h Q) : RUN d pc L (.inr (.inr (.inr (i + 1))) :: st) h Q := RUN_nx (x := (pc + 3, L, .inr (.inr (.inr (i + 15))) :: st, h)) hi rfl rfl (by
  have e : sRd d (.getfield 9) 3 pc L (.inr (.inr (.inr (i + 1))) :: st) h = some (pc + 3, L, .inr (.inr (.inr (i + 15))) :: st, h) := by
    have g : gRd d h (.getfield 9) (.inr (.inr (.inr (i + 1))) :: st) = some (.inr (.inr (.inr (i + 15))), st, 3) := by
      unfold gRd
      exact if_pos ⟨hd, hl⟩
    unfold sRd
    rw [g]
    dsimp only
    rw [if_pos rfl]
  unfold pnext
  rw [e]
  rfl) kk
theorem R_getf_c15 {i : Nat} (hi : d.2.2.2.2.2.2.2[pc]? = some (some (.getfield 15, 3))) (hd : d.1 = 12) (hl : i < pStrs.length) (kk : RUN d (pc + 3) L (.inl 0 :: st) h Q) : RUN d pc L (.inr (.inr (.inr (i + 1))) :: st) h Q := RUN_nx (x := (pc + 3, L, .inl 0 :: st, h)) hi rfl rfl (by
  have e : sRd d (.getfield 15) 3 pc L (.inr (.inr (.inr (i + 1))) :: st) h = some (pc + 3, L, .inl 0 :: st, h) := by
    have g : gRd d h (.getfield 15) (.inr (.inr (.inr (i + 1))) :: st) = some (.inl 0, st, 3) := by
      unfold gRd
      exact if_pos ⟨hd, hl⟩
    unfold sRd
    rw [g]
    dsimp only
    rw [if_pos rfl]
  unfold pnext
  rw [e]
  rfl) kk
theorem R_alen {k : Nat} (n : Int32) (hi : d.2.2.2.2.2.2.2[pc]? = some (some (.arraylength, 1))) (hk : 15 ≤ k ∧ k - 15 < pStrs.length) (hn : Int32.ofNat (pStrs.getD (k - 15) []).length = n) (kk : RUN d (pc + 1) L (.inl n :: st) h Q) : RUN d pc L (.inr (.inr (.inr k)) :: st) h Q := RUN_nx (x := (pc + 1, L, .inl n :: st, h)) hi rfl rfl (by
  have e : sRd d (.arraylength) 1 pc L (.inr (.inr (.inr k)) :: st) h = some (pc + 1, L, .inl n :: st, h) := by
    have g : gRd d h (.arraylength) (.inr (.inr (.inr k)) :: st) = some (.inl n, st, 1) := by
      unfold gRd
      dsimp only
      rw [if_pos hk, hn]
    unfold sRd
    rw [g]
    dsimp only
    rw [if_pos rfl]
  unfold pnext
  rw [e]
  rfl) kk
theorem R_baldc {k n : Nat} {i : Int32} (hi : d.2.2.2.2.2.2.2[pc]? = some (some (.baload, 1))) (hk : 15 ≤ k ∧ k - 15 < pStrs.length) (hn : (pStrs.getD (k - 15) []).length = n) (hin : 0 ≤ i.toInt ∧ i.toInt < n) (kk : ∀ z : Int32, RUN d (pc + 1) L (.inl z :: st) h Q) : RUN d pc L (.inl i :: .inr (.inr (.inr k)) :: st) h Q := RUN_nx (x := (pc + 1, L, .inl ((pStrs.getD (k - 15) []).getD i.toNatClampNeg 0) :: st, h)) hi rfl rfl (by
  have e : sRd d (.baload) 1 pc L (.inl i :: .inr (.inr (.inr k)) :: st) h = some (pc + 1, L, .inl ((pStrs.getD (k - 15) []).getD i.toNatClampNeg 0) :: st, h) := by
    have g : gRd d h (.baload) (.inl i :: .inr (.inr (.inr k)) :: st) = some (.inl ((pStrs.getD (k - 15) []).getD i.toNatClampNeg 0), st, 1) := by
      unfold gRd
      dsimp only
      rw [if_pos ⟨hk.1, hk.2, by subst hn; exact decide_eq_true hin⟩]
    unfold sRd
    rw [g]
    dsimp only
    rw [if_pos rfl]
  unfold pnext
  rw [e]
  rfl) (kk _)
theorem R_gst38 (hi : d.2.2.2.2.2.2.2[pc]? = some (some (.getstatic 38, 3))) (hd : d.1 = 12) (kk : RUN d (pc + 3) L (.inl 1 :: st) h Q) : RUN d pc L st h Q := RUN_nx (x := (pc + 3, L, .inl 1 :: st, h)) hi rfl rfl (by
  have e : sRd d (.getstatic 38) 3 pc L st h = some (pc + 3, L, .inl 1 :: st, h) := by
    have g : gRd d h (.getstatic 38) st = some (.inl 1, st, 3) := by
      unfold gRd
      dsimp only
      rw [if_neg (by rw [hd]; decide), if_pos ⟨hd, rfl⟩]
    unfold sRd
    rw [g]
    dsimp only
    rw [if_pos rfl]
  unfold pnext
  rw [e]
  rfl) kk
theorem R_gst1053 (hi : d.2.2.2.2.2.2.2[pc]? = some (some (.getstatic 1053, 3))) (hd : d.1 = 12) (kk : RUN d (pc + 3) L (.inr (.inr (.inr 40)) :: st) h Q) : RUN d pc L st h Q := RUN_nx (x := (pc + 3, L, .inr (.inr (.inr 40)) :: st, h)) hi rfl rfl (by
  have e : sRd d (.getstatic 1053) 3 pc L st h = some (pc + 3, L, .inr (.inr (.inr 40)) :: st, h) := by
    have g : gRd d h (.getstatic 1053) st = some (.inr (.inr (.inr 40)), st, 3) := by
      unfold gRd
      dsimp only
      rw [if_neg (by rw [hd]; decide), if_neg (by rw [hd]; decide), if_pos ⟨hd, rfl⟩]
    unfold sRd
    rw [g]
    dsimp only
    rw [if_pos rfl]
  unfold pnext
  rw [e]
  rfl) kk
end
/-! the machine has one answer -/
theorem prun_det {f g : Nat} {d : PMd} {pc : Nat} {L : PL} {st : List PV} {h : PH} {x y : Option PV × PH} (hx : prun f d pc L st h = some x) (hy : prun g d pc L st h = some y) : x = y := by
  have a := prun_mono (Nat.le_max_left f g) hx
  have b := prun_mono (Nat.le_max_right f g) hy
  rw [a] at b
  exact Option.some.inj b
noncomputable def ansI (d : PMd) (vs : List PV) (h : PH) : Int32 :=
  @dite _ (∃ z : Int32, ∃ f h', prun f d 0 (pargs 0 vs) [] h = some (some (.inl z), h')) (Classical.propDecidable _) (fun e => Classical.choose e) (fun _ => 0)
theorem ansI_eq {d : PMd} {vs : List PV} {h : PH} {f : Nat} {z : Int32} {h' : PH} (hx : prun f d 0 (pargs 0 vs) [] h = some (some (.inl z), h')) : ansI d vs h = z := by
  have e : ∃ z : Int32, ∃ f h', prun f d 0 (pargs 0 vs) [] h = some (some (.inl z), h') := ⟨z, f, h', hx⟩
  have hq : ansI d vs h = Classical.choose e := by
    unfold ansI
    exact dif_pos e
  rw [hq]
  obtain ⟨f2, h2, hy⟩ := Classical.choose_spec e
  have := prun_det hy hx
  injection this with a b
  injection a with a
  injection a
theorem CALL_ans {d : PMd} {vs : List PV} {h : PH} {Q : Option PV → PH → Prop} (hc : CALL d vs h Q) : CALL d vs h (fun r h' => Q r h' ∧ ∀ z, r = some (.inl z) → z = ansI d vs h) := by
  obtain ⟨f, r, h', h1, h2⟩ := hc
  refine ⟨f, r, h', h1, h2, fun z hz => ?_⟩
  subst hz
  exact (ansI_eq h1).symm
theorem small_nat {y : Int32} (h : 0 ≤ y.toInt ∧ y.toInt ≤ 255) : ∃ n : Nat, n ≤ 255 ∧ y = nI n := by
  obtain ⟨j, hj, e⟩ := nI_of (x := y) (fun z => absurd (Int32.lt_iff_toInt_lt.mp z) (by rw [show (0 : Int32).toInt = 0 from rfl]; omega))
  have e2 : y.toInt = j := by rw [e]; exact nI_toInt hj
  exact ⟨j, by omega, e⟩
set_option maxRecDepth 100000 in
theorem nar_c {x : Int32} (h : 0 ≤ x.toInt ∧ x.toInt ≤ 255) : narrow .char (.int x) = .int x := by
  obtain ⟨n, hn, rfl⟩ := small_nat h
  have : ∀ n : Nat, n ≤ 255 → (nI n).toUInt32.toUInt16.toUInt32.toInt32 = nI n := by decide +kernel
  show Value.int _ = _
  rw [this n hn]
section
variable {d : PMd} {pc : Nat} {L : PL} {st : List PV} {h : PH} {Q : Option PV → PH → Prop} {x y : Int32} {a b : Int}
set_option maxRecDepth 100000 in
theorem N_i2cb (hi : d.2.2.2.2.2.2.2[pc]? = some (some (.i2c, 1))) (hx : x.toInt = a) (hb : 0 ≤ a ∧ a ≤ 255) (k : ∀ z : Int32, z.toInt = a → RUN d (pc + 1) L (.inl z :: st) h Q) : RUN d pc L (.inl x :: st) h Q := by
  refine R_i2c hi (k _ ?_)
  obtain ⟨n, hn, rfl⟩ := small_nat (y := x) (by omega)
  have : ∀ n : Nat, n ≤ 255 → ((nI n).toUInt32 % 65536).toInt32 = nI n := by decide +kernel
  rw [this n hn, hx]
theorem N_ishr0 (hi : d.2.2.2.2.2.2.2[pc]? = some (some (.ishr, 1))) (hx : x.toInt = a) (hy : y.toInt = 0) (k : ∀ z : Int32, z.toInt = a → RUN d (pc + 1) L (.inl z :: st) h Q) : RUN d pc L (.inl y :: .inl x :: st) h Q := by
  refine R_ishr hi (k _ ?_)
  have e : y = 0 := i_of 0 (hy.trans rfl)
  subst e
  rw [show (0 : Int32) &&& 31 = 0 from rfl]
  have : x >>> (0 : Int32) = x := by
    apply Int32.toBitVec_inj.mp
    rw [Int32.toBitVec_shiftRight]
    show x.toBitVec.sshiftRight _ = _
    exact BitVec.sshiftRight_zero
  rw [this, hx]
end
