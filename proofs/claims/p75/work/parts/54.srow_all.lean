/-! what a row answers, by what is asked -/
def s_row (s w n : Int) : Int32 := if s < 0 ∨ 3 < s ∨ w < 0 ∨ 3 < w ∨ 60 < n then -2 else if n < 0 then -3 else 0

/-! what image, back, write and paste answer, and what rows they leave -/
def s_image (k : Int) : Int32 := if 0 ≤ k ∧ k ≤ 2 then 0 else -2
def imgR (f : Nat → Int32) (k : Int32) : Nat → Int32 := if 0 ≤ k.toInt ∧ k.toInt ≤ 2 then upd f k.toNatClampNeg 1 else f
def s_back (k : Int) (v : Int) : Int32 := if 0 ≤ k ∧ k ≤ 2 then (if v = 0 then -6 else 0) else -2
def okRow (s w n : Int) : Prop := 0 ≤ s ∧ s ≤ 3 ∧ 0 ≤ w ∧ w ≤ 3 ∧ 0 ≤ n ∧ n ≤ 60
def rowR (f : Nat → Int32) (s w n : Int32) (v : Int32) : Nat → Int32 := if 0 ≤ s.toInt ∧ s.toInt ≤ 3 ∧ 0 ≤ w.toInt ∧ w.toInt ≤ 3 ∧ 0 ≤ n.toInt ∧ n.toInt ≤ 60 then upd f s.toNatClampNeg v else f
def s_write (s i len : Int) : Int32 := if 0 ≤ s ∧ s ≤ 3 then (if len = -1 then -6 else if 0 ≤ i ∧ i < len then 0 else -7) else -2
def s_paste (s i t k n ls lt ws wt : Int) : Int32 := if 0 ≤ s ∧ s ≤ 3 ∧ 0 ≤ t ∧ t ≤ 3 then (if ls = -1 ∨ lt = -1 then -6 else if ws = wt then (if 0 ≤ i ∧ 0 ≤ k ∧ 0 ≤ n ∧ i + n ≤ ls ∧ k + n ≤ lt then 0 else -7) else -8) else -2
theorem bo1 : vp_nar .boolean (1 : Int32) = 1 := by decide
theorem img_row {f g : Nat → Int32} {k : Int32} (hk : 0 ≤ k.toInt ∧ k.toInt ≤ 2) (e : g = upd f k.toNatClampNeg (vp_nar .boolean (1 : Int32))) : g = imgR f k := by
  unfold imgR
  rw [if_pos hk, e, bo1]
def REL (h : PH) : Prop := (∀ j, j < 3 → h.1 65 j = h.1 99 j) ∧ (∀ j, j < 4 → h.1 68 j = h.1 127 j) ∧ (∀ j, j < 4 → h.1 69 j = h.1 128 j)
theorem REL_fr {V W : List Nat} {h h1 h2 : PH} (a : FR V h h1) (b : FR W h1 h2) (hv : [65, 68, 69, 99, 127, 128].all (fun k => !V.contains k) = true) (hw : [65, 68, 69, 99, 127, 128].all (fun k => !W.contains k) = true) (r : REL h) : REL h2 := by
  have key : ∀ k, k ∈ [65, 68, 69, 99, 127, 128] → h2.1 k = h.1 k := fun k hk => by
    have q1 := List.all_eq_true.mp hv k hk
    have q2 := List.all_eq_true.mp hw k hk
    exact ((b k (by simpa using q2)).1).trans ((a k (by simpa using q1)).1)
  unfold REL
  rw [key 65 (by decide), key 68 (by decide), key 69 (by decide), key 99 (by decide), key 127 (by decide), key 128 (by decide)]
  exact r
theorem REL_img {V W : List Nat} {h h1 h2 : PH} {k : Int32} (a : FR V h h1) (b : FR W h1 h2) (hv : [68, 69, 99, 127, 128].all (fun k => !V.contains k) = true) (hw : [65, 68, 69, 127, 128].all (fun k => !W.contains k) = true) (e1 : h1.1 65 = imgR (h.1 65) k) (e2 : h2.1 99 = imgR (h1.1 99) k) (r : REL h) : REL h2 := by
  have k1 : ∀ k, k ∈ [68, 69, 99, 127, 128] → h1.1 k = h.1 k := fun k hk => (a k (by simpa using List.all_eq_true.mp hv k hk)).1
  have k2 : ∀ k, k ∈ [65, 68, 69, 127, 128] → h2.1 k = h1.1 k := fun k hk => (b k (by simpa using List.all_eq_true.mp hw k hk)).1
  unfold REL
  rw [k2 65 (by decide), k2 68 (by decide), k2 69 (by decide), k2 127 (by decide), k2 128 (by decide), e2, e1, k1 68 (by decide), k1 69 (by decide), k1 99 (by decide), k1 127 (by decide), k1 128 (by decide)]
  refine ⟨fun j hj => ?_, r.2.1, r.2.2⟩
  unfold imgR
  split
  · unfold upd
    split
    · rfl
    · exact r.1 j hj
  · exact r.1 j hj
theorem REL_row {V W : List Nat} {h h1 h2 : PH} {s w n : Int32} (a : FR V h h1) (b : FR W h1 h2) (hv : [65, 99, 127, 128].all (fun k => !V.contains k) = true) (hw : [65, 68, 69, 99].all (fun k => !W.contains k) = true) (e1 : h1.1 68 = rowR (h.1 68) s w n n) (e2 : h1.1 69 = rowR (h.1 69) s w n w) (e3 : h2.1 127 = rowR (h1.1 127) s w n n) (e4 : h2.1 128 = rowR (h1.1 128) s w n w) (r : REL h) : REL h2 := by
  have k1 : ∀ k, k ∈ [65, 99, 127, 128] → h1.1 k = h.1 k := fun k hk => (a k (by simpa using List.all_eq_true.mp hv k hk)).1
  have k2 : ∀ k, k ∈ [65, 68, 69, 99] → h2.1 k = h1.1 k := fun k hk => (b k (by simpa using List.all_eq_true.mp hw k hk)).1
  unfold REL
  rw [k2 65 (by decide), k2 68 (by decide), k2 69 (by decide), k2 99 (by decide), e3, e4, e1, e2, k1 65 (by decide), k1 99 (by decide), k1 127 (by decide), k1 128 (by decide)]
  refine ⟨r.1, fun j hj => ?_, fun j hj => ?_⟩
  · unfold rowR
    split
    · unfold upd
      split
      · rfl
      · exact r.2.1 j hj
    · exact r.2.1 j hj
  · unfold rowR
    split
    · unfold upd
      split
      · rfl
      · exact r.2.2 j hj
    · exact r.2.2 j hj
theorem row_of {f g : Nat → Int32} {s w n v : Int32} (hk : 0 ≤ s.toInt ∧ s.toInt ≤ 3 ∧ 0 ≤ w.toInt ∧ w.toInt ≤ 3 ∧ 0 ≤ n.toInt ∧ n.toInt ≤ 60) (e : g = upd f s.toNatClampNeg v) : g = rowR f s w n v := by
  unfold rowR
  rw [if_pos hk, e]
theorem row_no {f g : Nat → Int32} {s w n v : Int32} (hk : ¬ (0 ≤ s.toInt ∧ s.toInt ≤ 3 ∧ 0 ≤ w.toInt ∧ w.toInt ≤ 3 ∧ 0 ≤ n.toInt ∧ n.toInt ≤ 60)) (e : g = f) : g = rowR f s w n v := by
  unfold rowR
  rw [if_neg hk, e]
theorem back_eq {h h1 : PH} {k : Int32} (r : REL h) (e : h1.1 99 = h.1 99) : s_back k.toInt (h.1 65 k.toNatClampNeg).toInt = s_back k.toInt (h1.1 99 k.toNatClampNeg).toInt := by
  unfold s_back
  by_cases c : 0 ≤ k.toInt ∧ k.toInt ≤ 2
  · rw [if_pos c, if_pos c, e, r.1 _ (nlt ⟨c.1, by omega⟩)]
  · rw [if_neg c, if_neg c]
theorem write_eq {h h1 : PH} {s i : Int32} (r : REL h) (e : h1.1 127 = h.1 127) : s_write s.toInt i.toInt (h.1 68 s.toNatClampNeg).toInt = s_write s.toInt i.toInt (h1.1 127 s.toNatClampNeg).toInt := by
  unfold s_write
  by_cases c : 0 ≤ s.toInt ∧ s.toInt ≤ 3
  · rw [if_pos c, if_pos c, e, r.2.1 _ (nlt ⟨c.1, by omega⟩)]
  · rw [if_neg c, if_neg c]
theorem paste_eq {h h1 : PH} {s i t k n : Int32} (r : REL h) (e : h1.1 127 = h.1 127) (e2 : h1.1 128 = h.1 128) : s_paste s.toInt i.toInt t.toInt k.toInt n.toInt (h.1 68 s.toNatClampNeg).toInt (h.1 68 t.toNatClampNeg).toInt (h.1 69 s.toNatClampNeg).toInt (h.1 69 t.toNatClampNeg).toInt = s_paste s.toInt i.toInt t.toInt k.toInt n.toInt (h1.1 127 s.toNatClampNeg).toInt (h1.1 127 t.toNatClampNeg).toInt (h1.1 128 s.toNatClampNeg).toInt (h1.1 128 t.toNatClampNeg).toInt := by
  unfold s_paste
  by_cases c : 0 ≤ s.toInt ∧ s.toInt ≤ 3 ∧ 0 ≤ t.toInt ∧ t.toInt ≤ 3
  · rw [if_pos c, if_pos c, e, e2, r.2.1 _ (nlt (x := s) ⟨c.1, by omega⟩), r.2.1 _ (nlt (x := t) ⟨c.2.2.1, by omega⟩), r.2.2 _ (nlt (x := s) ⟨c.1, by omega⟩), r.2.2 _ (nlt (x := t) ⟨c.2.2.1, by omega⟩)]
  · rw [if_neg c, if_neg c]

abbrev qg_X8_image (h : PH) (a0 : Int32) : Option PV → PH → Prop := fun r h' => INV h' ∧ FR [29, 30, 31, 32, 33, 34, 35, 36, 37, 38, 39, 41, 42, 43, 44, 45, 46, 47, 48, 49, 50, 51, 53, 54, 55, 56, 57, 58, 59, 60, 61, 62, 63, 65] h h' ∧ ((h'.1 65 = imgR (h.1 65) a0) ∧ True) ∧ ∃ z : Int32, r = some (.inl z) ∧ ((((-2) ≤ z.toInt ∧ z.toInt ≤ 0)) ∧ (z = s_image a0.toInt) ∧ True)
set_option maxHeartbeats 4000000 in
set_option maxRecDepth 100000 in
theorem g_X8_image (h : PH) (hI : INV h) (a0 : Int32) : CALL d_X8_image [.inr (.inr (.inl 0)), .inl a0] h (qg_X8_image h a0) := by
  show RUN d_X8_image 0 [(0, .inr (.inr (.inl 0))), (1, .inl a0)] [] h _
  have b1 := i_rng a0
  have fr : FR [29, 30, 31, 32, 33, 34, 35, 36, 37, 38, 39, 41, 42, 43, 44, 45, 46, 47, 48, 49, 50, 51, 53, 54, 55, 56, 57, 58, 59, 60, 61, 62, 63, 65] h h := FR.rf _ _
  refine R_iload_n (k := 1) rfl rfl rfl ?_
  refine N_if_lt (a := a0.toInt) 9 rfl rfl rfl (fun c2 => ?_) (fun c2 => ?_)
  · refine R_bipush (-2) rfl rfl ?_
    have k3 : ((-2) : Int32).toInt = (-2) := by decide
    exact R_iret rfl rfl rfl ⟨hI, fr, ⟨(by unfold imgR; rw [if_neg (by omega)]), trivial⟩, _, rfl, ⟨by rw [show ((-2) : Int32).toInt = (-2) from rfl] <;> omega, (by unfold s_image; rw [if_neg (by omega)]), trivial⟩⟩
  · refine R_iload_n (k := 1) rfl rfl rfl ?_
    refine R_iconst 3 rfl rfl ?_
    refine N_icmp_lt (a := a0.toInt) (b := 3) 12 rfl rfl rfl (by decide) (fun c4 => ?_) (fun c4 => ?_)
    · refine R_aload_n (k := 0) rfl rfl rfl ?_
      refine R_getf_r (j := 4) rfl ft_8_31 sh_0 rfl ?_
      refine R_iload_n (k := 1) rfl rfl rfl ?_
      rcases (show a0.toInt = 0 ∨ a0.toInt = 1 ∨ a0.toInt = 2 by omega) with c5 | c5 | c5
      · refine R_aald 28 rfl sh_64 ⟨by omega, by show a0.toInt < (3 : Int); omega⟩ (by rw [tnc (n := 0) c5]; rfl) ?_
        refine R_aload_n (k := 0) rfl rfl rfl ?_
        refine R_getf_r (j := 3) rfl ft_8_28 sh_0 rfl ?_
        refine R_callV (v := .inr (.inr (.inl 28))) (As := [.inr (.inr (.inl 16))]) (rest := []) rfl mt_8_i102 pp_X1_copyFrom (by decide) rfl rfl rfl (Nat.le_of_ble_eq_true rfl) (Nat.le_of_ble_eq_true rfl) ((k_X1_copyFrom_1 h hI).mono (fun r6 h7 p8 => ?_))
        obtain ⟨hJ, fj, -, rfl⟩ := p8
        have f9 := fj
        have fr := fr.trans fj (by decide)
        have hI := hJ
        show RUN d_X8_image 25 [(0, .inr (.inr (.inl 0))), (1, .inl a0)] [] h7 _
        have hr0 : h7.1 65 = h.1 65 := (f9 65 (by decide)).1
        refine R_aload_n (k := 0) rfl rfl rfl ?_
        refine R_getf_r (j := 5) rfl ft_8_35 sh_0 rfl ?_
        refine R_iload_n (k := 1) rfl rfl rfl ?_
        refine R_iconst 1 rfl rfl ?_
        refine K_zast (a := a0.toInt) rfl sh_65 rfl ⟨by omega, by omega⟩ hI (by decide) rfl fr (by decide) (fun h10 g11 hI fr => ?_)
        refine R_iconst 0 rfl rfl ?_
        have k12 : (0 : Int32).toInt = 0 := by decide
        exact R_iret rfl rfl rfl ⟨hI, fr, ⟨img_row (by omega) (by rw [g11, wI_self, hr0]), trivial⟩, _, rfl, ⟨by rw [show (0 : Int32).toInt = 0 from rfl] <;> omega, (by unfold s_image; rw [if_pos (by omega)]), trivial⟩⟩
      · refine R_aald 40 rfl sh_64 ⟨by omega, by show a0.toInt < (3 : Int); omega⟩ (by rw [tnc (n := 1) c5]; rfl) ?_
        refine R_aload_n (k := 0) rfl rfl rfl ?_
        refine R_getf_r (j := 3) rfl ft_8_28 sh_0 rfl ?_
        refine R_callV (v := .inr (.inr (.inl 40))) (As := [.inr (.inr (.inl 16))]) (rest := []) rfl mt_8_i102 pp_X1_copyFrom (by decide) rfl rfl rfl (Nat.le_of_ble_eq_true rfl) (Nat.le_of_ble_eq_true rfl) ((k_X1_copyFrom_2 h hI).mono (fun r13 h14 p15 => ?_))
        obtain ⟨hJ, fj, -, rfl⟩ := p15
        have f16 := fj
        have fr := fr.trans fj (by decide)
        have hI := hJ
        show RUN d_X8_image 25 [(0, .inr (.inr (.inl 0))), (1, .inl a0)] [] h14 _
        have hr0 : h14.1 65 = h.1 65 := (f16 65 (by decide)).1
        refine R_aload_n (k := 0) rfl rfl rfl ?_
        refine R_getf_r (j := 5) rfl ft_8_35 sh_0 rfl ?_
        refine R_iload_n (k := 1) rfl rfl rfl ?_
        refine R_iconst 1 rfl rfl ?_
        refine K_zast (a := a0.toInt) rfl sh_65 rfl ⟨by omega, by omega⟩ hI (by decide) rfl fr (by decide) (fun h17 g18 hI fr => ?_)
        refine R_iconst 0 rfl rfl ?_
        have k19 : (0 : Int32).toInt = 0 := by decide
        exact R_iret rfl rfl rfl ⟨hI, fr, ⟨img_row (by omega) (by rw [g18, wI_self, hr0]), trivial⟩, _, rfl, ⟨by rw [show (0 : Int32).toInt = 0 from rfl] <;> omega, (by unfold s_image; rw [if_pos (by omega)]), trivial⟩⟩
      · refine R_aald 52 rfl sh_64 ⟨by omega, by show a0.toInt < (3 : Int); omega⟩ (by rw [tnc (n := 2) c5]; rfl) ?_
        refine R_aload_n (k := 0) rfl rfl rfl ?_
        refine R_getf_r (j := 3) rfl ft_8_28 sh_0 rfl ?_
        refine R_callV (v := .inr (.inr (.inl 52))) (As := [.inr (.inr (.inl 16))]) (rest := []) rfl mt_8_i102 pp_X1_copyFrom (by decide) rfl rfl rfl (Nat.le_of_ble_eq_true rfl) (Nat.le_of_ble_eq_true rfl) ((k_X1_copyFrom_3 h hI).mono (fun r20 h21 p22 => ?_))
        obtain ⟨hJ, fj, -, rfl⟩ := p22
        have f23 := fj
        have fr := fr.trans fj (by decide)
        have hI := hJ
        show RUN d_X8_image 25 [(0, .inr (.inr (.inl 0))), (1, .inl a0)] [] h21 _
        have hr0 : h21.1 65 = h.1 65 := (f23 65 (by decide)).1
        refine R_aload_n (k := 0) rfl rfl rfl ?_
        refine R_getf_r (j := 5) rfl ft_8_35 sh_0 rfl ?_
        refine R_iload_n (k := 1) rfl rfl rfl ?_
        refine R_iconst 1 rfl rfl ?_
        refine K_zast (a := a0.toInt) rfl sh_65 rfl ⟨by omega, by omega⟩ hI (by decide) rfl fr (by decide) (fun h24 g25 hI fr => ?_)
        refine R_iconst 0 rfl rfl ?_
        have k26 : (0 : Int32).toInt = 0 := by decide
        exact R_iret rfl rfl rfl ⟨hI, fr, ⟨img_row (by omega) (by rw [g25, wI_self, hr0]), trivial⟩, _, rfl, ⟨by rw [show (0 : Int32).toInt = 0 from rfl] <;> omega, (by unfold s_image; rw [if_pos (by omega)]), trivial⟩⟩
    · refine R_bipush (-2) rfl rfl ?_
      have k27 : ((-2) : Int32).toInt = (-2) := by decide
      exact R_iret rfl rfl rfl ⟨hI, fr, ⟨(by unfold imgR; rw [if_neg (by omega)]), trivial⟩, _, rfl, ⟨by rw [show ((-2) : Int32).toInt = (-2) from rfl] <;> omega, (by unfold s_image; rw [if_neg (by omega)]), trivial⟩⟩

abbrev qg_X9_image (h : PH) (a0 : Int32) : Option PV → PH → Prop := fun r h' => INV h' ∧ FR [98, 99] h h' ∧ ((h'.1 99 = imgR (h.1 99) a0) ∧ True) ∧ ∃ z : Int32, r = some (.inl z) ∧ ((True) ∧ (z = s_image a0.toInt) ∧ True)
set_option maxHeartbeats 4000000 in
set_option maxRecDepth 100000 in
theorem g_X9_image (h : PH) (hI : INV h) (a0 : Int32) : CALL d_X9_image [.inr (.inr (.inl 96)), .inl a0] h (qg_X9_image h a0) := by
  show RUN d_X9_image 0 [(0, .inr (.inr (.inl 96))), (1, .inl a0)] [] h _
  have fr : FR [98, 99] h h := FR.rf _ _
  have b1 := i_rng a0
  refine R_iload_n (k := 1) rfl rfl rfl ?_
  refine N_i2l rfl (fun w1 q2 => ?_)
  refine R_lconst 0 rfl rfl ?_
  refine R_ldc2 (x := 2) rfl kt_9_123 ?_
  have k3 : (0 : Int64).toInt = 0 := by decide
  have k4 : (2 : Int64).toInt = 2 := by decide
  refine R_callS (As := [.inr (.inl w1), .inr (.inl 0), .inr (.inl 2)]) (rest := []) rfl mt_9_i125 (by decide) pp_X9_in (by decide) rfl rfl (Nat.le_of_ble_eq_true rfl) (Nat.le_of_ble_eq_true rfl) ((k_X9_in h hI w1 (0 : Int64) (2 : Int64)).mono (fun r5 h6 p7 => ?_))
  have hx : ∃ x8 : Int32, h = h6 ∧ r5 = some (.inl x8) ∧ ((x8.toInt = 0 ∧ ¬ (0 ≤ a0.toInt ∧ a0.toInt ≤ 2)) ∨ (x8.toInt = 1 ∧ 0 ≤ a0.toInt ∧ a0.toInt ≤ 2)) := by
    obtain ⟨e, x8, e2, q9⟩ := p7
    exact ⟨x8, e, e2, by omega⟩
  obtain ⟨x8, rfl, rfl, q9⟩ := hx
  show RUN d_X9_image 9 [(0, .inr (.inr (.inl 96))), (1, .inl a0)] [.inl x8] h _
  refine N_if_ne (a := x8.toInt) 15 rfl rfl rfl (fun c10 => ?_) (fun c10 => ?_)
  · have ha : 0 ≤ a0.toInt ∧ a0.toInt ≤ 2 := by omega
    have ea := pcl (x := a0) ha.1
    refine R_iconst 0 rfl rfl ?_
    refine R_istore_n (k := 2) rfl [(2, .inl 0), (0, .inr (.inr (.inl 96))), (1, .inl a0)] rfl rfl (by decide) ?_
    have lp : ∀ (n : Nat) (x : Int32), 0 ≤ x.toInt ∧ x.toInt ≤ 68 → (68 - x.toInt).toNat < n → RUN d_X9_image 17 [(2, .inl x), (0, .inr (.inr (.inl 96))), (1, .inl a0)] [] (mixI h 98 97 (68 * a0.toNatClampNeg) 0 x.toNatClampNeg) (qg_X9_image h a0) := by
      intro n
      induction n with
      | zero => intro x m1 hz; exact absurd hz (Nat.not_lt_zero _)
      | succ n ih =>
        intro x m1 hz
        have ex := pcl (x := x) m1.1
        refine R_iload_n (k := 2) rfl rfl rfl ?_
        refine R_bipush 68 rfl rfl ?_
        refine N_icmp_ge (a := x.toInt) (b := 68) 46 rfl rfl rfl (by decide) (fun c => ?_) (fun c => ?_)
        · have e68 : x.toNatClampNeg = 68 := by omega
          rw [e68]
          have hI2 := INV_image hI (k := a0.toNatClampNeg) (by omega)
          have fr2 : FR [98, 99] h (mixI h 98 97 (68 * a0.toNatClampNeg) 0 68) := FR_mix (by decide)
          refine R_aload_n (k := 0) rfl rfl rfl ?_
          refine R_getf_r (j := 3) rfl ft_9_16 sh_96 rfl ?_
          refine R_iload_n (k := 1) rfl rfl rfl ?_
          refine R_iconst 1 rfl rfl ?_
          refine K_zast (a := a0.toInt) rfl sh_99 rfl ⟨by omega, by omega⟩ hI2 (by decide) rfl fr2 (by decide) (fun h26 g27 hI3 fr3 => ?_)
          refine R_iconst 0 rfl rfl ?_
          exact R_iret rfl rfl rfl ⟨hI3, fr3, ⟨img_row ha (by rw [g27, wI_self, mixI_ne (by decide)]), trivial⟩, _, rfl, trivial, (by unfold s_image; rw [if_pos ha]), trivial⟩
        · refine R_aload_n (k := 0) rfl rfl rfl ?_
          refine R_getf_r (j := 2) rfl ft_9_13 sh_96 rfl ?_
          refine R_bipush 68 rfl rfl ?_
          refine R_iload_n (k := 1) rfl rfl rfl ?_
          refine N_imul (a := 68) (b := a0.toInt) rfl (by decide) rfl (by omega) (fun x2 q3 => ?_)
          refine R_iload_n (k := 2) rfl rfl rfl ?_
          refine N_iadd (a := x2.toInt) (b := x.toInt) rfl rfl rfl (by omega) (fun x4 q5 => ?_)
          refine R_aload_n (k := 0) rfl rfl rfl ?_
          refine R_getf_r (j := 1) rfl ft_9_9 sh_96 rfl ?_
          refine R_iload_n (k := 2) rfl rfl rfl ?_
          refine R_iald rfl sh_97 ⟨by omega, by omega⟩ ?_
          refine R_iast rfl sh_98 ⟨by omega, by omega⟩ ?_
          have e4 : x4.toNatClampNeg = 68 * a0.toNatClampNeg + x.toNatClampNeg := by
            have := pcl (x := x4) (by omega)
            omega
          rw [e4, mixI_ne (r := 97) (by decide), show x.toNatClampNeg = x.toNatClampNeg + 0 from rfl, mixI_s]
          refine N_iinc (a := x.toInt) (c := 1) (fun w => [(2, .inl w), (0, .inr (.inr (.inl 96))), (1, .inl a0)]) rfl rfl (fun _ => rfl) (by decide) rfl (by decide) (by omega) (fun x6 q7 => ?_)
          refine R_goto 17 rfl rfl ?_
          have e6 : x.toNatClampNeg + 0 + 1 = x6.toNatClampNeg := by
            have := pcl (x := x6) (by omega)
            omega
          have hh := ih x6 (by omega) (by omega)
          rw [← e6] at hh
          exact hh
    have h0 := lp _ 0 (by decide) (Nat.lt_succ_self _)
    rw [show (0 : Int32).toNatClampNeg = 0 from rfl, mixI_0] at h0
    exact h0
  · refine R_bipush (-2) rfl rfl ?_
    exact R_iret rfl rfl rfl ⟨hI, fr, ⟨(by unfold imgR; rw [if_neg (by omega)]), trivial⟩, _, rfl, trivial, (by unfold s_image; rw [if_neg (by omega)]), trivial⟩

abbrev qg_X8_back (h : PH) (a0 : Int32) : Option PV → PH → Prop := fun r h' => INV h' ∧ FR [0, 17, 18, 19, 20, 21, 22, 23, 24, 25, 26, 27] h h' ∧ (True) ∧ ∃ z : Int32, r = some (.inl z) ∧ ((((-6) ≤ z.toInt ∧ z.toInt ≤ 0)) ∧ (z = s_back a0.toInt (h.1 65 a0.toNatClampNeg).toInt) ∧ True)
set_option maxHeartbeats 4000000 in
set_option maxRecDepth 100000 in
theorem g_X8_back (h : PH) (hI : INV h) (a0 : Int32) : CALL d_X8_back [.inr (.inr (.inl 0)), .inl a0] h (qg_X8_back h a0) := by
  show RUN d_X8_back 0 [(0, .inr (.inr (.inl 0))), (1, .inl a0)] [] h _
  have b1 := i_rng a0
  have fr : FR [0, 17, 18, 19, 20, 21, 22, 23, 24, 25, 26, 27] h h := FR.rf _ _
  refine R_iload_n (k := 1) rfl rfl rfl ?_
  refine N_if_lt (a := a0.toInt) 9 rfl rfl rfl (fun c2 => ?_) (fun c2 => ?_)
  · refine R_bipush (-2) rfl rfl ?_
    have k3 : ((-2) : Int32).toInt = (-2) := by decide
    exact R_iret rfl rfl rfl ⟨hI, fr, trivial, _, rfl, ⟨by rw [show ((-2) : Int32).toInt = (-2) from rfl] <;> omega, (by unfold s_back; rw [if_neg (by omega)]), trivial⟩⟩
  · refine R_iload_n (k := 1) rfl rfl rfl ?_
    refine R_iconst 3 rfl rfl ?_
    refine N_icmp_lt (a := a0.toInt) (b := 3) 12 rfl rfl rfl (by decide) (fun c4 => ?_) (fun c4 => ?_)
    · refine R_aload_n (k := 0) rfl rfl rfl ?_
      refine R_getf_r (j := 5) rfl ft_8_35 sh_0 rfl ?_
      refine R_iload_n (k := 1) rfl rfl rfl ?_
      refine R_zald rfl sh_65 ⟨by omega, by omega⟩ ?_
      refine N_eq (fun x5 e6 => ?_)
      refine N_if_ne (a := x5.toInt) 24 rfl rfl rfl (fun c7 => ?_) (fun c7 => ?_)
      · refine R_aload_n (k := 0) rfl rfl rfl ?_
        refine R_getf_r (j := 3) rfl ft_8_28 sh_0 rfl ?_
        refine R_aload_n (k := 0) rfl rfl rfl ?_
        refine R_getf_r (j := 4) rfl ft_8_31 sh_0 rfl ?_
        refine R_iload_n (k := 1) rfl rfl rfl ?_
        rcases (show a0.toInt = 0 ∨ a0.toInt = 1 ∨ a0.toInt = 2 by omega) with c8 | c8 | c8
        · refine R_aald 28 rfl sh_64 ⟨by omega, by show a0.toInt < (3 : Int); omega⟩ (by rw [tnc (n := 0) c8]; rfl) ?_
          refine R_callV (v := .inr (.inr (.inl 16))) (As := [.inr (.inr (.inl 28))]) (rest := []) rfl mt_8_i102 pp_X1_copyFrom (by decide) rfl rfl rfl (Nat.le_of_ble_eq_true rfl) (Nat.le_of_ble_eq_true rfl) ((k_X1_copyFrom_4 h hI).mono (fun r9 h10 p11 => ?_))
          obtain ⟨hJ, fj, -, rfl⟩ := p11
          have f12 := fj
          have fr := fr.trans fj (by decide)
          have hI := hJ
          show RUN d_X8_back 37 [(0, .inr (.inr (.inl 0))), (1, .inl a0)] [] h10 _
          refine R_aload_n (k := 0) rfl rfl rfl ?_
          refine R_callV (v := .inr (.inr (.inl 0))) (As := []) (rest := []) rfl mt_8_i106 pp_X8_forgetAll (by decide) rfl rfl rfl (Nat.le_of_ble_eq_true rfl) (Nat.le_of_ble_eq_true rfl) ((k_X8_forgetAll h10 hI).mono (fun r13 h14 p15 => ?_))
          obtain ⟨hJ, fj, -, rfl⟩ := p15
          have f16 := fj
          have fr := fr.trans fj (by decide)
          have hI := hJ
          show RUN d_X8_back 41 [(0, .inr (.inr (.inl 0))), (1, .inl a0)] [] h14 _
          refine R_iconst 0 rfl rfl ?_
          have k17 : (0 : Int32).toInt = 0 := by decide
          exact R_iret rfl rfl rfl ⟨hI, fr, trivial, _, rfl, ⟨by rw [show (0 : Int32).toInt = 0 from rfl] <;> omega, (by unfold s_back; rw [if_pos (by omega), if_neg (by rw [← e6]; omega)]), trivial⟩⟩
        · refine R_aald 40 rfl sh_64 ⟨by omega, by show a0.toInt < (3 : Int); omega⟩ (by rw [tnc (n := 1) c8]; rfl) ?_
          refine R_callV (v := .inr (.inr (.inl 16))) (As := [.inr (.inr (.inl 40))]) (rest := []) rfl mt_8_i102 pp_X1_copyFrom (by decide) rfl rfl rfl (Nat.le_of_ble_eq_true rfl) (Nat.le_of_ble_eq_true rfl) ((k_X1_copyFrom_5 h hI).mono (fun r18 h19 p20 => ?_))
          obtain ⟨hJ, fj, -, rfl⟩ := p20
          have f21 := fj
          have fr := fr.trans fj (by decide)
          have hI := hJ
          show RUN d_X8_back 37 [(0, .inr (.inr (.inl 0))), (1, .inl a0)] [] h19 _
          refine R_aload_n (k := 0) rfl rfl rfl ?_
          refine R_callV (v := .inr (.inr (.inl 0))) (As := []) (rest := []) rfl mt_8_i106 pp_X8_forgetAll (by decide) rfl rfl rfl (Nat.le_of_ble_eq_true rfl) (Nat.le_of_ble_eq_true rfl) ((k_X8_forgetAll h19 hI).mono (fun r22 h23 p24 => ?_))
          obtain ⟨hJ, fj, -, rfl⟩ := p24
          have f25 := fj
          have fr := fr.trans fj (by decide)
          have hI := hJ
          show RUN d_X8_back 41 [(0, .inr (.inr (.inl 0))), (1, .inl a0)] [] h23 _
          refine R_iconst 0 rfl rfl ?_
          have k26 : (0 : Int32).toInt = 0 := by decide
          exact R_iret rfl rfl rfl ⟨hI, fr, trivial, _, rfl, ⟨by rw [show (0 : Int32).toInt = 0 from rfl] <;> omega, (by unfold s_back; rw [if_pos (by omega), if_neg (by rw [← e6]; omega)]), trivial⟩⟩
        · refine R_aald 52 rfl sh_64 ⟨by omega, by show a0.toInt < (3 : Int); omega⟩ (by rw [tnc (n := 2) c8]; rfl) ?_
          refine R_callV (v := .inr (.inr (.inl 16))) (As := [.inr (.inr (.inl 52))]) (rest := []) rfl mt_8_i102 pp_X1_copyFrom (by decide) rfl rfl rfl (Nat.le_of_ble_eq_true rfl) (Nat.le_of_ble_eq_true rfl) ((k_X1_copyFrom_6 h hI).mono (fun r27 h28 p29 => ?_))
          obtain ⟨hJ, fj, -, rfl⟩ := p29
          have f30 := fj
          have fr := fr.trans fj (by decide)
          have hI := hJ
          show RUN d_X8_back 37 [(0, .inr (.inr (.inl 0))), (1, .inl a0)] [] h28 _
          refine R_aload_n (k := 0) rfl rfl rfl ?_
          refine R_callV (v := .inr (.inr (.inl 0))) (As := []) (rest := []) rfl mt_8_i106 pp_X8_forgetAll (by decide) rfl rfl rfl (Nat.le_of_ble_eq_true rfl) (Nat.le_of_ble_eq_true rfl) ((k_X8_forgetAll h28 hI).mono (fun r31 h32 p33 => ?_))
          obtain ⟨hJ, fj, -, rfl⟩ := p33
          have f34 := fj
          have fr := fr.trans fj (by decide)
          have hI := hJ
          show RUN d_X8_back 41 [(0, .inr (.inr (.inl 0))), (1, .inl a0)] [] h32 _
          refine R_iconst 0 rfl rfl ?_
          have k35 : (0 : Int32).toInt = 0 := by decide
          exact R_iret rfl rfl rfl ⟨hI, fr, trivial, _, rfl, ⟨by rw [show (0 : Int32).toInt = 0 from rfl] <;> omega, (by unfold s_back; rw [if_pos (by omega), if_neg (by rw [← e6]; omega)]), trivial⟩⟩
      · refine R_bipush (-6) rfl rfl ?_
        have k36 : ((-6) : Int32).toInt = (-6) := by decide
        exact R_iret rfl rfl rfl ⟨hI, fr, trivial, _, rfl, ⟨by rw [show ((-6) : Int32).toInt = (-6) from rfl] <;> omega, (by unfold s_back; rw [if_pos (by omega), if_pos (by rw [← e6]; omega)]), trivial⟩⟩
    · refine R_bipush (-2) rfl rfl ?_
      have k37 : ((-2) : Int32).toInt = (-2) := by decide
      exact R_iret rfl rfl rfl ⟨hI, fr, trivial, _, rfl, ⟨by rw [show ((-2) : Int32).toInt = (-2) from rfl] <;> omega, (by unfold s_back; rw [if_neg (by omega)]), trivial⟩⟩

abbrev qg_X9_back (h : PH) (a0 : Int32) : Option PV → PH → Prop := fun r h' => INV h' ∧ FR [97] h h' ∧ (True) ∧ ∃ z : Int32, r = some (.inl z) ∧ ((True) ∧ (z = s_back a0.toInt (h.1 99 a0.toNatClampNeg).toInt) ∧ True)
set_option maxHeartbeats 4000000 in
set_option maxRecDepth 100000 in
theorem g_X9_back (h : PH) (hI : INV h) (a0 : Int32) : CALL d_X9_back [.inr (.inr (.inl 96)), .inl a0] h (qg_X9_back h a0) := by
  show RUN d_X9_back 0 [(0, .inr (.inr (.inl 96))), (1, .inl a0)] [] h _
  have fr : FR [97] h h := FR.rf _ _
  have b1 := i_rng a0
  refine R_iload_n (k := 1) rfl rfl rfl ?_
  refine N_i2l rfl (fun w1 q2 => ?_)
  refine R_lconst 0 rfl rfl ?_
  refine R_ldc2 (x := 2) rfl kt_9_123 ?_
  have k3 : (0 : Int64).toInt = 0 := by decide
  have k4 : (2 : Int64).toInt = 2 := by decide
  refine R_callS (As := [.inr (.inl w1), .inr (.inl 0), .inr (.inl 2)]) (rest := []) rfl mt_9_i125 (by decide) pp_X9_in (by decide) rfl rfl (Nat.le_of_ble_eq_true rfl) (Nat.le_of_ble_eq_true rfl) ((k_X9_in h hI w1 (0 : Int64) (2 : Int64)).mono (fun r5 h6 p7 => ?_))
  have hx : ∃ x8 : Int32, h = h6 ∧ r5 = some (.inl x8) ∧ ((x8.toInt = 0 ∧ ¬ (0 ≤ a0.toInt ∧ a0.toInt ≤ 2)) ∨ (x8.toInt = 1 ∧ 0 ≤ a0.toInt ∧ a0.toInt ≤ 2)) := by
    obtain ⟨e, x8, e2, q9⟩ := p7
    exact ⟨x8, e, e2, by omega⟩
  obtain ⟨x8, rfl, rfl, q9⟩ := hx
  show RUN d_X9_back 9 [(0, .inr (.inr (.inl 96))), (1, .inl a0)] [.inl x8] h _
  refine N_if_ne (a := x8.toInt) 15 rfl rfl rfl (fun c10 => ?_) (fun c10 => ?_)
  · have ha : 0 ≤ a0.toInt ∧ a0.toInt ≤ 2 := by omega
    have ea := pcl (x := a0) ha.1
    refine R_aload_n (k := 0) rfl rfl rfl ?_
    refine R_getf_r (j := 3) rfl ft_9_16 sh_96 rfl ?_
    refine R_iload_n (k := 1) rfl rfl rfl ?_
    refine R_zald rfl sh_99 ⟨by omega, by omega⟩ ?_
    refine N_eq (fun x13 e13 => ?_)
    refine N_if_ne (a := x13.toInt) 27 rfl rfl rfl (fun c14 => ?_) (fun c14 => ?_)
    · refine R_iconst 0 rfl rfl ?_
      refine R_istore_n (k := 2) rfl [(2, .inl 0), (0, .inr (.inr (.inl 96))), (1, .inl a0)] rfl rfl (by decide) ?_
      have lp : ∀ (n : Nat) (x : Int32), 0 ≤ x.toInt ∧ x.toInt ≤ 68 → (68 - x.toInt).toNat < n → RUN d_X9_back 29 [(2, .inl x), (0, .inr (.inr (.inl 96))), (1, .inl a0)] [] (mixI h 97 98 0 (68 * a0.toNatClampNeg) x.toNatClampNeg) (qg_X9_back h a0) := by
        intro n
        induction n with
        | zero => intro x m1 hz; exact absurd hz (Nat.not_lt_zero _)
        | succ n ih =>
          intro x m1 hz
          have ex := pcl (x := x) m1.1
          refine R_iload_n (k := 2) rfl rfl rfl ?_
          refine R_bipush 68 rfl rfl ?_
          refine N_icmp_ge (a := x.toInt) (b := 68) 58 rfl rfl rfl (by decide) (fun c => ?_) (fun c => ?_)
          · have e68 : x.toNatClampNeg = 68 := by omega
            rw [e68]
            have hI2 := INV_back hI (k := a0.toNatClampNeg) (by omega)
            have fr2 : FR [97] h (mixI h 97 98 0 (68 * a0.toNatClampNeg) 68) := FR_mix (by decide)
            refine R_iconst 0 rfl rfl ?_
            exact R_iret rfl rfl rfl ⟨hI2, fr2, trivial, _, rfl, trivial, (by unfold s_back; rw [if_pos ha, if_neg (by rw [← e13]; omega)]), trivial⟩
          · refine R_aload_n (k := 0) rfl rfl rfl ?_
            refine R_getf_r (j := 1) rfl ft_9_9 sh_96 rfl ?_
            refine R_iload_n (k := 2) rfl rfl rfl ?_
            refine R_aload_n (k := 0) rfl rfl rfl ?_
            refine R_getf_r (j := 2) rfl ft_9_13 sh_96 rfl ?_
            refine R_bipush 68 rfl rfl ?_
            refine R_iload_n (k := 1) rfl rfl rfl ?_
            refine N_imul (a := 68) (b := a0.toInt) rfl (by decide) rfl (by omega) (fun x2 q3 => ?_)
            refine R_iload_n (k := 2) rfl rfl rfl ?_
            refine N_iadd (a := x2.toInt) (b := x.toInt) rfl rfl rfl (by omega) (fun x4 q5 => ?_)
            refine R_iald rfl sh_98 ⟨by omega, by omega⟩ ?_
            refine R_iast rfl sh_97 ⟨by omega, by omega⟩ ?_
            have e4 : x4.toNatClampNeg = x.toNatClampNeg + 68 * a0.toNatClampNeg := by
              have := pcl (x := x4) (by omega)
              omega
            have e5 := mixI_s (h := h) (k := 97) (q := 98) (o := 0) (p := 68 * a0.toNatClampNeg) (i := x.toNatClampNeg)
            rw [Nat.zero_add] at e5
            rw [e4, mixI_ne (r := 98) (by decide), e5]
            refine N_iinc (a := x.toInt) (c := 1) (fun w => [(2, .inl w), (0, .inr (.inr (.inl 96))), (1, .inl a0)]) rfl rfl (fun _ => rfl) (by decide) rfl (by decide) (by omega) (fun x6 q7 => ?_)
            refine R_goto 29 rfl rfl ?_
            have e6 : x.toNatClampNeg + 1 = x6.toNatClampNeg := by
              have := pcl (x := x6) (by omega)
              omega
            have hh := ih x6 (by omega) (by omega)
            rw [← e6] at hh
            exact hh
      have h0 := lp _ 0 (by decide) (Nat.lt_succ_self _)
      rw [show (0 : Int32).toNatClampNeg = 0 from rfl, mixI_0] at h0
      exact h0
    · refine R_bipush (-6) rfl rfl ?_
      exact R_iret rfl rfl rfl ⟨hI, fr, trivial, _, rfl, trivial, (by unfold s_back; rw [if_pos ha, if_pos (by rw [← e13]; omega)]), trivial⟩
  · refine R_bipush (-2) rfl rfl ?_
    exact R_iret rfl rfl rfl ⟨hI, fr, trivial, _, rfl, trivial, (by unfold s_back; rw [if_neg (by omega)]), trivial⟩

abbrev qg_X5_makeRow (h : PH) (a0 : Int32) (a1 : Int32) (a2 : Int32) : Option PV → PH → Prop := fun r h' => INV h' ∧ FR [67, 68, 69] h h' ∧ ((h'.1 68 = upd (h.1 68) a0.toNatClampNeg a2) ∧ (h'.1 69 = upd (h.1 69) a0.toNatClampNeg a1) ∧ True) ∧ r = none
set_option maxHeartbeats 4000000 in
set_option maxRecDepth 100000 in
theorem g_X5_makeRow (h : PH) (hI : INV h) (a0 : Int32) (a1 : Int32) (a2 : Int32) (h0a : 0 ≤ a0.toInt ∧ a0.toInt ≤ 3) (h1a : 0 ≤ a1.toInt ∧ a1.toInt ≤ 3) (h2a : 0 ≤ a2.toInt ∧ a2.toInt ≤ 60) : CALL d_X5_makeRow [.inr (.inr (.inl 66)), .inl a0, .inl a1, .inl a2] h (qg_X5_makeRow h a0 a1 a2) := by
  show RUN d_X5_makeRow 0 [(0, .inr (.inr (.inl 66))), (1, .inl a0), (2, .inl a1), (3, .inl a2)] [] h _
  have fr : FR [67, 68, 69] h h := FR.rf _ _
  refine R_aload_n (k := 0) rfl rfl rfl ?_
  refine R_getf_r (j := 2) rfl ft_5_19 sh_66 rfl ?_
  refine R_iload_n (k := 1) rfl rfl rfl ?_
  refine R_iload_n (k := 2) rfl rfl rfl ?_
  refine K_iast (a := a0.toInt) (lo := (-2147483648)) (hi' := 2147483647) rfl sh_69 rfl ⟨by omega, by omega⟩ hI (by decide) rfl (i_rng _) fr (by decide) (fun h1 g2 hI fr => ?_)
  refine R_aload_n (k := 0) rfl rfl rfl ?_
  refine R_getf_r (j := 1) rfl ft_5_15 sh_66 rfl ?_
  refine R_iload_n (k := 1) rfl rfl rfl ?_
  refine R_iload_n (k := 3) rfl rfl rfl ?_
  refine K_iast (a := a0.toInt) (lo := (-1)) (hi' := 60) rfl sh_68 rfl ⟨by omega, by omega⟩ hI (by decide) rfl (by omega) fr (by decide) (fun h3 g4 hI fr => ?_)
  have hR1 : h3.1 68 = upd (h.1 68) a0.toNatClampNeg a2 := by rw [g4, wI_self, g2, wI_ne _ _ _ (by decide)]
  have hR2 : h3.1 69 = upd (h.1 69) a0.toNatClampNeg a1 := by rw [g4, wI_ne _ _ _ (by decide), g2, wI_self]
  refine R_iconst 0 rfl rfl ?_
  refine R_istore (k := 4) [(4, .inl 0), (0, .inr (.inr (.inl 66))), (1, .inl a0), (2, .inl a1), (3, .inl a2)] rfl rfl (by decide) ?_
  have lp6 : ∀ (n5 : Nat) (h7 : PH) (x9 : Int32), INV h7 → FR [67, 68, 69] h h7 → FR [67] h3 h7 → 0 ≤ x9.toInt ∧ x9.toInt ≤ 60 → (h7.1 = h3.1) → (60 - x9.toInt).toNat < n5 → RUN d_X5_makeRow 17 [(4, .inl x9), (0, .inr (.inr (.inl 66))), (1, .inl a0), (2, .inl a1), (3, .inl a2)] [] h7 (qg_X5_makeRow h a0 a1 a2) := by
    intro n5
    induction n5 with
    | zero => intro h7 x9 m11 m12 m13 m14 m15 hz; exact absurd hz (Nat.not_lt_zero _)
    | succ n5 ih10 =>
      intro h7 x9 hI fr fl8 m14 m15 hz
      refine R_iload (k := 4) rfl rfl ?_
      refine R_bipush 60 rfl rfl ?_
      refine N_icmp_ge (a := x9.toInt) (b := 60) 43 rfl rfl rfl (by decide) (fun c16 => ?_) (fun c16 => ?_)
      · exact R_vret rfl rfl ⟨hI, fr, ⟨by rw [m15]; exact hR1, by rw [m15]; exact hR2, trivial⟩, rfl⟩
      · refine R_aload_n (k := 0) rfl rfl rfl ?_
        refine R_getf_r (j := 0) rfl ft_5_11 sh_66 rfl ?_
        refine R_iload_n (k := 1) rfl rfl rfl ?_
        refine R_bipush 60 rfl rfl ?_
        refine R_imul rfl ?_
        refine N_eq (fun x17 e18 => ?_)
        have q19 : x17.toInt = a0.toInt * 60 := by rw [e18]; exact i_mul rfl (by decide) (by omega)
        refine R_iload (k := 4) rfl rfl ?_
        refine R_iadd rfl ?_
        refine N_eq (fun x20 e21 => ?_)
        have q22 : x20.toInt = x17.toInt + x9.toInt := by rw [e21]; exact i_add rfl rfl (by omega)
        refine R_lconst 0 rfl rfl ?_
        refine K_last (a := x20.toInt) rfl sh_67 rfl ⟨by omega, by omega⟩ hI fr (by decide) (fun h23 g24 hI fr => ?_)
        have fl8 : FR [67] h3 h23 := by rw [g24]; exact FR_wL _ _ fl8 (by decide)
        refine N_iinc (a := x9.toInt) (c := 1) (fun w => [(4, .inl w), (0, .inr (.inr (.inl 66))), (1, .inl a0), (2, .inl a1), (3, .inl a2)]) rfl rfl (fun _ => rfl) (by decide) rfl (by decide) (by omega) (fun x25 q26 => ?_)
        refine R_goto 17 rfl rfl ?_
        exact RUN_weak (psub_cons rfl (psub_cons rfl (psub_cons rfl (psub_cons rfl (psub_cons rfl (psub_nil _)))))) (ih10 h23 x25 hI fr fl8 (by omega) (by rw [g24, wL_fst]; exact m15) (by omega))
  have k27 : (0 : Int32).toInt = 0 := by decide
  exact lp6 _ h3 (0 : Int32) hI fr (FR.rf _ _) (by decide) (rfl) (Nat.lt_succ_self _)

abbrev qg_X8_row (h : PH) (a0 : Int32) (a1 : Int32) (a2 : Int32) : Option PV → PH → Prop := fun r h' => INV h' ∧ FR [67, 68, 69] h h' ∧ ((h'.1 68 = rowR (h.1 68) a0 a1 a2 a2) ∧ (h'.1 69 = rowR (h.1 69) a0 a1 a2 a1) ∧ True) ∧ ∃ z : Int32, r = some (.inl z) ∧ ((((-3) ≤ z.toInt ∧ z.toInt ≤ 0)) ∧ (z = s_row a0.toInt a1.toInt a2.toInt) ∧ True)
set_option maxHeartbeats 4000000 in
set_option maxRecDepth 100000 in
theorem g_X8_row (h : PH) (hI : INV h) (a0 : Int32) (a1 : Int32) (a2 : Int32) : CALL d_X8_row [.inr (.inr (.inl 0)), .inl a0, .inl a1, .inl a2] h (qg_X8_row h a0 a1 a2) := by
  show RUN d_X8_row 0 [(0, .inr (.inr (.inl 0))), (1, .inl a0), (2, .inl a1), (3, .inl a2)] [] h _
  have b1 := i_rng a0
  have b2 := i_rng a1
  have b3 := i_rng a2
  have fr : FR [67, 68, 69] h h := FR.rf _ _
  refine R_aload_n (k := 0) rfl rfl rfl ?_
  refine R_getf_r (j := 6) rfl ft_8_42 sh_0 rfl ?_
  refine R_iload_n (k := 1) rfl rfl rfl ?_
  refine R_callV (v := .inr (.inr (.inl 66))) (As := [.inl a0]) (rest := []) rfl mt_8_i386 pp_X5_isSlot (by decide) rfl rfl rfl (Nat.le_of_ble_eq_true rfl) (Nat.le_of_ble_eq_true rfl) ((k_X5_isSlot h hI a0).mono (fun r4 h5 p6 => ?_))
  obtain ⟨rfl, x7, rfl, q8 | q8 | q8⟩ := p6
  · show RUN d_X8_row 8 [(0, .inr (.inr (.inl 0))), (1, .inl a0), (2, .inl a1), (3, .inl a2)] [.inl x7] h _
    refine N_if_eq (a := x7.toInt) 26 rfl rfl rfl (fun c9 => ?_) (fun c9 => ?_)
    · refine R_bipush (-2) rfl rfl ?_
      have k10 : ((-2) : Int32).toInt = (-2) := by decide
      exact R_iret rfl rfl rfl ⟨hI, fr, ⟨row_no (by omega) rfl, row_no (by omega) rfl, trivial⟩, _, rfl, ⟨by rw [show ((-2) : Int32).toInt = (-2) from rfl] <;> omega, (by unfold s_row; rw [if_pos (by omega)]), trivial⟩⟩
    · exfalso; omega
  · show RUN d_X8_row 8 [(0, .inr (.inr (.inl 0))), (1, .inl a0), (2, .inl a1), (3, .inl a2)] [.inl x7] h _
    refine N_if_eq (a := x7.toInt) 26 rfl rfl rfl (fun c11 => ?_) (fun c11 => ?_)
    · refine R_bipush (-2) rfl rfl ?_
      have k12 : ((-2) : Int32).toInt = (-2) := by decide
      exact R_iret rfl rfl rfl ⟨hI, fr, ⟨row_no (by omega) rfl, row_no (by omega) rfl, trivial⟩, _, rfl, ⟨by rw [show ((-2) : Int32).toInt = (-2) from rfl] <;> omega, (by unfold s_row; rw [if_pos (by omega)]), trivial⟩⟩
    · exfalso; omega
  · show RUN d_X8_row 8 [(0, .inr (.inr (.inl 0))), (1, .inl a0), (2, .inl a1), (3, .inl a2)] [.inl x7] h _
    refine N_if_eq (a := x7.toInt) 26 rfl rfl rfl (fun c13 => ?_) (fun c13 => ?_)
    · exfalso; omega
    · refine R_iload_n (k := 2) rfl rfl rfl ?_
      refine N_if_lt (a := a1.toInt) 26 rfl rfl rfl (fun c14 => ?_) (fun c14 => ?_)
      · refine R_bipush (-2) rfl rfl ?_
        have k15 : ((-2) : Int32).toInt = (-2) := by decide
        exact R_iret rfl rfl rfl ⟨hI, fr, ⟨row_no (by omega) rfl, row_no (by omega) rfl, trivial⟩, _, rfl, ⟨by rw [show ((-2) : Int32).toInt = (-2) from rfl] <;> omega, (by unfold s_row; rw [if_pos (by omega)]), trivial⟩⟩
      · refine R_iload_n (k := 2) rfl rfl rfl ?_
        refine R_iconst 3 rfl rfl ?_
        refine N_icmp_gt (a := a1.toInt) (b := 3) 26 rfl rfl rfl (by decide) (fun c16 => ?_) (fun c16 => ?_)
        · refine R_bipush (-2) rfl rfl ?_
          have k17 : ((-2) : Int32).toInt = (-2) := by decide
          exact R_iret rfl rfl rfl ⟨hI, fr, ⟨row_no (by omega) rfl, row_no (by omega) rfl, trivial⟩, _, rfl, ⟨by rw [show ((-2) : Int32).toInt = (-2) from rfl] <;> omega, (by unfold s_row; rw [if_pos (by omega)]), trivial⟩⟩
        · refine R_iload_n (k := 3) rfl rfl rfl ?_
          refine R_bipush 60 rfl rfl ?_
          refine N_icmp_le (a := a2.toInt) (b := 60) 29 rfl rfl rfl (by decide) (fun c18 => ?_) (fun c18 => ?_)
          · refine R_iload_n (k := 3) rfl rfl rfl ?_
            refine N_if_ge (a := a2.toInt) 36 rfl rfl rfl (fun c19 => ?_) (fun c19 => ?_)
            · refine R_aload_n (k := 0) rfl rfl rfl ?_
              refine R_getf_r (j := 6) rfl ft_8_42 sh_0 rfl ?_
              refine R_iload_n (k := 1) rfl rfl rfl ?_
              refine R_iload_n (k := 2) rfl rfl rfl ?_
              refine R_iload_n (k := 3) rfl rfl rfl ?_
              refine R_callV (v := .inr (.inr (.inl 66))) (As := [.inl a0, .inl a1, .inl a2]) (rest := []) rfl mt_8_i389 pp_X5_makeRow (by decide) rfl rfl rfl (Nat.le_of_ble_eq_true rfl) (Nat.le_of_ble_eq_true rfl) ((g_X5_makeRow h hI a0 a1 a2 (by omega) (by omega) (by omega)).mono (fun r20 h21 p22 => ?_))
              obtain ⟨hJ, fj, ⟨xq23, xq24, -⟩, rfl⟩ := p22
              have f25 := fj
              have fr := fr.trans fj (by decide)
              have hI := hJ
              show RUN d_X8_row 46 [(0, .inr (.inr (.inl 0))), (1, .inl a0), (2, .inl a1), (3, .inl a2)] [] h21 _
              refine R_iconst 0 rfl rfl ?_
              have k26 : (0 : Int32).toInt = 0 := by decide
              exact R_iret rfl rfl rfl ⟨hI, fr, ⟨row_of (by omega) xq23, row_of (by omega) xq24, trivial⟩, _, rfl, ⟨by rw [show (0 : Int32).toInt = 0 from rfl] <;> omega, (by unfold s_row; rw [if_neg (by omega), if_neg (by omega)]), trivial⟩⟩
            · refine R_bipush (-3) rfl rfl ?_
              have k27 : ((-3) : Int32).toInt = (-3) := by decide
              exact R_iret rfl rfl rfl ⟨hI, fr, ⟨row_no (by omega) rfl, row_no (by omega) rfl, trivial⟩, _, rfl, ⟨by rw [show ((-3) : Int32).toInt = (-3) from rfl] <;> omega, (by unfold s_row; rw [if_neg (by omega), if_pos (by omega)]), trivial⟩⟩
          · refine R_bipush (-2) rfl rfl ?_
            have k28 : ((-2) : Int32).toInt = (-2) := by decide
            exact R_iret rfl rfl rfl ⟨hI, fr, ⟨row_no (by omega) rfl, row_no (by omega) rfl, trivial⟩, _, rfl, ⟨by rw [show ((-2) : Int32).toInt = (-2) from rfl] <;> omega, (by unfold s_row; rw [if_pos (by omega)]), trivial⟩⟩

abbrev qg_X9_row (h : PH) (a0 : Int32) (a1 : Int32) (a2 : Int32) : Option PV → PH → Prop := fun r h' => INV h' ∧ FR [127, 128, 129] h h' ∧ ((h'.1 127 = rowR (h.1 127) a0 a1 a2 a2) ∧ (h'.1 128 = rowR (h.1 128) a0 a1 a2 a1) ∧ True) ∧ ∃ z : Int32, r = some (.inl z) ∧ ((((-3) ≤ z.toInt ∧ z.toInt ≤ 0)) ∧ (z = s_row a0.toInt a1.toInt a2.toInt) ∧ True)
set_option maxHeartbeats 4000000 in
set_option maxRecDepth 100000 in
theorem g_X9_row (h : PH) (hI : INV h) (a0 : Int32) (a1 : Int32) (a2 : Int32) : CALL d_X9_row [.inr (.inr (.inl 96)), .inl a0, .inl a1, .inl a2] h (qg_X9_row h a0 a1 a2) := by
  show RUN d_X9_row 0 [(0, .inr (.inr (.inl 96))), (1, .inl a0), (2, .inl a1), (3, .inl a2)] [] h _
  have b1 := i_rng a0
  have b2 := i_rng a1
  have b3 := i_rng a2
  have fr : FR [127, 128, 129] h h := FR.rf _ _
  refine R_iload_n (k := 1) rfl rfl rfl ?_
  refine R_callS (As := [.inl a0]) (rest := []) rfl mt_9_i440 (by decide) pp_X9_isSlot (by decide) rfl rfl (Nat.le_of_ble_eq_true rfl) (Nat.le_of_ble_eq_true rfl) ((k_X9_isSlot h hI a0).mono (fun r4 h5 p6 => ?_))
  obtain ⟨rfl, x7, rfl, q8 | q8 | q8⟩ := p6
  · show RUN d_X9_row 4 [(0, .inr (.inr (.inl 96))), (1, .inl a0), (2, .inl a1), (3, .inl a2)] [.inl x7] h _
    refine N_if_eq (a := x7.toInt) 25 rfl rfl rfl (fun c9 => ?_) (fun c9 => ?_)
    · refine R_bipush (-2) rfl rfl ?_
      have k10 : ((-2) : Int32).toInt = (-2) := by decide
      exact R_iret rfl rfl rfl ⟨hI, fr, ⟨row_no (by omega) rfl, row_no (by omega) rfl, trivial⟩, _, rfl, ⟨by rw [show ((-2) : Int32).toInt = (-2) from rfl] <;> omega, (by unfold s_row; rw [if_pos (by omega)]), trivial⟩⟩
    · exfalso; omega
  · show RUN d_X9_row 4 [(0, .inr (.inr (.inl 96))), (1, .inl a0), (2, .inl a1), (3, .inl a2)] [.inl x7] h _
    refine N_if_eq (a := x7.toInt) 25 rfl rfl rfl (fun c11 => ?_) (fun c11 => ?_)
    · refine R_bipush (-2) rfl rfl ?_
      have k12 : ((-2) : Int32).toInt = (-2) := by decide
      exact R_iret rfl rfl rfl ⟨hI, fr, ⟨row_no (by omega) rfl, row_no (by omega) rfl, trivial⟩, _, rfl, ⟨by rw [show ((-2) : Int32).toInt = (-2) from rfl] <;> omega, (by unfold s_row; rw [if_pos (by omega)]), trivial⟩⟩
    · exfalso; omega
  · show RUN d_X9_row 4 [(0, .inr (.inr (.inl 96))), (1, .inl a0), (2, .inl a1), (3, .inl a2)] [.inl x7] h _
    refine N_if_eq (a := x7.toInt) 25 rfl rfl rfl (fun c13 => ?_) (fun c13 => ?_)
    · exfalso; omega
    · refine R_iload_n (k := 2) rfl rfl rfl ?_
      refine N_i2l rfl (fun w14 q15 => ?_)
      refine R_lconst 0 rfl rfl ?_
      refine R_ldc2 (x := 3) rfl kt_9_529 ?_
      have k16 : (0 : Int64).toInt = 0 := by decide
      have k17 : (3 : Int64).toInt = 3 := by decide
      refine R_callS (As := [.inr (.inl w14), .inr (.inl 0), .inr (.inl 3)]) (rest := []) rfl mt_9_i125 (by decide) pp_X9_in (by decide) rfl rfl (Nat.le_of_ble_eq_true rfl) (Nat.le_of_ble_eq_true rfl) ((k_X9_in h hI w14 (0 : Int64) (3 : Int64)).mono (fun r18 h19 p20 => ?_))
      obtain ⟨rfl, x21, rfl, q22 | q22 | q22⟩ := p20
      · show RUN d_X9_row 16 [(0, .inr (.inr (.inl 96))), (1, .inl a0), (2, .inl a1), (3, .inl a2)] [.inl x21] h _
        refine N_if_eq (a := x21.toInt) 25 rfl rfl rfl (fun c23 => ?_) (fun c23 => ?_)
        · refine R_bipush (-2) rfl rfl ?_
          have k24 : ((-2) : Int32).toInt = (-2) := by decide
          exact R_iret rfl rfl rfl ⟨hI, fr, ⟨row_no (by omega) rfl, row_no (by omega) rfl, trivial⟩, _, rfl, ⟨by rw [show ((-2) : Int32).toInt = (-2) from rfl] <;> omega, (by unfold s_row; rw [if_pos (by omega)]), trivial⟩⟩
        · exfalso; omega
      · show RUN d_X9_row 16 [(0, .inr (.inr (.inl 96))), (1, .inl a0), (2, .inl a1), (3, .inl a2)] [.inl x21] h _
        refine N_if_eq (a := x21.toInt) 25 rfl rfl rfl (fun c25 => ?_) (fun c25 => ?_)
        · refine R_bipush (-2) rfl rfl ?_
          have k26 : ((-2) : Int32).toInt = (-2) := by decide
          exact R_iret rfl rfl rfl ⟨hI, fr, ⟨row_no (by omega) rfl, row_no (by omega) rfl, trivial⟩, _, rfl, ⟨by rw [show ((-2) : Int32).toInt = (-2) from rfl] <;> omega, (by unfold s_row; rw [if_pos (by omega)]), trivial⟩⟩
        · exfalso; omega
      · show RUN d_X9_row 16 [(0, .inr (.inr (.inl 96))), (1, .inl a0), (2, .inl a1), (3, .inl a2)] [.inl x21] h _
        refine N_if_eq (a := x21.toInt) 25 rfl rfl rfl (fun c27 => ?_) (fun c27 => ?_)
        · exfalso; omega
        · refine R_iload_n (k := 3) rfl rfl rfl ?_
          refine R_bipush 60 rfl rfl ?_
          refine N_icmp_le (a := a2.toInt) (b := 60) 28 rfl rfl rfl (by decide) (fun c28 => ?_) (fun c28 => ?_)
          · refine R_iload_n (k := 3) rfl rfl rfl ?_
            refine N_if_ge (a := a2.toInt) 35 rfl rfl rfl (fun c29 => ?_) (fun c29 => ?_)
            · refine R_aload_n (k := 0) rfl rfl rfl ?_
              refine R_getf_r (j := 57) rfl ft_9_107 sh_96 rfl ?_
              refine R_iload_n (k := 1) rfl rfl rfl ?_
              refine R_iload_n (k := 3) rfl rfl rfl ?_
              refine K_iast (a := a0.toInt) (lo := (-1)) (hi' := 60) rfl sh_127 rfl ⟨by omega, by omega⟩ hI (by decide) rfl (by omega) fr (by decide) (fun h30 g31 hI fr => ?_)
              refine R_aload_n (k := 0) rfl rfl rfl ?_
              refine R_getf_r (j := 58) rfl ft_9_110 sh_96 rfl ?_
              refine R_iload_n (k := 1) rfl rfl rfl ?_
              refine R_iload_n (k := 2) rfl rfl rfl ?_
              refine K_iast (a := a0.toInt) (lo := (-2147483648)) (hi' := 2147483647) rfl sh_128 rfl ⟨by omega, by omega⟩ hI (by decide) rfl (i_rng _) fr (by decide) (fun h32 g33 hI fr => ?_)
              have hR1 : h32.1 127 = upd (h.1 127) a0.toNatClampNeg a2 := by rw [g33, wI_ne _ _ _ (by decide), g31, wI_self]
              have hR2 : h32.1 128 = upd (h.1 128) a0.toNatClampNeg a1 := by rw [g33, wI_self, g31, wI_ne _ _ _ (by decide)]
              refine R_iconst 0 rfl rfl ?_
              refine R_istore (k := 4) [(4, .inl 0), (0, .inr (.inr (.inl 96))), (1, .inl a0), (2, .inl a1), (3, .inl a2)] rfl rfl (by decide) ?_
              have lp35 : ∀ (n34 : Nat) (h36 : PH) (x38 : Int32), INV h36 → FR [127, 128, 129] h h36 → FR [129] h32 h36 → 0 ≤ x38.toInt ∧ x38.toInt ≤ 60 → (h36.1 = h32.1) → (60 - x38.toInt).toNat < n34 → RUN d_X9_row 52 [(4, .inl x38), (0, .inr (.inr (.inl 96))), (1, .inl a0), (2, .inl a1), (3, .inl a2)] [] h36 (qg_X9_row h a0 a1 a2) := by
                intro n34
                induction n34 with
                | zero => intro h36 x38 m40 m41 m42 m43 m44 hz; exact absurd hz (Nat.not_lt_zero _)
                | succ n34 ih39 =>
                  intro h36 x38 hI fr fl37 m43 m44 hz
                  refine R_iload (k := 4) rfl rfl ?_
                  refine R_bipush 60 rfl rfl ?_
                  refine N_icmp_ge (a := x38.toInt) (b := 60) 78 rfl rfl rfl (by decide) (fun c45 => ?_) (fun c45 => ?_)
                  · refine R_iconst 0 rfl rfl ?_
                    have k46 : (0 : Int32).toInt = 0 := by decide
                    exact R_iret rfl rfl rfl ⟨hI, fr, ⟨row_of (by omega) (by rw [m44]; exact hR1), row_of (by omega) (by rw [m44]; exact hR2), trivial⟩, _, rfl, ⟨by rw [show (0 : Int32).toInt = 0 from rfl] <;> omega, (by unfold s_row; rw [if_neg (by omega), if_neg (by omega)]), trivial⟩⟩
                  · refine R_aload_n (k := 0) rfl rfl rfl ?_
                    refine R_getf_r (j := 59) rfl ft_9_113 sh_96 rfl ?_
                    refine R_bipush 60 rfl rfl ?_
                    refine R_iload_n (k := 1) rfl rfl rfl ?_
                    refine R_imul rfl ?_
                    refine N_eq (fun x47 e48 => ?_)
                    have q49 : x47.toInt = 60 * a0.toInt := by rw [e48]; exact i_mul (by decide) rfl (by omega)
                    refine R_iload (k := 4) rfl rfl ?_
                    refine R_iadd rfl ?_
                    refine N_eq (fun x50 e51 => ?_)
                    have q52 : x50.toInt = x47.toInt + x38.toInt := by rw [e51]; exact i_add rfl rfl (by omega)
                    refine R_lconst 0 rfl rfl ?_
                    refine K_last (a := x50.toInt) rfl sh_129 rfl ⟨by omega, by omega⟩ hI fr (by decide) (fun h53 g54 hI fr => ?_)
                    have fl37 : FR [129] h32 h53 := by rw [g54]; exact FR_wL _ _ fl37 (by decide)
                    refine N_iinc (a := x38.toInt) (c := 1) (fun w => [(4, .inl w), (0, .inr (.inr (.inl 96))), (1, .inl a0), (2, .inl a1), (3, .inl a2)]) rfl rfl (fun _ => rfl) (by decide) rfl (by decide) (by omega) (fun x55 q56 => ?_)
                    refine R_goto 52 rfl rfl ?_
                    exact RUN_weak (psub_cons rfl (psub_cons rfl (psub_cons rfl (psub_cons rfl (psub_cons rfl (psub_nil _)))))) (ih39 h53 x55 hI fr fl37 (by omega) (by rw [g54, wL_fst]; exact m44) (by omega))
              have k57 : (0 : Int32).toInt = 0 := by decide
              exact lp35 _ h32 (0 : Int32) hI fr (FR.rf _ _) (by decide) (rfl) (Nat.lt_succ_self _)
            · refine R_bipush (-3) rfl rfl ?_
              have k58 : ((-3) : Int32).toInt = (-3) := by decide
              exact R_iret rfl rfl rfl ⟨hI, fr, ⟨row_no (by omega) rfl, row_no (by omega) rfl, trivial⟩, _, rfl, ⟨by rw [show ((-3) : Int32).toInt = (-3) from rfl] <;> omega, (by unfold s_row; rw [if_neg (by omega), if_pos (by omega)]), trivial⟩⟩
          · refine R_bipush (-2) rfl rfl ?_
            have k59 : ((-2) : Int32).toInt = (-2) := by decide
            exact R_iret rfl rfl rfl ⟨hI, fr, ⟨row_no (by omega) rfl, row_no (by omega) rfl, trivial⟩, _, rfl, ⟨by rw [show ((-2) : Int32).toInt = (-2) from rfl] <;> omega, (by unfold s_row; rw [if_pos (by omega)]), trivial⟩⟩

abbrev qg_X5_hasRow (h : PH) (a0 : Int32) : Option PV → PH → Prop := fun r h' => h = h' ∧ ∃ z : Int32, r = some (.inl z) ∧ (((z.toInt = 0) ∨ (z.toInt = 1)) ∧ (z.toInt = 1 → ¬ (h.1 68 a0.toNatClampNeg).toInt = -1) ∧ (z.toInt = 0 → (h.1 68 a0.toNatClampNeg).toInt = -1) ∧ True)
set_option maxHeartbeats 4000000 in
set_option maxRecDepth 100000 in
theorem g_X5_hasRow (h : PH) (hI : INV h) (a0 : Int32) (h0a : 0 ≤ a0.toInt ∧ a0.toInt ≤ 3) : CALL d_X5_hasRow [.inr (.inr (.inl 66)), .inl a0] h (qg_X5_hasRow h a0) := by
  show RUN d_X5_hasRow 0 [(0, .inr (.inr (.inl 66))), (1, .inl a0)] [] h _
  refine R_aload_n (k := 0) rfl rfl rfl ?_
  refine R_getf_r (j := 1) rfl ft_5_15 sh_66 rfl ?_
  refine R_iload_n (k := 1) rfl rfl rfl ?_
  refine R_iald rfl sh_68 ⟨by omega, by omega⟩ ?_
  refine N_eq (fun x1 e2 => ?_)
  have q3 : (-1) ≤ x1.toInt ∧ x1.toInt ≤ 60 := by rw [e2]; exact hI.1 68 _
  refine R_iconst (-1) rfl rfl ?_
  refine N_icmp_eq (a := x1.toInt) (b := (-1)) 14 rfl rfl rfl (by decide) (fun c4 => ?_) (fun c4 => ?_)
  · refine R_iconst 0 rfl rfl ?_
    have k5 : (0 : Int32).toInt = 0 := by decide
    exact R_iret rfl rfl rfl ⟨rfl, _, rfl, ⟨by rw [show (0 : Int32).toInt = 0 from rfl] <;> omega, (fun hc => absurd hc (by decide)), (fun _ => by rw [← e2]; omega), trivial⟩⟩
  · refine R_iconst 1 rfl rfl ?_
    refine R_goto 15 rfl rfl ?_
    have k6 : (1 : Int32).toInt = 1 := by decide
    exact R_iret rfl rfl rfl ⟨rfl, _, rfl, ⟨by rw [show (1 : Int32).toInt = 1 from rfl] <;> omega, (fun _ => by rw [← e2]; omega), (fun hc => absurd hc (by decide)), trivial⟩⟩

abbrev qg_X5_hasCells (h : PH) (a0 : Int32) (a1 : Int32) (a2 : Int32) : Option PV → PH → Prop := fun r h' => h = h' ∧ ∃ z : Int32, r = some (.inl z) ∧ (((z.toInt = 0 ∧ a1.toInt ≤ (-1)) ∨ (z.toInt = 0 ∧ 0 ≤ a1.toInt ∧ a2.toInt ≤ (-1)) ∨ (z.toInt = 0 ∧ 0 ≤ a1.toInt ∧ 0 ≤ a2.toInt) ∨ (z.toInt = 1 ∧ 0 ≤ a1.toInt ∧ a1.toInt ≤ 60 ∧ 0 ≤ a2.toInt ∧ a1.toInt + a2.toInt ≤ 60)) ∧ (z.toInt = 1 → (0 ≤ a1.toInt ∧ 0 ≤ a2.toInt ∧ a1.toInt + a2.toInt ≤ (h.1 68 a0.toNatClampNeg).toInt)) ∧ (z.toInt = 0 → ¬ (0 ≤ a1.toInt ∧ 0 ≤ a2.toInt ∧ a1.toInt + a2.toInt ≤ (h.1 68 a0.toNatClampNeg).toInt)) ∧ True)
set_option maxHeartbeats 4000000 in
set_option maxRecDepth 100000 in
theorem g_X5_hasCells (h : PH) (hI : INV h) (a0 : Int32) (a1 : Int32) (a2 : Int32) (h0a : 0 ≤ a0.toInt ∧ a0.toInt ≤ 3) : CALL d_X5_hasCells [.inr (.inr (.inl 66)), .inl a0, .inl a1, .inl a2] h (qg_X5_hasCells h a0 a1 a2) := by
  show RUN d_X5_hasCells 0 [(0, .inr (.inr (.inl 66))), (1, .inl a0), (2, .inl a1), (3, .inl a2)] [] h _
  have b1 := i_rng a1
  have b2 := i_rng a2
  refine R_iload_n (k := 2) rfl rfl rfl ?_
  refine N_if_lt (a := a1.toInt) 24 rfl rfl rfl (fun c3 => ?_) (fun c3 => ?_)
  · refine R_iconst 0 rfl rfl ?_
    have k4 : (0 : Int32).toInt = 0 := by decide
    exact R_iret rfl rfl rfl ⟨rfl, _, rfl, ⟨by rw [show (0 : Int32).toInt = 0 from rfl] <;> omega, (fun hc => absurd hc (by decide)), (fun _ => by omega), trivial⟩⟩
  · refine R_iload_n (k := 3) rfl rfl rfl ?_
    refine N_if_lt (a := a2.toInt) 24 rfl rfl rfl (fun c5 => ?_) (fun c5 => ?_)
    · refine R_iconst 0 rfl rfl ?_
      have k6 : (0 : Int32).toInt = 0 := by decide
      exact R_iret rfl rfl rfl ⟨rfl, _, rfl, ⟨by rw [show (0 : Int32).toInt = 0 from rfl] <;> omega, (fun hc => absurd hc (by decide)), (fun _ => by omega), trivial⟩⟩
    · refine R_iload_n (k := 2) rfl rfl rfl ?_
      refine R_aload_n (k := 0) rfl rfl rfl ?_
      refine R_getf_r (j := 1) rfl ft_5_15 sh_66 rfl ?_
      refine R_iload_n (k := 1) rfl rfl rfl ?_
      refine R_iald rfl sh_68 ⟨by omega, by omega⟩ ?_
      refine N_eq (fun x7 e8 => ?_)
      have q9 : (-1) ≤ x7.toInt ∧ x7.toInt ≤ 60 := by rw [e8]; exact hI.1 68 _
      refine R_iload_n (k := 3) rfl rfl rfl ?_
      have b10 := i_rng a2
      refine R_isub rfl ?_
      refine N_eq (fun x11 e12 => ?_)
      have q13 : x11.toInt = x7.toInt - a2.toInt := by rw [e12]; exact i_sub rfl rfl (by omega)
      refine N_icmp_gt (a := a1.toInt) (b := x11.toInt) 24 rfl rfl rfl rfl (fun c14 => ?_) (fun c14 => ?_)
      · refine R_iconst 0 rfl rfl ?_
        have k15 : (0 : Int32).toInt = 0 := by decide
        exact R_iret rfl rfl rfl ⟨rfl, _, rfl, ⟨by rw [show (0 : Int32).toInt = 0 from rfl] <;> omega, (fun hc => absurd hc (by decide)), (fun _ => by rw [← e8]; omega), trivial⟩⟩
      · refine R_iconst 1 rfl rfl ?_
        refine R_goto 25 rfl rfl ?_
        have k16 : (1 : Int32).toInt = 1 := by decide
        exact R_iret rfl rfl rfl ⟨rfl, _, rfl, ⟨by rw [show (1 : Int32).toInt = 1 from rfl] <;> omega, (fun _ => by rw [← e8]; omega), (fun hc => absurd hc (by decide)), trivial⟩⟩

abbrev qg_X8_write (h : PH) (a0 : Int32) (a1 : Int32) (a2 : Int64) : Option PV → PH → Prop := fun r h' => INV h' ∧ FR [67] h h' ∧ (True) ∧ ∃ z : Int32, r = some (.inl z) ∧ ((((-7) ≤ z.toInt ∧ z.toInt ≤ 0)) ∧ (z = s_write a0.toInt a1.toInt (h.1 68 a0.toNatClampNeg).toInt) ∧ True)
set_option maxHeartbeats 4000000 in
set_option maxRecDepth 100000 in
theorem g_X8_write (h : PH) (hI : INV h) (a0 : Int32) (a1 : Int32) (a2 : Int64) : CALL d_X8_write [.inr (.inr (.inl 0)), .inl a0, .inl a1, .inr (.inl a2)] h (qg_X8_write h a0 a1 a2) := by
  show RUN d_X8_write 0 [(0, .inr (.inr (.inl 0))), (1, .inl a0), (2, .inl a1), (3, .inr (.inl a2))] [] h _
  have b1 := i_rng a0
  have b2 := i_rng a1
  have fr : FR [67] h h := FR.rf _ _
  refine R_aload_n (k := 0) rfl rfl rfl ?_
  refine R_getf_r (j := 6) rfl ft_8_42 sh_0 rfl ?_
  refine R_iload_n (k := 1) rfl rfl rfl ?_
  refine R_callV (v := .inr (.inr (.inl 66))) (As := [.inl a0]) (rest := []) rfl mt_8_i386 pp_X5_isSlot (by decide) rfl rfl rfl (Nat.le_of_ble_eq_true rfl) (Nat.le_of_ble_eq_true rfl) ((k_X5_isSlot h hI a0).mono (fun r3 h4 p5 => ?_))
  obtain ⟨rfl, x6, rfl, q7 | q7 | q7⟩ := p5
  · show RUN d_X8_write 8 [(0, .inr (.inr (.inl 0))), (1, .inl a0), (2, .inl a1), (3, .inr (.inl a2))] [.inl x6] h _
    refine N_if_ne (a := x6.toInt) 14 rfl rfl rfl (fun c8 => ?_) (fun c8 => ?_)
    · exfalso; omega
    · refine R_bipush (-2) rfl rfl ?_
      have k9 : ((-2) : Int32).toInt = (-2) := by decide
      exact R_iret rfl rfl rfl ⟨hI, fr, trivial, _, rfl, ⟨by rw [show ((-2) : Int32).toInt = (-2) from rfl] <;> omega, (by unfold s_write; rw [if_neg (by omega)]), trivial⟩⟩
  · show RUN d_X8_write 8 [(0, .inr (.inr (.inl 0))), (1, .inl a0), (2, .inl a1), (3, .inr (.inl a2))] [.inl x6] h _
    refine N_if_ne (a := x6.toInt) 14 rfl rfl rfl (fun c10 => ?_) (fun c10 => ?_)
    · exfalso; omega
    · refine R_bipush (-2) rfl rfl ?_
      have k11 : ((-2) : Int32).toInt = (-2) := by decide
      exact R_iret rfl rfl rfl ⟨hI, fr, trivial, _, rfl, ⟨by rw [show ((-2) : Int32).toInt = (-2) from rfl] <;> omega, (by unfold s_write; rw [if_neg (by omega)]), trivial⟩⟩
  · show RUN d_X8_write 8 [(0, .inr (.inr (.inl 0))), (1, .inl a0), (2, .inl a1), (3, .inr (.inl a2))] [.inl x6] h _
    refine N_if_ne (a := x6.toInt) 14 rfl rfl rfl (fun c12 => ?_) (fun c12 => ?_)
    · refine R_aload_n (k := 0) rfl rfl rfl ?_
      refine R_getf_r (j := 6) rfl ft_8_42 sh_0 rfl ?_
      refine R_iload_n (k := 1) rfl rfl rfl ?_
      refine R_callV (v := .inr (.inr (.inl 66))) (As := [.inl a0]) (rest := []) rfl mt_8_i392 pp_X5_hasRow (by decide) rfl rfl rfl (Nat.le_of_ble_eq_true rfl) (Nat.le_of_ble_eq_true rfl) ((g_X5_hasRow h hI a0 (by omega)).mono (fun r13 h14 p15 => ?_))
      obtain ⟨rfl, x18, rfl, (q19 | q19), zq16, zq17, -⟩ := p15
      · show RUN d_X8_write 22 [(0, .inr (.inr (.inl 0))), (1, .inl a0), (2, .inl a1), (3, .inr (.inl a2))] [.inl x18] h _
        refine N_if_ne (a := x18.toInt) 28 rfl rfl rfl (fun c20 => ?_) (fun c20 => ?_)
        · exfalso; omega
        · refine R_bipush (-6) rfl rfl ?_
          have k21 : ((-6) : Int32).toInt = (-6) := by decide
          exact R_iret rfl rfl rfl ⟨hI, fr, trivial, _, rfl, ⟨by rw [show ((-6) : Int32).toInt = (-6) from rfl] <;> omega, (by unfold s_write; rw [if_pos (by omega), if_pos (zq17 (by omega))]), trivial⟩⟩
      · show RUN d_X8_write 22 [(0, .inr (.inr (.inl 0))), (1, .inl a0), (2, .inl a1), (3, .inr (.inl a2))] [.inl x18] h _
        refine N_if_ne (a := x18.toInt) 28 rfl rfl rfl (fun c22 => ?_) (fun c22 => ?_)
        · refine R_iload_n (k := 2) rfl rfl rfl ?_
          refine N_if_lt (a := a1.toInt) 45 rfl rfl rfl (fun c23 => ?_) (fun c23 => ?_)
          · refine R_bipush (-7) rfl rfl ?_
            have k24 : ((-7) : Int32).toInt = (-7) := by decide
            exact R_iret rfl rfl rfl ⟨hI, fr, trivial, _, rfl, ⟨by rw [show ((-7) : Int32).toInt = (-7) from rfl] <;> omega, (by unfold s_write; rw [if_pos (by omega), if_neg (zq16 (by omega)), if_neg (by omega)]), trivial⟩⟩
          · refine R_iload_n (k := 2) rfl rfl rfl ?_
            refine R_aload_n (k := 0) rfl rfl rfl ?_
            refine R_getf_r (j := 6) rfl ft_8_42 sh_0 rfl ?_
            refine R_getf_r (j := 1) rfl ft_8_395 sh_66 rfl ?_
            refine R_iload_n (k := 1) rfl rfl rfl ?_
            refine R_iald rfl sh_68 ⟨by omega, by omega⟩ ?_
            refine N_eq (fun x25 e26 => ?_)
            have q27 : (-1) ≤ x25.toInt ∧ x25.toInt ≤ 60 := by rw [e26]; exact hI.1 68 _
            refine N_icmp_lt (a := a1.toInt) (b := x25.toInt) 48 rfl rfl rfl rfl (fun c28 => ?_) (fun c28 => ?_)
            · refine R_aload_n (k := 0) rfl rfl rfl ?_
              refine R_getf_r (j := 6) rfl ft_8_42 sh_0 rfl ?_
              refine R_iload_n (k := 1) rfl rfl rfl ?_
              refine R_iload_n (k := 2) rfl rfl rfl ?_
              refine R_lload_n (k := 3) rfl rfl rfl ?_
              refine R_callV (v := .inr (.inr (.inl 66))) (As := [.inl a0, .inl a1, .inr (.inl a2)]) (rest := []) rfl mt_8_i397 pp_X5_setCell (by decide) rfl rfl rfl (Nat.le_of_ble_eq_true rfl) (Nat.le_of_ble_eq_true rfl) ((k_X5_setCell h hI a0 a1 a2 (by omega) (by omega)).mono (fun r29 h30 p31 => ?_))
              obtain ⟨hJ, fj, -, rfl⟩ := p31
              have f32 := fj
              have fr := fr.trans fj (by decide)
              have hI := hJ
              show RUN d_X8_write 58 [(0, .inr (.inr (.inl 0))), (1, .inl a0), (2, .inl a1), (3, .inr (.inl a2))] [] h30 _
              refine R_iconst 0 rfl rfl ?_
              have k33 : (0 : Int32).toInt = 0 := by decide
              exact R_iret rfl rfl rfl ⟨hI, fr, trivial, _, rfl, ⟨by rw [show (0 : Int32).toInt = 0 from rfl] <;> omega, (by unfold s_write; rw [if_pos (by omega), if_neg (zq16 (by omega)), if_pos (by rw [← e26]; omega)]), trivial⟩⟩
            · refine R_bipush (-7) rfl rfl ?_
              have k34 : ((-7) : Int32).toInt = (-7) := by decide
              exact R_iret rfl rfl rfl ⟨hI, fr, trivial, _, rfl, ⟨by rw [show ((-7) : Int32).toInt = (-7) from rfl] <;> omega, (by unfold s_write; rw [if_pos (by omega), if_neg (zq16 (by omega)), if_neg (by rw [← e26]; omega)]), trivial⟩⟩
        · exfalso; omega
    · exfalso; omega

abbrev qg_X9_write (h : PH) (a0 : Int32) (a1 : Int32) (a2 : Int64) : Option PV → PH → Prop := fun r h' => INV h' ∧ FR [129] h h' ∧ (True) ∧ ∃ z : Int32, r = some (.inl z) ∧ ((((-7) ≤ z.toInt ∧ z.toInt ≤ 0)) ∧ (z = s_write a0.toInt a1.toInt (h.1 127 a0.toNatClampNeg).toInt) ∧ True)
set_option maxHeartbeats 4000000 in
set_option maxRecDepth 100000 in
theorem g_X9_write (h : PH) (hI : INV h) (a0 : Int32) (a1 : Int32) (a2 : Int64) : CALL d_X9_write [.inr (.inr (.inl 96)), .inl a0, .inl a1, .inr (.inl a2)] h (qg_X9_write h a0 a1 a2) := by
  show RUN d_X9_write 0 [(0, .inr (.inr (.inl 96))), (1, .inl a0), (2, .inl a1), (3, .inr (.inl a2))] [] h _
  have b1 := i_rng a0
  have b2 := i_rng a1
  have fr : FR [129] h h := FR.rf _ _
  refine R_iload_n (k := 1) rfl rfl rfl ?_
  refine R_callS (As := [.inl a0]) (rest := []) rfl mt_9_i440 (by decide) pp_X9_isSlot (by decide) rfl rfl (Nat.le_of_ble_eq_true rfl) (Nat.le_of_ble_eq_true rfl) ((k_X9_isSlot h hI a0).mono (fun r3 h4 p5 => ?_))
  obtain ⟨rfl, x6, rfl, q7 | q7 | q7⟩ := p5
  · show RUN d_X9_write 4 [(0, .inr (.inr (.inl 96))), (1, .inl a0), (2, .inl a1), (3, .inr (.inl a2))] [.inl x6] h _
    refine N_if_ne (a := x6.toInt) 10 rfl rfl rfl (fun c8 => ?_) (fun c8 => ?_)
    · exfalso; omega
    · refine R_bipush (-2) rfl rfl ?_
      have k9 : ((-2) : Int32).toInt = (-2) := by decide
      exact R_iret rfl rfl rfl ⟨hI, fr, trivial, _, rfl, ⟨by rw [show ((-2) : Int32).toInt = (-2) from rfl] <;> omega, (by unfold s_write; rw [if_neg (by omega)]), trivial⟩⟩
  · show RUN d_X9_write 4 [(0, .inr (.inr (.inl 96))), (1, .inl a0), (2, .inl a1), (3, .inr (.inl a2))] [.inl x6] h _
    refine N_if_ne (a := x6.toInt) 10 rfl rfl rfl (fun c10 => ?_) (fun c10 => ?_)
    · exfalso; omega
    · refine R_bipush (-2) rfl rfl ?_
      have k11 : ((-2) : Int32).toInt = (-2) := by decide
      exact R_iret rfl rfl rfl ⟨hI, fr, trivial, _, rfl, ⟨by rw [show ((-2) : Int32).toInt = (-2) from rfl] <;> omega, (by unfold s_write; rw [if_neg (by omega)]), trivial⟩⟩
  · show RUN d_X9_write 4 [(0, .inr (.inr (.inl 96))), (1, .inl a0), (2, .inl a1), (3, .inr (.inl a2))] [.inl x6] h _
    refine N_if_ne (a := x6.toInt) 10 rfl rfl rfl (fun c12 => ?_) (fun c12 => ?_)
    · refine R_aload_n (k := 0) rfl rfl rfl ?_
      refine R_getf_r (j := 57) rfl ft_9_107 sh_96 rfl ?_
      refine R_iload_n (k := 1) rfl rfl rfl ?_
      refine R_iald rfl sh_127 ⟨by omega, by omega⟩ ?_
      refine N_eq (fun x13 e14 => ?_)
      have q15 : (-1) ≤ x13.toInt ∧ x13.toInt ≤ 60 := by rw [e14]; exact hI.1 127 _
      refine R_iconst (-1) rfl rfl ?_
      refine N_icmp_ne (a := x13.toInt) (b := (-1)) 23 rfl rfl rfl (by decide) (fun c16 => ?_) (fun c16 => ?_)
      · refine R_iload_n (k := 2) rfl rfl rfl ?_
        refine N_i2l rfl (fun w17 q18 => ?_)
        refine R_lconst 0 rfl rfl ?_
        refine R_aload_n (k := 0) rfl rfl rfl ?_
        refine R_getf_r (j := 57) rfl ft_9_107 sh_96 rfl ?_
        refine R_iload_n (k := 1) rfl rfl rfl ?_
        refine R_iald rfl sh_127 ⟨by omega, by omega⟩ ?_
        refine N_eq (fun x19 e20 => ?_)
        have q21 : (-1) ≤ x19.toInt ∧ x19.toInt ≤ 60 := by rw [e20]; exact hI.1 127 _
        have em22 : x19.toInt = x13.toInt := by rw [e20, e14]
        refine R_iconst 1 rfl rfl ?_
        refine R_isub rfl ?_
        refine N_eq (fun x23 e24 => ?_)
        have q25 : x23.toInt = x19.toInt - 1 := by rw [e24]; exact i_sub rfl (by decide) (by omega)
        refine N_i2l rfl (fun w26 q27 => ?_)
        have k28 : (0 : Int64).toInt = 0 := by decide
        refine R_callS (As := [.inr (.inl w17), .inr (.inl 0), .inr (.inl w26)]) (rest := []) rfl mt_9_i125 (by decide) pp_X9_in (by decide) rfl rfl (Nat.le_of_ble_eq_true rfl) (Nat.le_of_ble_eq_true rfl) ((k_X9_in h hI w17 (0 : Int64) w26).mono (fun r29 h30 p31 => ?_))
        obtain ⟨rfl, x32, rfl, q33 | q33 | q33⟩ := p31
        · show RUN d_X9_write 38 [(0, .inr (.inr (.inl 96))), (1, .inl a0), (2, .inl a1), (3, .inr (.inl a2))] [.inl x32] h _
          refine N_if_ne (a := x32.toInt) 44 rfl rfl rfl (fun c34 => ?_) (fun c34 => ?_)
          · exfalso; omega
          · refine R_bipush (-7) rfl rfl ?_
            have k35 : ((-7) : Int32).toInt = (-7) := by decide
            have ew36 : (h.1 127 a0.toNatClampNeg).toInt = x19.toInt := by rw [← e20]
            exact R_iret rfl rfl rfl ⟨hI, fr, trivial, _, rfl, ⟨by rw [show ((-7) : Int32).toInt = (-7) from rfl] <;> omega, (by unfold s_write; rw [if_pos (by omega), if_neg (by omega), if_neg (by omega)]), trivial⟩⟩
        · show RUN d_X9_write 38 [(0, .inr (.inr (.inl 96))), (1, .inl a0), (2, .inl a1), (3, .inr (.inl a2))] [.inl x32] h _
          refine N_if_ne (a := x32.toInt) 44 rfl rfl rfl (fun c37 => ?_) (fun c37 => ?_)
          · exfalso; omega
          · refine R_bipush (-7) rfl rfl ?_
            have k38 : ((-7) : Int32).toInt = (-7) := by decide
            have ew39 : (h.1 127 a0.toNatClampNeg).toInt = x19.toInt := by rw [← e20]
            exact R_iret rfl rfl rfl ⟨hI, fr, trivial, _, rfl, ⟨by rw [show ((-7) : Int32).toInt = (-7) from rfl] <;> omega, (by unfold s_write; rw [if_pos (by omega), if_neg (by omega), if_neg (by omega)]), trivial⟩⟩
        · show RUN d_X9_write 38 [(0, .inr (.inr (.inl 96))), (1, .inl a0), (2, .inl a1), (3, .inr (.inl a2))] [.inl x32] h _
          refine N_if_ne (a := x32.toInt) 44 rfl rfl rfl (fun c40 => ?_) (fun c40 => ?_)
          · refine R_aload_n (k := 0) rfl rfl rfl ?_
            refine R_getf_r (j := 59) rfl ft_9_113 sh_96 rfl ?_
            refine R_bipush 60 rfl rfl ?_
            refine R_iload_n (k := 1) rfl rfl rfl ?_
            refine R_imul rfl ?_
            refine N_eq (fun x41 e42 => ?_)
            have q43 : x41.toInt = 60 * a0.toInt := by rw [e42]; exact i_mul (by decide) rfl (by omega)
            refine R_iload_n (k := 2) rfl rfl rfl ?_
            refine R_iadd rfl ?_
            refine N_eq (fun x44 e45 => ?_)
            have q46 : x44.toInt = x41.toInt + a1.toInt := by rw [e45]; exact i_add rfl rfl (by omega)
            refine R_lload_n (k := 3) rfl rfl rfl ?_
            refine R_aload_n (k := 0) rfl rfl rfl ?_
            refine R_getf_r (j := 58) rfl ft_9_110 sh_96 rfl ?_
            refine R_iload_n (k := 1) rfl rfl rfl ?_
            refine R_iald rfl sh_128 ⟨by omega, by omega⟩ ?_
            refine N_eq (fun x47 e48 => ?_)
            refine R_callS (As := [.inr (.inl a2), .inl x47]) (rest := [.inl x44, .inr (.inr (.inl 129))]) rfl mt_9_i531 (by decide) pp_X9_cut (by decide) rfl rfl (Nat.le_of_ble_eq_true rfl) (Nat.le_of_ble_eq_true rfl) ((k_X9_cut h hI a2 x47).mono (fun r49 h50 p51 => ?_))
            obtain ⟨rfl, w52, rfl⟩ := p51
            show RUN d_X9_write 64 [(0, .inr (.inr (.inl 96))), (1, .inl a0), (2, .inl a1), (3, .inr (.inl a2))] [.inr (.inl w52), .inl x44, .inr (.inr (.inl 129))] h _
            refine K_last (a := x44.toInt) rfl sh_129 rfl ⟨by omega, by omega⟩ hI fr (by decide) (fun h53 g54 hI fr => ?_)
            refine R_iconst 0 rfl rfl ?_
            have k55 : (0 : Int32).toInt = 0 := by decide
            have ew56 : (h.1 127 a0.toNatClampNeg).toInt = x19.toInt := by rw [← e20]
            exact R_iret rfl rfl rfl ⟨hI, fr, trivial, _, rfl, ⟨by rw [show (0 : Int32).toInt = 0 from rfl] <;> omega, (by unfold s_write; rw [if_pos (by omega), if_neg (by omega), if_pos (by omega)]), trivial⟩⟩
          · exfalso; omega
      · refine R_bipush (-6) rfl rfl ?_
        have k57 : ((-6) : Int32).toInt = (-6) := by decide
        exact R_iret rfl rfl rfl ⟨hI, fr, trivial, _, rfl, ⟨by rw [show ((-6) : Int32).toInt = (-6) from rfl] <;> omega, (by unfold s_write; rw [if_pos (by omega), if_pos (by rw [← e14]; omega)]), trivial⟩⟩
    · exfalso; omega

abbrev qg_X8_paste (h : PH) (a0 : Int32) (a1 : Int32) (a2 : Int32) (a3 : Int32) (a4 : Int32) : Option PV → PH → Prop := fun r h' => INV h' ∧ FR [67] h h' ∧ (True) ∧ ∃ z : Int32, r = some (.inl z) ∧ ((((-8) ≤ z.toInt ∧ z.toInt ≤ 0)) ∧ (z = s_paste a0.toInt a1.toInt a2.toInt a3.toInt a4.toInt (h.1 68 a0.toNatClampNeg).toInt (h.1 68 a2.toNatClampNeg).toInt (h.1 69 a0.toNatClampNeg).toInt (h.1 69 a2.toNatClampNeg).toInt) ∧ True)
set_option maxHeartbeats 4000000 in
set_option maxRecDepth 100000 in
theorem g_X8_paste (h : PH) (hI : INV h) (a0 : Int32) (a1 : Int32) (a2 : Int32) (a3 : Int32) (a4 : Int32) : CALL d_X8_paste [.inr (.inr (.inl 0)), .inl a0, .inl a1, .inl a2, .inl a3, .inl a4] h (qg_X8_paste h a0 a1 a2 a3 a4) := by
  show RUN d_X8_paste 0 [(0, .inr (.inr (.inl 0))), (1, .inl a0), (2, .inl a1), (3, .inl a2), (4, .inl a3), (5, .inl a4)] [] h _
  have b1 := i_rng a0
  have b2 := i_rng a1
  have b3 := i_rng a2
  have b4 := i_rng a3
  have b5 := i_rng a4
  have fr : FR [67] h h := FR.rf _ _
  refine R_aload_n (k := 0) rfl rfl rfl ?_
  refine R_getf_r (j := 6) rfl ft_8_42 sh_0 rfl ?_
  refine R_iload_n (k := 1) rfl rfl rfl ?_
  refine R_callV (v := .inr (.inr (.inl 66))) (As := [.inl a0]) (rest := []) rfl mt_8_i386 pp_X5_isSlot (by decide) rfl rfl rfl (Nat.le_of_ble_eq_true rfl) (Nat.le_of_ble_eq_true rfl) ((k_X5_isSlot h hI a0).mono (fun r6 h7 p8 => ?_))
  obtain ⟨rfl, x9, rfl, q10 | q10 | q10⟩ := p8
  · show RUN d_X8_paste 8 [(0, .inr (.inr (.inl 0))), (1, .inl a0), (2, .inl a1), (3, .inl a2), (4, .inl a3), (5, .inl a4)] [.inl x9] h _
    refine N_if_eq (a := x9.toInt) 22 rfl rfl rfl (fun c11 => ?_) (fun c11 => ?_)
    · refine R_bipush (-2) rfl rfl ?_
      have k12 : ((-2) : Int32).toInt = (-2) := by decide
      exact R_iret rfl rfl rfl ⟨hI, fr, trivial, _, rfl, ⟨by rw [show ((-2) : Int32).toInt = (-2) from rfl] <;> omega, (by unfold s_paste; rw [if_neg (by omega)]), trivial⟩⟩
    · exfalso; omega
  · show RUN d_X8_paste 8 [(0, .inr (.inr (.inl 0))), (1, .inl a0), (2, .inl a1), (3, .inl a2), (4, .inl a3), (5, .inl a4)] [.inl x9] h _
    refine N_if_eq (a := x9.toInt) 22 rfl rfl rfl (fun c13 => ?_) (fun c13 => ?_)
    · refine R_bipush (-2) rfl rfl ?_
      have k14 : ((-2) : Int32).toInt = (-2) := by decide
      exact R_iret rfl rfl rfl ⟨hI, fr, trivial, _, rfl, ⟨by rw [show ((-2) : Int32).toInt = (-2) from rfl] <;> omega, (by unfold s_paste; rw [if_neg (by omega)]), trivial⟩⟩
    · exfalso; omega
  · show RUN d_X8_paste 8 [(0, .inr (.inr (.inl 0))), (1, .inl a0), (2, .inl a1), (3, .inl a2), (4, .inl a3), (5, .inl a4)] [.inl x9] h _
    refine N_if_eq (a := x9.toInt) 22 rfl rfl rfl (fun c15 => ?_) (fun c15 => ?_)
    · exfalso; omega
    · refine R_aload_n (k := 0) rfl rfl rfl ?_
      refine R_getf_r (j := 6) rfl ft_8_42 sh_0 rfl ?_
      refine R_iload_n (k := 3) rfl rfl rfl ?_
      refine R_callV (v := .inr (.inr (.inl 66))) (As := [.inl a2]) (rest := []) rfl mt_8_i386 pp_X5_isSlot (by decide) rfl rfl rfl (Nat.le_of_ble_eq_true rfl) (Nat.le_of_ble_eq_true rfl) ((k_X5_isSlot h hI a2).mono (fun r16 h17 p18 => ?_))
      obtain ⟨rfl, x19, rfl, q20 | q20 | q20⟩ := p18
      · show RUN d_X8_paste 19 [(0, .inr (.inr (.inl 0))), (1, .inl a0), (2, .inl a1), (3, .inl a2), (4, .inl a3), (5, .inl a4)] [.inl x19] h _
        refine N_if_ne (a := x19.toInt) 25 rfl rfl rfl (fun c21 => ?_) (fun c21 => ?_)
        · exfalso; omega
        · refine R_bipush (-2) rfl rfl ?_
          have k22 : ((-2) : Int32).toInt = (-2) := by decide
          exact R_iret rfl rfl rfl ⟨hI, fr, trivial, _, rfl, ⟨by rw [show ((-2) : Int32).toInt = (-2) from rfl] <;> omega, (by unfold s_paste; rw [if_neg (by omega)]), trivial⟩⟩
      · show RUN d_X8_paste 19 [(0, .inr (.inr (.inl 0))), (1, .inl a0), (2, .inl a1), (3, .inl a2), (4, .inl a3), (5, .inl a4)] [.inl x19] h _
        refine N_if_ne (a := x19.toInt) 25 rfl rfl rfl (fun c23 => ?_) (fun c23 => ?_)
        · exfalso; omega
        · refine R_bipush (-2) rfl rfl ?_
          have k24 : ((-2) : Int32).toInt = (-2) := by decide
          exact R_iret rfl rfl rfl ⟨hI, fr, trivial, _, rfl, ⟨by rw [show ((-2) : Int32).toInt = (-2) from rfl] <;> omega, (by unfold s_paste; rw [if_neg (by omega)]), trivial⟩⟩
      · show RUN d_X8_paste 19 [(0, .inr (.inr (.inl 0))), (1, .inl a0), (2, .inl a1), (3, .inl a2), (4, .inl a3), (5, .inl a4)] [.inl x19] h _
        refine N_if_ne (a := x19.toInt) 25 rfl rfl rfl (fun c25 => ?_) (fun c25 => ?_)
        · refine R_aload_n (k := 0) rfl rfl rfl ?_
          refine R_getf_r (j := 6) rfl ft_8_42 sh_0 rfl ?_
          refine R_iload_n (k := 1) rfl rfl rfl ?_
          refine R_callV (v := .inr (.inr (.inl 66))) (As := [.inl a0]) (rest := []) rfl mt_8_i392 pp_X5_hasRow (by decide) rfl rfl rfl (Nat.le_of_ble_eq_true rfl) (Nat.le_of_ble_eq_true rfl) ((g_X5_hasRow h hI a0 (by omega)).mono (fun r26 h27 p28 => ?_))
          obtain ⟨rfl, x31, rfl, (q32 | q32), zq29, zq30, -⟩ := p28
          · show RUN d_X8_paste 33 [(0, .inr (.inr (.inl 0))), (1, .inl a0), (2, .inl a1), (3, .inl a2), (4, .inl a3), (5, .inl a4)] [.inl x31] h _
            refine N_if_eq (a := x31.toInt) 47 rfl rfl rfl (fun c33 => ?_) (fun c33 => ?_)
            · refine R_bipush (-6) rfl rfl ?_
              have k34 : ((-6) : Int32).toInt = (-6) := by decide
              exact R_iret rfl rfl rfl ⟨hI, fr, trivial, _, rfl, ⟨by rw [show ((-6) : Int32).toInt = (-6) from rfl] <;> omega, (by unfold s_paste; rw [if_pos (by omega), if_pos (Or.inl (zq30 (by omega)))]), trivial⟩⟩
            · exfalso; omega
          · show RUN d_X8_paste 33 [(0, .inr (.inr (.inl 0))), (1, .inl a0), (2, .inl a1), (3, .inl a2), (4, .inl a3), (5, .inl a4)] [.inl x31] h _
            refine N_if_eq (a := x31.toInt) 47 rfl rfl rfl (fun c35 => ?_) (fun c35 => ?_)
            · exfalso; omega
            · refine R_aload_n (k := 0) rfl rfl rfl ?_
              refine R_getf_r (j := 6) rfl ft_8_42 sh_0 rfl ?_
              refine R_iload_n (k := 3) rfl rfl rfl ?_
              refine R_callV (v := .inr (.inr (.inl 66))) (As := [.inl a2]) (rest := []) rfl mt_8_i392 pp_X5_hasRow (by decide) rfl rfl rfl (Nat.le_of_ble_eq_true rfl) (Nat.le_of_ble_eq_true rfl) ((g_X5_hasRow h hI a2 (by omega)).mono (fun r36 h37 p38 => ?_))
              obtain ⟨rfl, x41, rfl, (q42 | q42), zq39, zq40, -⟩ := p38
              · show RUN d_X8_paste 44 [(0, .inr (.inr (.inl 0))), (1, .inl a0), (2, .inl a1), (3, .inl a2), (4, .inl a3), (5, .inl a4)] [.inl x41] h _
                refine N_if_ne (a := x41.toInt) 50 rfl rfl rfl (fun c43 => ?_) (fun c43 => ?_)
                · exfalso; omega
                · refine R_bipush (-6) rfl rfl ?_
                  have k44 : ((-6) : Int32).toInt = (-6) := by decide
                  exact R_iret rfl rfl rfl ⟨hI, fr, trivial, _, rfl, ⟨by rw [show ((-6) : Int32).toInt = (-6) from rfl] <;> omega, (by unfold s_paste; rw [if_pos (by omega), if_pos (Or.inr (zq40 (by omega)))]), trivial⟩⟩
              · show RUN d_X8_paste 44 [(0, .inr (.inr (.inl 0))), (1, .inl a0), (2, .inl a1), (3, .inl a2), (4, .inl a3), (5, .inl a4)] [.inl x41] h _
                refine N_if_ne (a := x41.toInt) 50 rfl rfl rfl (fun c45 => ?_) (fun c45 => ?_)
                · refine R_aload_n (k := 0) rfl rfl rfl ?_
                  refine R_getf_r (j := 6) rfl ft_8_42 sh_0 rfl ?_
                  refine R_getf_r (j := 2) rfl ft_8_401 sh_66 rfl ?_
                  refine R_iload_n (k := 1) rfl rfl rfl ?_
                  refine R_iald rfl sh_69 ⟨by omega, by omega⟩ ?_
                  refine N_eq (fun x46 e47 => ?_)
                  refine R_aload_n (k := 0) rfl rfl rfl ?_
                  refine R_getf_r (j := 6) rfl ft_8_42 sh_0 rfl ?_
                  refine R_getf_r (j := 2) rfl ft_8_401 sh_66 rfl ?_
                  refine R_iload_n (k := 3) rfl rfl rfl ?_
                  refine R_iald rfl sh_69 ⟨by omega, by omega⟩ ?_
                  refine N_eq (fun x48 e49 => ?_)
                  refine N_icmp_eq (a := x46.toInt) (b := x48.toInt) 74 rfl rfl rfl rfl (fun c50 => ?_) (fun c50 => ?_)
                  · refine R_aload_n (k := 0) rfl rfl rfl ?_
                    refine R_getf_r (j := 6) rfl ft_8_42 sh_0 rfl ?_
                    refine R_iload_n (k := 1) rfl rfl rfl ?_
                    refine R_iload_n (k := 2) rfl rfl rfl ?_
                    refine R_iload (k := 5) rfl rfl ?_
                    refine R_callV (v := .inr (.inr (.inl 66))) (As := [.inl a0, .inl a1, .inl a4]) (rest := []) rfl mt_8_i404 pp_X5_hasCells (by decide) rfl rfl rfl (Nat.le_of_ble_eq_true rfl) (Nat.le_of_ble_eq_true rfl) ((g_X5_hasCells h hI a0 a1 a4 (by omega)).mono (fun r51 h52 p53 => ?_))
                    obtain ⟨rfl, x56, rfl, (q57 | q57 | q57 | q57), zq54, zq55, -⟩ := p53
                    · show RUN d_X8_paste 85 [(0, .inr (.inr (.inl 0))), (1, .inl a0), (2, .inl a1), (3, .inl a2), (4, .inl a3), (5, .inl a4)] [.inl x56] h _
                      refine N_if_eq (a := x56.toInt) 103 rfl rfl rfl (fun c58 => ?_) (fun c58 => ?_)
                      · refine R_bipush (-7) rfl rfl ?_
                        have k59 : ((-7) : Int32).toInt = (-7) := by decide
                        have nc60 := zq55 (by omega)
                        exact R_iret rfl rfl rfl ⟨hI, fr, trivial, _, rfl, ⟨by rw [show ((-7) : Int32).toInt = (-7) from rfl] <;> omega, (by unfold s_paste; rw [if_pos (by omega), if_neg (fun hc => Or.elim hc (zq29 (by omega)) (zq39 (by omega))), if_pos (by rw [← e47, ← e49]; omega), if_neg (by omega)]), trivial⟩⟩
                      · exfalso; omega
                    · show RUN d_X8_paste 85 [(0, .inr (.inr (.inl 0))), (1, .inl a0), (2, .inl a1), (3, .inl a2), (4, .inl a3), (5, .inl a4)] [.inl x56] h _
                      refine N_if_eq (a := x56.toInt) 103 rfl rfl rfl (fun c61 => ?_) (fun c61 => ?_)
                      · refine R_bipush (-7) rfl rfl ?_
                        have k62 : ((-7) : Int32).toInt = (-7) := by decide
                        have nc63 := zq55 (by omega)
                        exact R_iret rfl rfl rfl ⟨hI, fr, trivial, _, rfl, ⟨by rw [show ((-7) : Int32).toInt = (-7) from rfl] <;> omega, (by unfold s_paste; rw [if_pos (by omega), if_neg (fun hc => Or.elim hc (zq29 (by omega)) (zq39 (by omega))), if_pos (by rw [← e47, ← e49]; omega), if_neg (by omega)]), trivial⟩⟩
                      · exfalso; omega
                    · show RUN d_X8_paste 85 [(0, .inr (.inr (.inl 0))), (1, .inl a0), (2, .inl a1), (3, .inl a2), (4, .inl a3), (5, .inl a4)] [.inl x56] h _
                      refine N_if_eq (a := x56.toInt) 103 rfl rfl rfl (fun c64 => ?_) (fun c64 => ?_)
                      · refine R_bipush (-7) rfl rfl ?_
                        have k65 : ((-7) : Int32).toInt = (-7) := by decide
                        have nc66 := zq55 (by omega)
                        exact R_iret rfl rfl rfl ⟨hI, fr, trivial, _, rfl, ⟨by rw [show ((-7) : Int32).toInt = (-7) from rfl] <;> omega, (by unfold s_paste; rw [if_pos (by omega), if_neg (fun hc => Or.elim hc (zq29 (by omega)) (zq39 (by omega))), if_pos (by rw [← e47, ← e49]; omega), if_neg (by omega)]), trivial⟩⟩
                      · exfalso; omega
                    · show RUN d_X8_paste 85 [(0, .inr (.inr (.inl 0))), (1, .inl a0), (2, .inl a1), (3, .inl a2), (4, .inl a3), (5, .inl a4)] [.inl x56] h _
                      refine N_if_eq (a := x56.toInt) 103 rfl rfl rfl (fun c67 => ?_) (fun c67 => ?_)
                      · exfalso; omega
                      · refine R_aload_n (k := 0) rfl rfl rfl ?_
                        refine R_getf_r (j := 6) rfl ft_8_42 sh_0 rfl ?_
                        refine R_iload_n (k := 3) rfl rfl rfl ?_
                        refine R_iload (k := 4) rfl rfl ?_
                        refine R_iload (k := 5) rfl rfl ?_
                        refine R_callV (v := .inr (.inr (.inl 66))) (As := [.inl a2, .inl a3, .inl a4]) (rest := []) rfl mt_8_i404 pp_X5_hasCells (by decide) rfl rfl rfl (Nat.le_of_ble_eq_true rfl) (Nat.le_of_ble_eq_true rfl) ((g_X5_hasCells h hI a2 a3 a4 (by omega)).mono (fun r68 h69 p70 => ?_))
                        obtain ⟨rfl, x73, rfl, (q74 | q74 | q74 | q74), zq71, zq72, -⟩ := p70
                        · show RUN d_X8_paste 100 [(0, .inr (.inr (.inl 0))), (1, .inl a0), (2, .inl a1), (3, .inl a2), (4, .inl a3), (5, .inl a4)] [.inl x73] h _
                          refine N_if_ne (a := x73.toInt) 106 rfl rfl rfl (fun c75 => ?_) (fun c75 => ?_)
                          · exfalso; omega
                          · refine R_bipush (-7) rfl rfl ?_
                            have k76 : ((-7) : Int32).toInt = (-7) := by decide
                            have nc77 := zq72 (by omega)
                            exact R_iret rfl rfl rfl ⟨hI, fr, trivial, _, rfl, ⟨by rw [show ((-7) : Int32).toInt = (-7) from rfl] <;> omega, (by unfold s_paste; rw [if_pos (by omega), if_neg (fun hc => Or.elim hc (zq29 (by omega)) (zq39 (by omega))), if_pos (by rw [← e47, ← e49]; omega), if_neg (by omega)]), trivial⟩⟩
                        · exfalso; omega
                        · show RUN d_X8_paste 100 [(0, .inr (.inr (.inl 0))), (1, .inl a0), (2, .inl a1), (3, .inl a2), (4, .inl a3), (5, .inl a4)] [.inl x73] h _
                          refine N_if_ne (a := x73.toInt) 106 rfl rfl rfl (fun c78 => ?_) (fun c78 => ?_)
                          · exfalso; omega
                          · refine R_bipush (-7) rfl rfl ?_
                            have k79 : ((-7) : Int32).toInt = (-7) := by decide
                            have nc80 := zq72 (by omega)
                            exact R_iret rfl rfl rfl ⟨hI, fr, trivial, _, rfl, ⟨by rw [show ((-7) : Int32).toInt = (-7) from rfl] <;> omega, (by unfold s_paste; rw [if_pos (by omega), if_neg (fun hc => Or.elim hc (zq29 (by omega)) (zq39 (by omega))), if_pos (by rw [← e47, ← e49]; omega), if_neg (by omega)]), trivial⟩⟩
                        · show RUN d_X8_paste 100 [(0, .inr (.inr (.inl 0))), (1, .inl a0), (2, .inl a1), (3, .inl a2), (4, .inl a3), (5, .inl a4)] [.inl x73] h _
                          refine N_if_ne (a := x73.toInt) 106 rfl rfl rfl (fun c81 => ?_) (fun c81 => ?_)
                          · refine R_aload_n (k := 0) rfl rfl rfl ?_
                            refine R_getf_r (j := 6) rfl ft_8_42 sh_0 rfl ?_
                            refine R_iload_n (k := 1) rfl rfl rfl ?_
                            refine R_iload_n (k := 2) rfl rfl rfl ?_
                            refine R_iload_n (k := 3) rfl rfl rfl ?_
                            refine R_iload (k := 4) rfl rfl ?_
                            refine R_iload (k := 5) rfl rfl ?_
                            refine R_callV (v := .inr (.inr (.inl 66))) (As := [.inl a0, .inl a1, .inl a2, .inl a3, .inl a4]) (rest := []) rfl mt_8_i408 pp_X5_copyCells (by decide) rfl rfl rfl (Nat.le_of_ble_eq_true rfl) (Nat.le_of_ble_eq_true rfl) ((k_X5_copyCells h hI a0 a1 a2 a3 a4 (by omega) (by omega) (by omega) (by omega) (by omega) (by omega) (by omega)).mono (fun r82 h83 p84 => ?_))
                            obtain ⟨hJ, fj, -, rfl⟩ := p84
                            have f85 := fj
                            have fr := fr.trans fj (by decide)
                            have hI := hJ
                            show RUN d_X8_paste 120 [(0, .inr (.inr (.inl 0))), (1, .inl a0), (2, .inl a1), (3, .inl a2), (4, .inl a3), (5, .inl a4)] [] h83 _
                            refine R_iconst 0 rfl rfl ?_
                            have k86 : (0 : Int32).toInt = 0 := by decide
                            have nc87 := zq54 (by omega)
                            have nc88 := zq71 (by omega)
                            exact R_iret rfl rfl rfl ⟨hI, fr, trivial, _, rfl, ⟨by rw [show (0 : Int32).toInt = 0 from rfl] <;> omega, (by unfold s_paste; rw [if_pos (by omega), if_neg (fun hc => Or.elim hc (zq29 (by omega)) (zq39 (by omega))), if_pos (by rw [← e47, ← e49]; omega), if_pos (by omega)]), trivial⟩⟩
                          · exfalso; omega
                  · refine R_bipush (-8) rfl rfl ?_
                    have k89 : ((-8) : Int32).toInt = (-8) := by decide
                    exact R_iret rfl rfl rfl ⟨hI, fr, trivial, _, rfl, ⟨by rw [show ((-8) : Int32).toInt = (-8) from rfl] <;> omega, (by unfold s_paste; rw [if_pos (by omega), if_neg (fun hc => Or.elim hc (zq29 (by omega)) (zq39 (by omega))), if_neg (by rw [← e47, ← e49]; omega)]), trivial⟩⟩
                · exfalso; omega
        · exfalso; omega

abbrev qg_X9_paste (h : PH) (a0 : Int32) (a1 : Int32) (a2 : Int32) (a3 : Int32) (a4 : Int32) : Option PV → PH → Prop := fun r h' => INV h' ∧ FR [129, 130] h h' ∧ (True) ∧ ∃ z : Int32, r = some (.inl z) ∧ ((((-8) ≤ z.toInt ∧ z.toInt ≤ 0)) ∧ (z = s_paste a0.toInt a1.toInt a2.toInt a3.toInt a4.toInt (h.1 127 a0.toNatClampNeg).toInt (h.1 127 a2.toNatClampNeg).toInt (h.1 128 a0.toNatClampNeg).toInt (h.1 128 a2.toNatClampNeg).toInt) ∧ True)
set_option maxHeartbeats 4000000 in
set_option maxRecDepth 100000 in
theorem g_X9_paste (h : PH) (hI : INV h) (a0 : Int32) (a1 : Int32) (a2 : Int32) (a3 : Int32) (a4 : Int32) : CALL d_X9_paste [.inr (.inr (.inl 96)), .inl a0, .inl a1, .inl a2, .inl a3, .inl a4] h (qg_X9_paste h a0 a1 a2 a3 a4) := by
  show RUN d_X9_paste 0 [(0, .inr (.inr (.inl 96))), (1, .inl a0), (2, .inl a1), (3, .inl a2), (4, .inl a3), (5, .inl a4)] [] h _
  have b1 := i_rng a0
  have b2 := i_rng a1
  have b3 := i_rng a2
  have b4 := i_rng a3
  have b5 := i_rng a4
  have fr : FR [129, 130] h h := FR.rf _ _
  refine R_iload_n (k := 1) rfl rfl rfl ?_
  refine R_callS (As := [.inl a0]) (rest := []) rfl mt_9_i440 (by decide) pp_X9_isSlot (by decide) rfl rfl (Nat.le_of_ble_eq_true rfl) (Nat.le_of_ble_eq_true rfl) ((k_X9_isSlot h hI a0).mono (fun r6 h7 p8 => ?_))
  obtain ⟨rfl, x9, rfl, q10 | q10 | q10⟩ := p8
  · show RUN d_X9_paste 4 [(0, .inr (.inr (.inl 96))), (1, .inl a0), (2, .inl a1), (3, .inl a2), (4, .inl a3), (5, .inl a4)] [.inl x9] h _
    refine N_if_eq (a := x9.toInt) 14 rfl rfl rfl (fun c11 => ?_) (fun c11 => ?_)
    · refine R_bipush (-2) rfl rfl ?_
      have k12 : ((-2) : Int32).toInt = (-2) := by decide
      exact R_iret rfl rfl rfl ⟨hI, fr, trivial, _, rfl, ⟨by rw [show ((-2) : Int32).toInt = (-2) from rfl] <;> omega, (by unfold s_paste; rw [if_neg (by omega)]), trivial⟩⟩
    · exfalso; omega
  · show RUN d_X9_paste 4 [(0, .inr (.inr (.inl 96))), (1, .inl a0), (2, .inl a1), (3, .inl a2), (4, .inl a3), (5, .inl a4)] [.inl x9] h _
    refine N_if_eq (a := x9.toInt) 14 rfl rfl rfl (fun c13 => ?_) (fun c13 => ?_)
    · refine R_bipush (-2) rfl rfl ?_
      have k14 : ((-2) : Int32).toInt = (-2) := by decide
      exact R_iret rfl rfl rfl ⟨hI, fr, trivial, _, rfl, ⟨by rw [show ((-2) : Int32).toInt = (-2) from rfl] <;> omega, (by unfold s_paste; rw [if_neg (by omega)]), trivial⟩⟩
    · exfalso; omega
  · show RUN d_X9_paste 4 [(0, .inr (.inr (.inl 96))), (1, .inl a0), (2, .inl a1), (3, .inl a2), (4, .inl a3), (5, .inl a4)] [.inl x9] h _
    refine N_if_eq (a := x9.toInt) 14 rfl rfl rfl (fun c15 => ?_) (fun c15 => ?_)
    · exfalso; omega
    · refine R_iload_n (k := 3) rfl rfl rfl ?_
      refine R_callS (As := [.inl a2]) (rest := []) rfl mt_9_i440 (by decide) pp_X9_isSlot (by decide) rfl rfl (Nat.le_of_ble_eq_true rfl) (Nat.le_of_ble_eq_true rfl) ((k_X9_isSlot h hI a2).mono (fun r16 h17 p18 => ?_))
      obtain ⟨rfl, x19, rfl, q20 | q20 | q20⟩ := p18
      · show RUN d_X9_paste 11 [(0, .inr (.inr (.inl 96))), (1, .inl a0), (2, .inl a1), (3, .inl a2), (4, .inl a3), (5, .inl a4)] [.inl x19] h _
        refine N_if_ne (a := x19.toInt) 17 rfl rfl rfl (fun c21 => ?_) (fun c21 => ?_)
        · exfalso; omega
        · refine R_bipush (-2) rfl rfl ?_
          have k22 : ((-2) : Int32).toInt = (-2) := by decide
          exact R_iret rfl rfl rfl ⟨hI, fr, trivial, _, rfl, ⟨by rw [show ((-2) : Int32).toInt = (-2) from rfl] <;> omega, (by unfold s_paste; rw [if_neg (by omega)]), trivial⟩⟩
      · show RUN d_X9_paste 11 [(0, .inr (.inr (.inl 96))), (1, .inl a0), (2, .inl a1), (3, .inl a2), (4, .inl a3), (5, .inl a4)] [.inl x19] h _
        refine N_if_ne (a := x19.toInt) 17 rfl rfl rfl (fun c23 => ?_) (fun c23 => ?_)
        · exfalso; omega
        · refine R_bipush (-2) rfl rfl ?_
          have k24 : ((-2) : Int32).toInt = (-2) := by decide
          exact R_iret rfl rfl rfl ⟨hI, fr, trivial, _, rfl, ⟨by rw [show ((-2) : Int32).toInt = (-2) from rfl] <;> omega, (by unfold s_paste; rw [if_neg (by omega)]), trivial⟩⟩
      · show RUN d_X9_paste 11 [(0, .inr (.inr (.inl 96))), (1, .inl a0), (2, .inl a1), (3, .inl a2), (4, .inl a3), (5, .inl a4)] [.inl x19] h _
        refine N_if_ne (a := x19.toInt) 17 rfl rfl rfl (fun c25 => ?_) (fun c25 => ?_)
        · refine R_aload_n (k := 0) rfl rfl rfl ?_
          refine R_getf_r (j := 57) rfl ft_9_107 sh_96 rfl ?_
          refine R_iload_n (k := 1) rfl rfl rfl ?_
          refine R_iald rfl sh_127 ⟨by omega, by omega⟩ ?_
          refine N_eq (fun x26 e27 => ?_)
          have q28 : (-1) ≤ x26.toInt ∧ x26.toInt ≤ 60 := by rw [e27]; exact hI.1 127 _
          refine R_iconst (-1) rfl rfl ?_
          refine N_icmp_eq (a := x26.toInt) (b := (-1)) 37 rfl rfl rfl (by decide) (fun c29 => ?_) (fun c29 => ?_)
          · refine R_bipush (-6) rfl rfl ?_
            have k30 : ((-6) : Int32).toInt = (-6) := by decide
            have ev31 : (h.1 127 a0.toNatClampNeg).toInt = x26.toInt := by rw [← e27]
            exact R_iret rfl rfl rfl ⟨hI, fr, trivial, _, rfl, ⟨by rw [show ((-6) : Int32).toInt = (-6) from rfl] <;> omega, (by unfold s_paste; rw [if_pos (by omega), if_pos (by omega)]), trivial⟩⟩
          · refine R_aload_n (k := 0) rfl rfl rfl ?_
            refine R_getf_r (j := 57) rfl ft_9_107 sh_96 rfl ?_
            refine R_iload_n (k := 3) rfl rfl rfl ?_
            refine R_iald rfl sh_127 ⟨by omega, by omega⟩ ?_
            refine N_eq (fun x32 e33 => ?_)
            have q34 : (-1) ≤ x32.toInt ∧ x32.toInt ≤ 60 := by rw [e33]; exact hI.1 127 _
            refine R_iconst (-1) rfl rfl ?_
            refine N_icmp_ne (a := x32.toInt) (b := (-1)) 40 rfl rfl rfl (by decide) (fun c35 => ?_) (fun c35 => ?_)
            · refine R_aload_n (k := 0) rfl rfl rfl ?_
              refine R_getf_r (j := 58) rfl ft_9_110 sh_96 rfl ?_
              refine R_iload_n (k := 1) rfl rfl rfl ?_
              refine R_iald rfl sh_128 ⟨by omega, by omega⟩ ?_
              refine N_eq (fun x36 e37 => ?_)
              refine R_aload_n (k := 0) rfl rfl rfl ?_
              refine R_getf_r (j := 58) rfl ft_9_110 sh_96 rfl ?_
              refine R_iload_n (k := 3) rfl rfl rfl ?_
              refine R_iald rfl sh_128 ⟨by omega, by omega⟩ ?_
              refine N_eq (fun x38 e39 => ?_)
              refine N_icmp_eq (a := x36.toInt) (b := x38.toInt) 58 rfl rfl rfl rfl (fun c40 => ?_) (fun c40 => ?_)
              · refine R_iload_n (k := 2) rfl rfl rfl ?_
                refine N_if_lt (a := a1.toInt) 107 rfl rfl rfl (fun c41 => ?_) (fun c41 => ?_)
                · refine R_bipush (-7) rfl rfl ?_
                  have k42 : ((-7) : Int32).toInt = (-7) := by decide
                  have ev43 : (h.1 127 a0.toNatClampNeg).toInt = x26.toInt := by rw [← e27]
                  have ev44 : (h.1 127 a2.toNatClampNeg).toInt = x32.toInt := by rw [← e33]
                  have ev45 : (h.1 128 a0.toNatClampNeg).toInt = x36.toInt := by rw [← e37]
                  have ev46 : (h.1 128 a2.toNatClampNeg).toInt = x38.toInt := by rw [← e39]
                  exact R_iret rfl rfl rfl ⟨hI, fr, trivial, _, rfl, ⟨by rw [show ((-7) : Int32).toInt = (-7) from rfl] <;> omega, (by unfold s_paste; rw [if_pos (by omega), if_neg (by omega), if_pos (by omega), if_neg (by omega)]), trivial⟩⟩
                · refine R_iload (k := 4) rfl rfl ?_
                  refine N_if_lt (a := a3.toInt) 107 rfl rfl rfl (fun c47 => ?_) (fun c47 => ?_)
                  · refine R_bipush (-7) rfl rfl ?_
                    have k48 : ((-7) : Int32).toInt = (-7) := by decide
                    have ev49 : (h.1 127 a0.toNatClampNeg).toInt = x26.toInt := by rw [← e27]
                    have ev50 : (h.1 127 a2.toNatClampNeg).toInt = x32.toInt := by rw [← e33]
                    have ev51 : (h.1 128 a0.toNatClampNeg).toInt = x36.toInt := by rw [← e37]
                    have ev52 : (h.1 128 a2.toNatClampNeg).toInt = x38.toInt := by rw [← e39]
                    exact R_iret rfl rfl rfl ⟨hI, fr, trivial, _, rfl, ⟨by rw [show ((-7) : Int32).toInt = (-7) from rfl] <;> omega, (by unfold s_paste; rw [if_pos (by omega), if_neg (by omega), if_pos (by omega), if_neg (by omega)]), trivial⟩⟩
                  · refine R_iload (k := 5) rfl rfl ?_
                    refine N_if_lt (a := a4.toInt) 107 rfl rfl rfl (fun c53 => ?_) (fun c53 => ?_)
                    · refine R_bipush (-7) rfl rfl ?_
                      have k54 : ((-7) : Int32).toInt = (-7) := by decide
                      have ev55 : (h.1 127 a0.toNatClampNeg).toInt = x26.toInt := by rw [← e27]
                      have ev56 : (h.1 127 a2.toNatClampNeg).toInt = x32.toInt := by rw [← e33]
                      have ev57 : (h.1 128 a0.toNatClampNeg).toInt = x36.toInt := by rw [← e37]
                      have ev58 : (h.1 128 a2.toNatClampNeg).toInt = x38.toInt := by rw [← e39]
                      exact R_iret rfl rfl rfl ⟨hI, fr, trivial, _, rfl, ⟨by rw [show ((-7) : Int32).toInt = (-7) from rfl] <;> omega, (by unfold s_paste; rw [if_pos (by omega), if_neg (by omega), if_pos (by omega), if_neg (by omega)]), trivial⟩⟩
                    · refine R_iload_n (k := 2) rfl rfl rfl ?_
                      refine N_i2l rfl (fun w59 q60 => ?_)
                      refine R_iload (k := 5) rfl rfl ?_
                      refine N_i2l rfl (fun w61 q62 => ?_)
                      refine R_ladd rfl ?_
                      refine N_eqL (fun w63 e64 => ?_)
                      have q65 : w63.toInt = w59.toInt + w61.toInt := by rw [e64]; exact l_add rfl rfl (by omega)
                      refine R_aload_n (k := 0) rfl rfl rfl ?_
                      refine R_getf_r (j := 57) rfl ft_9_107 sh_96 rfl ?_
                      refine R_iload_n (k := 1) rfl rfl rfl ?_
                      refine R_iald rfl sh_127 ⟨by omega, by omega⟩ ?_
                      refine N_eq (fun x66 e67 => ?_)
                      have q68 : (-1) ≤ x66.toInt ∧ x66.toInt ≤ 60 := by rw [e67]; exact hI.1 127 _
                      refine N_i2l rfl (fun w69 q70 => ?_)
                      refine N_lcmp (a := w63.toInt) (b := w69.toInt) rfl rfl rfl (fun x71 q72 => ?_)
                      refine N_if_gt (a := x71.toInt) 107 rfl rfl rfl (fun c73 => ?_) (fun c73 => ?_)
                      · refine R_bipush (-7) rfl rfl ?_
                        have k74 : ((-7) : Int32).toInt = (-7) := by decide
                        have ev75 : (h.1 127 a0.toNatClampNeg).toInt = x26.toInt := by rw [← e27]
                        have ev76 : (h.1 127 a2.toNatClampNeg).toInt = x32.toInt := by rw [← e33]
                        have ev77 : (h.1 128 a0.toNatClampNeg).toInt = x36.toInt := by rw [← e37]
                        have ev78 : (h.1 128 a2.toNatClampNeg).toInt = x38.toInt := by rw [← e39]
                        have ev79 : (h.1 127 a0.toNatClampNeg).toInt = x66.toInt := by rw [← e67]
                        exact R_iret rfl rfl rfl ⟨hI, fr, trivial, _, rfl, ⟨by rw [show ((-7) : Int32).toInt = (-7) from rfl] <;> omega, (by unfold s_paste; rw [if_pos (by omega), if_neg (by omega), if_pos (by omega), if_neg (by omega)]), trivial⟩⟩
                      · refine R_iload (k := 4) rfl rfl ?_
                        refine N_i2l rfl (fun w80 q81 => ?_)
                        refine R_iload (k := 5) rfl rfl ?_
                        refine N_i2l rfl (fun w82 q83 => ?_)
                        refine R_ladd rfl ?_
                        refine N_eqL (fun w84 e85 => ?_)
                        have q86 : w84.toInt = w80.toInt + w82.toInt := by rw [e85]; exact l_add rfl rfl (by omega)
                        refine R_aload_n (k := 0) rfl rfl rfl ?_
                        refine R_getf_r (j := 57) rfl ft_9_107 sh_96 rfl ?_
                        refine R_iload_n (k := 3) rfl rfl rfl ?_
                        refine R_iald rfl sh_127 ⟨by omega, by omega⟩ ?_
                        refine N_eq (fun x87 e88 => ?_)
                        have q89 : (-1) ≤ x87.toInt ∧ x87.toInt ≤ 60 := by rw [e88]; exact hI.1 127 _
                        refine N_i2l rfl (fun w90 q91 => ?_)
                        refine N_lcmp (a := w84.toInt) (b := w90.toInt) rfl rfl rfl (fun x92 q93 => ?_)
                        refine N_if_le (a := x92.toInt) 110 rfl rfl rfl (fun c94 => ?_) (fun c94 => ?_)
                        · refine R_iconst 0 rfl rfl ?_
                          refine R_istore (k := 6) [(6, .inl 0), (0, .inr (.inr (.inl 96))), (1, .inl a0), (2, .inl a1), (3, .inl a2), (4, .inl a3), (5, .inl a4)] rfl rfl (by decide) ?_
                          have lp96 : ∀ (n95 : Nat) (h97 : PH) (x99 : Int32), INV h97 → FR [129, 130] h h97 → FR [129, 130] h h97 → 0 ≤ x99.toInt ∧ x99.toInt ≤ 60 → x99.toInt ≤ a4.toInt + 0 → (60 - x99.toInt).toNat < n95 → RUN d_X9_paste 113 [(6, .inl x99), (0, .inr (.inr (.inl 96))), (1, .inl a0), (2, .inl a1), (3, .inl a2), (4, .inl a3), (5, .inl a4)] [] h97 (qg_X9_paste h a0 a1 a2 a3 a4) := by
                            intro n95
                            induction n95 with
                            | zero => intro h97 x99 m101 m102 m103 m104 m105 hz; exact absurd hz (Nat.not_lt_zero _)
                            | succ n95 ih100 =>
                              intro h97 x99 hI fr fl98 m104 m105 hz
                              refine R_iload (k := 6) rfl rfl ?_
                              refine R_iload (k := 5) rfl rfl ?_
                              refine N_icmp_ge (a := x99.toInt) (b := a4.toInt) 147 rfl rfl rfl rfl (fun c106 => ?_) (fun c106 => ?_)
                              · refine R_iconst 0 rfl rfl ?_
                                refine R_istore (k := 6) [(6, .inl 0), (0, .inr (.inr (.inl 96))), (1, .inl a0), (2, .inl a1), (3, .inl a2), (4, .inl a3), (5, .inl a4)] rfl rfl (by decide) ?_
                                have lp108 : ∀ (n107 : Nat) (h109 : PH) (x111 : Int32), INV h109 → FR [129, 130] h h109 → FR [129] h97 h109 → 0 ≤ x111.toInt ∧ x111.toInt ≤ 60 → x111.toInt ≤ a4.toInt + 0 → (60 - x111.toInt).toNat < n107 → RUN d_X9_paste 150 [(6, .inl x111), (0, .inr (.inr (.inl 96))), (1, .inl a0), (2, .inl a1), (3, .inl a2), (4, .inl a3), (5, .inl a4)] [] h109 (qg_X9_paste h a0 a1 a2 a3 a4) := by
                                  intro n107
                                  induction n107 with
                                  | zero => intro h109 x111 m113 m114 m115 m116 m117 hz; exact absurd hz (Nat.not_lt_zero _)
                                  | succ n107 ih112 =>
                                    intro h109 x111 hI fr fl110 m116 m117 hz
                                    have fl98 : FR [129, 130] h h109 := fl98.trans fl110 (by decide)
                                    refine R_iload (k := 6) rfl rfl ?_
                                    refine R_iload (k := 5) rfl rfl ?_
                                    refine N_icmp_ge (a := x111.toInt) (b := a4.toInt) 185 rfl rfl rfl rfl (fun c118 => ?_) (fun c118 => ?_)
                                    · refine R_iconst 0 rfl rfl ?_
                                      have k119 : (0 : Int32).toInt = 0 := by decide
                                      have ev120 : (h.1 127 a0.toNatClampNeg).toInt = x26.toInt := by rw [← e27]
                                      have ev121 : (h.1 127 a2.toNatClampNeg).toInt = x32.toInt := by rw [← e33]
                                      have ev122 : (h.1 128 a0.toNatClampNeg).toInt = x36.toInt := by rw [← e37]
                                      have ev123 : (h.1 128 a2.toNatClampNeg).toInt = x38.toInt := by rw [← e39]
                                      have ev124 : (h.1 127 a0.toNatClampNeg).toInt = x66.toInt := by rw [← e67]
                                      have ev125 : (h.1 127 a2.toNatClampNeg).toInt = x87.toInt := by rw [← e88]
                                      exact R_iret rfl rfl rfl ⟨hI, fr, trivial, _, rfl, ⟨by rw [show (0 : Int32).toInt = 0 from rfl] <;> omega, (by unfold s_paste; rw [if_pos (by omega), if_neg (by omega), if_pos (by omega), if_pos (by omega)]), trivial⟩⟩
                                    · refine R_aload_n (k := 0) rfl rfl rfl ?_
                                      refine R_getf_r (j := 59) rfl ft_9_113 sh_96 rfl ?_
                                      refine R_bipush 60 rfl rfl ?_
                                      refine R_iload_n (k := 3) rfl rfl rfl ?_
                                      refine R_imul rfl ?_
                                      refine N_eq (fun x126 e127 => ?_)
                                      have q128 : x126.toInt = 60 * a2.toInt := by rw [e127]; exact i_mul (by decide) rfl (by omega)
                                      refine R_iload (k := 4) rfl rfl ?_
                                      refine R_iadd rfl ?_
                                      refine N_eq (fun x129 e130 => ?_)
                                      have q131 : x129.toInt = x126.toInt + a3.toInt := by rw [e130]; exact i_add rfl rfl (by omega)
                                      refine R_iload (k := 6) rfl rfl ?_
                                      refine R_iadd rfl ?_
                                      refine N_eq (fun x132 e133 => ?_)
                                      have q134 : x132.toInt = x129.toInt + x111.toInt := by rw [e133]; exact i_add rfl rfl (by omega)
                                      refine R_aload_n (k := 0) rfl rfl rfl ?_
                                      refine R_getf_r (j := 60) rfl ft_9_117 sh_96 rfl ?_
                                      refine R_iload (k := 6) rfl rfl ?_
                                      refine R_lald rfl sh_130 ⟨by omega, by omega⟩ ?_
                                      refine N_eqL (fun w135 e136 => ?_)
                                      refine K_last (a := x132.toInt) rfl sh_129 rfl ⟨by omega, by omega⟩ hI fr (by decide) (fun h137 g138 hI fr => ?_)
                                      have fl110 : FR [129] h97 h137 := by rw [g138]; exact FR_wL _ _ fl110 (by decide)
                                      have fl98 : FR [129, 130] h h137 := by rw [g138]; exact FR_wL _ _ fl98 (by decide)
                                      refine N_iinc (a := x111.toInt) (c := 1) (fun w => [(6, .inl w), (0, .inr (.inr (.inl 96))), (1, .inl a0), (2, .inl a1), (3, .inl a2), (4, .inl a3), (5, .inl a4)]) rfl rfl (fun _ => rfl) (by decide) rfl (by decide) (by omega) (fun x139 q140 => ?_)
                                      refine R_goto 150 rfl rfl ?_
                                      exact RUN_weak (psub_cons rfl (psub_cons rfl (psub_cons rfl (psub_cons rfl (psub_cons rfl (psub_cons rfl (psub_cons rfl (psub_nil _)))))))) (ih112 h137 x139 hI fr fl110 (by omega) (by omega) (by omega))
                                have k141 : (0 : Int32).toInt = 0 := by decide
                                exact lp108 _ h97 (0 : Int32) hI fr (FR.rf _ _) (by decide) (by omega) (Nat.lt_succ_self _)
                              · refine R_aload_n (k := 0) rfl rfl rfl ?_
                                refine R_getf_r (j := 60) rfl ft_9_117 sh_96 rfl ?_
                                refine R_iload (k := 6) rfl rfl ?_
                                refine R_aload_n (k := 0) rfl rfl rfl ?_
                                refine R_getf_r (j := 59) rfl ft_9_113 sh_96 rfl ?_
                                refine R_bipush 60 rfl rfl ?_
                                refine R_iload_n (k := 1) rfl rfl rfl ?_
                                refine R_imul rfl ?_
                                refine N_eq (fun x142 e143 => ?_)
                                have q144 : x142.toInt = 60 * a0.toInt := by rw [e143]; exact i_mul (by decide) rfl (by omega)
                                refine R_iload_n (k := 2) rfl rfl rfl ?_
                                refine R_iadd rfl ?_
                                refine N_eq (fun x145 e146 => ?_)
                                have q147 : x145.toInt = x142.toInt + a1.toInt := by rw [e146]; exact i_add rfl rfl (by omega)
                                refine R_iload (k := 6) rfl rfl ?_
                                refine R_iadd rfl ?_
                                refine N_eq (fun x148 e149 => ?_)
                                have q150 : x148.toInt = x145.toInt + x99.toInt := by rw [e149]; exact i_add rfl rfl (by omega)
                                refine R_lald rfl sh_129 ⟨by omega, by omega⟩ ?_
                                refine N_eqL (fun w151 e152 => ?_)
                                refine K_last (a := x99.toInt) rfl sh_130 rfl ⟨by omega, by omega⟩ hI fr (by decide) (fun h153 g154 hI fr => ?_)
                                have fl98 : FR [129, 130] h h153 := by rw [g154]; exact FR_wL _ _ fl98 (by decide)
                                refine N_iinc (a := x99.toInt) (c := 1) (fun w => [(6, .inl w), (0, .inr (.inr (.inl 96))), (1, .inl a0), (2, .inl a1), (3, .inl a2), (4, .inl a3), (5, .inl a4)]) rfl rfl (fun _ => rfl) (by decide) rfl (by decide) (by omega) (fun x155 q156 => ?_)
                                refine R_goto 113 rfl rfl ?_
                                exact RUN_weak (psub_cons rfl (psub_cons rfl (psub_cons rfl (psub_cons rfl (psub_cons rfl (psub_cons rfl (psub_cons rfl (psub_nil _)))))))) (ih100 h153 x155 hI fr fl98 (by omega) (by omega) (by omega))
                          have k157 : (0 : Int32).toInt = 0 := by decide
                          exact lp96 _ h (0 : Int32) hI fr (FR.rf _ _) (by decide) (by omega) (Nat.lt_succ_self _)
                        · refine R_bipush (-7) rfl rfl ?_
                          have k158 : ((-7) : Int32).toInt = (-7) := by decide
                          have ev159 : (h.1 127 a0.toNatClampNeg).toInt = x26.toInt := by rw [← e27]
                          have ev160 : (h.1 127 a2.toNatClampNeg).toInt = x32.toInt := by rw [← e33]
                          have ev161 : (h.1 128 a0.toNatClampNeg).toInt = x36.toInt := by rw [← e37]
                          have ev162 : (h.1 128 a2.toNatClampNeg).toInt = x38.toInt := by rw [← e39]
                          have ev163 : (h.1 127 a0.toNatClampNeg).toInt = x66.toInt := by rw [← e67]
                          have ev164 : (h.1 127 a2.toNatClampNeg).toInt = x87.toInt := by rw [← e88]
                          exact R_iret rfl rfl rfl ⟨hI, fr, trivial, _, rfl, ⟨by rw [show ((-7) : Int32).toInt = (-7) from rfl] <;> omega, (by unfold s_paste; rw [if_pos (by omega), if_neg (by omega), if_pos (by omega), if_neg (by omega)]), trivial⟩⟩
              · refine R_bipush (-8) rfl rfl ?_
                have k165 : ((-8) : Int32).toInt = (-8) := by decide
                have ev166 : (h.1 127 a0.toNatClampNeg).toInt = x26.toInt := by rw [← e27]
                have ev167 : (h.1 127 a2.toNatClampNeg).toInt = x32.toInt := by rw [← e33]
                have ev168 : (h.1 128 a0.toNatClampNeg).toInt = x36.toInt := by rw [← e37]
                have ev169 : (h.1 128 a2.toNatClampNeg).toInt = x38.toInt := by rw [← e39]
                exact R_iret rfl rfl rfl ⟨hI, fr, trivial, _, rfl, ⟨by rw [show ((-8) : Int32).toInt = (-8) from rfl] <;> omega, (by unfold s_paste; rw [if_pos (by omega), if_neg (by omega), if_neg (by omega)]), trivial⟩⟩
            · refine R_bipush (-6) rfl rfl ?_
              have k170 : ((-6) : Int32).toInt = (-6) := by decide
              have ev171 : (h.1 127 a0.toNatClampNeg).toInt = x26.toInt := by rw [← e27]
              have ev172 : (h.1 127 a2.toNatClampNeg).toInt = x32.toInt := by rw [← e33]
              exact R_iret rfl rfl rfl ⟨hI, fr, trivial, _, rfl, ⟨by rw [show ((-6) : Int32).toInt = (-6) from rfl] <;> omega, (by unfold s_paste; rw [if_pos (by omega), if_pos (by omega)]), trivial⟩⟩
        · exfalso; omega
