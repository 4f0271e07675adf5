/-! Steps with their numbers named: what omega can use. -/
theorem i_rng (x : Int32) : -2147483648 ≤ x.toInt ∧ x.toInt ≤ 2147483647 := ⟨Int32.le_toInt x, by have := Int32.toInt_lt x; omega⟩
theorem i_add {x y : Int32} {a b : Int} (hx : x.toInt = a) (hy : y.toInt = b) (h : -2147483648 ≤ a + b ∧ a + b ≤ 2147483647) : (x + y).toInt = a + b := by
  subst hx hy
  rw [Int32.toInt_add]; exact Int.bmod_eq_of_le (by omega) (by omega)
theorem i_sub {x y : Int32} {a b : Int} (hx : x.toInt = a) (hy : y.toInt = b) (h : -2147483648 ≤ a - b ∧ a - b ≤ 2147483647) : (x - y).toInt = a - b := by
  subst hx hy
  rw [Int32.toInt_sub]; exact Int.bmod_eq_of_le (by omega) (by omega)
theorem i_mul {x y : Int32} {a b : Int} (hx : x.toInt = a) (hy : y.toInt = b) (h : -2147483648 ≤ a * b ∧ a * b ≤ 2147483647) : (x * y).toInt = a * b := by
  subst hx hy
  rw [Int32.toInt_mul]; exact Int.bmod_eq_of_le (by omega) (by omega)
theorem i_rem {x y : Int32} {a b : Int} (hx : x.toInt = a) (hy : y.toInt = b) (h0 : 0 ≤ a) (hb : 0 < b) : (x - x / y * y).toInt = a % b := by
  rw [irem_eq_mod, Int32.toInt_mod, hx, hy, Int.tmod_eq_emod_of_nonneg h0]
theorem i_div {x y : Int32} {a b : Int} (hx : x.toInt = a) (hy : y.toInt = b) (h0 : 0 ≤ a) (hb : 0 < b) : (x / y).toInt = a / b := by
  have hr := i_rng x
  rw [Int32.toInt_div, hx, hy, Int.tdiv_eq_ediv_of_nonneg h0]
  rw [hx] at hr
  have h1 : 0 ≤ a / b := Int.ediv_nonneg h0 (by omega)
  have h2 : a / b ≤ a := Int.ediv_le_self b h0
  exact Int.bmod_eq_of_le (by omega) (by omega)
theorem i_and {x y : Int32} {b : Int} (hy : y.toInt = b) (hb : 0 ≤ b) : 0 ≤ (x &&& y).toInt ∧ (x &&& y).toInt ≤ b := by
  have hy0 : 0 ≤ y.toInt := by omega
  have e1 : y.toInt = (y.toBitVec.toNat : Int) := by
    show y.toBitVec.toInt = _
    rw [BitVec.toInt_eq_toNat_of_msb (by
      cases hm : y.toBitVec.msb with
      | false => rfl
      | true =>
        have h1 : y.toInt < 0 := BitVec.toInt_neg_of_msb_true hm
        omega)]
  have e2 : (x &&& y).toBitVec = x.toBitVec &&& y.toBitVec := rfl
  have hle : (x.toBitVec &&& y.toBitVec).toNat ≤ y.toBitVec.toNat := by rw [BitVec.toNat_and]; exact Nat.and_le_right
  have hyr := i_rng y
  have e3 : (x &&& y).toInt = ((x.toBitVec &&& y.toBitVec).toNat : Int) := by
    show (x.toBitVec &&& y.toBitVec).toInt = _
    rw [BitVec.toInt_eq_toNat_of_lt (by omega)]
  rw [e3]
  omega
section
variable {d : PMd} {pc : Nat} {L : PL} {st : List PV} {h : PH} {Q : Option PV → PH → Prop} {x y : Int32} {a b : Int}
theorem N_iadd (hi : d.2.2.2.2.2.2.2[pc]? = some (some (.iadd, 1))) (hx : x.toInt = a) (hy : y.toInt = b) (ho : -2147483648 ≤ a + b ∧ a + b ≤ 2147483647) (k : ∀ z : Int32, z.toInt = a + b → RUN d (pc + 1) L (.inl z :: st) h Q) : RUN d pc L (.inl y :: .inl x :: st) h Q := R_iadd hi (k _ (i_add hx hy ho))
theorem N_isub (hi : d.2.2.2.2.2.2.2[pc]? = some (some (.isub, 1))) (hx : x.toInt = a) (hy : y.toInt = b) (ho : -2147483648 ≤ a - b ∧ a - b ≤ 2147483647) (k : ∀ z : Int32, z.toInt = a - b → RUN d (pc + 1) L (.inl z :: st) h Q) : RUN d pc L (.inl y :: .inl x :: st) h Q := R_isub hi (k _ (i_sub hx hy ho))
theorem N_imul (hi : d.2.2.2.2.2.2.2[pc]? = some (some (.imul, 1))) (hx : x.toInt = a) (hy : y.toInt = b) (ho : -2147483648 ≤ a * b ∧ a * b ≤ 2147483647) (k : ∀ z : Int32, z.toInt = a * b → RUN d (pc + 1) L (.inl z :: st) h Q) : RUN d pc L (.inl y :: .inl x :: st) h Q := R_imul hi (k _ (i_mul hx hy ho))
theorem N_irem (hi : d.2.2.2.2.2.2.2[pc]? = some (some (.irem, 1))) (hx : x.toInt = a) (hy : y.toInt = b) (h0 : 0 ≤ a) (hb : 0 < b) (k : ∀ z : Int32, z.toInt = a % b → RUN d (pc + 1) L (.inl z :: st) h Q) : RUN d pc L (.inl y :: .inl x :: st) h Q := R_irem hi (fun e => by subst e; rw [show (0 : Int32).toInt = 0 from rfl] at hy; omega) (k _ (i_rem hx hy h0 hb))
theorem N_idiv (hi : d.2.2.2.2.2.2.2[pc]? = some (some (.idiv, 1))) (hx : x.toInt = a) (hy : y.toInt = b) (h0 : 0 ≤ a) (hb : 0 < b) (k : ∀ z : Int32, z.toInt = a / b → RUN d (pc + 1) L (.inl z :: st) h Q) : RUN d pc L (.inl y :: .inl x :: st) h Q := R_idiv hi (fun e => by subst e; rw [show (0 : Int32).toInt = 0 from rfl] at hy; omega) (k _ (i_div hx hy h0 hb))
theorem N_iand (hi : d.2.2.2.2.2.2.2[pc]? = some (some (.iand, 1))) (hy : y.toInt = b) (hb : 0 ≤ b) (k : ∀ z : Int32, 0 ≤ z.toInt ∧ z.toInt ≤ b → RUN d (pc + 1) L (.inl z :: st) h Q) : RUN d pc L (.inl y :: .inl x :: st) h Q := R_iand hi (k _ (i_and hy hb))
/-- a number of which nothing is kept -/
theorem N_any {x : Int32} (k : ∀ z : Int32, RUN d pc L (.inl z :: st) h Q) : RUN d pc L (.inl x :: st) h Q := k x
theorem N_anyL {x : Int64} (k : ∀ z : Int64, RUN d pc L (.inr (.inl z) :: st) h Q) : RUN d pc L (.inr (.inl x) :: st) h Q := k x
/-- a number by its bounds -/
theorem N_bd {x : Int32} {lo hi : Int} (hb : lo ≤ x.toInt ∧ x.toInt ≤ hi) (k : ∀ z : Int32, lo ≤ z.toInt ∧ z.toInt ≤ hi → RUN d pc L (.inl z :: st) h Q) : RUN d pc L (.inl x :: st) h Q := k x hb
theorem N_if_eq {off : Int} (tgt : Nat) (hi : d.2.2.2.2.2.2.2[pc]? = some (some (.ifCond .eq off, 3))) (ht : ptg pc off = some tgt) (hx : x.toInt = a) (kt : a = 0 → RUN d tgt L st h Q) (kf : ¬ a = 0 → RUN d (pc + 3) L st h Q) : RUN d pc L (.inl x :: st) h Q := R_if_eq tgt hi ht (fun c => kt (by rw [← hx, c]; rfl)) (fun c => kf (fun z => c (i_of 0 (by rw [hx, z]; rfl))))
theorem N_if_ne {off : Int} (tgt : Nat) (hi : d.2.2.2.2.2.2.2[pc]? = some (some (.ifCond .ne off, 3))) (ht : ptg pc off = some tgt) (hx : x.toInt = a) (kt : ¬ a = 0 → RUN d tgt L st h Q) (kf : a = 0 → RUN d (pc + 3) L st h Q) : RUN d pc L (.inl x :: st) h Q := R_if_ne tgt hi ht (fun c => kt (fun z => c (i_of 0 (by rw [hx, z]; rfl)))) (fun c => kf (by rw [← hx, Classical.not_not.mp c]; rfl))
theorem N_if_lt {off : Int} (tgt : Nat) (hi : d.2.2.2.2.2.2.2[pc]? = some (some (.ifCond .lt off, 3))) (ht : ptg pc off = some tgt) (hx : x.toInt = a) (kt : a < 0 → RUN d tgt L st h Q) (kf : ¬ a < 0 → RUN d (pc + 3) L st h Q) : RUN d pc L (.inl x :: st) h Q := R_if_lt tgt hi ht (fun c => kt (i_lt a 0 hx rfl c)) (fun c => kf (fun z => absurd (i_nlt a 0 hx rfl c) (by omega)))
theorem N_if_ge {off : Int} (tgt : Nat) (hi : d.2.2.2.2.2.2.2[pc]? = some (some (.ifCond .ge off, 3))) (ht : ptg pc off = some tgt) (hx : x.toInt = a) (kt : 0 ≤ a → RUN d tgt L st h Q) (kf : ¬ 0 ≤ a → RUN d (pc + 3) L st h Q) : RUN d pc L (.inl x :: st) h Q := R_if_ge tgt hi ht (fun c => kt (i_le 0 a rfl hx c)) (fun c => kf (fun z => absurd (i_nle 0 a rfl hx c) (by omega)))
theorem N_if_gt {off : Int} (tgt : Nat) (hi : d.2.2.2.2.2.2.2[pc]? = some (some (.ifCond .gt off, 3))) (ht : ptg pc off = some tgt) (hx : x.toInt = a) (kt : 0 < a → RUN d tgt L st h Q) (kf : ¬ 0 < a → RUN d (pc + 3) L st h Q) : RUN d pc L (.inl x :: st) h Q := R_if_gt tgt hi ht (fun c => kt (i_lt 0 a rfl hx c)) (fun c => kf (fun z => absurd (i_nlt 0 a rfl hx c) (by omega)))
theorem N_if_le {off : Int} (tgt : Nat) (hi : d.2.2.2.2.2.2.2[pc]? = some (some (.ifCond .le off, 3))) (ht : ptg pc off = some tgt) (hx : x.toInt = a) (kt : a ≤ 0 → RUN d tgt L st h Q) (kf : ¬ a ≤ 0 → RUN d (pc + 3) L st h Q) : RUN d pc L (.inl x :: st) h Q := R_if_le tgt hi ht (fun c => kt (i_le a 0 hx rfl c)) (fun c => kf (fun z => absurd (i_nle a 0 hx rfl c) (by omega)))
theorem N_icmp_eq {off : Int} (tgt : Nat) (hi : d.2.2.2.2.2.2.2[pc]? = some (some (.if_icmp .eq off, 3))) (ht : ptg pc off = some tgt) (hx : x.toInt = a) (hy : y.toInt = b) (kt : a = b → RUN d tgt L st h Q) (kf : ¬ a = b → RUN d (pc + 3) L st h Q) : RUN d pc L (.inl y :: .inl x :: st) h Q := R_icmp_eq tgt hi ht (fun c => kt (i_eq a b hx hy c)) (fun c => kf (i_neq a b hx hy c))
theorem N_icmp_ne {off : Int} (tgt : Nat) (hi : d.2.2.2.2.2.2.2[pc]? = some (some (.if_icmp .ne off, 3))) (ht : ptg pc off = some tgt) (hx : x.toInt = a) (hy : y.toInt = b) (kt : ¬ a = b → RUN d tgt L st h Q) (kf : a = b → RUN d (pc + 3) L st h Q) : RUN d pc L (.inl y :: .inl x :: st) h Q := R_icmp_ne tgt hi ht (fun c => kt (i_neq a b hx hy c)) (fun c => kf (i_eq a b hx hy (Classical.not_not.mp c)))
theorem N_icmp_lt {off : Int} (tgt : Nat) (hi : d.2.2.2.2.2.2.2[pc]? = some (some (.if_icmp .lt off, 3))) (ht : ptg pc off = some tgt) (hx : x.toInt = a) (hy : y.toInt = b) (kt : a < b → RUN d tgt L st h Q) (kf : b ≤ a → RUN d (pc + 3) L st h Q) : RUN d pc L (.inl y :: .inl x :: st) h Q := R_icmp_lt tgt hi ht (fun c => kt (i_lt a b hx hy c)) (fun c => kf (i_nlt a b hx hy c))
theorem N_icmp_ge {off : Int} (tgt : Nat) (hi : d.2.2.2.2.2.2.2[pc]? = some (some (.if_icmp .ge off, 3))) (ht : ptg pc off = some tgt) (hx : x.toInt = a) (hy : y.toInt = b) (kt : b ≤ a → RUN d tgt L st h Q) (kf : a < b → RUN d (pc + 3) L st h Q) : RUN d pc L (.inl y :: .inl x :: st) h Q := R_icmp_ge tgt hi ht (fun c => kt (i_le b a hy hx c)) (fun c => kf (i_nle b a hy hx c))
theorem N_icmp_gt {off : Int} (tgt : Nat) (hi : d.2.2.2.2.2.2.2[pc]? = some (some (.if_icmp .gt off, 3))) (ht : ptg pc off = some tgt) (hx : x.toInt = a) (hy : y.toInt = b) (kt : b < a → RUN d tgt L st h Q) (kf : a ≤ b → RUN d (pc + 3) L st h Q) : RUN d pc L (.inl y :: .inl x :: st) h Q := R_icmp_gt tgt hi ht (fun c => kt (i_lt b a hy hx c)) (fun c => kf (i_nlt b a hy hx c))
theorem N_icmp_le {off : Int} (tgt : Nat) (hi : d.2.2.2.2.2.2.2[pc]? = some (some (.if_icmp .le off, 3))) (ht : ptg pc off = some tgt) (hx : x.toInt = a) (hy : y.toInt = b) (kt : a ≤ b → RUN d tgt L st h Q) (kf : b < a → RUN d (pc + 3) L st h Q) : RUN d pc L (.inl y :: .inl x :: st) h Q := R_icmp_le tgt hi ht (fun c => kt (i_le a b hx hy c)) (fun c => kf (i_nle a b hx hy c))
/-- a place that counts up -/
theorem N_iinc {k : Nat} {z c : Int} (L' : Int32 → PL) (hi : d.2.2.2.2.2.2.2[pc]? = some (some (.iinc k z, 3))) (hv : pget L k = some (.inl x)) (hL : ∀ w : Int32, pset1 L k (.inl w) = L' w) (hm : k < d.2.2.2.1) (hx : x.toInt = a) (hz : (Int32.ofInt z).toInt = c) (ho : -2147483648 ≤ a + c ∧ a + c ≤ 2147483647) (kk : ∀ w : Int32, w.toInt = a + c → RUN d (pc + 3) (L' w) st h Q) : RUN d pc L st h Q := R_iinc _ hi hv (hL _) hm (kk _ (i_add hx hz ho))
theorem N_iinc_any {k : Nat} {z : Int} (L' : Int32 → PL) (hi : d.2.2.2.2.2.2.2[pc]? = some (some (.iinc k z, 3))) (hv : pget L k = some (.inl x)) (hL : ∀ w : Int32, pset1 L k (.inl w) = L' w) (hm : k < d.2.2.2.1) (kk : ∀ w : Int32, RUN d (pc + 3) (L' w) st h Q) : RUN d pc L st h Q := R_iinc _ hi hv (hL _) hm (kk _)
theorem N_lcmp {x y : Int64} {a b : Int} (hi : d.2.2.2.2.2.2.2[pc]? = some (some (.lcmp, 1))) (hx : x.toInt = a) (hy : y.toInt = b) (k : ∀ z : Int32, (a < b ∧ z.toInt = -1) ∨ (a = b ∧ z.toInt = 0) ∨ (b < a ∧ z.toInt = 1) → RUN d (pc + 1) L (.inl z :: st) h Q) : RUN d pc L (.inr (.inl y) :: .inr (.inl x) :: st) h Q := by
  refine R_lcmp hi (k _ ?_)
  subst hx hy
  unfold lg_cmp
  split
  · rename_i c
    exact Or.inr (Or.inr ⟨Int64.lt_iff_toInt_lt.mp c, rfl⟩)
  · split
    · rename_i c
      exact Or.inr (Or.inl ⟨by rw [c], rfl⟩)
    · rename_i c1 c2
      refine Or.inl ⟨?_, rfl⟩
      have h1 : ¬ y.toInt < x.toInt := fun z => c1 (Int64.lt_iff_toInt_lt.mpr z)
      have h2 : ¬ x.toInt = y.toInt := fun z => c2 (Int64.toInt_inj.mp z)
      omega
theorem N_i2l (hi : d.2.2.2.2.2.2.2[pc]? = some (some (.i2l, 1))) (k : ∀ z : Int64, z.toInt = x.toInt → RUN d (pc + 1) L (.inr (.inl z) :: st) h Q) : RUN d pc L (.inl x :: st) h Q := R_i2l hi (k _ (Int32.toInt_toInt64 x))
end
/-! writes, with the invariant and the frame -/
section
variable {d : PMd} {pc : Nat} {L : PL} {st : List PV} {h h0 : PH} {Q : Option PV → PH → Prop} {W : List Nat}
theorem K_iast {k n : Nat} {i x : Int32} {a lo hi' : Int} (hi : d.2.2.2.2.2.2.2[pc]? = some (some (.iastore, 1))) (hs : SH[k]? = some (.inl (0, n))) (hx : i.toInt = a) (hin : 0 ≤ a ∧ a < n) (hI : INV h) (hp : PROT.contains k = false) (hbd : bnd k i.toNatClampNeg = (lo, hi')) (hb : lo ≤ x.toInt ∧ x.toInt ≤ hi') (fr : FR W h0 h) (hw : W.contains k = true) (kk : ∀ h' : PH, h' = wI h k i.toNatClampNeg x → INV h' → FR W h0 h' → RUN d (pc + 1) L st h' Q) : RUN d pc L (.inl x :: .inl i :: .inr (.inr (.inl k)) :: st) h Q :=
  R_iast hi hs (by rw [hx]; exact hin) (kk _ rfl (INV_wI hI hp (by rw [hbd]; exact hb.1) (by rw [hbd]; exact hb.2)) (FR_wI _ _ fr hw))
theorem K_iasp {k n : Nat} {i x : Int32} {a lo hi' : Int} (hi : d.2.2.2.2.2.2.2[pc]? = some (some (.iastore, 1))) (hs : SH[k]? = some (.inl (0, n))) (hx : i.toInt = a) (hin : 0 ≤ a ∧ a < n) (hI : INV h) (hp : pfree k i.toNatClampNeg = true) (hbd : bnd k i.toNatClampNeg = (lo, hi')) (hb : lo ≤ x.toInt ∧ x.toInt ≤ hi') (fr : FR W h0 h) (hw : W.contains k = true) (kk : ∀ h' : PH, h' = wI h k i.toNatClampNeg x → INV h' → FR W h0 h' → RUN d (pc + 1) L st h' Q) : RUN d pc L (.inl x :: .inl i :: .inr (.inr (.inl k)) :: st) h Q :=
  R_iast hi hs (by rw [hx]; exact hin) (kk _ rfl (INV_wP hI hp (by rw [hbd]; exact hb.1) (by rw [hbd]; exact hb.2)) (FR_wI _ _ fr hw))
theorem l_nz {x : Int64} (h : ¬ x.toInt = 0) : ¬ x = 0 := fun e => h (by rw [e]; rfl)
theorem i_nz {x : Int32} (h : ¬ x.toInt = 0) : ¬ x = 0 := fun e => h (by rw [e]; rfl)
theorem K_bast {k n : Nat} {i x : Int32} {a : Int} (hi : d.2.2.2.2.2.2.2[pc]? = some (some (.bastore, 1))) (hs : SH[k]? = some (.inl (1, n))) (hx : i.toInt = a) (hin : 0 ≤ a ∧ a < n) (hI : INV h) (hp : PROT.contains k = false) (hbd : bnd k i.toNatClampNeg = (-2147483648, 2147483647)) (fr : FR W h0 h) (hw : W.contains k = true) (kk : ∀ h' : PH, h' = wI h k i.toNatClampNeg (vp_nar .byte x) → INV h' → FR W h0 h' → RUN d (pc + 1) L st h' Q) : RUN d pc L (.inl x :: .inl i :: .inr (.inr (.inl k)) :: st) h Q :=
  R_bast hi hs (by rw [hx]; exact hin) (kk _ rfl (INV_wI hI hp (by rw [hbd]; exact (i_rng _).1) (by rw [hbd]; exact (i_rng _).2)) (FR_wI _ _ fr hw))
theorem K_zast {k n : Nat} {i x : Int32} {a : Int} (hi : d.2.2.2.2.2.2.2[pc]? = some (some (.bastore, 1))) (hs : SH[k]? = some (.inl (2, n))) (hx : i.toInt = a) (hin : 0 ≤ a ∧ a < n) (hI : INV h) (hp : PROT.contains k = false) (hbd : bnd k i.toNatClampNeg = (-2147483648, 2147483647)) (fr : FR W h0 h) (hw : W.contains k = true) (kk : ∀ h' : PH, h' = wI h k i.toNatClampNeg (vp_nar .boolean x) → INV h' → FR W h0 h' → RUN d (pc + 1) L st h' Q) : RUN d pc L (.inl x :: .inl i :: .inr (.inr (.inl k)) :: st) h Q :=
  R_zast hi hs (by rw [hx]; exact hin) (kk _ rfl (INV_wI hI hp (by rw [hbd]; exact (i_rng _).1) (by rw [hbd]; exact (i_rng _).2)) (FR_wI _ _ fr hw))
theorem K_last {k n : Nat} {i : Int32} {x : Int64} {a : Int} (hi : d.2.2.2.2.2.2.2[pc]? = some (some (.lastore, 1))) (hs : SH[k]? = some (.inl (3, n))) (hx : i.toInt = a) (hin : 0 ≤ a ∧ a < n) (hI : INV h) (fr : FR W h0 h) (hw : W.contains k = true) (kk : ∀ h' : PH, h' = wL h k i.toNatClampNeg x → INV h' → FR W h0 h' → RUN d (pc + 1) L st h' Q) : RUN d pc L (.inr (.inl x) :: .inl i :: .inr (.inr (.inl k)) :: st) h Q :=
  R_last hi hs (by rw [hx]; exact hin) (kk _ rfl (INV_wL hI) (FR_wL _ _ fr hw))
theorem K_putf {idx k ci j : Nat} {fs : List PF} {x : Int32} {lo hi' : Int} (hi : d.2.2.2.2.2.2.2[pc]? = some (some (.putfield idx, 3))) (hf : ftab d.1 idx = some (ci, j, 0)) (hs : SH[k]? = some (.inr (.inr (ci, fs)))) (hj : fs[j]? = some (.inr false)) (hI : INV h) (hp : PROT.contains k = false) (hbd : bnd k j = (lo, hi')) (hb : lo ≤ x.toInt ∧ x.toInt ≤ hi') (fr : FR W h0 h) (hw : W.contains k = true) (kk : ∀ h' : PH, h' = wI h k j x → INV h' → FR W h0 h' → RUN d (pc + 3) L st h' Q) : RUN d pc L (.inl x :: .inr (.inr (.inl k)) :: st) h Q :=
  R_putf_i hi hf hs hj (kk _ rfl (INV_wI hI hp (by rw [hbd]; exact hb.1) (by rw [hbd]; exact hb.2)) (FR_wI _ _ fr hw))
theorem K_putz {idx k ci j : Nat} {fs : List PF} {x : Int32} (hi : d.2.2.2.2.2.2.2[pc]? = some (some (.putfield idx, 3))) (hf : ftab d.1 idx = some (ci, j, 1)) (hs : SH[k]? = some (.inr (.inr (ci, fs)))) (hj : fs[j]? = some (.inr false)) (hx : x = 0 ∨ x = 1) (hI : INV h) (hp : PROT.contains k = false) (hbd : bnd k j = (-2147483648, 2147483647)) (fr : FR W h0 h) (hw : W.contains k = true) (kk : ∀ h' : PH, h' = wI h k j x → INV h' → FR W h0 h' → RUN d (pc + 3) L st h' Q) : RUN d pc L (.inl x :: .inr (.inr (.inl k)) :: st) h Q :=
  R_putf_z hi hf hs hj hx (kk _ rfl (INV_wI hI hp (by rw [hbd]; exact (i_rng _).1) (by rw [hbd]; exact (i_rng _).2)) (FR_wI _ _ fr hw))
theorem K_putl {idx k ci j : Nat} {fs : List PF} {x : Int64} (hi : d.2.2.2.2.2.2.2[pc]? = some (some (.putfield idx, 3))) (hf : ftab d.1 idx = some (ci, j, 2)) (hs : SH[k]? = some (.inr (.inr (ci, fs)))) (hj : fs[j]? = some (.inr true)) (hI : INV h) (fr : FR W h0 h) (hw : W.contains k = true) (kk : ∀ h' : PH, h' = wL h k j x → INV h' → FR W h0 h' → RUN d (pc + 3) L st h' Q) : RUN d pc L (.inr (.inl x) :: .inr (.inr (.inl k)) :: st) h Q :=
  R_putf_l hi hf hs hj (kk _ rfl (INV_wL hI) (FR_wL _ _ fr hw))
end
