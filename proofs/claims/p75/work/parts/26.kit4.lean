/-! longs by their numbers, equations, acts -/
theorem l_rng (x : Int64) : -9223372036854775808 ≤ x.toInt ∧ x.toInt ≤ 9223372036854775807 := ⟨Int64.le_toInt x, by have := Int64.toInt_lt x; omega⟩
theorem l_add {x y : Int64} {a b : Int} (hx : x.toInt = a) (hy : y.toInt = b) (h : -9223372036854775808 ≤ a + b ∧ a + b ≤ 9223372036854775807) : (x + y).toInt = a + b := by
  subst hx hy
  rw [Int64.toInt_add]; exact Int.bmod_eq_of_le (by omega) (by omega)
theorem l_sub {x y : Int64} {a b : Int} (hx : x.toInt = a) (hy : y.toInt = b) (h : -9223372036854775808 ≤ a - b ∧ a - b ≤ 9223372036854775807) : (x - y).toInt = a - b := by
  subst hx hy
  rw [Int64.toInt_sub]; exact Int.bmod_eq_of_le (by omega) (by omega)
theorem l_mul {x y : Int64} {a b : Int} (hx : x.toInt = a) (hy : y.toInt = b) (h : -9223372036854775808 ≤ a * b ∧ a * b ≤ 9223372036854775807) : (x * y).toInt = a * b := by
  subst hx hy
  rw [Int64.toInt_mul]; exact Int.bmod_eq_of_le (by omega) (by omega)
theorem l_rem_eq (x y : Int64) : x - x / y * y = x % y := by
  apply Int64.toInt_inj.mp
  have h1 := Int64.le_toInt (x % y)
  have h2 := Int64.toInt_lt (x % y)
  rw [Int64.toInt_sub, Int64.toInt_mul, Int64.toInt_div, Int.bmod_mul_bmod, Int.sub_bmod_bmod, Int.mul_comm (x.toInt.tdiv y.toInt), ← Int.tmod_def, ← Int64.toInt_mod]
  exact Int.bmod_eq_of_le (by omega) (by omega)
theorem l_rem {x y : Int64} {b : Int} (hy : y.toInt = b) (hb : ¬ b = 0) : (x - x / y * y).toInt.natAbs < b.natAbs := by
  rw [l_rem_eq, Int64.toInt_mod, hy, Int.natAbs_tmod]
  exact Nat.mod_lt _ (by omega)
theorem ne38 {h : PH} {i : Int32} {j : Nat} (hj : j < 38) (hi : i.toInt = 38 + (h.1 97 9).toInt ∧ 0 ≤ (h.1 97 9).toInt) : j ≠ i.toNatClampNeg := by
  have := pcl (x := i) (by omega)
  omega
section
variable {d : PMd} {pc : Nat} {L : PL} {st : List PV} {h h0 : PH} {Q : Option PV → PH → Prop} {W : List Nat} {x y : Int64} {a b : Int}
theorem N_eq {x : Int32} (k : ∀ z : Int32, z = x → RUN d pc L (.inl z :: st) h Q) : RUN d pc L (.inl x :: st) h Q := k x rfl
theorem N_eqL {x : Int64} (k : ∀ z : Int64, z = x → RUN d pc L (.inr (.inl z) :: st) h Q) : RUN d pc L (.inr (.inl x) :: st) h Q := k x rfl
theorem N_ladd (hi : d.2.2.2.2.2.2.2[pc]? = some (some (.ladd, 1))) (hx : x.toInt = a) (hy : y.toInt = b) (ho : -9223372036854775808 ≤ a + b ∧ a + b ≤ 9223372036854775807) (k : ∀ z : Int64, z.toInt = a + b → RUN d (pc + 1) L (.inr (.inl z) :: st) h Q) : RUN d pc L (.inr (.inl y) :: .inr (.inl x) :: st) h Q := R_ladd hi (k _ (l_add hx hy ho))
theorem N_lsub (hi : d.2.2.2.2.2.2.2[pc]? = some (some (.lsub, 1))) (hx : x.toInt = a) (hy : y.toInt = b) (ho : -9223372036854775808 ≤ a - b ∧ a - b ≤ 9223372036854775807) (k : ∀ z : Int64, z.toInt = a - b → RUN d (pc + 1) L (.inr (.inl z) :: st) h Q) : RUN d pc L (.inr (.inl y) :: .inr (.inl x) :: st) h Q := R_lsub hi (k _ (l_sub hx hy ho))
theorem N_lmul (hi : d.2.2.2.2.2.2.2[pc]? = some (some (.lmul, 1))) (hx : x.toInt = a) (hy : y.toInt = b) (ho : -9223372036854775808 ≤ a * b ∧ a * b ≤ 9223372036854775807) (k : ∀ z : Int64, z.toInt = a * b → RUN d (pc + 1) L (.inr (.inl z) :: st) h Q) : RUN d pc L (.inr (.inl y) :: .inr (.inl x) :: st) h Q := R_lmul hi (k _ (l_mul hx hy ho))
theorem N_lrem (hi : d.2.2.2.2.2.2.2[pc]? = some (some (.lrem, 1))) (hy : y.toInt = b) (hb : ¬ b = 0) (k : ∀ z : Int64, z.toInt.natAbs < b.natAbs → RUN d (pc + 1) L (.inr (.inl z) :: st) h Q) : RUN d pc L (.inr (.inl y) :: .inr (.inl x) :: st) h Q := R_lrem hi (l_nz (by rw [hy]; exact hb)) (k _ (l_rem hy hb))
theorem K_ias38 {i x : Int32} (hi : d.2.2.2.2.2.2.2[pc]? = some (some (.iastore, 1))) (hI : INV h) (hx : i.toInt = 38 + (h.1 97 9).toInt) (hl : 0 ≤ (h.1 97 9).toInt ∧ (h.1 97 9).toInt < 30) (fr : FR W h0 h) (hw : W.contains 97 = true) (kk : ∀ h' : PH, h' = wI h 97 i.toNatClampNeg x → INV h' → FR W h0 h' → RUN d (pc + 1) L st h' Q) : RUN d pc L (.inl x :: .inl i :: .inr (.inr (.inl 97)) :: st) h Q :=
  R_iast hi sh_97 (by rw [hx]; exact ⟨by omega, by show _ < ((68 : Nat) : Int); omega⟩) (kk _ rfl (INV_w38 hI (by rw [pcl (by omega)]; exact hx)) (FR_wI _ _ fr hw))
theorem K_ias9s {i x : Int32} (hi : d.2.2.2.2.2.2.2[pc]? = some (some (.iastore, 1))) (hI : INV h) (hj : i.toInt = 38 + (h.1 97 9).toInt ∧ 0 ≤ (h.1 97 9).toInt) (ha : actOk (h.1 97 i.toNatClampNeg).toInt) (hx : x.toInt = (h.1 97 9).toInt + 1) (hx2 : x.toInt ≤ 30) (fr : FR W h0 h) (hw : W.contains 97 = true) (kk : ∀ h' : PH, h' = wI h 97 (9 : Int32).toNatClampNeg x → INV h' → FR W h0 h' → RUN d (pc + 1) L st h' Q) : RUN d pc L (.inl x :: .inl (9 : Int32) :: .inr (.inr (.inl 97)) :: st) h Q :=
  R_iast hi sh_97 (by decide) (kk _ rfl (INV_w9s hI (j := i.toNatClampNeg) (by rw [pcl (by omega)]; exact hj.1) ha hx hx2) (FR_wI _ _ fr hw))
end
