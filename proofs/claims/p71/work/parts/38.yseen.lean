/-! what was seen, sets of hands -/
def SNP (h : PH) (s : Int32) (m : Int) : Prop := ∀ i : Int, 0 ≤ i → i % 2 = 0 → i < m → 0 ≤ (h.2 129 (60 * s.toInt + i).toNat).toInt ∧ (h.2 129 (60 * s.toInt + i).toNat).toInt ≤ 59
def SNH (h : PH) (s : Int32) : Prop := SNP h s (h.1 127 s.toNatClampNeg).toInt
theorem SNH_of {h h' : PH} {s : Int32} (a : h'.1 127 = h.1 127) (b : h'.2 129 = h.2 129) (p : SNH h s) : SNH h' s := by
  unfold SNH SNP at *
  rw [a, b]
  exact p
theorem SNH_end {h h' : PH} {s x y : Int32} (p : SNP h s x.toInt) (ey : y = h'.1 127 s.toNatClampNeg) (a : h'.1 127 = h.1 127) (hx : y.toInt ≤ x.toInt) : SNH h s := fun i h0 h1 h2 => p i h0 h1 (by rw [ey, a] at hx; omega)
theorem SNP_0 {h : PH} {s : Int32} {m : Int} (hm : m ≤ 0) : SNP h s m := fun i h0 _ h2 => absurd h2 (by omega)
theorem SNP_step {h h' : PH} {s x x' : Int32} {w : Int64} (p : SNP h s x.toInt) (ew : w = h'.2 129 (60 * s.toInt + x.toInt).toNat) (b : h'.2 129 = h.2 129) (hw : 0 ≤ w.toInt ∧ w.toInt ≤ 59) (hx : x'.toInt = x.toInt + 2) (he : x.toInt % 2 = 0) : SNP h s x'.toInt := fun i h0 h1 h2 => by
  by_cases c : i < x.toInt
  · exact p i h0 h1 c
  · rw [show i = x.toInt by omega, ← b, ← ew]
    exact hw
theorem seen_at {h : PH} {s x y v : Int32} {w : Int64} (p : SNH h s) (ey : y = h.1 127 s.toNatClampNeg) (hx : x.toInt < y.toInt) (h0 : 0 ≤ x.toInt) (he : x.toInt % 2 = 0) (ew : w = h.2 129 (60 * s.toInt + x.toInt).toNat) (ev : v = w.toInt32) : 0 ≤ v.toInt ∧ v.toInt ≤ 59 := by
  have q := p x.toInt h0 he (by rw [← ey]; exact hx)
  rw [← ew] at q
  have e : v.toInt = w.toInt := by
    rw [ev, Int64.toInt_toInt32]
    exact Int.bmod_eq_of_le (by omega) (by omega)
  omega
def bc1 (i : Int32) : Int32 := i - ((i.toUInt32 >>> ((1 : Int32).toUInt32 &&& Int32.toUInt32 31)).toInt32 &&& 1431655765)
def bc2 (i : Int32) : Int32 := (i &&& 858993459) + ((i.toUInt32 >>> ((2 : Int32).toUInt32 &&& Int32.toUInt32 31)).toInt32 &&& 858993459)
def bc3 (i : Int32) : Int32 := (i + (i.toUInt32 >>> ((4 : Int32).toUInt32 &&& Int32.toUInt32 31)).toInt32) &&& 252645135
def bc4 (i : Int32) : Int32 := i + (i.toUInt32 >>> ((8 : Int32).toUInt32 &&& Int32.toUInt32 31)).toInt32
def bc5 (i : Int32) : Int32 := i + (i.toUInt32 >>> ((16 : Int32).toUInt32 &&& Int32.toUInt32 31)).toInt32
def bc32 (i : Int32) : Int32 := bc5 (bc4 (bc3 (bc2 (bc1 i)))) &&& 63
theorem nI_sx {x : Int32} (h : 0 ≤ x.toInt) : x = nI x.toInt.toNat := Int32.toInt_inj.mp (by have := i_rng x; rw [nI_toInt (by omega)]; omega)
theorem bc_tab : ∀ n, n < 7 → ∀ s, s < n → ∀ k, k < 2 ^ n → ((nI k &&& (1 <<< (nI s &&& 31))).toInt = 0 → 0 ≤ (bc32 (nI k)).toInt ∧ (bc32 (nI k)).toInt ≤ (n : Int) - 1) := by decide +kernel
theorem sh_tab : ∀ n, n < 7 → ((1 <<< (nI n &&& 31) : Int32) - 1).toInt = (2 : Int) ^ n - 1 := by decide +kernel
theorem bc_lt {set n s mine v A z : Int32} {n' : Int32} (ez : z = bc32 set) (eA : A = (1 <<< (n' &&& 31)) - 1) (hn' : n'.toInt = n.toInt) (em : mine = 1 <<< (s &&& 31)) (ev : v = set &&& mine) (hv : v.toInt = 0) (h0 : 0 ≤ set.toInt) (hA : set.toInt ≤ A.toInt) (hn : 1 ≤ n.toInt ∧ n.toInt ≤ 6) (hs : 0 ≤ s.toInt ∧ s.toInt < n.toInt) : 0 ≤ z.toInt ∧ z.toInt ≤ n.toInt - 1 := by
  have e1 := nI_sx h0
  have e2 : n' = nI n.toInt.toNat := by rw [← hn']; exact nI_sx (by omega)
  have e3 := nI_sx hs.1
  have a := sh_tab n.toInt.toNat (by omega)
  rw [← e2, ← eA] at a
  have hp : ((2 ^ n.toInt.toNat : Nat) : Int) = (2 : Int) ^ n.toInt.toNat := by rw [Int.natCast_pow]; rfl
  have b := bc_tab n.toInt.toNat (by omega) s.toInt.toNat (by omega) set.toInt.toNat (by omega)
  rw [← e1, ← e3, ← em, ← ev, ← ez] at b
  have := b hv
  omega
theorem or_tab : ∀ s, s < 6 → ∀ k, k < 64 → (0 ≤ (nI k ||| (1 <<< (nI s &&& 31))).toInt ∧ (nI k ||| (1 <<< (nI s &&& 31))).toInt ≤ 63) := by decide +kernel
theorem or63 {x s y w : Int32} (ey : y = 1 <<< (s &&& 31)) (ew : w = x ||| y) (hx : 0 ≤ x.toInt ∧ x.toInt ≤ 63) (hs : 0 ≤ s.toInt ∧ s.toInt ≤ 5) : 0 ≤ w.toInt ∧ w.toInt ≤ 63 := by
  have := or_tab s.toInt.toNat (by omega) x.toInt.toNat (by omega)
  rw [← nI_sx hx.1, ← nI_sx hs.1, ← ey, ← ew] at this
  exact this
theorem all_tab : ∀ n, n < 7 → 0 ≤ ((1 <<< (nI n &&& 31) : Int32) - 1).toInt ∧ ((1 <<< (nI n &&& 31) : Int32) - 1).toInt ≤ 63 := by decide +kernel
theorem all63 {A n : Int32} (eA : A = (1 <<< (n &&& 31)) - 1) (hn : 0 ≤ n.toInt ∧ n.toInt ≤ 6) : 0 ≤ A.toInt ∧ A.toInt ≤ 63 := by
  have := all_tab n.toInt.toNat (by omega)
  rw [← nI_sx hn.1, ← eA] at this
  exact this
