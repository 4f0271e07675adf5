theorem nn64 {x : Int64} (h : 0 ≤ x.toInt) : x.toBitVec.toNat = x.toInt.toNat ∧ x.toBitVec.toNat < 9223372036854775808 := by
  have hm : x.toBitVec.msb = false := by
    cases hm : x.toBitVec.msb with
    | false => rfl
    | true =>
      have h1 : x.toInt < 0 := BitVec.toInt_neg_of_msb_true hm
      omega
  have e : x.toInt = (x.toBitVec.toNat : Int) := by
    show x.toBitVec.toInt = _
    rw [BitVec.toInt_eq_toNat_of_msb hm]
  have := l_rng x
  exact ⟨by omega, by omega⟩
theorem of64 {x : Int64} {n : Nat} (h : x.toBitVec.toNat = n) (hn : n < 9223372036854775808) : x.toInt = (n : Int) := by
  show x.toBitVec.toInt = _
  rw [BitVec.toInt_eq_toNat_of_lt (by rw [h]; omega), h]
theorem L_and {x y : Int64} {a b : Nat} (hx : x.toInt = (a : Int)) (hy : y.toInt = (b : Int)) : (x &&& y).toInt = ((a &&& b : Nat) : Int) := by
  obtain ⟨h1, h2⟩ := nn64 (x := x) (by omega)
  obtain ⟨h3, h4⟩ := nn64 (x := y) (by omega)
  have e : (x &&& y).toBitVec.toNat = a &&& b := by
    show (x.toBitVec &&& y.toBitVec).toNat = _
    rw [BitVec.toNat_and, h1, h3, hx, hy]
    rfl
  refine of64 e ?_
  have : a &&& b ≤ b := Nat.and_le_right
  omega
theorem L_ushr {x : Int64} {s : UInt64} {a k : Nat} (hx : x.toInt = (a : Int)) (hs : s.toNat = k) (hk : k < 64) : ((x.toUInt64 >>> s).toInt64).toInt = ((a / 2 ^ k : Nat) : Int) := by
  obtain ⟨h1, h2⟩ := nn64 (x := x) (by omega)
  have e : ((x.toUInt64 >>> s).toInt64).toBitVec.toNat = a / 2 ^ k := by
    show (x.toUInt64 >>> s).toNat = _
    rw [UInt64.toNat_shiftRight, hs, Nat.mod_eq_of_lt hk, Nat.shiftRight_eq_div_pow]
    show x.toBitVec.toNat / _ = _
    rw [h1, hx]
    rfl
  refine of64 e ?_
  have : a / 2 ^ k ≤ a := Nat.div_le_self _ _
  omega
theorem L_127 {x : Int64} {a : Nat} (hx : x.toInt = (a : Int)) : (x.toInt32 &&& 127).toInt = ((a % 128 : Nat) : Int) := by
  obtain ⟨h1, h2⟩ := nn64 (x := x) (by omega)
  have e : (x.toInt32 &&& 127).toBitVec.toNat = a % 128 := by
    show (x.toBitVec.signExtend 32 &&& (127 : Int32).toBitVec).toNat = _
    rw [BitVec.toNat_and]
    have e2 : (x.toBitVec.signExtend 32).toNat = a % 2 ^ 32 := by
      rw [BitVec.signExtend_eq_setWidth_of_le _ (by decide), BitVec.toNat_setWidth, h1, hx]
      rfl
    rw [e2]
    show a % 2 ^ 32 &&& (2 ^ 7 - 1) = _
    rw [Nat.and_two_pow_sub_one_eq_mod]
    omega
  show (x.toInt32 &&& 127).toBitVec.toInt = _
  rw [BitVec.toInt_eq_toNat_of_lt (by rw [e]; omega), e]
theorem bc60 {a0 w1 w2 w3 w4 w5 w6 w7 w8 w9 w10 w11 w12 w13 w14 w15 w16 : Int64} {s1 s2 s4 s8 s16 s32 : UInt64} (t1 : s1.toNat = 1) (t2 : s2.toNat = 2) (t4 : s4.toNat = 4) (t8 : s8.toNat = 8) (t16 : s16.toNat = 16) (t32 : s32.toNat = 32)
    (e1 : w1 = (a0.toUInt64 >>> s1).toInt64) (e2 : w2 = w1 &&& 6148914691236517205) (e3 : w3 = a0 - w2) (e4 : w4 = w3 &&& 3689348814741910323) (e5 : w5 = (w3.toUInt64 >>> s2).toInt64) (e6 : w6 = w5 &&& 3689348814741910323) (e7 : w7 = w4 + w6) (e8 : w8 = (w7.toUInt64 >>> s4).toInt64) (e9 : w9 = w7 + w8) (e10 : w10 = w9 &&& 1085102592571150095) (e11 : w11 = (w10.toUInt64 >>> s8).toInt64) (e12 : w12 = w10 + w11) (e13 : w13 = (w12.toUInt64 >>> s16).toInt64) (e14 : w14 = w12 + w13) (e15 : w15 = (w14.toUInt64 >>> s32).toInt64) (e16 : w16 = w14 + w15)
    (h : 0 ≤ a0.toInt ∧ a0.toInt < 1152921504606846976) : (w16.toInt32 &&& 127).toInt ≤ 60 := by
  obtain ⟨n, hn⟩ : ∃ n : Nat, a0.toInt = (n : Int) := ⟨a0.toInt.toNat, by omega⟩
  obtain ⟨i1, i2, i3, j1, jl, j2, j3, k2, k3, kk⟩ := bcN (n := n) (show n < 1152921504606846976 by omega)
  have k3' : i3 < 1152921504606846976 := k3
  have f1 : w1.toInt = ((n / 2 : Nat) : Int) := by rw [e1]; exact L_ushr hn t1 (by decide)
  have f2 : w2.toInt = ((n / 2 &&& 6148914691236517205 : Nat) : Int) := by rw [e2]; exact L_and f1 (by decide)
  have f3 : w3.toInt = (i1 : Int) := by rw [e3, l_sub hn f2 (by omega)]; omega
  have f4 : w4.toInt = ((i1 &&& 3689348814741910323 : Nat) : Int) := by rw [e4]; exact L_and f3 (by decide)
  have f5 : w5.toInt = ((i1 / 4 : Nat) : Int) := by rw [e5]; exact L_ushr f3 t2 (by decide)
  have f6 : w6.toInt = ((i1 / 4 &&& 3689348814741910323 : Nat) : Int) := by rw [e6]; exact L_and f5 (by decide)
  have f7 : w7.toInt = (i2 : Int) := by rw [e7, l_add f4 f6 (by omega)]; omega
  have f8 : w8.toInt = ((i2 / 16 : Nat) : Int) := by rw [e8]; exact L_ushr f7 t4 (by decide)
  have f9 : w9.toInt = ((i2 + i2 / 16 : Nat) : Int) := by rw [e9, l_add f7 f8 (by omega)]; omega
  have f10 : w10.toInt = (i3 : Int) := by rw [e10, j3]; exact L_and f9 (by decide)
  have f11 : w11.toInt = ((i3 / 256 : Nat) : Int) := by rw [e11]; exact L_ushr f10 t8 (by decide)
  have f12 : w12.toInt = ((i3 + i3 / 256 : Nat) : Int) := by rw [e12, l_add f10 f11 (by omega)]; omega
  generalize hd : i3 + i3 / 256 = d at f12 kk
  have f13 : w13.toInt = ((d / 65536 : Nat) : Int) := by rw [e13]; exact L_ushr f12 t16 (by decide)
  have f14 : w14.toInt = ((d + d / 65536 : Nat) : Int) := by rw [e14, l_add f12 f13 (by omega)]; omega
  have hd2 : d < 1157425104234217472 + 1 := by omega
  generalize he : d + d / 65536 = q at f14 kk
  have f15 : w15.toInt = ((q / 4294967296 : Nat) : Int) := by rw [e15]; exact L_ushr f14 t32 (by decide)
  have f16 : w16.toInt = ((q + q / 4294967296 : Nat) : Int) := by rw [e16, l_add f14 f15 (by omega)]; omega
  rw [L_127 f16]
  omega
/-- the mask of the first seconds -/
theorem mask60 {b y m w : Int64} {s : Int64} (hy : 0 ≤ y.toInt ∧ y.toInt ≤ 59) (hm : m = (2 : Int64) <<< ((y.toInt32).toInt64 &&& 63)) (hs : s = m - 1) (hw : w = b &&& s) : 0 ≤ w.toInt ∧ w.toInt < 1152921504606846976 := by
  have hv : 0 ≤ s.toInt ∧ s.toInt < 1152921504606846976 := by
    obtain ⟨n, hn, ey⟩ : ∃ n : Nat, n ≤ 59 ∧ y = Int64.ofNat n := by
      refine ⟨y.toInt.toNat, by omega, Int64.toInt_inj.mp ?_⟩
      rw [Int64.toInt_ofNat_of_lt (by omega)]
      omega
    have : ∀ n, n ≤ 59 → 0 ≤ ((2 : Int64) <<< (((Int64.ofNat n).toInt32).toInt64 &&& 63) - 1).toInt ∧ ((2 : Int64) <<< (((Int64.ofNat n).toInt32).toInt64 &&& 63) - 1).toInt < 1152921504606846976 := by decide +kernel
    rw [hs, hm, ey]
    exact this n hn
  obtain ⟨h1, h2⟩ := nn64 (x := s) hv.1
  have e : w.toBitVec.toNat ≤ s.toBitVec.toNat := by
    rw [hw]
    show (b.toBitVec &&& s.toBitVec).toNat ≤ _
    rw [BitVec.toNat_and]
    exact Nat.and_le_right
  have e2 := of64 (x := w) rfl (by omega)
  omega
