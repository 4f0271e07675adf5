theorem ais_step {h1 hb hc : PH} {x x' w : Int32} (g1 : hb = wI h1 103 x.toNatClampNeg w) (g2 : hc = wI hb 105 x.toNatClampNeg x) (inv : ∀ j : Nat, (j : Int) < x.toInt → (0 ≤ (h1.1 103 j).toInt ∧ (h1.1 103 j).toInt ≤ 6) ∧ (h1.1 105 j).toInt = (j : Int)) (hw : 0 ≤ w.toInt ∧ w.toInt ≤ 6) (h0 : 0 ≤ x.toInt) (hx : x'.toInt = x.toInt + 1) : ∀ j : Nat, (j : Int) < x'.toInt → (0 ≤ (hc.1 103 j).toInt ∧ (hc.1 103 j).toInt ≤ 6) ∧ (hc.1 105 j).toInt = (j : Int) := by
  intro j hj
  have e := pcl (x := x) h0
  rw [g2, wI_self, wI_ne _ _ _ (show 103 ≠ 105 by decide), g1, wI_self, wI_ne _ _ _ (show 105 ≠ 103 by decide)]
  unfold upd
  by_cases c : j = x.toNatClampNeg
  · rw [if_pos c, if_pos c]
    exact ⟨hw, by omega⟩
  · rw [if_neg c, if_neg c]
    exact inv j (by omega)
noncomputable def bzy (h : PH) (n : Int32) : Int := (ansI d_X9_bits [.inl (ansI d_X9_busyOf [.inr (.inr (.inl 96)), .inl n] h)] h).toInt
noncomputable def fuO (h : PH) : Int := (ansI d_X9_fullOf [.inr (.inr (.inl 96))] h).toInt
theorem crowd_next {h : PH} {x : Int32} {S f : Int} (inv : f = 0 ∨ ∃ m : Int32, x.toInt ≤ m.toInt ∧ m.toInt < S ∧ f ≤ bzy h m) (h0 : 0 ≤ bzy h x) (hlt : bzy h x < f) : ∃ m : Int32, x.toInt + 1 ≤ m.toInt ∧ m.toInt < S ∧ f ≤ bzy h m := by
  rcases inv with c | ⟨m, h1, h2, h3⟩
  · omega
  · refine ⟨m, ?_, h2, h3⟩
    by_cases c : x.toInt = m.toInt
    · have : x = m := Int32.toInt_inj.mp c
      subst this
      omega
    · omega
def evB (e : EV) (b : Int32) : EV := (e.1, e.2.1, e.2.2.1, e.2.2.2.1, e.2.2.2.2.1, e.2.2.2.2.2.1, b, e.2.2.2.2.2.2.2)
theorem ev_19 {h : PH} {x : Int32} : evOf (wI h 96 19 x) = evB (evOf h) x := by
  unfold evOf evB
  rw [wI_is, wI_at (show 18 ≠ 19 by decide), wI_at (show 20 ≠ 19 by decide), wI_ne _ _ _ (show 97 ≠ 96 by decide), wI_ne _ _ _ (show 103 ≠ 96 by decide), wI_ne _ _ _ (show 104 ≠ 96 by decide), wI_ne _ _ _ (show 105 ≠ 96 by decide), wI_ne _ _ _ (show 106 ≠ 96 by decide)]
theorem evB_evB {e : EV} {a b : Int32} : evB (evB e a) b = evB e b := rfl
