/-! a row that is copied into another, place by place -/
def mixR (f g : Nat → Int32) (o p i : Nat) : Nat → Int32 := fun j => if o ≤ j ∧ j < o + i then g (j - o + p) else f j
def mixI (h : PH) (k q o p i : Nat) : PH := cI h k (mixR (h.1 k) (h.1 q) o p i)
theorem mixR_0 {f g : Nat → Int32} {o p : Nat} : mixR f g o p 0 = f := by
  funext j
  unfold mixR
  rw [if_neg (by omega)]
theorem cI_id {h : PH} {k : Nat} : cI h k (h.1 k) = h := by
  unfold cI
  have : rI h.1 k (h.1 k) = h.1 := by
    funext a
    unfold rI
    split
    · rename_i c; rw [c]
    · rfl
  rw [this]
theorem mixI_0 {h : PH} {k q o p : Nat} : mixI h k q o p 0 = h := by
  unfold mixI
  rw [mixR_0, cI_id]
theorem mixI_ne {h : PH} {k q o p i r : Nat} (hr : r ≠ k) : (mixI h k q o p i).1 r = h.1 r := cI_ne h _ hr
theorem mixI_s {h : PH} {k q o p i : Nat} : wI (mixI h k q o p i) k (o + i) (h.1 q (i + p)) = mixI h k q o p (i + 1) := by
  unfold mixI wI
  have e1 : (cI h k (mixR (h.1 k) (h.1 q) o p i)).1 k = mixR (h.1 k) (h.1 q) o p i := cI_self h k _
  have e2 : upd (mixR (h.1 k) (h.1 q) o p i) (o + i) (h.1 q (i + p)) = mixR (h.1 k) (h.1 q) o p (i + 1) := by
    funext j
    unfold upd mixR
    by_cases c : j = o + i
    · rw [if_pos c, if_pos (by omega), show j - o + p = i + p by omega]
    · rw [if_neg c]
      by_cases d : o ≤ j ∧ j < o + i
      · rw [if_pos d, if_pos (by omega)]
      · rw [if_neg d, if_neg (by omega)]
  rw [e1, e2]
  have e3 : ∀ (F : Nat → Nat → Int32) (a b : Nat → Int32), rI (rI F k a) k b = rI F k b := by
    intro F a b
    funext r
    unfold rI
    split <;> rfl
  show (rI (rI h.1 k _) k _, h.2) = (rI h.1 k _, h.2)
  rw [e3]
theorem EX_iff {h h' : PH} (h17 : h'.1 17 = h.1 17) (h29 : h'.1 29 = h.1 29) (h41 : h'.1 41 = h.1 41) (h53 : h'.1 53 = h.1 53) (hx : EX h) (a : EA (h'.1 97) 0) (b0 : EA (h'.1 98) 0) (b1 : EA (h'.1 98) 68) (b2 : EA (h'.1 98) 136) : EX h' := by
  obtain ⟨a1, a2, a3, a4, -⟩ := hx
  unfold EX
  rw [h17, h29, h41, h53]
  exact ⟨a1, a2, a3, a4, a, b0, b1, b2⟩
theorem EA_cpy {f g : Nat → Int32} {o p : Nat} (h : EA g p) (h9 : (g (p + 9)).toInt ≤ 30) (e : ∀ j, j < 68 → f (o + j) = g (p + j)) : EA f o := by
  obtain ⟨h1, h2, h3⟩ := h
  have e0 : f o = g p := e 0 (by omega)
  refine ⟨fun j hj => ?_, ?_, ?_⟩
  · rw [e 9 (by omega)] at hj
    rw [show o + 38 + j = o + (38 + j) by omega, e (38 + j) (by omega), show p + (38 + j) = p + 38 + j by omega]
    exact h1 j hj
  · rw [e 10 (by omega), e0]; exact h2
  · rw [e 5 (by omega), e0]; exact h3
theorem b9868 : ∀ k, k < 3 → ∀ j, j < 68 → bnd 98 (68 * k + j) = bnd 97 j := by decide
theorem bnd_far {k j : Nat} (lo hi : Int) (os : List (Nat × Int × Int)) (hk : BT[k]? = some (lo, hi, os)) (hj : ∀ e ∈ os, e.1 ≠ j) : bnd k j = (lo, hi) := by
  unfold bnd
  rw [hk]
  cases os with
  | nil => rfl
  | cons o os =>
    show (match (o :: os).find? (fun e => e.1 == j) with | some e => e.2 | none => (lo, hi)) = _
    rw [List.find?_eq_none.mpr (fun e he => by simp only [beq_iff_eq]; exact hj e he)]
theorem INV_image {h : PH} (hI : INV h) {k : Nat} (hk : k < 3) : INV (mixI h 98 97 (68 * k) 0 68) := by
  have e97 : (mixI h 98 97 (68 * k) 0 68).1 97 = h.1 97 := mixI_ne (by decide)
  have e98 : (mixI h 98 97 (68 * k) 0 68).1 98 = mixR (h.1 98) (h.1 97) (68 * k) 0 68 := cI_self _ _ _
  have hb9 : (h.1 97 9).toInt ≤ 30 := (hI.1 97 9).2
  refine ⟨IB_cI hI.1 (fun j => ?_), EX_iff (h := h) (mixI_ne (by decide)) (mixI_ne (by decide)) (mixI_ne (by decide)) (mixI_ne (by decide)) hI.2 (by rw [e97]; exact hI.2.2.2.2.2.1) ?_ ?_ ?_⟩
  · unfold mixR
    split
    · rename_i c
      obtain ⟨i, rfl⟩ : ∃ i, j = 68 * k + i := ⟨j - 68 * k, by omega⟩
      rw [b9868 k hk i (by omega), show 68 * k + i - 68 * k + 0 = i by omega]
      exact hI.1 97 i
    · exact hI.1 98 j
  all_goals rw [e98]
  · by_cases c : k = 0
    · subst c
      exact EA_cpy (g := h.1 97) (p := 0) hI.2.2.2.2.2.1 hb9 (fun j hj => by unfold mixR; rw [if_pos (by omega)]; exact congrArg (h.1 97) (by omega))
    · exact EA_cpy (g := h.1 98) (p := 0) hI.2.2.2.2.2.2.1 (hI.1 98 9).2 (fun j hj => by unfold mixR; rw [if_neg (by omega)])
  · by_cases c : k = 1
    · subst c
      exact EA_cpy (g := h.1 97) (p := 0) hI.2.2.2.2.2.1 hb9 (fun j hj => by unfold mixR; rw [if_pos (by omega)]; exact congrArg (h.1 97) (by omega))
    · exact EA_cpy (g := h.1 98) (p := 68) hI.2.2.2.2.2.2.2.1 (hI.1 98 77).2 (fun j hj => by unfold mixR; rw [if_neg (by omega)])
  · by_cases c : k = 2
    · subst c
      exact EA_cpy (g := h.1 97) (p := 0) hI.2.2.2.2.2.1 hb9 (fun j hj => by unfold mixR; rw [if_pos (by omega)]; exact congrArg (h.1 97) (by omega))
    · exact EA_cpy (g := h.1 98) (p := 136) hI.2.2.2.2.2.2.2.2 (hI.1 98 145).2 (fun j hj => by unfold mixR; rw [if_neg (by omega)])
theorem INV_back {h : PH} (hI : INV h) {k : Nat} (hk : k < 3) : INV (mixI h 97 98 0 (68 * k) 68) := by
  have e98 : (mixI h 97 98 0 (68 * k) 68).1 98 = h.1 98 := mixI_ne (by decide)
  have e97 : (mixI h 97 98 0 (68 * k) 68).1 97 = mixR (h.1 97) (h.1 98) 0 (68 * k) 68 := cI_self _ _ _
  have ea : EA (h.1 98) (68 * k) := by
    rcases (show k = 0 ∨ k = 1 ∨ k = 2 by omega) with c | c | c <;> subst c
    · exact hI.2.2.2.2.2.2.1
    · exact hI.2.2.2.2.2.2.2.1
    · exact hI.2.2.2.2.2.2.2.2
  have h9 : (h.1 98 (68 * k + 9)).toInt ≤ 30 := by
    have := hI.1 98 (68 * k + 9)
    rw [b9868 k hk 9 (by omega)] at this
    exact this.2
  refine ⟨IB_cI hI.1 (fun j => ?_), EX_iff (h := h) (mixI_ne (by decide)) (mixI_ne (by decide)) (mixI_ne (by decide)) (mixI_ne (by decide)) hI.2 ?_ (by rw [e98]; exact hI.2.2.2.2.2.2.1) (by rw [e98]; exact hI.2.2.2.2.2.2.2.1) (by rw [e98]; exact hI.2.2.2.2.2.2.2.2)⟩
  · unfold mixR
    split
    · rename_i c
      rw [← b9868 k hk j (by omega), show j - 0 + 68 * k = 68 * k + j by omega]
      exact hI.1 98 _
    · exact hI.1 97 j
  · rw [e97]
    exact EA_cpy (g := h.1 98) (p := 68 * k) ea h9 (fun j hj => by unfold mixR; rw [if_pos (by omega)]; exact congrArg (h.1 98) (by omega))
theorem FR_mix {W : List Nat} {h : PH} {k q o p i : Nat} (hw : W.contains k = true) : FR W h (mixI h k q o p i) := FR_cI _ (FR.rf W h) hw
