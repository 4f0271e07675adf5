theorem bz_all : ∀ k, k < 131 → bz k = true := by decide +kernel
theorem ph0_rng : ∀ k j, k ≠ 1 → k ≠ 68 → k ≠ 96 → k ≠ 127 → ph0.1 k j = 0 := fun k j h1 h2 h3 h4 => by
  show (if k = 1 then (fun j : Nat => if j = 2 then (-1 : Int32) else if j = 3 then 5 else 0) else if k = 68 then nF else if k = 96 then (fun j => if j = 13 then -1 else 0) else if k = 127 then nF else fun _ => 0) j = 0
  rw [if_neg h1, if_neg h2, if_neg h3, if_neg h4]
theorem bz_0 (k j : Nat) : (bnd k j).1 ≤ 0 ∧ 0 ≤ (bnd k j).2 := by
  rcases Nat.lt_or_ge k 131 with c | c
  · exact bz_ok (bz_all k c) j
  · have : BT[k]? = none := List.getElem?_eq_none c
    have e : bnd k j = (-2147483648, 2147483647) := by unfold bnd; rw [this]
    rw [e]
    decide
theorem INV_ph0 : INV ph0 := by
  refine ⟨fun k j => ?_, ?_⟩
  · by_cases h1 : k = 1
    · subst h1
      show (bnd 1 j).1 ≤ ((if j = 2 then (-1 : Int32) else if j = 3 then 5 else 0) : Int32).toInt ∧ _
      by_cases c : j = 1
      · subst c; decide
      · rw [bnd_far (-2147483648) 2147483647 [(1, 0, 3)] rfl (fun e he => by simp at he; subst he; exact fun x => c x.symm)]; exact i_rng _
    · by_cases h2 : k = 68
      · subst h2
        show (-1 : Int) ≤ (nF j).toInt ∧ (nF j).toInt ≤ 60
        unfold nF
        split <;> decide
      · by_cases h3 : k = 96
        · subst h3
          by_cases c : j = 13
          · subst c; decide
          · rw [show ph0.1 96 j = 0 from if_neg c]; exact bz_0 96 j
        · by_cases h4 : k = 127
          · subst h4
            show (-1 : Int) ≤ (nF j).toInt ∧ (nF j).toInt ≤ 60
            unfold nF
            split <;> decide
          · rw [ph0_rng k j h1 h2 h3 h4]; exact bz_0 k j
  · have z : ∀ k j, k ≠ 1 → k ≠ 68 → k ≠ 96 → k ≠ 127 → (ph0.1 k j).toInt = 0 := fun k j a b c d => by rw [ph0_rng k j a b c d]; rfl
    have el : ∀ k, k ≠ 1 → k ≠ 68 → k ≠ 96 → k ≠ 127 → EL (ph0.1 k) := fun k a b c d h => by rw [z k 10 a b c d] at h; exact absurd h (by decide)
    have ea : ∀ k o, k ≠ 1 → k ≠ 68 → k ≠ 96 → k ≠ 127 → EA (ph0.1 k) o := fun k o a b c d => ⟨fun j h => by rw [z k _ a b c d] at h; omega, fun h => by rw [z k _ a b c d] at h; exact absurd h (by decide), fun h => by rw [z k _ a b c d] at h; exact absurd h (by decide)⟩
    exact ⟨el 17 (by decide) (by decide) (by decide) (by decide), el 29 (by decide) (by decide) (by decide) (by decide), el 41 (by decide) (by decide) (by decide) (by decide), el 53 (by decide) (by decide) (by decide) (by decide), ea 97 0 (by decide) (by decide) (by decide) (by decide), ea 98 0 (by decide) (by decide) (by decide) (by decide), ea 98 68 (by decide) (by decide) (by decide) (by decide), ea 98 136 (by decide) (by decide) (by decide) (by decide)⟩
