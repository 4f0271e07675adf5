theorem tab_at {α : Type} {B : List (List α)} {f : Nat → α → Bool} (h : (B.zipIdx.all (fun l => l.1.all (f l.2))) = true) {o : Nat} {e : α} (he : e ∈ B.getD o []) : f o e = true := by
  have ho : o < B.length := by
    by_cases hb : o < B.length
    · exact hb
    · rw [List.getD_eq_getElem?_getD, List.getElem?_eq_none (by omega)] at he
      cases he
  have hm : (B[o], o) ∈ B.zipIdx := List.mem_iff_getElem?.mpr ⟨o, by simp [List.getElem?_zipIdx, ho]⟩
  have h1 := List.all_eq_true.mp h _ hm
  rw [List.getD_eq_getElem?_getD, List.getElem?_eq_getElem ho] at he
  exact List.all_eq_true.mp h1 e he
theorem ftab_ok {o idx ci j t : Nat} (h : ftab o idx = some (ci, j, t)) : ∃ pos, fchk o (idx, ci, j, t, pos) = true := by
  unfold ftab at h
  split at h
  · rename_i e he
    cases h
    have h1 := List.mem_of_find?_eq_some he
    have h2 := List.find?_some he
    have h3 : e.1 = idx := by simpa using h2
    refine ⟨e.2.2.2.2, ?_⟩
    have h4 := tab_at FTB_ok h1
    rw [← h3]
    exact h4
  · cases h
theorem ktab_ok {o idx : Nat} {v : PV} (h : ktab o idx = some v) : ∃ pos, kchk o (idx, v, pos) = true := by
  unfold ktab at h
  split at h
  · rename_i e he
    cases h
    have h1 := List.mem_of_find?_eq_some he
    have h3 : e.1 = idx := by simpa using List.find?_some he
    refine ⟨e.2.2, ?_⟩
    have h4 := tab_at KTB_ok h1
    rw [← h3]
    exact h4
  · cases h
theorem mtab_ok {o idx t m n : Nat} (h : mtab o idx = some (t, m, n)) : ∃ r, mchk o (idx, t, m, n, r) = true := by
  unfold mtab at h
  split at h
  · rename_i e he
    cases h
    have h1 := List.mem_of_find?_eq_some he
    have h3 : e.1 = idx := by simpa using List.find?_some he
    refine ⟨e.2.2.2.2, ?_⟩
    have h4 := tab_at MTB_ok h1
    rw [← h3]
    exact h4
  · cases h
theorem cls_ok : ∀ (ci : Nat) (q : vw_C), vwCl[ci]? = some q → (∀ w ∈ u_ws q.1 q.2.1 q.2.2, w ∈ TB) ∧ (∃ ty0 : Nat → FieldType, ∀ k, k < q.2.2 → parseFieldDescriptor (q.2.1 k).2.2.1 = some (ty0 k)) ∧ ∀ a, a < q.2.2 → ∀ b, b < q.2.2 → a ≠ b → (q.2.1 a).2.1 ≠ (q.2.1 b).2.1
  | 0, q, h => by cases (show some (RX0, TX0, 3) = some q from h); exact ⟨inT0, ⟨tyX0, tyX0_ok⟩, nmX0⟩
  | 1, q, h => by cases (show some (RX1, TX1, 11) = some q from h); exact ⟨inT1, ⟨tyX1, tyX1_ok⟩, nmX1⟩
  | 2, q, h => by cases (show some (RX2, TX2, 10) = some q from h); exact ⟨inT2, ⟨tyX2, tyX2_ok⟩, nmX2⟩
  | 3, q, h => by cases (show some (RX3, TX3, 9) = some q from h); exact ⟨inT3, ⟨tyX3, tyX3_ok⟩, nmX3⟩
  | 4, q, h => by cases (show some (RX4, TX4, 7) = some q from h); exact ⟨inT4, ⟨tyX4, tyX4_ok⟩, nmX4⟩
  | 5, q, h => by cases (show some (RX5, TX5, 3) = some q from h); exact ⟨inT5, ⟨tyX5, tyX5_ok⟩, nmX5⟩
  | 6, q, h => by cases (show some (RX6, TX6, 13) = some q from h); exact ⟨inT6, ⟨tyX6, tyX6_ok⟩, nmX6⟩
  | 7, q, h => by cases (show some (RX7, TX7, 2) = some q from h); exact ⟨inT7, ⟨tyX7, tyX7_ok⟩, nmX7⟩
  | 8, q, h => by cases (show some (RX8, TX8, 14) = some q from h); exact ⟨inT8, ⟨tyX8, tyX8_ok⟩, nmX8⟩
  | 9, q, h => by cases (show some (RX9, TX9, 61) = some q from h); exact ⟨inT9, ⟨tyX9, tyX9_ok⟩, nmX9⟩
  | n + 10, q, h => by cases (show none = some q from h)
