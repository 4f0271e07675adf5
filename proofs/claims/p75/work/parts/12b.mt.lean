theorem all_app {α : Type} {f : α → Bool} {a b : List α} (h1 : a.all f = true) (h2 : b.all f = true) : (a ++ b).all f = true := by rw [List.all_append, h1, h2]; rfl
set_option maxRecDepth 1000000 in
theorem mt_0_0 : MT_0_0.all (mchk 0) = true := by decide +kernel
set_option maxRecDepth 1000000 in
theorem mt_1_0 : MT_1_0.all (mchk 1) = true := by decide +kernel
set_option maxRecDepth 1000000 in
theorem mt_2_0 : MT_2_0.all (mchk 2) = true := by decide +kernel
set_option maxRecDepth 1000000 in
theorem mt_3_0 : MT_3_0.all (mchk 3) = true := by decide +kernel
set_option maxRecDepth 1000000 in
theorem mt_4_0 : MT_4_0.all (mchk 4) = true := by decide +kernel
set_option maxRecDepth 1000000 in
theorem mt_5_0 : MT_5_0.all (mchk 5) = true := by decide +kernel
set_option maxRecDepth 1000000 in
theorem mt_6_0 : MT_6_0.all (mchk 6) = true := by decide +kernel
set_option maxRecDepth 1000000 in
theorem mt_7_0 : MT_7_0.all (mchk 7) = true := by decide +kernel
set_option maxRecDepth 1000000 in
theorem mt_8_0 : MT_8_0.all (mchk 8) = true := by decide +kernel
set_option maxRecDepth 1000000 in
theorem mt_8_1 : MT_8_1.all (mchk 8) = true := by decide +kernel
set_option maxRecDepth 1000000 in
theorem mt_8_2 : MT_8_2.all (mchk 8) = true := by decide +kernel
set_option maxRecDepth 1000000 in
theorem mt_8_3 : MT_8_3.all (mchk 8) = true := by decide +kernel
set_option maxRecDepth 1000000 in
theorem mt_9_0 : MT_9_0.all (mchk 9) = true := by decide +kernel
set_option maxRecDepth 1000000 in
theorem mt_9_1 : MT_9_1.all (mchk 9) = true := by decide +kernel
set_option maxRecDepth 1000000 in
theorem mt_9_2 : MT_9_2.all (mchk 9) = true := by decide +kernel
set_option maxRecDepth 1000000 in
theorem mt_9_3 : MT_9_3.all (mchk 9) = true := by decide +kernel
set_option maxRecDepth 1000000 in
theorem mt_10_0 : MT_10_0.all (mchk 10) = true := by decide +kernel
set_option maxRecDepth 1000000 in
theorem mt_11_0 : MT_11_0.all (mchk 11) = true := by decide +kernel
set_option maxRecDepth 1000000 in
theorem mt_12_0 : MT_12_0.all (mchk 12) = true := by decide +kernel
set_option maxRecDepth 1000000 in
theorem mt_13_0 : MT_13_0.all (mchk 13) = true := by decide +kernel
set_option maxRecDepth 1000000 in
theorem mt_14_0 : MT_14_0.all (mchk 14) = true := by decide +kernel
theorem mt_0 : MT_0.all (mchk 0) = true := mt_0_0
theorem mt_1 : MT_1.all (mchk 1) = true := mt_1_0
theorem mt_2 : MT_2.all (mchk 2) = true := mt_2_0
theorem mt_3 : MT_3.all (mchk 3) = true := mt_3_0
theorem mt_4 : MT_4.all (mchk 4) = true := mt_4_0
theorem mt_5 : MT_5.all (mchk 5) = true := mt_5_0
theorem mt_6 : MT_6.all (mchk 6) = true := mt_6_0
theorem mt_7 : MT_7.all (mchk 7) = true := mt_7_0
theorem mt_8 : MT_8.all (mchk 8) = true := (all_app mt_8_0 (all_app mt_8_1 (all_app mt_8_2 mt_8_3)))
theorem mt_9 : MT_9.all (mchk 9) = true := (all_app mt_9_0 (all_app mt_9_1 (all_app mt_9_2 mt_9_3)))
theorem mt_10 : MT_10.all (mchk 10) = true := mt_10_0
theorem mt_11 : MT_11.all (mchk 11) = true := mt_11_0
theorem mt_12 : MT_12.all (mchk 12) = true := mt_12_0
theorem mt_13 : MT_13.all (mchk 13) = true := mt_13_0
theorem mt_14 : MT_14.all (mchk 14) = true := mt_14_0
theorem MTB_ok : (MTB.zipIdx.all (fun l => l.1.all (mchk l.2))) = true := by
  unfold MTB
  simp only [List.zipIdx_cons, List.zipIdx_nil, List.all_cons, List.all_nil, Bool.and_true, Bool.and_eq_true, Nat.zero_add, Nat.reduceAdd]
  exact ⟨mt_0, mt_1, mt_2, mt_3, mt_4, mt_5, mt_6, mt_7, mt_8, mt_9, mt_10, mt_11, mt_12, mt_13, mt_14⟩
