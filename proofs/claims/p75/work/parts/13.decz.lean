theorem PQ_ok : ∀ q ∈ PQ, (tchk q.1.2.2.1 q.1.2.2.2.2.2.2.2 && dchk q) = true := by
  intro q hq
  unfold PQ at hq
  simp only [List.mem_append] at hq
  rcases hq with hq | hq | hq | hq | hq | hq | hq | hq | hq | hq | hq | hq | hq | hq | hq
  · exact List.all_eq_true.mp PQ_ok_0 q hq
  · exact List.all_eq_true.mp PQ_ok_1 q hq
  · exact List.all_eq_true.mp PQ_ok_2 q hq
  · exact List.all_eq_true.mp PQ_ok_3 q hq
  · exact List.all_eq_true.mp PQ_ok_4 q hq
  · exact List.all_eq_true.mp PQ_ok_5 q hq
  · exact List.all_eq_true.mp PQ_ok_6 q hq
  · exact List.all_eq_true.mp PQ_ok_7 q hq
  · exact List.all_eq_true.mp PQ_ok_8 q hq
  · exact List.all_eq_true.mp PQ_ok_9 q hq
  · exact List.all_eq_true.mp PQ_ok_10 q hq
  · exact List.all_eq_true.mp PQ_ok_11 q hq
  · exact List.all_eq_true.mp PQ_ok_12 q hq
  · exact List.all_eq_true.mp PQ_ok_13 q hq
  · exact List.all_eq_true.mp PQ_ok_14 q hq
