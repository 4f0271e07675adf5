/-- a method's own facts -/
theorem pp_ok {m : Nat} {d : PMd} (h : PP[m]? = some d) : tchk d.2.2.1 d.2.2.2.2.2.2.2 = true ∧ plainName d.2.1.cls = true ∧ d.2.1.cls = cn d.1 ∧ Cond.code d.2.1 d.2.2.1 d.2.2.2.1 d.2.2.2.2.1 ∈ TB := by
  have h1 : d ∈ PP := List.mem_of_getElem? h
  obtain ⟨q, hq, rfl⟩ := List.mem_map.mp h1
  have h2 := PQ_ok q hq
  simp only [Bool.and_eq_true, dchk, decide_eq_true_eq] at h2
  exact ⟨h2.1, h2.2.1.1, h2.2.1.2, tin_TB h2.2.2⟩
theorem jw_value : Cond.fieldLink RJ0 9 RJ0 "value" "[B" ∈ TB := tin_TB (pos := 2021) (by decide +kernel)
theorem jw_coder : Cond.fieldLink RJ0 15 RJ0 "coder" "B" ∈ TB := tin_TB (pos := 2022) (by decide +kernel)
theorem jw_compact : Cond.fieldLink RJ0 38 RJ0 "COMPACT_STRINGS" "Z" ∈ TB := tin_TB (pos := 423) (by decide +kernel)
theorem jw_form : Cond.fieldLink RJ0 1053 RJ3 "SIOOBE_FORMATTER" "Ljava/util/function/BiFunction;" ∈ TB := tin_TB (pos := 439) (by decide +kernel)
theorem jw_fact : Cond.fieldLink RX8 pFactIdx RX8 "FACTORIAL" "[I" ∈ TB := tin_TB (pos := 1070) (by decide +kernel)
theorem jw_max_s : Cond.static Lib.Math.max.name ∈ TB := tin_TB (pos := 603) (by decide +kernel)
theorem jw_max_c : Cond.code Lib.Math.max.name Lib.Math.max.code 2 (some .int) ∈ TB := tin_TB (pos := 604) (by decide +kernel)
theorem jw_min_s : Cond.static Lib.Math.min.name ∈ TB := tin_TB (pos := 396) (by decide +kernel)
theorem jw_min_c : Cond.code Lib.Math.min.name Lib.Math.min.code 2 (some .int) ∈ TB := tin_TB (pos := 397) (by decide +kernel)
theorem jw_abs_s : Cond.static Lib.Math.abs.name ∈ TB := tin_TB (pos := 559) (by decide +kernel)
theorem jw_abs_c : Cond.code Lib.Math.abs.name Lib.Math.abs.code 1 (some .int) ∈ TB := tin_TB (pos := 560) (by decide +kernel)
theorem jw_absl_s : Cond.static Lib.MathLoose.abs_long.x ∈ TB := tin_TB (pos := 909) (by decide +kernel)
theorem jw_absl_c : Cond.code Lib.MathLoose.abs_long.x Lib.MathLoose.abs_long.code 2 (some .long) ∈ TB := tin_TB (pos := 910) (by decide +kernel)
theorem jw_math : Cond.initialized "java/lang/Math" ∈ TB := tin_TB (pos := 11) (by decide +kernel)
theorem jw_sys : Cond.initialized "java/lang/System" ∈ TB := tin_TB (pos := 16) (by decide +kernel)
theorem jw_ac_s : Cond.static arraycopyName ∈ TB := tin_TB (pos := 513) (by decide +kernel)
theorem jw_ac_n : Cond.native arraycopyName ∈ TB := tin_TB (pos := 514) (by decide +kernel)
