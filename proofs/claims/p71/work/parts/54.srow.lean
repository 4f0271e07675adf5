/-! what a row answers, by what is asked -/
def s_row (s w n : Int) : Int32 := if s < 0 ∨ 3 < s ∨ w < 0 ∨ 3 < w ∨ 60 < n then -2 else if n < 0 then -3 else 0
