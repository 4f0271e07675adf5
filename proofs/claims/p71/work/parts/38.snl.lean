def NLS : List Nat := [54, 55, 91, 92, 93, 94, 95, 96, 97, 98, 99]
set_option maxRecDepth 1000000 in
theorem NLS_ok : noLs NLS = true := by decide +kernel
set_option maxRecDepth 1000000 in
theorem NL_X9_asItIs : noLm NLS d_X9_asItIs = true := by decide +kernel
set_option maxRecDepth 1000000 in
theorem NL_X9_goAll : noLm NLS d_X9_goAll = true := by decide +kernel
