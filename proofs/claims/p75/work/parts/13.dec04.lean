set_option maxRecDepth 1000000 in
theorem PQ_ok_12 : PQ_12.all (fun q => tchk q.1.2.2.1 q.1.2.2.2.2.2.2.2 && dchk q) = true := by decide +kernel
set_option maxRecDepth 1000000 in
theorem PQ_ok_13 : PQ_13.all (fun q => tchk q.1.2.2.1 q.1.2.2.2.2.2.2.2 && dchk q) = true := by decide +kernel
set_option maxRecDepth 1000000 in
theorem PQ_ok_14 : PQ_14.all (fun q => tchk q.1.2.2.1 q.1.2.2.2.2.2.2.2 && dchk q) = true := by decide +kernel
