set_option maxRecDepth 1000000 in
theorem PQ_ok_6 : PQ_6.all (fun q => tchk q.1.2.2.1 q.1.2.2.2.2.2.2.2 && dchk q) = true := by decide +kernel
set_option maxRecDepth 1000000 in
theorem PQ_ok_7 : PQ_7.all (fun q => tchk q.1.2.2.1 q.1.2.2.2.2.2.2.2 && dchk q) = true := by decide +kernel
set_option maxRecDepth 1000000 in
theorem PQ_ok_8 : PQ_8.all (fun q => tchk q.1.2.2.1 q.1.2.2.2.2.2.2.2 && dchk q) = true := by decide +kernel
