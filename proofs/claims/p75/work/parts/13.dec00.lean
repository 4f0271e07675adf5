set_option maxRecDepth 1000000 in
theorem PQ_ok_0 : PQ_0.all (fun q => tchk q.1.2.2.1 q.1.2.2.2.2.2.2.2 && dchk q) = true := by decide +kernel
set_option maxRecDepth 1000000 in
theorem PQ_ok_1 : PQ_1.all (fun q => tchk q.1.2.2.1 q.1.2.2.2.2.2.2.2 && dchk q) = true := by decide +kernel
set_option maxRecDepth 1000000 in
theorem PQ_ok_2 : PQ_2.all (fun q => tchk q.1.2.2.1 q.1.2.2.2.2.2.2.2 && dchk q) = true := by decide +kernel
