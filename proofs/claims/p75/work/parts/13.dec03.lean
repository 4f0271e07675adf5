set_option maxRecDepth 1000000 in
theorem PQ_ok_9 : PQ_9.all (fun q => tchk q.1.2.2.1 q.1.2.2.2.2.2.2.2 && dchk q) = true := by decide +kernel
set_option maxRecDepth 1000000 in
theorem PQ_ok_10 : PQ_10.all (fun q => tchk q.1.2.2.1 q.1.2.2.2.2.2.2.2 && dchk q) = true := by decide +kernel
set_option maxRecDepth 1000000 in
theorem PQ_ok_11 : PQ_11.all (fun q => tchk q.1.2.2.1 q.1.2.2.2.2.2.2.2 && dchk q) = true := by decide +kernel
