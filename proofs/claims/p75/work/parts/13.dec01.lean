set_option maxRecDepth 1000000 in
theorem PQ_ok_3 : PQ_3.all (fun q => tchk q.1.2.2.1 q.1.2.2.2.2.2.2.2 && dchk q) = true := by decide +kernel
set_option maxRecDepth 1000000 in
theorem PQ_ok_4 : PQ_4.all (fun q => tchk q.1.2.2.1 q.1.2.2.2.2.2.2.2 && dchk q) = true := by decide +kernel
set_option maxRecDepth 1000000 in
theorem PQ_ok_5 : PQ_5.all (fun q => tchk q.1.2.2.1 q.1.2.2.2.2.2.2.2 && dchk q) = true := by decide +kernel
