set_option maxRecDepth 100000 in
set_option maxHeartbeats 0 in
theorem chk_r4 : ((List.range 28).map (fun i => i + 87)).all chkM = true := by decide +kernel
set_option maxRecDepth 100000 in
set_option maxHeartbeats 0 in
theorem chk_r5 : ((List.range 15).map (fun i => i + 115)).all chkM = true := by decide +kernel
