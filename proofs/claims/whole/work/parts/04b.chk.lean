set_option maxRecDepth 100000 in
set_option maxHeartbeats 0 in
theorem chk_r2 : ((List.range 23).map (fun i => i + 41)).all chkM = true := by decide +kernel
set_option maxRecDepth 100000 in
set_option maxHeartbeats 0 in
theorem chk_r3 : ((List.range 23).map (fun i => i + 64)).all chkM = true := by decide +kernel
