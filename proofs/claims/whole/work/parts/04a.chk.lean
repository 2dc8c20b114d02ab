set_option maxRecDepth 100000 in
set_option maxHeartbeats 0 in
theorem chk_r0 : ((List.range 21).map (fun i => i + 0)).all chkM = true := by decide +kernel
set_option maxRecDepth 100000 in
set_option maxHeartbeats 0 in
theorem chk_r1 : ((List.range 20).map (fun i => i + 21)).all chkM = true := by decide +kernel
