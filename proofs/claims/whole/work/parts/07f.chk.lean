set_option maxRecDepth 100000 in
set_option maxHeartbeats 0 in
theorem chk_r10 : ((List.range 1).map (fun i => i + 186)).all chkM = true := by decide +kernel
