set_option maxRecDepth 100000 in
set_option maxHeartbeats 0 in
theorem chk_r6 : ((List.range 21).map (fun i => i + 130)).all chkM = true := by decide +kernel
set_option maxRecDepth 100000 in
set_option maxHeartbeats 0 in
theorem chk_r7 : ((List.range 9).map (fun i => i + 151)).all chkM = true := by decide +kernel
