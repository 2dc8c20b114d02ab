set_option maxRecDepth 100000 in
set_option maxHeartbeats 0 in
theorem chk_r8 : ((List.range 13).map (fun i => i + 160)).all chkM = true := by decide +kernel
set_option maxRecDepth 100000 in
set_option maxHeartbeats 0 in
theorem chk_r9 : ((List.range 11).map (fun i => i + 173)).all chkM = true := by decide +kernel
