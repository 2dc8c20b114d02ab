set_option maxRecDepth 100000 in
set_option maxHeartbeats 0 in
theorem chk_l0 : (((PG 184).drop 0).take 110).all (chkR 184) = true := by decide +kernel
set_option maxRecDepth 100000 in
set_option maxHeartbeats 0 in
theorem chk_l110 : (((PG 184).drop 110).take 110).all (chkR 184) = true := by decide +kernel
set_option maxRecDepth 100000 in
set_option maxHeartbeats 0 in
theorem chk_l220 : (((PG 184).drop 220).take 110).all (chkR 184) = true := by decide +kernel
