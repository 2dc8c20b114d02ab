set_option maxRecDepth 100000 in
set_option maxHeartbeats 0 in
theorem chk_l330 : (((PG 184).drop 330).take 110).all (chkR 184) = true := by decide +kernel
set_option maxRecDepth 100000 in
set_option maxHeartbeats 0 in
theorem chk_l440 : (((PG 184).drop 440).take 110).all (chkR 184) = true := by decide +kernel
set_option maxRecDepth 100000 in
set_option maxHeartbeats 0 in
theorem chk_l550 : (((PG 184).drop 550).take 110).all (chkR 184) = true := by decide +kernel
