set_option maxRecDepth 1000000 in
set_option maxHeartbeats 40000000 in
theorem lz_e23_3 : lz_chk 3000 7 [] 840 (lz_23 3) = true := by decide +kernel
set_option maxRecDepth 1000000 in
set_option maxHeartbeats 40000000 in
theorem lz_e23_7 : lz_chk 3000 7 [] 840 (lz_23 7) = true := by decide +kernel
set_option maxRecDepth 1000000 in
set_option maxHeartbeats 40000000 in
theorem lz_e23_11 : lz_chk 3000 7 [] 840 (lz_23 11) = true := by decide +kernel
set_option maxRecDepth 1000000 in
set_option maxHeartbeats 40000000 in
theorem lz_e23_15 : lz_chk 3000 7 [] 840 (lz_23 15) = true := by decide +kernel
set_option maxRecDepth 1000000 in
set_option maxHeartbeats 40000000 in
theorem lz_e23_19 : lz_chk 3000 7 [] 840 (lz_23 19) = true := by decide +kernel
set_option maxRecDepth 1000000 in
set_option maxHeartbeats 40000000 in
theorem lz_e23_23 : lz_chk 3000 7 [] 840 (lz_23 23) = true := by decide +kernel
set_option maxRecDepth 1000000 in
set_option maxHeartbeats 40000000 in
theorem lz_e23_27 : lz_chk 3000 7 [] 840 (lz_23 27) = true := by decide +kernel
set_option maxRecDepth 1000000 in
set_option maxHeartbeats 40000000 in
theorem lz_e22_1_0 : lz_chk 3000 7 [] 812 (lz_22 1 0) = true := by decide +kernel
set_option maxRecDepth 1000000 in
set_option maxHeartbeats 40000000 in
theorem lz_e22_5_0 : lz_chk 3000 7 [] 812 (lz_22 5 0) = true := by decide +kernel
set_option maxRecDepth 1000000 in
set_option maxHeartbeats 40000000 in
theorem lz_e22_9_0 : lz_chk 3000 7 [] 812 (lz_22 9 0) = true := by decide +kernel
set_option maxRecDepth 1000000 in
set_option maxHeartbeats 40000000 in
theorem lz_e22_13_0 : lz_chk 3000 7 [] 812 (lz_22 13 0) = true := by decide +kernel
set_option maxRecDepth 1000000 in
set_option maxHeartbeats 40000000 in
theorem lz_e22_17_0 : lz_chk 3000 7 [] 812 (lz_22 17 0) = true := by decide +kernel
set_option maxRecDepth 1000000 in
set_option maxHeartbeats 40000000 in
theorem lz_e22_21_0 : lz_chk 3000 7 [] 812 (lz_22 21 0) = true := by decide +kernel
set_option maxRecDepth 1000000 in
set_option maxHeartbeats 40000000 in
theorem lz_e22_25_0 : lz_chk 3000 7 [] 812 (lz_22 25 0) = true := by decide +kernel
set_option maxRecDepth 1000000 in
set_option maxHeartbeats 40000000 in
theorem lz_e22_29_0 : lz_chk 3000 7 [] 812 (lz_22 29 0) = true := by decide +kernel
set_option maxRecDepth 1000000 in
set_option maxHeartbeats 40000000 in
theorem lz_e22_3_1 : lz_chk 3000 7 [] 812 (lz_22 3 1) = true := by decide +kernel
set_option maxRecDepth 1000000 in
set_option maxHeartbeats 40000000 in
theorem lz_e22_7_1 : lz_chk 3000 7 [] 812 (lz_22 7 1) = true := by decide +kernel
set_option maxRecDepth 1000000 in
set_option maxHeartbeats 40000000 in
theorem lz_e22_11_1 : lz_chk 3000 7 [] 812 (lz_22 11 1) = true := by decide +kernel
set_option maxRecDepth 1000000 in
set_option maxHeartbeats 40000000 in
theorem lz_e22_15_1 : lz_chk 3000 7 [] 812 (lz_22 15 1) = true := by decide +kernel
set_option maxRecDepth 1000000 in
set_option maxHeartbeats 40000000 in
theorem lz_e22_19_1 : lz_chk 3000 7 [] 812 (lz_22 19 1) = true := by decide +kernel
set_option maxRecDepth 1000000 in
set_option maxHeartbeats 40000000 in
theorem lz_e22_23_1 : lz_chk 3000 7 [] 812 (lz_22 23 1) = true := by decide +kernel
set_option maxRecDepth 1000000 in
set_option maxHeartbeats 40000000 in
theorem lz_e22_27_1 : lz_chk 3000 7 [] 812 (lz_22 27 1) = true := by decide +kernel
