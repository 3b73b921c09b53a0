set_option maxRecDepth 1000000 in
set_option maxHeartbeats 40000000 in
theorem lz_e23_1 : lz_chk 3000 7 [] 840 (lz_23 1) = true := by decide +kernel
set_option maxRecDepth 1000000 in
set_option maxHeartbeats 40000000 in
theorem lz_e23_5 : lz_chk 3000 7 [] 840 (lz_23 5) = true := by decide +kernel
set_option maxRecDepth 1000000 in
set_option maxHeartbeats 40000000 in
theorem lz_e23_9 : lz_chk 3000 7 [] 840 (lz_23 9) = true := by decide +kernel
set_option maxRecDepth 1000000 in
set_option maxHeartbeats 40000000 in
theorem lz_e23_13 : lz_chk 3000 7 [] 840 (lz_23 13) = true := by decide +kernel
set_option maxRecDepth 1000000 in
set_option maxHeartbeats 40000000 in
theorem lz_e23_17 : lz_chk 3000 7 [] 840 (lz_23 17) = true := by decide +kernel
set_option maxRecDepth 1000000 in
set_option maxHeartbeats 40000000 in
theorem lz_e23_21 : lz_chk 3000 7 [] 840 (lz_23 21) = true := by decide +kernel
set_option maxRecDepth 1000000 in
set_option maxHeartbeats 40000000 in
theorem lz_e23_25 : lz_chk 3000 7 [] 840 (lz_23 25) = true := by decide +kernel
set_option maxRecDepth 1000000 in
set_option maxHeartbeats 40000000 in
theorem lz_e23_29 : lz_chk 3000 7 [] 840 (lz_23 29) = true := by decide +kernel
set_option maxRecDepth 1000000 in
set_option maxHeartbeats 40000000 in
theorem lz_e22_3_0 : lz_chk 3000 7 [] 812 (lz_22 3 0) = true := by decide +kernel
set_option maxRecDepth 1000000 in
set_option maxHeartbeats 40000000 in
theorem lz_e22_7_0 : lz_chk 3000 7 [] 812 (lz_22 7 0) = true := by decide +kernel
set_option maxRecDepth 1000000 in
set_option maxHeartbeats 40000000 in
theorem lz_e22_11_0 : lz_chk 3000 7 [] 812 (lz_22 11 0) = true := by decide +kernel
set_option maxRecDepth 1000000 in
set_option maxHeartbeats 40000000 in
theorem lz_e22_15_0 : lz_chk 3000 7 [] 812 (lz_22 15 0) = true := by decide +kernel
set_option maxRecDepth 1000000 in
set_option maxHeartbeats 40000000 in
theorem lz_e22_19_0 : lz_chk 3000 7 [] 812 (lz_22 19 0) = true := by decide +kernel
set_option maxRecDepth 1000000 in
set_option maxHeartbeats 40000000 in
theorem lz_e22_23_0 : lz_chk 3000 7 [] 812 (lz_22 23 0) = true := by decide +kernel
set_option maxRecDepth 1000000 in
set_option maxHeartbeats 40000000 in
theorem lz_e22_27_0 : lz_chk 3000 7 [] 812 (lz_22 27 0) = true := by decide +kernel
set_option maxRecDepth 1000000 in
set_option maxHeartbeats 40000000 in
theorem lz_e22_1_1 : lz_chk 3000 7 [] 812 (lz_22 1 1) = true := by decide +kernel
set_option maxRecDepth 1000000 in
set_option maxHeartbeats 40000000 in
theorem lz_e22_5_1 : lz_chk 3000 7 [] 812 (lz_22 5 1) = true := by decide +kernel
set_option maxRecDepth 1000000 in
set_option maxHeartbeats 40000000 in
theorem lz_e22_9_1 : lz_chk 3000 7 [] 812 (lz_22 9 1) = true := by decide +kernel
set_option maxRecDepth 1000000 in
set_option maxHeartbeats 40000000 in
theorem lz_e22_13_1 : lz_chk 3000 7 [] 812 (lz_22 13 1) = true := by decide +kernel
set_option maxRecDepth 1000000 in
set_option maxHeartbeats 40000000 in
theorem lz_e22_17_1 : lz_chk 3000 7 [] 812 (lz_22 17 1) = true := by decide +kernel
set_option maxRecDepth 1000000 in
set_option maxHeartbeats 40000000 in
theorem lz_e22_21_1 : lz_chk 3000 7 [] 812 (lz_22 21 1) = true := by decide +kernel
set_option maxRecDepth 1000000 in
set_option maxHeartbeats 40000000 in
theorem lz_e22_25_1 : lz_chk 3000 7 [] 812 (lz_22 25 1) = true := by decide +kernel
set_option maxRecDepth 1000000 in
set_option maxHeartbeats 40000000 in
theorem lz_e22_29_1 : lz_chk 3000 7 [] 812 (lz_22 29 1) = true := by decide +kernel
