set_option maxRecDepth 1000000 in
set_option maxHeartbeats 40000000 in
theorem lz_e23_2 : lz_chk 3000 7 [] 840 (lz_23 2) = true := by decide +kernel
set_option maxRecDepth 1000000 in
set_option maxHeartbeats 40000000 in
theorem lz_e23_6 : lz_chk 3000 7 [] 840 (lz_23 6) = true := by decide +kernel
set_option maxRecDepth 1000000 in
set_option maxHeartbeats 40000000 in
theorem lz_e23_10 : lz_chk 3000 7 [] 840 (lz_23 10) = true := by decide +kernel
set_option maxRecDepth 1000000 in
set_option maxHeartbeats 40000000 in
theorem lz_e23_14 : lz_chk 3000 7 [] 840 (lz_23 14) = true := by decide +kernel
set_option maxRecDepth 1000000 in
set_option maxHeartbeats 40000000 in
theorem lz_e23_18 : lz_chk 3000 7 [] 840 (lz_23 18) = true := by decide +kernel
set_option maxRecDepth 1000000 in
set_option maxHeartbeats 40000000 in
theorem lz_e23_22 : lz_chk 3000 7 [] 840 (lz_23 22) = true := by decide +kernel
set_option maxRecDepth 1000000 in
set_option maxHeartbeats 40000000 in
theorem lz_e23_26 : lz_chk 3000 7 [] 840 (lz_23 26) = true := by decide +kernel
set_option maxRecDepth 1000000 in
set_option maxHeartbeats 40000000 in
theorem lz_e23_30 : lz_chk 3000 7 [] 840 (lz_23 30) = true := by decide +kernel
set_option maxRecDepth 1000000 in
set_option maxHeartbeats 40000000 in
theorem lz_e22_4_0 : lz_chk 3000 7 [] 812 (lz_22 4 0) = true := by decide +kernel
set_option maxRecDepth 1000000 in
set_option maxHeartbeats 40000000 in
theorem lz_e22_8_0 : lz_chk 3000 7 [] 812 (lz_22 8 0) = true := by decide +kernel
set_option maxRecDepth 1000000 in
set_option maxHeartbeats 40000000 in
theorem lz_e22_12_0 : lz_chk 3000 7 [] 812 (lz_22 12 0) = true := by decide +kernel
set_option maxRecDepth 1000000 in
set_option maxHeartbeats 40000000 in
theorem lz_e22_16_0 : lz_chk 3000 7 [] 812 (lz_22 16 0) = true := by decide +kernel
set_option maxRecDepth 1000000 in
set_option maxHeartbeats 40000000 in
theorem lz_e22_20_0 : lz_chk 3000 7 [] 812 (lz_22 20 0) = true := by decide +kernel
set_option maxRecDepth 1000000 in
set_option maxHeartbeats 40000000 in
theorem lz_e22_24_0 : lz_chk 3000 7 [] 812 (lz_22 24 0) = true := by decide +kernel
set_option maxRecDepth 1000000 in
set_option maxHeartbeats 40000000 in
theorem lz_e22_28_0 : lz_chk 3000 7 [] 812 (lz_22 28 0) = true := by decide +kernel
set_option maxRecDepth 1000000 in
set_option maxHeartbeats 40000000 in
theorem lz_e22_2_1 : lz_chk 3000 7 [] 812 (lz_22 2 1) = true := by decide +kernel
set_option maxRecDepth 1000000 in
set_option maxHeartbeats 40000000 in
theorem lz_e22_6_1 : lz_chk 3000 7 [] 812 (lz_22 6 1) = true := by decide +kernel
set_option maxRecDepth 1000000 in
set_option maxHeartbeats 40000000 in
theorem lz_e22_10_1 : lz_chk 3000 7 [] 812 (lz_22 10 1) = true := by decide +kernel
set_option maxRecDepth 1000000 in
set_option maxHeartbeats 40000000 in
theorem lz_e22_14_1 : lz_chk 3000 7 [] 812 (lz_22 14 1) = true := by decide +kernel
set_option maxRecDepth 1000000 in
set_option maxHeartbeats 40000000 in
theorem lz_e22_18_1 : lz_chk 3000 7 [] 812 (lz_22 18 1) = true := by decide +kernel
set_option maxRecDepth 1000000 in
set_option maxHeartbeats 40000000 in
theorem lz_e22_22_1 : lz_chk 3000 7 [] 812 (lz_22 22 1) = true := by decide +kernel
set_option maxRecDepth 1000000 in
set_option maxHeartbeats 40000000 in
theorem lz_e22_26_1 : lz_chk 3000 7 [] 812 (lz_22 26 1) = true := by decide +kernel
set_option maxRecDepth 1000000 in
set_option maxHeartbeats 40000000 in
theorem lz_e22_30_1 : lz_chk 3000 7 [] 812 (lz_22 30 1) = true := by decide +kernel
