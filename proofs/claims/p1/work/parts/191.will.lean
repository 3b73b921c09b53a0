set_option maxRecDepth 1000000 in
set_option maxHeartbeats 40000000 in
theorem lz_e23_0 : lz_chk 3000 7 [] 840 (lz_23 0) = true := by decide +kernel
set_option maxRecDepth 1000000 in
set_option maxHeartbeats 40000000 in
theorem lz_e23_4 : lz_chk 3000 7 [] 840 (lz_23 4) = true := by decide +kernel
set_option maxRecDepth 1000000 in
set_option maxHeartbeats 40000000 in
theorem lz_e23_8 : lz_chk 3000 7 [] 840 (lz_23 8) = true := by decide +kernel
set_option maxRecDepth 1000000 in
set_option maxHeartbeats 40000000 in
theorem lz_e23_12 : lz_chk 3000 7 [] 840 (lz_23 12) = true := by decide +kernel
set_option maxRecDepth 1000000 in
set_option maxHeartbeats 40000000 in
theorem lz_e23_16 : lz_chk 3000 7 [] 840 (lz_23 16) = true := by decide +kernel
set_option maxRecDepth 1000000 in
set_option maxHeartbeats 40000000 in
theorem lz_e23_20 : lz_chk 3000 7 [] 840 (lz_23 20) = true := by decide +kernel
set_option maxRecDepth 1000000 in
set_option maxHeartbeats 40000000 in
theorem lz_e23_24 : lz_chk 3000 7 [] 840 (lz_23 24) = true := by decide +kernel
set_option maxRecDepth 1000000 in
set_option maxHeartbeats 40000000 in
theorem lz_e23_28 : lz_chk 3000 7 [] 840 (lz_23 28) = true := by decide +kernel
set_option maxRecDepth 1000000 in
set_option maxHeartbeats 40000000 in
theorem lz_e22_2_0 : lz_chk 3000 7 [] 812 (lz_22 2 0) = true := by decide +kernel
set_option maxRecDepth 1000000 in
set_option maxHeartbeats 40000000 in
theorem lz_e22_6_0 : lz_chk 3000 7 [] 812 (lz_22 6 0) = true := by decide +kernel
set_option maxRecDepth 1000000 in
set_option maxHeartbeats 40000000 in
theorem lz_e22_10_0 : lz_chk 3000 7 [] 812 (lz_22 10 0) = true := by decide +kernel
set_option maxRecDepth 1000000 in
set_option maxHeartbeats 40000000 in
theorem lz_e22_14_0 : lz_chk 3000 7 [] 812 (lz_22 14 0) = true := by decide +kernel
set_option maxRecDepth 1000000 in
set_option maxHeartbeats 40000000 in
theorem lz_e22_18_0 : lz_chk 3000 7 [] 812 (lz_22 18 0) = true := by decide +kernel
set_option maxRecDepth 1000000 in
set_option maxHeartbeats 40000000 in
theorem lz_e22_22_0 : lz_chk 3000 7 [] 812 (lz_22 22 0) = true := by decide +kernel
set_option maxRecDepth 1000000 in
set_option maxHeartbeats 40000000 in
theorem lz_e22_26_0 : lz_chk 3000 7 [] 812 (lz_22 26 0) = true := by decide +kernel
set_option maxRecDepth 1000000 in
set_option maxHeartbeats 40000000 in
theorem lz_e22_30_0 : lz_chk 3000 7 [] 812 (lz_22 30 0) = true := by decide +kernel
set_option maxRecDepth 1000000 in
set_option maxHeartbeats 40000000 in
theorem lz_e22_4_1 : lz_chk 3000 7 [] 812 (lz_22 4 1) = true := by decide +kernel
set_option maxRecDepth 1000000 in
set_option maxHeartbeats 40000000 in
theorem lz_e22_8_1 : lz_chk 3000 7 [] 812 (lz_22 8 1) = true := by decide +kernel
set_option maxRecDepth 1000000 in
set_option maxHeartbeats 40000000 in
theorem lz_e22_12_1 : lz_chk 3000 7 [] 812 (lz_22 12 1) = true := by decide +kernel
set_option maxRecDepth 1000000 in
set_option maxHeartbeats 40000000 in
theorem lz_e22_16_1 : lz_chk 3000 7 [] 812 (lz_22 16 1) = true := by decide +kernel
set_option maxRecDepth 1000000 in
set_option maxHeartbeats 40000000 in
theorem lz_e22_20_1 : lz_chk 3000 7 [] 812 (lz_22 20 1) = true := by decide +kernel
set_option maxRecDepth 1000000 in
set_option maxHeartbeats 40000000 in
theorem lz_e22_24_1 : lz_chk 3000 7 [] 812 (lz_22 24 1) = true := by decide +kernel
set_option maxRecDepth 1000000 in
set_option maxHeartbeats 40000000 in
theorem lz_e22_28_1 : lz_chk 3000 7 [] 812 (lz_22 28 1) = true := by decide +kernel
