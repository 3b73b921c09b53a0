set_option maxRecDepth 1000000 in
set_option maxHeartbeats 40000000 in
theorem lz_k20 : lz_chk 3000 7 [] 772 (lz_c 20) = true := by decide +kernel
set_option maxRecDepth 1000000 in
set_option maxHeartbeats 40000000 in
theorem lz_k21 : lz_chk 3000 7 [] 785 (lz_c 21) = true := by decide +kernel
set_option maxRecDepth 1000000 in
set_option maxHeartbeats 40000000 in
theorem lz_k24 : lz_chk 3000 7 [] 854 (lz_c 24) = true := by decide +kernel
set_option maxRecDepth 1000000 in
set_option maxHeartbeats 40000000 in
theorem lz_k25 : lz_chk 3000 7 [] 887 (lz_c 25) = true := by decide +kernel
set_option maxRecDepth 1000000 in
set_option maxHeartbeats 40000000 in
theorem lz_k26 : lz_chk 3000 7 [] 910 (lz_c 26) = true := by decide +kernel
set_option maxRecDepth 1000000 in
set_option maxHeartbeats 40000000 in
theorem lz_k27 : lz_chk 3000 7 [] 933 (lz_c 27) = true := by decide +kernel
set_option maxRecDepth 1000000 in
set_option maxHeartbeats 40000000 in
theorem lz_k28 : lz_chk 3000 7 [] 956 (lz_c 28) = true := by decide +kernel
set_option maxRecDepth 1000000 in
set_option maxHeartbeats 40000000 in
theorem lz_k29 : lz_chk 3000 7 [] 989 (lz_c 29) = true := by decide +kernel
set_option maxRecDepth 1000000 in
set_option maxHeartbeats 40000000 in
theorem lz_k30 : lz_chk 3000 7 [] 1002 (lz_c 30) = true := by decide +kernel
set_option maxRecDepth 1000000 in
set_option maxHeartbeats 40000000 in
theorem lz_k31 : lz_chk 3000 7 [] 1015 (lz_c 31) = true := by decide +kernel
set_option maxRecDepth 1000000 in
set_option maxHeartbeats 40000000 in
theorem lz_k32 : lz_chk 3000 7 [] 1028 (lz_c 32) = true := by decide +kernel
set_option maxRecDepth 1000000 in
set_option maxHeartbeats 40000000 in
theorem lz_k33 : lz_chk 3000 7 [] 1041 (lz_c 33) = true := by decide +kernel
set_option maxRecDepth 1000000 in
set_option maxHeartbeats 40000000 in
theorem lz_k34 : lz_chk 3000 7 [] 1074 (lz_c 34) = true := by decide +kernel
set_option maxRecDepth 1000000 in
set_option maxHeartbeats 40000000 in
theorem lz_k35 : lz_chk 3000 7 [] 1097 (lz_c 35) = true := by decide +kernel
set_option maxRecDepth 1000000 in
set_option maxHeartbeats 40000000 in
theorem lz_k36 : lz_chk 3000 7 [] 1120 (lz_c 36) = true := by decide +kernel
set_option maxRecDepth 1000000 in
set_option maxHeartbeats 40000000 in
theorem lz_k37 : lz_chk 3000 7 [] 1143 (lz_c 37) = true := by decide +kernel
set_option maxRecDepth 1000000 in
set_option maxHeartbeats 40000000 in
theorem lz_k38 : lz_chk 3000 7 [] 1186 (lz_c 38) = true := by decide +kernel
set_option maxRecDepth 1000000 in
set_option maxHeartbeats 40000000 in
theorem lz_k39 : lz_chk 3000 7 [] 1219 (lz_c 39) = true := by decide +kernel
