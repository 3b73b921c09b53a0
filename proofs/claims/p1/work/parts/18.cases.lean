set_option maxRecDepth 1000000 in
set_option maxHeartbeats 40000000 in
theorem lz_k40 : lz_chk 3000 7 [] 1242 (lz_c 40) = true := by decide +kernel
set_option maxRecDepth 1000000 in
set_option maxHeartbeats 40000000 in
theorem lz_k41 : lz_chk 3000 7 [] 1275 (lz_c 41) = true := by decide +kernel
set_option maxRecDepth 1000000 in
set_option maxHeartbeats 40000000 in
theorem lz_k42 : lz_chk 3000 7 [] 1298 (lz_c 42) = true := by decide +kernel
set_option maxRecDepth 1000000 in
set_option maxHeartbeats 40000000 in
theorem lz_k43 : lz_chk 3000 7 [] 1311 (lz_c 43) = true := by decide +kernel
set_option maxRecDepth 1000000 in
set_option maxHeartbeats 40000000 in
theorem lz_k44 : lz_chk 3000 7 [] 1334 (lz_c 44) = true := by decide +kernel
set_option maxRecDepth 1000000 in
set_option maxHeartbeats 40000000 in
theorem lz_k45 : lz_chk 3000 7 [] 1347 (lz_c 45) = true := by decide +kernel
set_option maxRecDepth 1000000 in
set_option maxHeartbeats 40000000 in
theorem lz_k46 : lz_chk 3000 7 [] 1380 (lz_c 46) = true := by decide +kernel
set_option maxRecDepth 1000000 in
set_option maxHeartbeats 40000000 in
theorem lz_k47 : lz_chk 3000 7 [] 1413 (lz_c 47) = true := by decide +kernel
set_option maxRecDepth 1000000 in
set_option maxHeartbeats 40000000 in
theorem lz_k48 : lz_chk 3000 7 [] 1436 (lz_c 48) = true := by decide +kernel
set_option maxRecDepth 1000000 in
set_option maxHeartbeats 40000000 in
theorem lz_k49 : lz_chk 3000 7 [] 1449 (lz_c 49) = true := by decide +kernel
set_option maxRecDepth 1000000 in
set_option maxHeartbeats 40000000 in
theorem lz_k50 : lz_chk 3000 7 [] 1472 (lz_c 50) = true := by decide +kernel
set_option maxRecDepth 1000000 in
set_option maxHeartbeats 40000000 in
theorem lz_k51 : lz_chk 3000 7 [] 1495 (lz_c 51) = true := by decide +kernel
set_option maxRecDepth 1000000 in
set_option maxHeartbeats 40000000 in
theorem lz_k52 : lz_chk 3000 7 [] 1528 (lz_c 52) = true := by decide +kernel
set_option maxRecDepth 1000000 in
set_option maxHeartbeats 40000000 in
theorem lz_k53 : lz_chk 3000 7 [] 1587 (lz_c 53) = true := by decide +kernel
set_option maxRecDepth 1000000 in
set_option maxHeartbeats 40000000 in
theorem lz_k54 : lz_chk 3000 7 [] 1610 (lz_c 54) = true := by decide +kernel
set_option maxRecDepth 1000000 in
set_option maxHeartbeats 40000000 in
theorem lz_k55 : lz_chk 3000 7 [] 1633 (lz_c 55) = true := by decide +kernel
set_option maxRecDepth 1000000 in
set_option maxHeartbeats 40000000 in
theorem lz_k56 : lz_chk 3000 7 [] 1656 (lz_c 56) = true := by decide +kernel
set_option maxRecDepth 1000000 in
set_option maxHeartbeats 40000000 in
theorem lz_k57 : lz_chk 3000 7 [] 1689 (lz_c 57) = true := by decide +kernel
set_option maxRecDepth 1000000 in
set_option maxHeartbeats 40000000 in
theorem lz_k58 : lz_chk 3000 7 [] 1732 (lz_c 58) = true := by decide +kernel
set_option maxRecDepth 1000000 in
set_option maxHeartbeats 40000000 in
theorem lz_k59 : lz_chk 3000 7 [] 1755 (lz_c 59) = true := by decide +kernel
set_option maxRecDepth 1000000 in
set_option maxHeartbeats 40000000 in
theorem lz_k60 : lz_chk 3000 7 [] 1778 (lz_c 60) = true := by decide +kernel
