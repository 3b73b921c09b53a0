set_option maxRecDepth 1000000 in
set_option maxHeartbeats 40000000 in
theorem lz_k0 : lz_chk 3000 7 [] 292 (lz_c 0) = true := by decide +kernel
set_option maxRecDepth 1000000 in
set_option maxHeartbeats 40000000 in
theorem lz_k1 : lz_chk 3000 7 [] 355 (lz_c 1) = true := by decide +kernel
set_option maxRecDepth 1000000 in
set_option maxHeartbeats 40000000 in
theorem lz_k2 : lz_chk 3000 7 [] 378 (lz_c 2) = true := by decide +kernel
set_option maxRecDepth 1000000 in
set_option maxHeartbeats 40000000 in
theorem lz_k3 : lz_chk 3000 7 [] 391 (lz_c 3) = true := by decide +kernel
set_option maxRecDepth 1000000 in
set_option maxHeartbeats 40000000 in
theorem lz_k4 : lz_chk 3000 7 [] 414 (lz_c 4) = true := by decide +kernel
set_option maxRecDepth 1000000 in
set_option maxHeartbeats 40000000 in
theorem lz_k5 : lz_chk 3000 7 [] 447 (lz_c 5) = true := by decide +kernel
set_option maxRecDepth 1000000 in
set_option maxHeartbeats 40000000 in
theorem lz_k6 : lz_chk 3000 7 [] 470 (lz_c 6) = true := by decide +kernel
set_option maxRecDepth 1000000 in
set_option maxHeartbeats 40000000 in
theorem lz_k7 : lz_chk 3000 7 [] 493 (lz_c 7) = true := by decide +kernel
set_option maxRecDepth 1000000 in
set_option maxHeartbeats 40000000 in
theorem lz_k8 : lz_chk 3000 7 [] 506 (lz_c 8) = true := by decide +kernel
set_option maxRecDepth 1000000 in
set_option maxHeartbeats 40000000 in
theorem lz_k9 : lz_chk 3000 7 [] 519 (lz_c 9) = true := by decide +kernel
set_option maxRecDepth 1000000 in
set_option maxHeartbeats 40000000 in
theorem lz_k10 : lz_chk 3000 7 [] 532 (lz_c 10) = true := by decide +kernel
set_option maxRecDepth 1000000 in
set_option maxHeartbeats 40000000 in
theorem lz_k11 : lz_chk 3000 7 [] 555 (lz_c 11) = true := by decide +kernel
set_option maxRecDepth 1000000 in
set_option maxHeartbeats 40000000 in
theorem lz_k12 : lz_chk 3000 7 [] 578 (lz_c 12) = true := by decide +kernel
set_option maxRecDepth 1000000 in
set_option maxHeartbeats 40000000 in
theorem lz_k13 : lz_chk 3000 7 [] 611 (lz_c 13) = true := by decide +kernel
set_option maxRecDepth 1000000 in
set_option maxHeartbeats 40000000 in
theorem lz_k14 : lz_chk 3000 7 [] 624 (lz_c 14) = true := by decide +kernel
set_option maxRecDepth 1000000 in
set_option maxHeartbeats 40000000 in
theorem lz_k15 : lz_chk 3000 7 [] 637 (lz_c 15) = true := by decide +kernel
set_option maxRecDepth 1000000 in
set_option maxHeartbeats 40000000 in
theorem lz_k16 : lz_chk 3000 7 [] 670 (lz_c 16) = true := by decide +kernel
set_option maxRecDepth 1000000 in
set_option maxHeartbeats 40000000 in
theorem lz_k17 : lz_chk 3000 7 [] 713 (lz_c 17) = true := by decide +kernel
set_option maxRecDepth 1000000 in
set_option maxHeartbeats 40000000 in
theorem lz_k18 : lz_chk 3000 7 [] 736 (lz_c 18) = true := by decide +kernel
set_option maxRecDepth 1000000 in
set_option maxHeartbeats 40000000 in
theorem lz_k19 : lz_chk 3000 7 [] 749 (lz_c 19) = true := by decide +kernel
