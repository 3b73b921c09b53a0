set_option maxRecDepth 1000000 in
set_option maxHeartbeats 40000000 in
theorem lz_r0 : lz_chk 3000 0 [(16, lz_0)] 0 (lz_cs, ([], (0, (0, (0, ([(0, .inr (.inr (.inl (some 1000000))))], [])))))) = true := by decide +kernel
set_option maxRecDepth 1000000 in
set_option maxHeartbeats 40000000 in
theorem lz_z0 : xx_okZ lz_0 = true := by decide +kernel
set_option maxRecDepth 1000000 in
set_option maxHeartbeats 40000000 in
theorem lz_s0 : lz_chk 3000 1 [] 16 lz_0 = true := by decide +kernel
set_option maxRecDepth 1000000 in
set_option maxHeartbeats 40000000 in
theorem lz_s1 : lz_chk 3000 2 [] 16 lz_0 = true := by decide +kernel
set_option maxRecDepth 1000000 in
set_option maxHeartbeats 40000000 in
theorem lz_s2 : lz_chk 3000 3 [] 16 lz_0 = true := by decide +kernel
set_option maxRecDepth 1000000 in
set_option maxHeartbeats 40000000 in
theorem lz_s3 : lz_chk 3000 4 [] 16 lz_0 = true := by decide +kernel
set_option maxRecDepth 1000000 in
set_option maxHeartbeats 40000000 in
theorem lz_s4 : lz_chk 3000 5 [] 16 lz_0 = true := by decide +kernel
set_option maxRecDepth 1000000 in
set_option maxHeartbeats 40000000 in
theorem lz_s5 : lz_chk 3000 6 [] 16 lz_0 = true := by decide +kernel
set_option maxRecDepth 1000000 in
set_option maxHeartbeats 40000000 in
theorem lz_s6 : lz_chk 3000 7 lz_ct 16 lz_0 = true := by decide +kernel
set_option maxRecDepth 1000000 in
set_option maxHeartbeats 40000000 in
theorem lz_zc : lz_ct.all (fun q => xx_okZ q.2 && Nat.ble 7 (q.2.1.length + 1)) = true := by decide +kernel
