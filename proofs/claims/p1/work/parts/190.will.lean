set_option maxRecDepth 1000000 in
set_option maxHeartbeats 40000000 in
theorem lz_k22 : lz_chk 3000 7 lz_ct22 798 (lz_c 22) = true := by decide +kernel
set_option maxRecDepth 1000000 in
set_option maxHeartbeats 40000000 in
theorem lz_k23 : lz_chk 3000 7 lz_ct23 831 (lz_c 23) = true := by decide +kernel
set_option maxRecDepth 1000000 in
set_option maxHeartbeats 40000000 in
theorem lz_z22 : lz_ct22.all (fun q => xx_okZ q.2 && Nat.ble 7 (q.2.1.length + 1)) = true := by decide +kernel
set_option maxRecDepth 1000000 in
set_option maxHeartbeats 40000000 in
theorem lz_z23 : lz_ct23.all (fun q => xx_okZ q.2 && Nat.ble 7 (q.2.1.length + 1)) = true := by decide +kernel
