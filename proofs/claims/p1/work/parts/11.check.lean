set_option maxRecDepth 1000000 in
set_option maxHeartbeats 40000000 in
theorem xx_tbk0 : xx_tb0.all (xx_okM xx_tab) = true := by decide +kernel
set_option maxRecDepth 1000000 in
set_option maxHeartbeats 40000000 in
theorem xx_tbk2 : xx_tb2.all (xx_okM xx_tab) = true := by decide +kernel
set_option maxRecDepth 1000000 in
set_option maxHeartbeats 40000000 in
theorem xx_tbk4 : xx_tb4.all (xx_okM xx_tab) = true := by decide +kernel
set_option maxRecDepth 1000000 in
set_option maxHeartbeats 40000000 in
theorem xx_tbk6 : xx_tb6.all (xx_okM xx_tab) = true := by decide +kernel
set_option maxRecDepth 1000000 in
set_option maxHeartbeats 40000000 in
theorem xx_tbk8 : xx_tb8.all (xx_okM xx_tab) = true := by decide +kernel
set_option maxRecDepth 1000000 in
set_option maxHeartbeats 40000000 in
theorem xx_tbk10 : xx_tb10.all (xx_okM xx_tab) = true := by decide +kernel
