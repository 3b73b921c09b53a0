set_option maxRecDepth 1000000 in
set_option maxHeartbeats 40000000 in
theorem xo_X1_init : xx_okM xx_tab xm_X1_init = true := by decide +kernel
set_option maxRecDepth 1000000 in
set_option maxHeartbeats 40000000 in
theorem xo_X0_init : xx_okM xx_tab xm_X0_init = true := by decide +kernel
set_option maxRecDepth 1000000 in
set_option maxHeartbeats 40000000 in
theorem xo_X2_init : xx_okM xx_tab xm_X2_init = true := by decide +kernel
set_option maxRecDepth 1000000 in
set_option maxHeartbeats 40000000 in
theorem xo_X5_init : xx_okM xx_tab xm_X5_init = true := by decide +kernel
set_option maxRecDepth 1000000 in
set_option maxHeartbeats 40000000 in
theorem xo_X3_init : xx_okM xx_tab xm_X3_init = true := by decide +kernel
set_option maxRecDepth 1000000 in
set_option maxHeartbeats 40000000 in
theorem xo_X2_add : xx_okM xx_tab xm_X2_add = true := by decide +kernel
set_option maxRecDepth 1000000 in
set_option maxHeartbeats 40000000 in
theorem xo_X2_isUnit : xx_okM xx_tab xm_X2_isUnit = true := by decide +kernel
set_option maxRecDepth 1000000 in
set_option maxHeartbeats 40000000 in
theorem xo_J6_bitCount_0f7a4 : xx_okM xx_tab xm_J6_bitCount_0f7a4 = true := by decide +kernel
set_option maxRecDepth 1000000 in
set_option maxHeartbeats 40000000 in
theorem xo_X2_unitIn : xx_okM xx_tab xm_X2_unitIn = true := by decide +kernel
set_option maxRecDepth 1000000 in
set_option maxHeartbeats 40000000 in
theorem xo_X2_valueIn : xx_okM xx_tab xm_X2_valueIn = true := by decide +kernel
set_option maxRecDepth 1000000 in
set_option maxHeartbeats 40000000 in
theorem xo_X3_advance : xx_okM xx_tab xm_X3_advance = true := by decide +kernel
set_option maxRecDepth 1000000 in
set_option maxHeartbeats 40000000 in
theorem xo_X5_clear : xx_okM xx_tab xm_X5_clear = true := by decide +kernel
set_option maxRecDepth 1000000 in
set_option maxHeartbeats 40000000 in
theorem xo_X3_read : xx_okM xx_tab xm_X3_read = true := by decide +kernel
set_option maxRecDepth 1000000 in
set_option maxHeartbeats 40000000 in
theorem xo_X4_init : xx_okM xx_tab xm_X4_init = true := by decide +kernel
set_option maxRecDepth 1000000 in
set_option maxHeartbeats 40000000 in
theorem xo_X0_forget : xx_okM xx_tab xm_X0_forget = true := by decide +kernel
set_option maxRecDepth 1000000 in
set_option maxHeartbeats 40000000 in
theorem xo_X4_forget : xx_okM xx_tab xm_X4_forget = true := by decide +kernel
set_option maxRecDepth 1000000 in
set_option maxHeartbeats 40000000 in
theorem xo_X1_copyFrom : xx_okM xx_tab xm_X1_copyFrom = true := by decide +kernel
set_option maxRecDepth 1000000 in
set_option maxHeartbeats 40000000 in
theorem xo_X5_copyFrom : xx_okM xx_tab xm_X5_copyFrom = true := by decide +kernel
set_option maxRecDepth 1000000 in
set_option maxHeartbeats 40000000 in
theorem xo_X5_startDay : xx_okM xx_tab xm_X5_startDay = true := by decide +kernel
set_option maxRecDepth 1000000 in
set_option maxHeartbeats 40000000 in
theorem xo_X6_startAnew : xx_okM xx_tab xm_X6_startAnew = true := by decide +kernel
set_option maxRecDepth 1000000 in
set_option maxHeartbeats 40000000 in
theorem xo_X6_init : xx_okM xx_tab xm_X6_init = true := by decide +kernel
set_option maxRecDepth 1000000 in
set_option maxHeartbeats 40000000 in
theorem xo_X7_clearBank : xx_okM xx_tab xm_X7_clearBank = true := by decide +kernel
set_option maxRecDepth 1000000 in
set_option maxHeartbeats 40000000 in
theorem xo_X7_folk : xx_okM xx_tab xm_X7_folk = true := by decide +kernel
set_option maxRecDepth 1000000 in
set_option maxHeartbeats 40000000 in
theorem xo_X7_every : xx_okM xx_tab xm_X7_every = true := by decide +kernel
set_option maxRecDepth 1000000 in
set_option maxHeartbeats 40000000 in
theorem xo_X7_bit : xx_okM xx_tab xm_X7_bit = true := by decide +kernel
set_option maxRecDepth 1000000 in
set_option maxHeartbeats 40000000 in
theorem xo_X7_bitsOf : xx_okM xx_tab xm_X7_bitsOf = true := by decide +kernel
set_option maxRecDepth 1000000 in
set_option maxHeartbeats 40000000 in
theorem xo_X7_signOf : xx_okM xx_tab xm_X7_signOf = true := by decide +kernel
set_option maxRecDepth 1000000 in
set_option maxHeartbeats 40000000 in
theorem xo_X7_layTold : xx_okM xx_tab xm_X7_layTold = true := by decide +kernel
set_option maxRecDepth 1000000 in
set_option maxHeartbeats 40000000 in
theorem xo_X7_startAnew : xx_okM xx_tab xm_X7_startAnew = true := by decide +kernel
set_option maxRecDepth 1000000 in
set_option maxHeartbeats 40000000 in
theorem xo_X7_init : xx_okM xx_tab xm_X7_init = true := by decide +kernel
set_option maxRecDepth 1000000 in
set_option maxHeartbeats 40000000 in
theorem xx_lawk : xx_okM xx_tab xm_LAW = true := by decide +kernel
theorem xx_tbk0 : xx_tb0.all (xx_okM xx_tab) = true := by
  unfold xx_tb0
  simp only [List.all_cons, List.all_nil, xo_X1_init, xo_X0_init, xo_X2_init, xo_X5_init, xo_X3_init, xo_X2_add, xo_X2_isUnit, xo_J6_bitCount_0f7a4, xo_X2_unitIn, xo_X2_valueIn, xo_X3_advance, xo_X5_clear, xo_X3_read, xo_X4_init, xo_X0_forget, xo_X4_forget, xo_X1_copyFrom, xo_X5_copyFrom, xo_X5_startDay, xo_X6_startAnew, Bool.and_self]
theorem xx_tbk1 : xx_tb1.all (xx_okM xx_tab) = true := by
  unfold xx_tb1
  simp only [List.all_cons, List.all_nil, xo_X6_init, xo_X7_clearBank, xo_X7_folk, xo_X7_every, xo_X7_bit, xo_X7_bitsOf, xo_X7_signOf, xo_X7_layTold, xo_X7_startAnew, xo_X7_init, Bool.and_self]
theorem xx_tabk : ∀ M ∈ xx_tab, xx_okM xx_tab M = true := by
  intro M hM
  have h : xx_tab.all (xx_okM xx_tab) = true := by
    show (xx_tb0 ++ (xx_tb1)).all (xx_okM xx_tab) = true
    simp only [List.all_append, xx_tbk0, xx_tbk1, Bool.and_self]
  exact List.all_eq_true.mp h M hM
set_option maxRecDepth 1000000 in
set_option maxHeartbeats 40000000 in
theorem lz_z0 : xx_okZ lz_0 = true := by decide +kernel
