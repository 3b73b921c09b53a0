set_option maxRecDepth 1000000 in
set_option maxHeartbeats 40000000 in
theorem xx_tbk1 : xx_tb1.all (xx_okM xx_tab) = true := by decide +kernel
set_option maxRecDepth 1000000 in
set_option maxHeartbeats 40000000 in
theorem xx_tbk3 : xx_tb3.all (xx_okM xx_tab) = true := by decide +kernel
set_option maxRecDepth 1000000 in
set_option maxHeartbeats 40000000 in
theorem xx_tbk5 : xx_tb5.all (xx_okM xx_tab) = true := by decide +kernel
set_option maxRecDepth 1000000 in
set_option maxHeartbeats 40000000 in
theorem xx_tbk7 : xx_tb7.all (xx_okM xx_tab) = true := by decide +kernel
set_option maxRecDepth 1000000 in
set_option maxHeartbeats 40000000 in
theorem xx_tbk9 : xx_tb9.all (xx_okM xx_tab) = true := by decide +kernel
set_option maxRecDepth 1000000 in
set_option maxHeartbeats 40000000 in
theorem xx_lawk : xx_okM xx_tab xm_LAW = true := by decide +kernel
theorem xx_tabk : ∀ M ∈ xx_tab, xx_okM xx_tab M = true := by
  have h : xx_tab.all (xx_okM xx_tab) = true := by
    unfold xx_tab
    simp only [List.all_append, xx_tbk0, xx_tbk1, xx_tbk2, xx_tbk3, xx_tbk4, xx_tbk5, xx_tbk6, xx_tbk7, xx_tbk8, xx_tbk9, xx_tbk10, Bool.and_self]
  exact List.all_eq_true.mp h
