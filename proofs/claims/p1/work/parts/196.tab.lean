theorem xx_tabk : ∀ M ∈ xx_tab, xx_okM xx_tab M = true := by
  have h : xx_tab.all (xx_okM xx_tab) = true := by
    show (xx_tb0 ++ (xx_tb1 ++ (xx_tb2 ++ (xx_tb3 ++ (xx_tb4 ++ (xx_tb5 ++ (xx_tb6 ++ (xx_tb7 ++ (xx_tb8 ++ (xx_tb9 ++ (xx_tb10))))))))))).all (xx_okM xx_tab) = true
    simp only [List.all_append, xx_tbk0, xx_tbk1, xx_tbk2, xx_tbk3, xx_tbk4, xx_tbk5, xx_tbk6, xx_tbk7, xx_tbk8, xx_tbk9, xx_tbk10, Bool.and_self]
  exact List.all_eq_true.mp h
