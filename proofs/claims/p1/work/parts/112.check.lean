set_option maxRecDepth 1000000 in
set_option maxHeartbeats 40000000 in
theorem xo_X6_arePeople : xx_okM xx_tab xm_X6_arePeople = true := by decide +kernel
set_option maxRecDepth 1000000 in
set_option maxHeartbeats 40000000 in
theorem xo_X6_bet : xx_okM xx_tab xm_X6_bet = true := by decide +kernel
set_option maxRecDepth 1000000 in
set_option maxHeartbeats 40000000 in
theorem xo_X6_depth : xx_okM xx_tab xm_X6_depth = true := by decide +kernel
set_option maxRecDepth 1000000 in
set_option maxHeartbeats 40000000 in
theorem xo_X6_endNow : xx_okM xx_tab xm_X6_endNow = true := by decide +kernel
set_option maxRecDepth 1000000 in
set_option maxHeartbeats 40000000 in
theorem xo_X6_isWorld : xx_okM xx_tab xm_X6_isWorld = true := by decide +kernel
set_option maxRecDepth 1000000 in
set_option maxHeartbeats 40000000 in
theorem xo_X3_append : xx_okM xx_tab xm_X3_append = true := by decide +kernel
set_option maxRecDepth 1000000 in
set_option maxHeartbeats 40000000 in
theorem xo_J13_bitCount_95d88 : xx_okM xx_tab xm_J13_bitCount_95d88 = true := by decide +kernel
set_option maxRecDepth 1000000 in
set_option maxHeartbeats 40000000 in
theorem xo_X4_fitting : xx_okM xx_tab xm_X4_fitting = true := by decide +kernel
set_option maxRecDepth 1000000 in
set_option maxHeartbeats 40000000 in
theorem xo_X6_hint : xx_okM xx_tab xm_X6_hint = true := by decide +kernel
set_option maxRecDepth 1000000 in
set_option maxHeartbeats 40000000 in
theorem xo_X2_init : xx_okM xx_tab xm_X2_init = true := by decide +kernel
set_option maxRecDepth 1000000 in
set_option maxHeartbeats 40000000 in
theorem xo_X2_isUnit : xx_okM xx_tab xm_X2_isUnit = true := by decide +kernel
set_option maxRecDepth 1000000 in
set_option maxHeartbeats 40000000 in
theorem xo_X3_advance : xx_okM xx_tab xm_X3_advance = true := by decide +kernel
set_option maxRecDepth 1000000 in
set_option maxHeartbeats 40000000 in
theorem xo_X0_forget : xx_okM xx_tab xm_X0_forget = true := by decide +kernel
set_option maxRecDepth 1000000 in
set_option maxHeartbeats 40000000 in
theorem xo_X6_init : xx_okM xx_tab xm_X6_init = true := by decide +kernel
set_option maxRecDepth 1000000 in
set_option maxHeartbeats 40000000 in
theorem xo_X6_latest : xx_okM xx_tab xm_X6_latest = true := by decide +kernel
set_option maxRecDepth 1000000 in
set_option maxHeartbeats 40000000 in
theorem xo_X0_push : xx_okM xx_tab xm_X0_push = true := by decide +kernel
set_option maxRecDepth 1000000 in
set_option maxHeartbeats 40000000 in
theorem xo_X6_meeting : xx_okM xx_tab xm_X6_meeting = true := by decide +kernel
set_option maxRecDepth 1000000 in
set_option maxHeartbeats 40000000 in
theorem xo_X6_lowest : xx_okM xx_tab xm_X6_lowest = true := by decide +kernel
set_option maxRecDepth 1000000 in
set_option maxHeartbeats 40000000 in
theorem xo_X6_parts : xx_okM xx_tab xm_X6_parts = true := by decide +kernel
set_option maxRecDepth 1000000 in
set_option maxHeartbeats 40000000 in
theorem xo_X6_bestPegs : xx_okM xx_tab xm_X6_bestPegs = true := by decide +kernel
set_option maxRecDepth 1000000 in
set_option maxHeartbeats 40000000 in
theorem xo_X6_pin : xx_okM xx_tab xm_X6_pin = true := by decide +kernel
set_option maxRecDepth 1000000 in
set_option maxHeartbeats 40000000 in
theorem xo_X0_doAgain : xx_okM xx_tab xm_X0_doAgain = true := by decide +kernel
set_option maxRecDepth 1000000 in
set_option maxHeartbeats 40000000 in
theorem xo_X6_shared : xx_okM xx_tab xm_X6_shared = true := by decide +kernel
set_option maxRecDepth 1000000 in
set_option maxHeartbeats 40000000 in
theorem xo_X6_suspected : xx_okM xx_tab xm_X6_suspected = true := by decide +kernel
set_option maxRecDepth 1000000 in
set_option maxHeartbeats 40000000 in
theorem xo_X0_takeBack : xx_okM xx_tab xm_X0_takeBack = true := by decide +kernel
set_option maxRecDepth 1000000 in
set_option maxHeartbeats 40000000 in
theorem xo_X6_untell : xx_okM xx_tab xm_X6_untell = true := by decide +kernel
set_option maxRecDepth 1000000 in
set_option maxHeartbeats 40000000 in
theorem xo_X6_wisest : xx_okM xx_tab xm_X6_wisest = true := by decide +kernel
set_option maxRecDepth 1000000 in
set_option maxHeartbeats 40000000 in
theorem xo_X6_wronged : xx_okM xx_tab xm_X6_wronged = true := by decide +kernel
set_option maxRecDepth 1000000 in
set_option maxHeartbeats 40000000 in
theorem xo_X7_isPerson : xx_okM xx_tab xm_X7_isPerson = true := by decide +kernel
set_option maxRecDepth 1000000 in
set_option maxHeartbeats 40000000 in
theorem xo_X7_bet : xx_okM xx_tab xm_X7_bet = true := by decide +kernel
set_option maxRecDepth 1000000 in
set_option maxHeartbeats 40000000 in
theorem xo_X7_end : xx_okM xx_tab xm_X7_end = true := by decide +kernel
set_option maxRecDepth 1000000 in
set_option maxHeartbeats 40000000 in
theorem xo_X7_goMorning : xx_okM xx_tab xm_X7_goMorning = true := by decide +kernel
set_option maxRecDepth 1000000 in
set_option maxHeartbeats 40000000 in
theorem xo_X7_endNow : xx_okM xx_tab xm_X7_endNow = true := by decide +kernel
set_option maxRecDepth 1000000 in
set_option maxHeartbeats 40000000 in
theorem xo_X7_isWorld : xx_okM xx_tab xm_X7_isWorld = true := by decide +kernel
set_option maxRecDepth 1000000 in
set_option maxHeartbeats 40000000 in
theorem xo_X7_feed : xx_okM xx_tab xm_X7_feed = true := by decide +kernel
set_option maxRecDepth 1000000 in
set_option maxHeartbeats 40000000 in
theorem xo_X7_bitsOf : xx_okM xx_tab xm_X7_bitsOf = true := by decide +kernel
set_option maxRecDepth 1000000 in
set_option maxHeartbeats 40000000 in
theorem xo_X7_fits : xx_okM xx_tab xm_X7_fits = true := by decide +kernel
set_option maxRecDepth 1000000 in
set_option maxHeartbeats 40000000 in
theorem xo_X7_image : xx_okM xx_tab xm_X7_image = true := by decide +kernel
set_option maxRecDepth 1000000 in
set_option maxHeartbeats 40000000 in
theorem xo_X7_knows : xx_okM xx_tab xm_X7_knows = true := by decide +kernel
set_option maxRecDepth 1000000 in
set_option maxHeartbeats 40000000 in
theorem xo_X7_law : xx_okM xx_tab xm_X7_law = true := by decide +kernel
set_option maxRecDepth 1000000 in
set_option maxHeartbeats 40000000 in
theorem xo_X7_keepAct : xx_okM xx_tab xm_X7_keepAct = true := by decide +kernel
set_option maxRecDepth 1000000 in
set_option maxHeartbeats 40000000 in
theorem xo_X7_morning : xx_okM xx_tab xm_X7_morning = true := by decide +kernel
set_option maxRecDepth 1000000 in
set_option maxHeartbeats 40000000 in
theorem xo_X7_odds : xx_okM xx_tab xm_X7_odds = true := by decide +kernel
set_option maxRecDepth 1000000 in
set_option maxHeartbeats 40000000 in
theorem xo_X7_isGood : xx_okM xx_tab xm_X7_isGood = true := by decide +kernel
set_option maxRecDepth 1000000 in
set_option maxHeartbeats 40000000 in
theorem xo_X7_endPegged : xx_okM xx_tab xm_X7_endPegged = true := by decide +kernel
set_option maxRecDepth 1000000 in
set_option maxHeartbeats 40000000 in
theorem xo_X7_person : xx_okM xx_tab xm_X7_person = true := by decide +kernel
set_option maxRecDepth 1000000 in
set_option maxHeartbeats 40000000 in
theorem xo_X7_reach : xx_okM xx_tab xm_X7_reach = true := by decide +kernel
set_option maxRecDepth 1000000 in
set_option maxHeartbeats 40000000 in
theorem xo_X7_shared : xx_okM xx_tab xm_X7_shared = true := by decide +kernel
set_option maxRecDepth 1000000 in
set_option maxHeartbeats 40000000 in
theorem xo_X7_suspected : xx_okM xx_tab xm_X7_suspected = true := by decide +kernel
set_option maxRecDepth 1000000 in
set_option maxHeartbeats 40000000 in
theorem xo_X7_undo : xx_okM xx_tab xm_X7_undo = true := by decide +kernel
set_option maxRecDepth 1000000 in
set_option maxHeartbeats 40000000 in
theorem xo_X7_will : xx_okM xx_tab xm_X7_will = true := by decide +kernel
set_option maxRecDepth 1000000 in
set_option maxHeartbeats 40000000 in
theorem xo_X7_worldsAt : xx_okM xx_tab xm_X7_worldsAt = true := by decide +kernel
