set_option maxRecDepth 1000000 in
set_option maxHeartbeats 40000000 in
theorem xo_X6_alike : xx_okM xx_tab xm_X6_alike = true := by decide +kernel
set_option maxRecDepth 1000000 in
set_option maxHeartbeats 40000000 in
theorem xo_X6_oneOrNumber : xx_okM xx_tab xm_X6_oneOrNumber = true := by decide +kernel
set_option maxRecDepth 1000000 in
set_option maxHeartbeats 40000000 in
theorem xo_X6_end : xx_okM xx_tab xm_X6_end = true := by decide +kernel
set_option maxRecDepth 1000000 in
set_option maxHeartbeats 40000000 in
theorem xo_X6_ending : xx_okM xx_tab xm_X6_ending = true := by decide +kernel
set_option maxRecDepth 1000000 in
set_option maxHeartbeats 40000000 in
theorem xo_X6_isPossible : xx_okM xx_tab xm_X6_isPossible = true := by decide +kernel
set_option maxRecDepth 1000000 in
set_option maxHeartbeats 40000000 in
theorem xo_X6_feed : xx_okM xx_tab xm_X6_feed = true := by decide +kernel
set_option maxRecDepth 1000000 in
set_option maxHeartbeats 40000000 in
theorem xo_X5_startDay : xx_okM xx_tab xm_X5_startDay = true := by decide +kernel
set_option maxRecDepth 1000000 in
set_option maxHeartbeats 40000000 in
theorem xo_X6_fits : xx_okM xx_tab xm_X6_fits = true := by decide +kernel
set_option maxRecDepth 1000000 in
set_option maxHeartbeats 40000000 in
theorem xo_X6_image : xx_okM xx_tab xm_X6_image = true := by decide +kernel
set_option maxRecDepth 1000000 in
set_option maxHeartbeats 40000000 in
theorem xo_X5_init : xx_okM xx_tab xm_X5_init = true := by decide +kernel
set_option maxRecDepth 1000000 in
set_option maxHeartbeats 40000000 in
theorem xo_J6_bitCount_0f7a4 : xx_okM xx_tab xm_J6_bitCount_0f7a4 = true := by decide +kernel
set_option maxRecDepth 1000000 in
set_option maxHeartbeats 40000000 in
theorem xo_X5_clear : xx_okM xx_tab xm_X5_clear = true := by decide +kernel
set_option maxRecDepth 1000000 in
set_option maxHeartbeats 40000000 in
theorem xo_X4_forget : xx_okM xx_tab xm_X4_forget = true := by decide +kernel
set_option maxRecDepth 1000000 in
set_option maxHeartbeats 40000000 in
theorem xo_X6_knows : xx_okM xx_tab xm_X6_knows = true := by decide +kernel
set_option maxRecDepth 1000000 in
set_option maxHeartbeats 40000000 in
theorem xo_X6_law : xx_okM xx_tab xm_X6_law = true := by decide +kernel
set_option maxRecDepth 1000000 in
set_option maxHeartbeats 40000000 in
theorem xo_X0_keep : xx_okM xx_tab xm_X0_keep = true := by decide +kernel
set_option maxRecDepth 1000000 in
set_option maxHeartbeats 40000000 in
theorem xo_X6_foggyDawn : xx_okM xx_tab xm_X6_foggyDawn = true := by decide +kernel
set_option maxRecDepth 1000000 in
set_option maxHeartbeats 40000000 in
theorem xo_X6_odds : xx_okM xx_tab xm_X6_odds = true := by decide +kernel
set_option maxRecDepth 1000000 in
set_option maxHeartbeats 40000000 in
theorem xo_X6_peg : xx_okM xx_tab xm_X6_peg = true := by decide +kernel
set_option maxRecDepth 1000000 in
set_option maxHeartbeats 40000000 in
theorem xo_X6_countOrSet : xx_okM xx_tab xm_X6_countOrSet = true := by decide +kernel
set_option maxRecDepth 1000000 in
set_option maxHeartbeats 40000000 in
theorem xo_X6_possible : xx_okM xx_tab xm_X6_possible = true := by decide +kernel
set_option maxRecDepth 1000000 in
set_option maxHeartbeats 40000000 in
theorem xo_X6_redo : xx_okM xx_tab xm_X6_redo = true := by decide +kernel
set_option maxRecDepth 1000000 in
set_option maxHeartbeats 40000000 in
theorem xo_X6_sign : xx_okM xx_tab xm_X6_sign = true := by decide +kernel
set_option maxRecDepth 1000000 in
set_option maxHeartbeats 40000000 in
theorem xo_X6_tale : xx_okM xx_tab xm_X6_tale = true := by decide +kernel
set_option maxRecDepth 1000000 in
set_option maxHeartbeats 40000000 in
theorem xo_X6_undo : xx_okM xx_tab xm_X6_undo = true := by decide +kernel
set_option maxRecDepth 1000000 in
set_option maxHeartbeats 40000000 in
theorem xo_X6_canWhisper : xx_okM xx_tab xm_X6_canWhisper = true := by decide +kernel
set_option maxRecDepth 1000000 in
set_option maxHeartbeats 40000000 in
theorem xo_X6_within : xx_okM xx_tab xm_X6_within = true := by decide +kernel
set_option maxRecDepth 1000000 in
set_option maxHeartbeats 40000000 in
theorem xo_X7_folk : xx_okM xx_tab xm_X7_folk = true := by decide +kernel
set_option maxRecDepth 1000000 in
set_option maxHeartbeats 40000000 in
theorem xo_X7_alike : xx_okM xx_tab xm_X7_alike = true := by decide +kernel
set_option maxRecDepth 1000000 in
set_option maxHeartbeats 40000000 in
theorem xo_X7_call : xx_okM xx_tab xm_X7_call = true := by decide +kernel
set_option maxRecDepth 1000000 in
set_option maxHeartbeats 40000000 in
theorem xo_X7_bringBack : xx_okM xx_tab xm_X7_bringBack = true := by decide +kernel
set_option maxRecDepth 1000000 in
set_option maxHeartbeats 40000000 in
theorem xo_X7_behind : xx_okM xx_tab xm_X7_behind = true := by decide +kernel
set_option maxRecDepth 1000000 in
set_option maxHeartbeats 40000000 in
theorem xo_X7_orNone : xx_okM xx_tab xm_X7_orNone = true := by decide +kernel
set_option maxRecDepth 1000000 in
set_option maxHeartbeats 40000000 in
theorem xo_X7_mayBe : xx_okM xx_tab xm_X7_mayBe = true := by decide +kernel
set_option maxRecDepth 1000000 in
set_option maxHeartbeats 40000000 in
theorem xo_X7_first : xx_okM xx_tab xm_X7_first = true := by decide +kernel
set_option maxRecDepth 1000000 in
set_option maxHeartbeats 40000000 in
theorem xo_X7_signOf : xx_okM xx_tab xm_X7_signOf = true := by decide +kernel
set_option maxRecDepth 1000000 in
set_option maxHeartbeats 40000000 in
theorem xo_X7_group : xx_okM xx_tab xm_X7_group = true := by decide +kernel
set_option maxRecDepth 1000000 in
set_option maxHeartbeats 40000000 in
theorem xo_X7_clearBank : xx_okM xx_tab xm_X7_clearBank = true := by decide +kernel
set_option maxRecDepth 1000000 in
set_option maxHeartbeats 40000000 in
theorem xo_X7_knowsIn : xx_okM xx_tab xm_X7_knowsIn = true := by decide +kernel
set_option maxRecDepth 1000000 in
set_option maxHeartbeats 40000000 in
theorem xo_X7_least : xx_okM xx_tab xm_X7_least = true := by decide +kernel
set_option maxRecDepth 1000000 in
set_option maxHeartbeats 40000000 in
theorem xo_X7_measure : xx_okM xx_tab xm_X7_measure = true := by decide +kernel
set_option maxRecDepth 1000000 in
set_option maxHeartbeats 40000000 in
theorem xo_X7_next : xx_okM xx_tab xm_X7_next = true := by decide +kernel
set_option maxRecDepth 1000000 in
set_option maxHeartbeats 40000000 in
theorem xo_X7_open : xx_okM xx_tab xm_X7_open = true := by decide +kernel
set_option maxRecDepth 1000000 in
set_option maxHeartbeats 40000000 in
theorem xo_X7_parish : xx_okM xx_tab xm_X7_parish = true := by decide +kernel
set_option maxRecDepth 1000000 in
set_option maxHeartbeats 40000000 in
theorem xo_X7_isLess : xx_okM xx_tab xm_X7_isLess = true := by decide +kernel
set_option maxRecDepth 1000000 in
set_option maxHeartbeats 40000000 in
theorem xo_X7_pin : xx_okM xx_tab xm_X7_pin = true := by decide +kernel
set_option maxRecDepth 1000000 in
set_option maxHeartbeats 40000000 in
theorem xo_X7_redo : xx_okM xx_tab xm_X7_redo = true := by decide +kernel
set_option maxRecDepth 1000000 in
set_option maxHeartbeats 40000000 in
theorem xo_X7_sign : xx_okM xx_tab xm_X7_sign = true := by decide +kernel
set_option maxRecDepth 1000000 in
set_option maxHeartbeats 40000000 in
theorem xo_X7_tale : xx_okM xx_tab xm_X7_tale = true := by decide +kernel
set_option maxRecDepth 1000000 in
set_option maxHeartbeats 40000000 in
theorem xo_X7_unsure : xx_okM xx_tab xm_X7_unsure = true := by decide +kernel
set_option maxRecDepth 1000000 in
set_option maxHeartbeats 40000000 in
theorem xo_X7_wisest : xx_okM xx_tab xm_X7_wisest = true := by decide +kernel
set_option maxRecDepth 1000000 in
set_option maxHeartbeats 40000000 in
theorem xo_X7_wronged : xx_okM xx_tab xm_X7_wronged = true := by decide +kernel
