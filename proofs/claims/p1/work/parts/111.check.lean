set_option maxRecDepth 1000000 in
set_option maxHeartbeats 40000000 in
theorem xo_X6_isPerson : xx_okM xx_tab xm_X6_isPerson = true := by decide +kernel
set_option maxRecDepth 1000000 in
set_option maxHeartbeats 40000000 in
theorem xo_X6_back : xx_okM xx_tab xm_X6_back = true := by decide +kernel
set_option maxRecDepth 1000000 in
set_option maxHeartbeats 40000000 in
theorem xo_X6_common : xx_okM xx_tab xm_X6_common = true := by decide +kernel
set_option maxRecDepth 1000000 in
set_option maxHeartbeats 40000000 in
theorem xo_X6_endOf : xx_okM xx_tab xm_X6_endOf = true := by decide +kernel
set_option maxRecDepth 1000000 in
set_option maxHeartbeats 40000000 in
theorem xo_X6_has : xx_okM xx_tab xm_X6_has = true := by decide +kernel
set_option maxRecDepth 1000000 in
set_option maxHeartbeats 40000000 in
theorem xo_X6_fault : xx_okM xx_tab xm_X6_fault = true := by decide +kernel
set_option maxRecDepth 1000000 in
set_option maxHeartbeats 40000000 in
theorem xo_X6_first : xx_okM xx_tab xm_X6_first = true := by decide +kernel
set_option maxRecDepth 1000000 in
set_option maxHeartbeats 40000000 in
theorem xo_X4_followAll : xx_okM xx_tab xm_X4_followAll = true := by decide +kernel
set_option maxRecDepth 1000000 in
set_option maxHeartbeats 40000000 in
theorem xo_X6_twoOrEnd : xx_okM xx_tab xm_X6_twoOrEnd = true := by decide +kernel
set_option maxRecDepth 1000000 in
set_option maxHeartbeats 40000000 in
theorem xo_X0_init : xx_okM xx_tab xm_X0_init = true := by decide +kernel
set_option maxRecDepth 1000000 in
set_option maxHeartbeats 40000000 in
theorem xo_X2_add : xx_okM xx_tab xm_X2_add = true := by decide +kernel
set_option maxRecDepth 1000000 in
set_option maxHeartbeats 40000000 in
theorem xo_X2_valueIn : xx_okM xx_tab xm_X2_valueIn = true := by decide +kernel
set_option maxRecDepth 1000000 in
set_option maxHeartbeats 40000000 in
theorem xo_X4_init : xx_okM xx_tab xm_X4_init = true := by decide +kernel
set_option maxRecDepth 1000000 in
set_option maxHeartbeats 40000000 in
theorem xo_X6_startAnew : xx_okM xx_tab xm_X6_startAnew = true := by decide +kernel
set_option maxRecDepth 1000000 in
set_option maxHeartbeats 40000000 in
theorem xo_X6_later : xx_okM xx_tab xm_X6_later = true := by decide +kernel
set_option maxRecDepth 1000000 in
set_option maxHeartbeats 40000000 in
theorem xo_X6_lies : xx_okM xx_tab xm_X6_lies = true := by decide +kernel
set_option maxRecDepth 1000000 in
set_option maxHeartbeats 40000000 in
theorem xo_X6_measure : xx_okM xx_tab xm_X6_measure = true := by decide +kernel
set_option maxRecDepth 1000000 in
set_option maxHeartbeats 40000000 in
theorem xo_X6_next : xx_okM xx_tab xm_X6_next = true := by decide +kernel
set_option maxRecDepth 1000000 in
set_option maxHeartbeats 40000000 in
theorem xo_X6_parish : xx_okM xx_tab xm_X6_parish = true := by decide +kernel
set_option maxRecDepth 1000000 in
set_option maxHeartbeats 40000000 in
theorem xo_X6_likeTrue : xx_okM xx_tab xm_X6_likeTrue = true := by decide +kernel
set_option maxRecDepth 1000000 in
set_option maxHeartbeats 40000000 in
theorem xo_X6_person : xx_okM xx_tab xm_X6_person = true := by decide +kernel
set_option maxRecDepth 1000000 in
set_option maxHeartbeats 40000000 in
theorem xo_X6_reach : xx_okM xx_tab xm_X6_reach = true := by decide +kernel
set_option maxRecDepth 1000000 in
set_option maxHeartbeats 40000000 in
theorem xo_X6_settled : xx_okM xx_tab xm_X6_settled = true := by decide +kernel
set_option maxRecDepth 1000000 in
set_option maxHeartbeats 40000000 in
theorem xo_X6_sure : xx_okM xx_tab xm_X6_sure = true := by decide +kernel
set_option maxRecDepth 1000000 in
set_option maxHeartbeats 40000000 in
theorem xo_X6_thinks : xx_okM xx_tab xm_X6_thinks = true := by decide +kernel
set_option maxRecDepth 1000000 in
set_option maxHeartbeats 40000000 in
theorem xo_X4_withdraw : xx_okM xx_tab xm_X4_withdraw = true := by decide +kernel
set_option maxRecDepth 1000000 in
set_option maxHeartbeats 40000000 in
theorem xo_X6_will : xx_okM xx_tab xm_X6_will = true := by decide +kernel
set_option maxRecDepth 1000000 in
set_option maxHeartbeats 40000000 in
theorem xo_X6_worldsAt : xx_okM xx_tab xm_X6_worldsAt = true := by decide +kernel
set_option maxRecDepth 1000000 in
set_option maxHeartbeats 40000000 in
theorem xo_X7_isIn : xx_okM xx_tab xm_X7_isIn = true := by decide +kernel
set_option maxRecDepth 1000000 in
set_option maxHeartbeats 40000000 in
theorem xo_X7_back : xx_okM xx_tab xm_X7_back = true := by decide +kernel
set_option maxRecDepth 1000000 in
set_option maxHeartbeats 40000000 in
theorem xo_X7_depth : xx_okM xx_tab xm_X7_depth = true := by decide +kernel
set_option maxRecDepth 1000000 in
set_option maxHeartbeats 40000000 in
theorem xo_X7_ownIn : xx_okM xx_tab xm_X7_ownIn = true := by decide +kernel
set_option maxRecDepth 1000000 in
set_option maxHeartbeats 40000000 in
theorem xo_X7_keepNow : xx_okM xx_tab xm_X7_keepNow = true := by decide +kernel
set_option maxRecDepth 1000000 in
set_option maxHeartbeats 40000000 in
theorem xo_X7_fateOf : xx_okM xx_tab xm_X7_fateOf = true := by decide +kernel
set_option maxRecDepth 1000000 in
set_option maxHeartbeats 40000000 in
theorem xo_X7_fault : xx_okM xx_tab xm_X7_fault = true := by decide +kernel
set_option maxRecDepth 1000000 in
set_option maxHeartbeats 40000000 in
theorem xo_X7_bit : xx_okM xx_tab xm_X7_bit = true := by decide +kernel
set_option maxRecDepth 1000000 in
set_option maxHeartbeats 40000000 in
theorem xo_X7_layOwns : xx_okM xx_tab xm_X7_layOwns = true := by decide +kernel
set_option maxRecDepth 1000000 in
set_option maxHeartbeats 40000000 in
theorem xo_X7_hint : xx_okM xx_tab xm_X7_hint = true := by decide +kernel
set_option maxRecDepth 1000000 in
set_option maxHeartbeats 40000000 in
theorem xo_X7_init : xx_okM xx_tab xm_X7_init = true := by decide +kernel
set_option maxRecDepth 1000000 in
set_option maxHeartbeats 40000000 in
theorem xo_X7_latest : xx_okM xx_tab xm_X7_latest = true := by decide +kernel
set_option maxRecDepth 1000000 in
set_option maxHeartbeats 40000000 in
theorem xo_X7_countMay : xx_okM xx_tab xm_X7_countMay = true := by decide +kernel
set_option maxRecDepth 1000000 in
set_option maxHeartbeats 40000000 in
theorem xo_X7_goInEarnest : xx_okM xx_tab xm_X7_goInEarnest = true := by decide +kernel
set_option maxRecDepth 1000000 in
set_option maxHeartbeats 40000000 in
theorem xo_X7_power : xx_okM xx_tab xm_X7_power = true := by decide +kernel
set_option maxRecDepth 1000000 in
set_option maxHeartbeats 40000000 in
theorem xo_X7_goOn : xx_okM xx_tab xm_X7_goOn = true := by decide +kernel
set_option maxRecDepth 1000000 in
set_option maxHeartbeats 40000000 in
theorem xo_X7_peg : xx_okM xx_tab xm_X7_peg = true := by decide +kernel
set_option maxRecDepth 1000000 in
set_option maxHeartbeats 40000000 in
theorem xo_X7_pegs : xx_okM xx_tab xm_X7_pegs = true := by decide +kernel
set_option maxRecDepth 1000000 in
set_option maxHeartbeats 40000000 in
theorem xo_X7_quiet : xx_okM xx_tab xm_X7_quiet = true := by decide +kernel
set_option maxRecDepth 1000000 in
set_option maxHeartbeats 40000000 in
theorem xo_X7_settled : xx_okM xx_tab xm_X7_settled = true := by decide +kernel
set_option maxRecDepth 1000000 in
set_option maxHeartbeats 40000000 in
theorem xo_X7_sure : xx_okM xx_tab xm_X7_sure = true := by decide +kernel
set_option maxRecDepth 1000000 in
set_option maxHeartbeats 40000000 in
theorem xo_X7_thinks : xx_okM xx_tab xm_X7_thinks = true := by decide +kernel
set_option maxRecDepth 1000000 in
set_option maxHeartbeats 40000000 in
theorem xo_X7_whisper : xx_okM xx_tab xm_X7_whisper = true := by decide +kernel
set_option maxRecDepth 1000000 in
set_option maxHeartbeats 40000000 in
theorem xo_X7_worlds : xx_okM xx_tab xm_X7_worlds = true := by decide +kernel
