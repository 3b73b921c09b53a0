set_option maxRecDepth 1000000 in
set_option maxHeartbeats 40000000 in
theorem xo_X6_about : xx_okM xx_tab xm_X6_about = true := by decide +kernel
set_option maxRecDepth 1000000 in
set_option maxHeartbeats 40000000 in
theorem xo_X6_ask : xx_okM xx_tab xm_X6_ask = true := by decide +kernel
set_option maxRecDepth 1000000 in
set_option maxHeartbeats 40000000 in
theorem xo_X6_call : xx_okM xx_tab xm_X6_call = true := by decide +kernel
set_option maxRecDepth 1000000 in
set_option maxHeartbeats 40000000 in
theorem xo_X1_copyFrom : xx_okM xx_tab xm_X1_copyFrom = true := by decide +kernel
set_option maxRecDepth 1000000 in
set_option maxHeartbeats 40000000 in
theorem xo_X6_fateOf : xx_okM xx_tab xm_X6_fateOf = true := by decide +kernel
set_option maxRecDepth 1000000 in
set_option maxHeartbeats 40000000 in
theorem xo_X6_fate : xx_okM xx_tab xm_X6_fate = true := by decide +kernel
set_option maxRecDepth 1000000 in
set_option maxHeartbeats 40000000 in
theorem xo_X6_dawn : xx_okM xx_tab xm_X6_dawn = true := by decide +kernel
set_option maxRecDepth 1000000 in
set_option maxHeartbeats 40000000 in
theorem xo_X4_follow : xx_okM xx_tab xm_X4_follow = true := by decide +kernel
set_option maxRecDepth 1000000 in
set_option maxHeartbeats 40000000 in
theorem xo_X6_group : xx_okM xx_tab xm_X6_group = true := by decide +kernel
set_option maxRecDepth 1000000 in
set_option maxHeartbeats 40000000 in
theorem xo_X1_init : xx_okM xx_tab xm_X1_init = true := by decide +kernel
set_option maxRecDepth 1000000 in
set_option maxHeartbeats 40000000 in
theorem xo_X3_init : xx_okM xx_tab xm_X3_init = true := by decide +kernel
set_option maxRecDepth 1000000 in
set_option maxHeartbeats 40000000 in
theorem xo_X2_unitIn : xx_okM xx_tab xm_X2_unitIn = true := by decide +kernel
set_option maxRecDepth 1000000 in
set_option maxHeartbeats 40000000 in
theorem xo_X3_read : xx_okM xx_tab xm_X3_read = true := by decide +kernel
set_option maxRecDepth 1000000 in
set_option maxHeartbeats 40000000 in
theorem xo_X5_copyFrom : xx_okM xx_tab xm_X5_copyFrom = true := by decide +kernel
set_option maxRecDepth 1000000 in
set_option maxHeartbeats 40000000 in
theorem xo_X6_knowsIn : xx_okM xx_tab xm_X6_knowsIn = true := by decide +kernel
set_option maxRecDepth 1000000 in
set_option maxHeartbeats 40000000 in
theorem xo_X6_least : xx_okM xx_tab xm_X6_least = true := by decide +kernel
set_option maxRecDepth 1000000 in
set_option maxHeartbeats 40000000 in
theorem xo_X5_signedLike : xx_okM xx_tab xm_X5_signedLike = true := by decide +kernel
set_option maxRecDepth 1000000 in
set_option maxHeartbeats 40000000 in
theorem xo_X6_morning : xx_okM xx_tab xm_X6_morning = true := by decide +kernel
set_option maxRecDepth 1000000 in
set_option maxHeartbeats 40000000 in
theorem xo_X6_open : xx_okM xx_tab xm_X6_open = true := by decide +kernel
set_option maxRecDepth 1000000 in
set_option maxHeartbeats 40000000 in
theorem xo_X6_spread : xx_okM xx_tab xm_X6_spread = true := by decide +kernel
set_option maxRecDepth 1000000 in
set_option maxHeartbeats 40000000 in
theorem xo_X6_pegs : xx_okM xx_tab xm_X6_pegs = true := by decide +kernel
set_option maxRecDepth 1000000 in
set_option maxHeartbeats 40000000 in
theorem xo_X6_quiet : xx_okM xx_tab xm_X6_quiet = true := by decide +kernel
set_option maxRecDepth 1000000 in
set_option maxHeartbeats 40000000 in
theorem xo_X6_seen : xx_okM xx_tab xm_X6_seen = true := by decide +kernel
set_option maxRecDepth 1000000 in
set_option maxHeartbeats 40000000 in
theorem xo_X6_spy : xx_okM xx_tab xm_X6_spy = true := by decide +kernel
set_option maxRecDepth 1000000 in
set_option maxHeartbeats 40000000 in
theorem xo_X6_talked : xx_okM xx_tab xm_X6_talked = true := by decide +kernel
set_option maxRecDepth 1000000 in
set_option maxHeartbeats 40000000 in
theorem xo_X6_unsure : xx_okM xx_tab xm_X6_unsure = true := by decide +kernel
set_option maxRecDepth 1000000 in
set_option maxHeartbeats 40000000 in
theorem xo_X6_whisper : xx_okM xx_tab xm_X6_whisper = true := by decide +kernel
set_option maxRecDepth 1000000 in
set_option maxHeartbeats 40000000 in
theorem xo_X6_worlds : xx_okM xx_tab xm_X6_worlds = true := by decide +kernel
set_option maxRecDepth 1000000 in
set_option maxHeartbeats 40000000 in
theorem xo_X7_about : xx_okM xx_tab xm_X7_about = true := by decide +kernel
set_option maxRecDepth 1000000 in
set_option maxHeartbeats 40000000 in
theorem xo_X7_ask : xx_okM xx_tab xm_X7_ask = true := by decide +kernel
set_option maxRecDepth 1000000 in
set_option maxHeartbeats 40000000 in
theorem xo_X7_common : xx_okM xx_tab xm_X7_common = true := by decide +kernel
set_option maxRecDepth 1000000 in
set_option maxHeartbeats 40000000 in
theorem xo_X7_every : xx_okM xx_tab xm_X7_every = true := by decide +kernel
set_option maxRecDepth 1000000 in
set_option maxHeartbeats 40000000 in
theorem xo_X7_endOf : xx_okM xx_tab xm_X7_endOf = true := by decide +kernel
set_option maxRecDepth 1000000 in
set_option maxHeartbeats 40000000 in
theorem xo_X7_ending : xx_okM xx_tab xm_X7_ending = true := by decide +kernel
set_option maxRecDepth 1000000 in
set_option maxHeartbeats 40000000 in
theorem xo_X7_fate : xx_okM xx_tab xm_X7_fate = true := by decide +kernel
set_option maxRecDepth 1000000 in
set_option maxHeartbeats 40000000 in
theorem xo_X7_doesFit : xx_okM xx_tab xm_X7_doesFit = true := by decide +kernel
set_option maxRecDepth 1000000 in
set_option maxHeartbeats 40000000 in
theorem xo_X7_layTold : xx_okM xx_tab xm_X7_layTold = true := by decide +kernel
set_option maxRecDepth 1000000 in
set_option maxHeartbeats 40000000 in
theorem xo_X7_canWhisper : xx_okM xx_tab xm_X7_canWhisper = true := by decide +kernel
set_option maxRecDepth 1000000 in
set_option maxHeartbeats 40000000 in
theorem xo_X7_startAnew : xx_okM xx_tab xm_X7_startAnew = true := by decide +kernel
set_option maxRecDepth 1000000 in
set_option maxHeartbeats 40000000 in
theorem xo_X7_later : xx_okM xx_tab xm_X7_later = true := by decide +kernel
set_option maxRecDepth 1000000 in
set_option maxHeartbeats 40000000 in
theorem xo_X7_lies : xx_okM xx_tab xm_X7_lies = true := by decide +kernel
set_option maxRecDepth 1000000 in
set_option maxHeartbeats 40000000 in
theorem xo_X7_meeting : xx_okM xx_tab xm_X7_meeting = true := by decide +kernel
set_option maxRecDepth 1000000 in
set_option maxHeartbeats 40000000 in
theorem xo_X7_divisor : xx_okM xx_tab xm_X7_divisor = true := by decide +kernel
set_option maxRecDepth 1000000 in
set_option maxHeartbeats 40000000 in
theorem xo_X7_byteAt : xx_okM xx_tab xm_X7_byteAt = true := by decide +kernel
set_option maxRecDepth 1000000 in
set_option maxHeartbeats 40000000 in
theorem xo_X7_parts : xx_okM xx_tab xm_X7_parts = true := by decide +kernel
set_option maxRecDepth 1000000 in
set_option maxHeartbeats 40000000 in
theorem xo_X7_toldOf : xx_okM xx_tab xm_X7_toldOf = true := by decide +kernel
set_option maxRecDepth 1000000 in
set_option maxHeartbeats 40000000 in
theorem xo_X7_possible : xx_okM xx_tab xm_X7_possible = true := by decide +kernel
set_option maxRecDepth 1000000 in
set_option maxHeartbeats 40000000 in
theorem xo_X7_seen : xx_okM xx_tab xm_X7_seen = true := by decide +kernel
set_option maxRecDepth 1000000 in
set_option maxHeartbeats 40000000 in
theorem xo_X7_spy : xx_okM xx_tab xm_X7_spy = true := by decide +kernel
set_option maxRecDepth 1000000 in
set_option maxHeartbeats 40000000 in
theorem xo_X7_talked : xx_okM xx_tab xm_X7_talked = true := by decide +kernel
set_option maxRecDepth 1000000 in
set_option maxHeartbeats 40000000 in
theorem xo_X7_untell : xx_okM xx_tab xm_X7_untell = true := by decide +kernel
set_option maxRecDepth 1000000 in
set_option maxHeartbeats 40000000 in
theorem xo_X7_within : xx_okM xx_tab xm_X7_within = true := by decide +kernel
