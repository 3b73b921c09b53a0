set_option maxRecDepth 1000000 in
set_option maxHeartbeats 40000000 in
theorem zo_X7_lowest : yy_okM zt_T zm_X7_lowest = true := by decide +kernel
set_option maxRecDepth 1000000 in
set_option maxHeartbeats 40000000 in
theorem zo_X7_shameOf : yy_okM zt_T zm_X7_shameOf = true := by decide +kernel
set_option maxRecDepth 1000000 in
set_option maxHeartbeats 40000000 in
theorem zo_X6_feed : yy_okM zt_T zm_X6_feed = true := by decide +kernel
set_option maxRecDepth 1000000 in
set_option maxHeartbeats 40000000 in
theorem zo_X3_readNumber : yy_okM zt_T zm_X3_readNumber = true := by decide +kernel
set_option maxRecDepth 1000000 in
set_option maxHeartbeats 40000000 in
theorem zo_J1_charAt_3b067 : yy_okM zt_T zm_J1_charAt_3b067 = true := by decide +kernel
set_option maxRecDepth 1000000 in
set_option maxHeartbeats 40000000 in
theorem zo_X3_rankOf : yy_okM zt_T zm_X3_rankOf = true := by decide +kernel
set_option maxRecDepth 1000000 in
set_option maxHeartbeats 40000000 in
theorem zo_X3_named : yy_okM zt_T zm_X3_named = true := by decide +kernel
set_option maxRecDepth 1000000 in
set_option maxHeartbeats 40000000 in
theorem zo_X3_unit_v7 : yy_okM zt_T zm_X3_unit_v7 = true := by decide +kernel
set_option maxRecDepth 1000000 in
set_option maxHeartbeats 40000000 in
theorem zo_X3_joined_v2_7 : yy_okM zt_T zm_X3_joined_v2_7 = true := by decide +kernel
set_option maxRecDepth 1000000 in
set_option maxHeartbeats 40000000 in
theorem zo_X3_unit_v6 : yy_okM zt_T zm_X3_unit_v6 = true := by decide +kernel
set_option maxRecDepth 1000000 in
set_option maxHeartbeats 40000000 in
theorem zo_X3_joined_v2_6 : yy_okM zt_T zm_X3_joined_v2_6 = true := by decide +kernel
set_option maxRecDepth 1000000 in
set_option maxHeartbeats 40000000 in
theorem zo_X3_unit_v5 : yy_okM zt_T zm_X3_unit_v5 = true := by decide +kernel
set_option maxRecDepth 1000000 in
set_option maxHeartbeats 40000000 in
theorem zo_X3_joined_v2_5 : yy_okM zt_T zm_X3_joined_v2_5 = true := by decide +kernel
set_option maxRecDepth 1000000 in
set_option maxHeartbeats 40000000 in
theorem zo_X3_unit_v4 : yy_okM zt_T zm_X3_unit_v4 = true := by decide +kernel
set_option maxRecDepth 1000000 in
set_option maxHeartbeats 40000000 in
theorem zo_X3_joined_v2_4 : yy_okM zt_T zm_X3_joined_v2_4 = true := by decide +kernel
set_option maxRecDepth 1000000 in
set_option maxHeartbeats 40000000 in
theorem zo_X3_unit_v3 : yy_okM zt_T zm_X3_unit_v3 = true := by decide +kernel
set_option maxRecDepth 1000000 in
set_option maxHeartbeats 40000000 in
theorem zo_X3_joined_v2_3 : yy_okM zt_T zm_X3_joined_v2_3 = true := by decide +kernel
set_option maxRecDepth 1000000 in
set_option maxHeartbeats 40000000 in
theorem zo_X3_unit_v2 : yy_okM zt_T zm_X3_unit_v2 = true := by decide +kernel
set_option maxRecDepth 1000000 in
set_option maxHeartbeats 40000000 in
theorem zo_X3_joined_v2_2 : yy_okM zt_T zm_X3_joined_v2_2 = true := by decide +kernel
set_option maxRecDepth 1000000 in
set_option maxHeartbeats 40000000 in
theorem zo_X3_unit_v1 : yy_okM zt_T zm_X3_unit_v1 = true := by decide +kernel
set_option maxRecDepth 1000000 in
set_option maxHeartbeats 40000000 in
theorem zo_X3_joined_v2_1 : yy_okM zt_T zm_X3_joined_v2_1 = true := by decide +kernel
set_option maxRecDepth 1000000 in
set_option maxHeartbeats 40000000 in
theorem zo_X3_unit_v0 : yy_okM zt_T zm_X3_unit_v0 = true := by decide +kernel
set_option maxRecDepth 1000000 in
set_option maxHeartbeats 40000000 in
theorem zo_X3_joined_v2_0 : yy_okM zt_T zm_X3_joined_v2_0 = true := by decide +kernel
set_option maxRecDepth 1000000 in
set_option maxHeartbeats 40000000 in
theorem zo_X2_isUnit : yy_okM zt_T zm_X2_isUnit = true := by decide +kernel
set_option maxRecDepth 1000000 in
set_option maxHeartbeats 40000000 in
theorem zo_X2_unitIn : yy_okM zt_T zm_X2_unitIn = true := by decide +kernel
set_option maxRecDepth 1000000 in
set_option maxHeartbeats 40000000 in
theorem zo_X3_number : yy_okM zt_T zm_X3_number = true := by decide +kernel
set_option maxRecDepth 1000000 in
set_option maxHeartbeats 40000000 in
theorem zo_X1_knownTo : yy_okM zt_T zm_X1_knownTo = true := by decide +kernel
set_option maxRecDepth 1000000 in
set_option maxHeartbeats 40000000 in
theorem zo_X3_line : yy_okM zt_T zm_X3_line = true := by decide +kernel
set_option maxRecDepth 1000000 in
set_option maxHeartbeats 40000000 in
theorem zo_X5_copyFrom : yy_okM zt_T zm_X5_copyFrom = true := by decide +kernel
set_option maxRecDepth 1000000 in
set_option maxHeartbeats 40000000 in
theorem zo_X6_parish : yy_okM zt_T zm_X6_parish = true := by decide +kernel
set_option maxRecDepth 1000000 in
set_option maxHeartbeats 40000000 in
theorem zo_X6_isWorld : yy_okM zt_T zm_X6_isWorld = true := by decide +kernel
set_option maxRecDepth 1000000 in
set_option maxHeartbeats 40000000 in
theorem zo_X6_worlds : yy_okM zt_T zm_X6_worlds = true := by decide +kernel
set_option maxRecDepth 1000000 in
set_option maxHeartbeats 40000000 in
theorem zo_X6_owning : yy_okM zt_T zm_X6_owning = true := by decide +kernel
set_option maxRecDepth 1000000 in
set_option maxHeartbeats 40000000 in
theorem zo_X6_morning : yy_okM zt_T zm_X6_morning = true := by decide +kernel
set_option maxRecDepth 1000000 in
set_option maxHeartbeats 40000000 in
theorem zo_X6_likeTrue : yy_okM zt_T zm_X6_likeTrue = true := by decide +kernel
set_option maxRecDepth 1000000 in
set_option maxHeartbeats 40000000 in
theorem zo_X6_whisper : yy_okM zt_T zm_X6_whisper = true := by decide +kernel
set_option maxRecDepth 1000000 in
set_option maxHeartbeats 40000000 in
theorem zo_X6_redo : yy_okM zt_T zm_X6_redo = true := by decide +kernel
set_option maxRecDepth 1000000 in
set_option maxHeartbeats 40000000 in
theorem zo_X6_isPossible : yy_okM zt_T zm_X6_isPossible = true := by decide +kernel
set_option maxRecDepth 1000000 in
set_option maxHeartbeats 40000000 in
theorem zo_X6_common : yy_okM zt_T zm_X6_common = true := by decide +kernel
set_option maxRecDepth 1000000 in
set_option maxHeartbeats 40000000 in
theorem zo_X6_ending : yy_okM zt_T zm_X6_ending = true := by decide +kernel
set_option maxRecDepth 1000000 in
set_option maxHeartbeats 40000000 in
theorem zo_X6_knownAmong : yy_okM zt_T zm_X6_knownAmong = true := by decide +kernel
set_option maxRecDepth 1000000 in
set_option maxHeartbeats 40000000 in
theorem zo_X6_countOrSet : yy_okM zt_T zm_X6_countOrSet = true := by decide +kernel
set_option maxRecDepth 1000000 in
set_option maxHeartbeats 40000000 in
theorem zo_X6_endOfTwo : yy_okM zt_T zm_X6_endOfTwo = true := by decide +kernel
set_option maxRecDepth 1000000 in
set_option maxHeartbeats 40000000 in
theorem zo_X6_thinks : yy_okM zt_T zm_X6_thinks = true := by decide +kernel
set_option maxRecDepth 1000000 in
set_option maxHeartbeats 40000000 in
theorem zo_X6_settled : yy_okM zt_T zm_X6_settled = true := by decide +kernel
set_option maxRecDepth 1000000 in
set_option maxHeartbeats 40000000 in
theorem zo_X6_reach : yy_okM zt_T zm_X6_reach = true := by decide +kernel
set_option maxRecDepth 1000000 in
set_option maxHeartbeats 40000000 in
theorem zo_X6_lowest : yy_okM zt_T zm_X6_lowest = true := by decide +kernel
set_option maxRecDepth 1000000 in
set_option maxHeartbeats 40000000 in
theorem zo_X6_alike : yy_okM zt_T zm_X6_alike = true := by decide +kernel
set_option maxRecDepth 1000000 in
set_option maxHeartbeats 40000000 in
theorem zo_X6_tale : yy_okM zt_T zm_X6_tale = true := by decide +kernel
set_option maxRecDepth 1000000 in
set_option maxHeartbeats 40000000 in
theorem zo_X6_bestSpying : yy_okM zt_T zm_X6_bestSpying = true := by decide +kernel
set_option maxRecDepth 1000000 in
set_option maxHeartbeats 40000000 in
theorem zo_X6_within : yy_okM zt_T zm_X6_within = true := by decide +kernel
set_option maxRecDepth 1000000 in
set_option maxHeartbeats 40000000 in
theorem zo_X6_seen : yy_okM zt_T zm_X6_seen = true := by decide +kernel
set_option maxRecDepth 1000000 in
set_option maxHeartbeats 40000000 in
theorem zo_X4_followAll : yy_okM zt_T zm_X4_followAll = true := by decide +kernel
set_option maxRecDepth 1000000 in
set_option maxHeartbeats 40000000 in
theorem zo_X6_fits : yy_okM zt_T zm_X6_fits = true := by decide +kernel
set_option maxRecDepth 1000000 in
set_option maxHeartbeats 40000000 in
theorem zo_X6_back : yy_okM zt_T zm_X6_back = true := by decide +kernel
set_option maxRecDepth 1000000 in
set_option maxHeartbeats 40000000 in
theorem zo_X7_isKept : yy_okM zt_T zm_X7_isKept = true := by decide +kernel
set_option maxRecDepth 1000000 in
set_option maxHeartbeats 40000000 in
theorem zo_X7_isSign : yy_okM zt_T zm_X7_isSign = true := by decide +kernel
set_option maxRecDepth 1000000 in
set_option maxHeartbeats 40000000 in
theorem zo_X7_every : yy_okM zt_T zm_X7_every = true := by decide +kernel
set_option maxRecDepth 1000000 in
set_option maxHeartbeats 40000000 in
theorem zo_X7_isGood : yy_okM zt_T zm_X7_isGood = true := by decide +kernel
set_option maxRecDepth 1000000 in
set_option maxHeartbeats 40000000 in
theorem zo_X7_numeral : yy_okM zt_T zm_X7_numeral = true := by decide +kernel
set_option maxRecDepth 1000000 in
set_option maxHeartbeats 40000000 in
theorem zo_X7_someone : yy_okM zt_T zm_X7_someone = true := by decide +kernel
set_option maxRecDepth 1000000 in
set_option maxHeartbeats 40000000 in
theorem zo_X7_isSignHere : yy_okM zt_T zm_X7_isSignHere = true := by decide +kernel
set_option maxRecDepth 1000000 in
set_option maxHeartbeats 40000000 in
theorem zo_X7_rankHere : yy_okM zt_T zm_X7_rankHere = true := by decide +kernel
set_option maxRecDepth 1000000 in
set_option maxHeartbeats 40000000 in
theorem zo_X7_readRule : yy_okM zt_T zm_X7_readRule = true := by decide +kernel
set_option maxRecDepth 1000000 in
set_option maxHeartbeats 40000000 in
theorem zo_X7_clearBank : yy_okM zt_T zm_X7_clearBank = true := by decide +kernel
set_option maxRecDepth 1000000 in
set_option maxHeartbeats 40000000 in
theorem zo_X7_isPerson : yy_okM zt_T zm_X7_isPerson = true := by decide +kernel
set_option maxRecDepth 1000000 in
set_option maxHeartbeats 40000000 in
theorem zo_X7_possible : yy_okM zt_T zm_X7_possible = true := by decide +kernel
set_option maxRecDepth 1000000 in
set_option maxHeartbeats 40000000 in
theorem zo_X7_classOf : yy_okM zt_T zm_X7_classOf = true := by decide +kernel
set_option maxRecDepth 1000000 in
set_option maxHeartbeats 40000000 in
theorem zo_X7_goMorning : yy_okM zt_T zm_X7_goMorning = true := by decide +kernel
set_option maxRecDepth 1000000 in
set_option maxHeartbeats 40000000 in
theorem zo_X7_knownIn : yy_okM zt_T zm_X7_knownIn = true := by decide +kernel
set_option maxRecDepth 1000000 in
set_option maxHeartbeats 40000000 in
theorem zo_X7_peg : yy_okM zt_T zm_X7_peg = true := by decide +kernel
set_option maxRecDepth 1000000 in
set_option maxHeartbeats 40000000 in
theorem zo_X7_undo : yy_okM zt_T zm_X7_undo = true := by decide +kernel
set_option maxRecDepth 1000000 in
set_option maxHeartbeats 40000000 in
theorem zo_X7_knowsIn : yy_okM zt_T zm_X7_knowsIn = true := by decide +kernel
set_option maxRecDepth 1000000 in
set_option maxHeartbeats 40000000 in
theorem zo_X7_common : yy_okM zt_T zm_X7_common = true := by decide +kernel
set_option maxRecDepth 1000000 in
set_option maxHeartbeats 40000000 in
theorem zo_X7_bringBack : yy_okM zt_T zm_X7_bringBack = true := by decide +kernel
set_option maxRecDepth 1000000 in
set_option maxHeartbeats 40000000 in
theorem zo_X7_ending : yy_okM zt_T zm_X7_ending = true := by decide +kernel
set_option maxRecDepth 1000000 in
set_option maxHeartbeats 40000000 in
theorem zo_X7_isTold : yy_okM zt_T zm_X7_isTold = true := by decide +kernel
set_option maxRecDepth 1000000 in
set_option maxHeartbeats 40000000 in
theorem zo_X7_call : yy_okM zt_T zm_X7_call = true := by decide +kernel
set_option maxRecDepth 1000000 in
set_option maxHeartbeats 40000000 in
theorem zo_X7_thinks : yy_okM zt_T zm_X7_thinks = true := by decide +kernel
set_option maxRecDepth 1000000 in
set_option maxHeartbeats 40000000 in
theorem zo_X7_knowers : yy_okM zt_T zm_X7_knowers = true := by decide +kernel
set_option maxRecDepth 1000000 in
set_option maxHeartbeats 40000000 in
theorem zo_X7_suspected : yy_okM zt_T zm_X7_suspected = true := by decide +kernel
set_option maxRecDepth 1000000 in
set_option maxHeartbeats 40000000 in
theorem zo_X7_shared : yy_okM zt_T zm_X7_shared = true := by decide +kernel
set_option maxRecDepth 1000000 in
set_option maxHeartbeats 40000000 in
theorem zo_X7_fate : yy_okM zt_T zm_X7_fate = true := by decide +kernel
set_option maxRecDepth 1000000 in
set_option maxHeartbeats 40000000 in
theorem zo_X7_pegs : yy_okM zt_T zm_X7_pegs = true := by decide +kernel
set_option maxRecDepth 1000000 in
set_option maxHeartbeats 40000000 in
theorem zo_X7_within : yy_okM zt_T zm_X7_within = true := by decide +kernel
set_option maxRecDepth 1000000 in
set_option maxHeartbeats 40000000 in
theorem zo_X7_seen : yy_okM zt_T zm_X7_seen = true := by decide +kernel
set_option maxRecDepth 1000000 in
set_option maxHeartbeats 40000000 in
theorem zo_X7_fits : yy_okM zt_T zm_X7_fits = true := by decide +kernel
set_option maxRecDepth 1000000 in
set_option maxHeartbeats 40000000 in
theorem zo_X7_image : yy_okM zt_T zm_X7_image = true := by decide +kernel
set_option maxRecDepth 1000000 in
set_option maxHeartbeats 40000000 in
theorem zo_X7_later : yy_okM zt_T zm_X7_later = true := by decide +kernel
