set_option maxRecDepth 1000000 in
set_option maxHeartbeats 40000000 in
theorem zo_X7_bit : yy_okM zt_T zm_X7_bit = true := by decide +kernel
set_option maxRecDepth 1000000 in
set_option maxHeartbeats 40000000 in
theorem zo_X7_folk : yy_okM zt_T zm_X7_folk = true := by decide +kernel
set_option maxRecDepth 1000000 in
set_option maxHeartbeats 40000000 in
theorem zo_X3_append : yy_okM zt_T zm_X3_append = true := by decide +kernel
set_option maxRecDepth 1000000 in
set_option maxHeartbeats 40000000 in
theorem zo_X3_isLetter : yy_okM zt_T zm_X3_isLetter = true := by decide +kernel
set_option maxRecDepth 1000000 in
set_option maxHeartbeats 40000000 in
theorem zo_J0_isLatin1_aae02 : yy_okM zt_T zm_J0_isLatin1_aae02 = true := by decide +kernel
set_option maxRecDepth 1000000 in
set_option maxHeartbeats 40000000 in
theorem zo_X3_readWord : yy_okM zt_T zm_X3_readWord = true := by decide +kernel
set_option maxRecDepth 1000000 in
set_option maxHeartbeats 40000000 in
theorem zo_X3_sameText : yy_okM zt_T zm_X3_sameText = true := by decide +kernel
set_option maxRecDepth 1000000 in
set_option maxHeartbeats 40000000 in
theorem zo_X2_add : yy_okM zt_T zm_X2_add = true := by decide +kernel
set_option maxRecDepth 1000000 in
set_option maxHeartbeats 40000000 in
theorem zo_X3_joined_v3_7 : yy_okM zt_T zm_X3_joined_v3_7 = true := by decide +kernel
set_option maxRecDepth 1000000 in
set_option maxHeartbeats 40000000 in
theorem zo_X3_joined_v0_7 : yy_okM zt_T zm_X3_joined_v0_7 = true := by decide +kernel
set_option maxRecDepth 1000000 in
set_option maxHeartbeats 40000000 in
theorem zo_X3_joined_v3_6 : yy_okM zt_T zm_X3_joined_v3_6 = true := by decide +kernel
set_option maxRecDepth 1000000 in
set_option maxHeartbeats 40000000 in
theorem zo_X3_joined_v0_6 : yy_okM zt_T zm_X3_joined_v0_6 = true := by decide +kernel
set_option maxRecDepth 1000000 in
set_option maxHeartbeats 40000000 in
theorem zo_X3_joined_v3_5 : yy_okM zt_T zm_X3_joined_v3_5 = true := by decide +kernel
set_option maxRecDepth 1000000 in
set_option maxHeartbeats 40000000 in
theorem zo_X3_joined_v0_5 : yy_okM zt_T zm_X3_joined_v0_5 = true := by decide +kernel
set_option maxRecDepth 1000000 in
set_option maxHeartbeats 40000000 in
theorem zo_X3_joined_v3_4 : yy_okM zt_T zm_X3_joined_v3_4 = true := by decide +kernel
set_option maxRecDepth 1000000 in
set_option maxHeartbeats 40000000 in
theorem zo_X3_joined_v0_4 : yy_okM zt_T zm_X3_joined_v0_4 = true := by decide +kernel
set_option maxRecDepth 1000000 in
set_option maxHeartbeats 40000000 in
theorem zo_X3_joined_v3_3 : yy_okM zt_T zm_X3_joined_v3_3 = true := by decide +kernel
set_option maxRecDepth 1000000 in
set_option maxHeartbeats 40000000 in
theorem zo_X3_joined_v0_3 : yy_okM zt_T zm_X3_joined_v0_3 = true := by decide +kernel
set_option maxRecDepth 1000000 in
set_option maxHeartbeats 40000000 in
theorem zo_X3_joined_v3_2 : yy_okM zt_T zm_X3_joined_v3_2 = true := by decide +kernel
set_option maxRecDepth 1000000 in
set_option maxHeartbeats 40000000 in
theorem zo_X3_joined_v0_2 : yy_okM zt_T zm_X3_joined_v0_2 = true := by decide +kernel
set_option maxRecDepth 1000000 in
set_option maxHeartbeats 40000000 in
theorem zo_X3_joined_v3_1 : yy_okM zt_T zm_X3_joined_v3_1 = true := by decide +kernel
set_option maxRecDepth 1000000 in
set_option maxHeartbeats 40000000 in
theorem zo_X3_joined_v0_1 : yy_okM zt_T zm_X3_joined_v0_1 = true := by decide +kernel
set_option maxRecDepth 1000000 in
set_option maxHeartbeats 40000000 in
theorem zo_X3_joined_v3_0 : yy_okM zt_T zm_X3_joined_v3_0 = true := by decide +kernel
set_option maxRecDepth 1000000 in
set_option maxHeartbeats 40000000 in
theorem zo_X5_shameIn : yy_okM zt_T zm_X5_shameIn = true := by decide +kernel
set_option maxRecDepth 1000000 in
set_option maxHeartbeats 40000000 in
theorem zo_J6_numberOfLeadingZeros_0f7a4 : yy_okM zt_T zm_J6_numberOfLeadingZeros_0f7a4 = true := by decide +kernel
set_option maxRecDepth 1000000 in
set_option maxHeartbeats 40000000 in
theorem zo_X5_clear : yy_okM zt_T zm_X5_clear = true := by decide +kernel
set_option maxRecDepth 1000000 in
set_option maxHeartbeats 40000000 in
theorem zo_X3_somebody : yy_okM zt_T zm_X3_somebody = true := by decide +kernel
set_option maxRecDepth 1000000 in
set_option maxHeartbeats 40000000 in
theorem zo_X3_isFirst : yy_okM zt_T zm_X3_isFirst = true := by decide +kernel
set_option maxRecDepth 1000000 in
set_option maxHeartbeats 40000000 in
theorem zo_X5_startDay : yy_okM zt_T zm_X5_startDay = true := by decide +kernel
set_option maxRecDepth 1000000 in
set_option maxHeartbeats 40000000 in
theorem zo_X6_startAnew : yy_okM zt_T zm_X6_startAnew = true := by decide +kernel
set_option maxRecDepth 1000000 in
set_option maxHeartbeats 40000000 in
theorem zo_X6_person : yy_okM zt_T zm_X6_person = true := by decide +kernel
set_option maxRecDepth 1000000 in
set_option maxHeartbeats 40000000 in
theorem zo_X6_possible : yy_okM zt_T zm_X6_possible = true := by decide +kernel
set_option maxRecDepth 1000000 in
set_option maxHeartbeats 40000000 in
theorem zo_X6_knowing : yy_okM zt_T zm_X6_knowing = true := by decide +kernel
set_option maxRecDepth 1000000 in
set_option maxHeartbeats 40000000 in
theorem zo_X6_foggyDawn : yy_okM zt_T zm_X6_foggyDawn = true := by decide +kernel
set_option maxRecDepth 1000000 in
set_option maxHeartbeats 40000000 in
theorem zo_X6_ask : yy_okM zt_T zm_X6_ask = true := by decide +kernel
set_option maxRecDepth 1000000 in
set_option maxHeartbeats 40000000 in
theorem zo_X6_canWhisper : yy_okM zt_T zm_X6_canWhisper = true := by decide +kernel
set_option maxRecDepth 1000000 in
set_option maxHeartbeats 40000000 in
theorem zo_X0_doAgain : yy_okM zt_T zm_X0_doAgain = true := by decide +kernel
set_option maxRecDepth 1000000 in
set_option maxHeartbeats 40000000 in
theorem zo_X6_knows : yy_okM zt_T zm_X6_knows = true := by decide +kernel
set_option maxRecDepth 1000000 in
set_option maxHeartbeats 40000000 in
theorem zo_X6_depth : yy_okM zt_T zm_X6_depth = true := by decide +kernel
set_option maxRecDepth 1000000 in
set_option maxHeartbeats 40000000 in
theorem zo_X6_endNow : yy_okM zt_T zm_X6_endNow = true := by decide +kernel
set_option maxRecDepth 1000000 in
set_option maxHeartbeats 40000000 in
theorem zo_X6_worldsAt : yy_okM zt_T zm_X6_worldsAt = true := by decide +kernel
set_option maxRecDepth 1000000 in
set_option maxHeartbeats 40000000 in
theorem zo_X6_bestGroup : yy_okM zt_T zm_X6_bestGroup = true := by decide +kernel
set_option maxRecDepth 1000000 in
set_option maxHeartbeats 40000000 in
theorem zo_X6_call : yy_okM zt_T zm_X6_call = true := by decide +kernel
set_option maxRecDepth 1000000 in
set_option maxHeartbeats 40000000 in
theorem zo_X6_pin : yy_okM zt_T zm_X6_pin = true := by decide +kernel
set_option maxRecDepth 1000000 in
set_option maxHeartbeats 40000000 in
theorem zo_X6_isClearToAll : yy_okM zt_T zm_X6_isClearToAll = true := by decide +kernel
set_option maxRecDepth 1000000 in
set_option maxHeartbeats 40000000 in
theorem zo_X6_talked : yy_okM zt_T zm_X6_talked = true := by decide +kernel
set_option maxRecDepth 1000000 in
set_option maxHeartbeats 40000000 in
theorem zo_X6_law : yy_okM zt_T zm_X6_law = true := by decide +kernel
set_option maxRecDepth 1000000 in
set_option maxHeartbeats 40000000 in
theorem zo_X6_parts : yy_okM zt_T zm_X6_parts = true := by decide +kernel
set_option maxRecDepth 1000000 in
set_option maxHeartbeats 40000000 in
theorem zo_X6_latest : yy_okM zt_T zm_X6_latest = true := by decide +kernel
set_option maxRecDepth 1000000 in
set_option maxHeartbeats 40000000 in
theorem zo_X6_pegs : yy_okM zt_T zm_X6_pegs = true := by decide +kernel
set_option maxRecDepth 1000000 in
set_option maxHeartbeats 40000000 in
theorem zo_X6_unsure : yy_okM zt_T zm_X6_unsure = true := by decide +kernel
set_option maxRecDepth 1000000 in
set_option maxHeartbeats 40000000 in
theorem zo_X4_add : yy_okM zt_T zm_X4_add = true := by decide +kernel
set_option maxRecDepth 1000000 in
set_option maxHeartbeats 40000000 in
theorem zo_X4_follow : yy_okM zt_T zm_X4_follow = true := by decide +kernel
set_option maxRecDepth 1000000 in
set_option maxHeartbeats 40000000 in
theorem zo_X4_fitting : yy_okM zt_T zm_X4_fitting = true := by decide +kernel
set_option maxRecDepth 1000000 in
set_option maxHeartbeats 40000000 in
theorem zo_X6_image : yy_okM zt_T zm_X6_image = true := by decide +kernel
set_option maxRecDepth 1000000 in
set_option maxHeartbeats 40000000 in
theorem zo_X7_end : yy_okM zt_T zm_X7_end = true := by decide +kernel
set_option maxRecDepth 1000000 in
set_option maxHeartbeats 40000000 in
theorem zo_X7_isDigit : yy_okM zt_T zm_X7_isDigit = true := by decide +kernel
set_option maxRecDepth 1000000 in
set_option maxHeartbeats 40000000 in
theorem zo_X7_signOf : yy_okM zt_T zm_X7_signOf = true := by decide +kernel
set_option maxRecDepth 1000000 in
set_option maxHeartbeats 40000000 in
theorem zo_X7_here : yy_okM zt_T zm_X7_here = true := by decide +kernel
set_option maxRecDepth 1000000 in
set_option maxHeartbeats 40000000 in
theorem zo_X7_misplaced : yy_okM zt_T zm_X7_misplaced = true := by decide +kernel
set_option maxRecDepth 1000000 in
set_option maxHeartbeats 40000000 in
theorem zo_X7_readPerson : yy_okM zt_T zm_X7_readPerson = true := by decide +kernel
set_option maxRecDepth 1000000 in
set_option maxHeartbeats 40000000 in
theorem zo_X7_byteAt_vY : yy_okM zt_T zm_X7_byteAt_vY = true := by decide +kernel
set_option maxRecDepth 1000000 in
set_option maxHeartbeats 40000000 in
theorem zo_X7_unit : yy_okM zt_T zm_X7_unit = true := by decide +kernel
set_option maxRecDepth 1000000 in
set_option maxHeartbeats 40000000 in
theorem zo_X7_e : yy_okM zt_T zm_X7_e = true := by decide +kernel
set_option maxRecDepth 1000000 in
set_option maxHeartbeats 40000000 in
theorem zo_X7_readLine : yy_okM zt_T zm_X7_readLine = true := by decide +kernel
set_option maxRecDepth 1000000 in
set_option maxHeartbeats 40000000 in
theorem zo_X7_isIn : yy_okM zt_T zm_X7_isIn = true := by decide +kernel
set_option maxRecDepth 1000000 in
set_option maxHeartbeats 40000000 in
theorem zo_X7_sign : yy_okM zt_T zm_X7_sign = true := by decide +kernel
set_option maxRecDepth 1000000 in
set_option maxHeartbeats 40000000 in
theorem zo_X7_keepAct : yy_okM zt_T zm_X7_keepAct = true := by decide +kernel
set_option maxRecDepth 1000000 in
set_option maxHeartbeats 40000000 in
theorem zo_X7_ownIn : yy_okM zt_T zm_X7_ownIn = true := by decide +kernel
set_option maxRecDepth 1000000 in
set_option maxHeartbeats 40000000 in
theorem zo_X7_measure : yy_okM zt_T zm_X7_measure = true := by decide +kernel
set_option maxRecDepth 1000000 in
set_option maxHeartbeats 40000000 in
theorem zo_X7_goPeg : yy_okM zt_T zm_X7_goPeg = true := by decide +kernel
set_option maxRecDepth 1000000 in
set_option maxHeartbeats 40000000 in
theorem zo_X7_swapAll : yy_okM zt_T zm_X7_swapAll = true := by decide +kernel
set_option maxRecDepth 1000000 in
set_option maxHeartbeats 40000000 in
theorem zo_X7_mayBe : yy_okM zt_T zm_X7_mayBe = true := by decide +kernel
set_option maxRecDepth 1000000 in
set_option maxHeartbeats 40000000 in
theorem zo_X7_depth : yy_okM zt_T zm_X7_depth = true := by decide +kernel
set_option maxRecDepth 1000000 in
set_option maxHeartbeats 40000000 in
theorem zo_X7_behind : yy_okM zt_T zm_X7_behind = true := by decide +kernel
set_option maxRecDepth 1000000 in
set_option maxHeartbeats 40000000 in
theorem zo_X7_orNone : yy_okM zt_T zm_X7_orNone = true := by decide +kernel
set_option maxRecDepth 1000000 in
set_option maxHeartbeats 40000000 in
theorem zo_X7_worldsAt : yy_okM zt_T zm_X7_worldsAt = true := by decide +kernel
set_option maxRecDepth 1000000 in
set_option maxHeartbeats 40000000 in
theorem zo_X7_group : yy_okM zt_T zm_X7_group = true := by decide +kernel
set_option maxRecDepth 1000000 in
set_option maxHeartbeats 40000000 in
theorem zo_X7_pin : yy_okM zt_T zm_X7_pin = true := by decide +kernel
set_option maxRecDepth 1000000 in
set_option maxHeartbeats 40000000 in
theorem zo_X7_wisest : yy_okM zt_T zm_X7_wisest = true := by decide +kernel
set_option maxRecDepth 1000000 in
set_option maxHeartbeats 40000000 in
theorem zo_X7_least : yy_okM zt_T zm_X7_least = true := by decide +kernel
set_option maxRecDepth 1000000 in
set_option maxHeartbeats 40000000 in
theorem zo_X7_bet : yy_okM zt_T zm_X7_bet = true := by decide +kernel
set_option maxRecDepth 1000000 in
set_option maxHeartbeats 40000000 in
theorem zo_X7_fateOf : yy_okM zt_T zm_X7_fateOf = true := by decide +kernel
set_option maxRecDepth 1000000 in
set_option maxHeartbeats 40000000 in
theorem zo_X7_quiet : yy_okM zt_T zm_X7_quiet = true := by decide +kernel
set_option maxRecDepth 1000000 in
set_option maxHeartbeats 40000000 in
theorem zo_X7_unsure : yy_okM zt_T zm_X7_unsure = true := by decide +kernel
set_option maxRecDepth 1000000 in
set_option maxHeartbeats 40000000 in
theorem zo_X7_odds : yy_okM zt_T zm_X7_odds = true := by decide +kernel
set_option maxRecDepth 1000000 in
set_option maxHeartbeats 40000000 in
theorem zo_X7_layOwns : yy_okM zt_T zm_X7_layOwns = true := by decide +kernel
set_option maxRecDepth 1000000 in
set_option maxHeartbeats 40000000 in
theorem zo_X7_next : yy_okM zt_T zm_X7_next = true := by decide +kernel
set_option maxRecDepth 1000000 in
set_option maxHeartbeats 40000000 in
theorem zo_X6_later : yy_okM zt_T zm_X6_later = true := by decide +kernel
