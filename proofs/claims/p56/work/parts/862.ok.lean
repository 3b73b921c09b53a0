set_option maxRecDepth 1000000 in
set_option maxHeartbeats 40000000 in
theorem zo_X7_highest : yy_okM zt_T zm_X7_highest = true := by decide +kernel
set_option maxRecDepth 1000000 in
set_option maxHeartbeats 40000000 in
theorem zo_X7_asked : yy_okM zt_T zm_X7_asked = true := by decide +kernel
set_option maxRecDepth 1000000 in
set_option maxHeartbeats 40000000 in
theorem zo_X6_end : yy_okM zt_T zm_X6_end = true := by decide +kernel
set_option maxRecDepth 1000000 in
set_option maxHeartbeats 40000000 in
theorem zo_J0_coder_7d493 : yy_okM zt_T zm_J0_coder_7d493 = true := by decide +kernel
set_option maxRecDepth 1000000 in
set_option maxHeartbeats 40000000 in
theorem zo_J0_charAt_5068e : yy_okM zt_T zm_J0_charAt_5068e = true := by decide +kernel
set_option maxRecDepth 1000000 in
set_option maxHeartbeats 40000000 in
theorem zo_X3_isSign : yy_okM zt_T zm_X3_isSign = true := by decide +kernel
set_option maxRecDepth 1000000 in
set_option maxHeartbeats 40000000 in
theorem zo_X3_refuse : yy_okM zt_T zm_X3_refuse = true := by decide +kernel
set_option maxRecDepth 1000000 in
set_option maxHeartbeats 40000000 in
theorem zo_X3_joined_v5_7 : yy_okM zt_T zm_X3_joined_v5_7 = true := by decide +kernel
set_option maxRecDepth 1000000 in
set_option maxHeartbeats 40000000 in
theorem zo_X3_denied_v6 : yy_okM zt_T zm_X3_denied_v6 = true := by decide +kernel
set_option maxRecDepth 1000000 in
set_option maxHeartbeats 40000000 in
theorem zo_X3_joined_v5_6 : yy_okM zt_T zm_X3_joined_v5_6 = true := by decide +kernel
set_option maxRecDepth 1000000 in
set_option maxHeartbeats 40000000 in
theorem zo_X3_denied_v5 : yy_okM zt_T zm_X3_denied_v5 = true := by decide +kernel
set_option maxRecDepth 1000000 in
set_option maxHeartbeats 40000000 in
theorem zo_X3_joined_v5_5 : yy_okM zt_T zm_X3_joined_v5_5 = true := by decide +kernel
set_option maxRecDepth 1000000 in
set_option maxHeartbeats 40000000 in
theorem zo_X3_denied_v4 : yy_okM zt_T zm_X3_denied_v4 = true := by decide +kernel
set_option maxRecDepth 1000000 in
set_option maxHeartbeats 40000000 in
theorem zo_X3_joined_v5_4 : yy_okM zt_T zm_X3_joined_v5_4 = true := by decide +kernel
set_option maxRecDepth 1000000 in
set_option maxHeartbeats 40000000 in
theorem zo_X3_denied_v3 : yy_okM zt_T zm_X3_denied_v3 = true := by decide +kernel
set_option maxRecDepth 1000000 in
set_option maxHeartbeats 40000000 in
theorem zo_X3_joined_v5_3 : yy_okM zt_T zm_X3_joined_v5_3 = true := by decide +kernel
set_option maxRecDepth 1000000 in
set_option maxHeartbeats 40000000 in
theorem zo_X3_denied_v2 : yy_okM zt_T zm_X3_denied_v2 = true := by decide +kernel
set_option maxRecDepth 1000000 in
set_option maxHeartbeats 40000000 in
theorem zo_X3_joined_v5_2 : yy_okM zt_T zm_X3_joined_v5_2 = true := by decide +kernel
set_option maxRecDepth 1000000 in
set_option maxHeartbeats 40000000 in
theorem zo_X3_denied_v1 : yy_okM zt_T zm_X3_denied_v1 = true := by decide +kernel
set_option maxRecDepth 1000000 in
set_option maxHeartbeats 40000000 in
theorem zo_X3_joined_v5_1 : yy_okM zt_T zm_X3_joined_v5_1 = true := by decide +kernel
set_option maxRecDepth 1000000 in
set_option maxHeartbeats 40000000 in
theorem zo_X3_denied_v0 : yy_okM zt_T zm_X3_denied_v0 = true := by decide +kernel
set_option maxRecDepth 1000000 in
set_option maxHeartbeats 40000000 in
theorem zo_X3_joined_v5_0 : yy_okM zt_T zm_X3_joined_v5_0 = true := by decide +kernel
set_option maxRecDepth 1000000 in
set_option maxHeartbeats 40000000 in
theorem zo_X3_joined_v1_0 : yy_okM zt_T zm_X3_joined_v1_0 = true := by decide +kernel
set_option maxRecDepth 1000000 in
set_option maxHeartbeats 40000000 in
theorem zo_J6_bitCount_0f7a4 : yy_okM zt_T zm_J6_bitCount_0f7a4 = true := by decide +kernel
set_option maxRecDepth 1000000 in
set_option maxHeartbeats 40000000 in
theorem zo_X2_join : yy_okM zt_T zm_X2_join = true := by decide +kernel
set_option maxRecDepth 1000000 in
set_option maxHeartbeats 40000000 in
theorem zo_X3_personLine : yy_okM zt_T zm_X3_personLine = true := by decide +kernel
set_option maxRecDepth 1000000 in
set_option maxHeartbeats 40000000 in
theorem zo_X1_addKnown : yy_okM zt_T zm_X1_addKnown = true := by decide +kernel
set_option maxRecDepth 1000000 in
set_option maxHeartbeats 40000000 in
theorem zo_X3_read : yy_okM zt_T zm_X3_read = true := by decide +kernel
set_option maxRecDepth 1000000 in
set_option maxHeartbeats 40000000 in
theorem zo_X0_forget : yy_okM zt_T zm_X0_forget = true := by decide +kernel
set_option maxRecDepth 1000000 in
set_option maxHeartbeats 40000000 in
theorem zo_X6_fault : yy_okM zt_T zm_X6_fault = true := by decide +kernel
set_option maxRecDepth 1000000 in
set_option maxHeartbeats 40000000 in
theorem zo_X6_sign : yy_okM zt_T zm_X6_sign = true := by decide +kernel
set_option maxRecDepth 1000000 in
set_option maxHeartbeats 40000000 in
theorem zo_X0_push : yy_okM zt_T zm_X0_push = true := by decide +kernel
set_option maxRecDepth 1000000 in
set_option maxHeartbeats 40000000 in
theorem zo_X6_dawn : yy_okM zt_T zm_X6_dawn = true := by decide +kernel
set_option maxRecDepth 1000000 in
set_option maxHeartbeats 40000000 in
theorem zo_X5_signedLike : yy_okM zt_T zm_X5_signedLike = true := by decide +kernel
set_option maxRecDepth 1000000 in
set_option maxHeartbeats 40000000 in
theorem zo_X6_peg : yy_okM zt_T zm_X6_peg = true := by decide +kernel
set_option maxRecDepth 1000000 in
set_option maxHeartbeats 40000000 in
theorem zo_X0_takeBack : yy_okM zt_T zm_X0_takeBack = true := by decide +kernel
set_option maxRecDepth 1000000 in
set_option maxHeartbeats 40000000 in
theorem zo_X6_taken : yy_okM zt_T zm_X6_taken = true := by decide +kernel
set_option maxRecDepth 1000000 in
set_option maxHeartbeats 40000000 in
theorem zo_X6_knowsIn : yy_okM zt_T zm_X6_knowsIn = true := by decide +kernel
set_option maxRecDepth 1000000 in
set_option maxHeartbeats 40000000 in
theorem zo_X6_open : yy_okM zt_T zm_X6_open = true := by decide +kernel
set_option maxRecDepth 1000000 in
set_option maxHeartbeats 40000000 in
theorem zo_X6_first : yy_okM zt_T zm_X6_first = true := by decide +kernel
set_option maxRecDepth 1000000 in
set_option maxHeartbeats 40000000 in
theorem zo_X6_tellSame : yy_okM zt_T zm_X6_tellSame = true := by decide +kernel
set_option maxRecDepth 1000000 in
set_option maxHeartbeats 40000000 in
theorem zo_X6_group : yy_okM zt_T zm_X6_group = true := by decide +kernel
set_option maxRecDepth 1000000 in
set_option maxHeartbeats 40000000 in
theorem zo_X6_twoOrEnd : yy_okM zt_T zm_X6_twoOrEnd = true := by decide +kernel
set_option maxRecDepth 1000000 in
set_option maxHeartbeats 40000000 in
theorem zo_X6_isThoughtOf : yy_okM zt_T zm_X6_isThoughtOf = true := by decide +kernel
set_option maxRecDepth 1000000 in
set_option maxHeartbeats 40000000 in
theorem zo_X6_wisest : yy_okM zt_T zm_X6_wisest = true := by decide +kernel
set_option maxRecDepth 1000000 in
set_option maxHeartbeats 40000000 in
theorem zo_X6_least : yy_okM zt_T zm_X6_least = true := by decide +kernel
set_option maxRecDepth 1000000 in
set_option maxHeartbeats 40000000 in
theorem zo_X6_bet : yy_okM zt_T zm_X6_bet = true := by decide +kernel
set_option maxRecDepth 1000000 in
set_option maxHeartbeats 40000000 in
theorem zo_X6_fateOf : yy_okM zt_T zm_X6_fateOf = true := by decide +kernel
set_option maxRecDepth 1000000 in
set_option maxHeartbeats 40000000 in
theorem zo_X6_quiet : yy_okM zt_T zm_X6_quiet = true := by decide +kernel
set_option maxRecDepth 1000000 in
set_option maxHeartbeats 40000000 in
theorem zo_X6_spy : yy_okM zt_T zm_X6_spy = true := by decide +kernel
set_option maxRecDepth 1000000 in
set_option maxHeartbeats 40000000 in
theorem zo_X6_lies : yy_okM zt_T zm_X6_lies = true := by decide +kernel
set_option maxRecDepth 1000000 in
set_option maxHeartbeats 40000000 in
theorem zo_X4_withdraw : yy_okM zt_T zm_X4_withdraw = true := by decide +kernel
set_option maxRecDepth 1000000 in
set_option maxHeartbeats 40000000 in
theorem zo_X4_countsAt : yy_okM zt_T zm_X4_countsAt = true := by decide +kernel
set_option maxRecDepth 1000000 in
set_option maxHeartbeats 40000000 in
theorem zo_X6_sure : yy_okM zt_T zm_X6_sure = true := by decide +kernel
set_option maxRecDepth 1000000 in
set_option maxHeartbeats 40000000 in
theorem zo_X6_about : yy_okM zt_T zm_X6_about = true := by decide +kernel
set_option maxRecDepth 1000000 in
set_option maxHeartbeats 40000000 in
theorem zo_X7_byteAt : yy_okM zt_T zm_X7_byteAt = true := by decide +kernel
set_option maxRecDepth 1000000 in
set_option maxHeartbeats 40000000 in
theorem zo_X7_goOn : yy_okM zt_T zm_X7_goOn = true := by decide +kernel
set_option maxRecDepth 1000000 in
set_option maxHeartbeats 40000000 in
theorem zo_X7_layTold : yy_okM zt_T zm_X7_layTold = true := by decide +kernel
set_option maxRecDepth 1000000 in
set_option maxHeartbeats 40000000 in
theorem zo_X7_isWord : yy_okM zt_T zm_X7_isWord = true := by decide +kernel
set_option maxRecDepth 1000000 in
set_option maxHeartbeats 40000000 in
theorem zo_X7_perhaps : yy_okM zt_T zm_X7_perhaps = true := by decide +kernel
set_option maxRecDepth 1000000 in
set_option maxHeartbeats 40000000 in
theorem zo_X7_readKnows : yy_okM zt_T zm_X7_readKnows = true := by decide +kernel
set_option maxRecDepth 1000000 in
set_option maxHeartbeats 40000000 in
theorem zo_X7_wordHere : yy_okM zt_T zm_X7_wordHere = true := by decide +kernel
set_option maxRecDepth 1000000 in
set_option maxHeartbeats 40000000 in
theorem zo_X7_isCompared : yy_okM zt_T zm_X7_isCompared = true := by decide +kernel
set_option maxRecDepth 1000000 in
set_option maxHeartbeats 40000000 in
theorem zo_X7_isFull : yy_okM zt_T zm_X7_isFull = true := by decide +kernel
set_option maxRecDepth 1000000 in
set_option maxHeartbeats 40000000 in
theorem zo_X7_parish : yy_okM zt_T zm_X7_parish = true := by decide +kernel
set_option maxRecDepth 1000000 in
set_option maxHeartbeats 40000000 in
theorem zo_X7_person : yy_okM zt_T zm_X7_person = true := by decide +kernel
set_option maxRecDepth 1000000 in
set_option maxHeartbeats 40000000 in
theorem zo_X7_countMay : yy_okM zt_T zm_X7_countMay = true := by decide +kernel
set_option maxRecDepth 1000000 in
set_option maxHeartbeats 40000000 in
theorem zo_X7_layKnowledge : yy_okM zt_T zm_X7_layKnowledge = true := by decide +kernel
set_option maxRecDepth 1000000 in
set_option maxHeartbeats 40000000 in
theorem zo_X7_goInEarnest : yy_okM zt_T zm_X7_goInEarnest = true := by decide +kernel
set_option maxRecDepth 1000000 in
set_option maxHeartbeats 40000000 in
theorem zo_X7_goAsk : yy_okM zt_T zm_X7_goAsk = true := by decide +kernel
set_option maxRecDepth 1000000 in
set_option maxHeartbeats 40000000 in
theorem zo_X7_canWhisper : yy_okM zt_T zm_X7_canWhisper = true := by decide +kernel
set_option maxRecDepth 1000000 in
set_option maxHeartbeats 40000000 in
theorem zo_X7_redo : yy_okM zt_T zm_X7_redo = true := by decide +kernel
set_option maxRecDepth 1000000 in
set_option maxHeartbeats 40000000 in
theorem zo_X7_layIsSo : yy_okM zt_T zm_X7_layIsSo = true := by decide +kernel
set_option maxRecDepth 1000000 in
set_option maxHeartbeats 40000000 in
theorem zo_X7_open : yy_okM zt_T zm_X7_open = true := by decide +kernel
set_option maxRecDepth 1000000 in
set_option maxHeartbeats 40000000 in
theorem zo_X7_endOf : yy_okM zt_T zm_X7_endOf = true := by decide +kernel
set_option maxRecDepth 1000000 in
set_option maxHeartbeats 40000000 in
theorem zo_X7_first : yy_okM zt_T zm_X7_first = true := by decide +kernel
set_option maxRecDepth 1000000 in
set_option maxHeartbeats 40000000 in
theorem zo_X7_isLess : yy_okM zt_T zm_X7_isLess = true := by decide +kernel
set_option maxRecDepth 1000000 in
set_option maxHeartbeats 40000000 in
theorem zo_X7_hint : yy_okM zt_T zm_X7_hint = true := by decide +kernel
set_option maxRecDepth 1000000 in
set_option maxHeartbeats 40000000 in
theorem zo_X7_wronged : yy_okM zt_T zm_X7_wronged = true := by decide +kernel
set_option maxRecDepth 1000000 in
set_option maxHeartbeats 40000000 in
theorem zo_X7_talked : yy_okM zt_T zm_X7_talked = true := by decide +kernel
set_option maxRecDepth 1000000 in
set_option maxHeartbeats 40000000 in
theorem zo_X7_law : yy_okM zt_T zm_X7_law = true := by decide +kernel
set_option maxRecDepth 1000000 in
set_option maxHeartbeats 40000000 in
theorem zo_X7_parts : yy_okM zt_T zm_X7_parts = true := by decide +kernel
set_option maxRecDepth 1000000 in
set_option maxHeartbeats 40000000 in
theorem zo_X7_latest : yy_okM zt_T zm_X7_latest = true := by decide +kernel
set_option maxRecDepth 1000000 in
set_option maxHeartbeats 40000000 in
theorem zo_X7_spy : yy_okM zt_T zm_X7_spy = true := by decide +kernel
set_option maxRecDepth 1000000 in
set_option maxHeartbeats 40000000 in
theorem zo_X7_lies : yy_okM zt_T zm_X7_lies = true := by decide +kernel
set_option maxRecDepth 1000000 in
set_option maxHeartbeats 40000000 in
theorem zo_X7_untell : yy_okM zt_T zm_X7_untell = true := by decide +kernel
set_option maxRecDepth 1000000 in
set_option maxHeartbeats 40000000 in
theorem zo_X7_sure : yy_okM zt_T zm_X7_sure = true := by decide +kernel
set_option maxRecDepth 1000000 in
set_option maxHeartbeats 40000000 in
theorem zo_X7_back : yy_okM zt_T zm_X7_back = true := by decide +kernel
