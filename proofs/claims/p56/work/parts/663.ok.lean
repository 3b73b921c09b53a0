set_option maxRecDepth 1000000 in
set_option maxHeartbeats 40000000 in
theorem zo_X3_isDigit : (yy_okM zt_T zm_X3_isDigit && zz_rows zm_X3_isDigit) = true := by decide +kernel
set_option maxRecDepth 1000000 in
set_option maxHeartbeats 40000000 in
theorem zo_J0_length_8abf5 : (yy_okM zt_T zm_J0_length_8abf5 && zz_rows zm_J0_length_8abf5) = true := by decide +kernel
set_option maxRecDepth 1000000 in
set_option maxHeartbeats 40000000 in
theorem zo_X3_wordCode : (yy_okM zt_T zm_X3_wordCode && zz_rows zm_X3_wordCode) = true := by decide +kernel
set_option maxRecDepth 1000000 in
set_option maxHeartbeats 40000000 in
theorem zo_X3_advance : (yy_okM zt_T zm_X3_advance && zz_rows zm_X3_advance) = true := by decide +kernel
set_option maxRecDepth 1000000 in
set_option maxHeartbeats 40000000 in
theorem zo_X3_denied_v7 : (yy_okM zt_T zm_X3_denied_v7 && zz_rows zm_X3_denied_v7) = true := by decide +kernel
set_option maxRecDepth 1000000 in
set_option maxHeartbeats 40000000 in
theorem zo_X3_joined_v4_7 : (yy_okM zt_T zm_X3_joined_v4_7 && zz_rows zm_X3_joined_v4_7) = true := by decide +kernel
set_option maxRecDepth 1000000 in
set_option maxHeartbeats 40000000 in
theorem zo_X3_joined_v1_7 : (yy_okM zt_T zm_X3_joined_v1_7 && zz_rows zm_X3_joined_v1_7) = true := by decide +kernel
set_option maxRecDepth 1000000 in
set_option maxHeartbeats 40000000 in
theorem zo_X3_joined_v4_6 : (yy_okM zt_T zm_X3_joined_v4_6 && zz_rows zm_X3_joined_v4_6) = true := by decide +kernel
set_option maxRecDepth 1000000 in
set_option maxHeartbeats 40000000 in
theorem zo_X3_joined_v1_6 : (yy_okM zt_T zm_X3_joined_v1_6 && zz_rows zm_X3_joined_v1_6) = true := by decide +kernel
set_option maxRecDepth 1000000 in
set_option maxHeartbeats 40000000 in
theorem zo_X3_joined_v4_5 : (yy_okM zt_T zm_X3_joined_v4_5 && zz_rows zm_X3_joined_v4_5) = true := by decide +kernel
set_option maxRecDepth 1000000 in
set_option maxHeartbeats 40000000 in
theorem zo_X3_joined_v1_5 : (yy_okM zt_T zm_X3_joined_v1_5 && zz_rows zm_X3_joined_v1_5) = true := by decide +kernel
set_option maxRecDepth 1000000 in
set_option maxHeartbeats 40000000 in
theorem zo_X3_joined_v4_4 : (yy_okM zt_T zm_X3_joined_v4_4 && zz_rows zm_X3_joined_v4_4) = true := by decide +kernel
set_option maxRecDepth 1000000 in
set_option maxHeartbeats 40000000 in
theorem zo_X3_joined_v1_4 : (yy_okM zt_T zm_X3_joined_v1_4 && zz_rows zm_X3_joined_v1_4) = true := by decide +kernel
set_option maxRecDepth 1000000 in
set_option maxHeartbeats 40000000 in
theorem zo_X3_joined_v4_3 : (yy_okM zt_T zm_X3_joined_v4_3 && zz_rows zm_X3_joined_v4_3) = true := by decide +kernel
set_option maxRecDepth 1000000 in
set_option maxHeartbeats 40000000 in
theorem zo_X3_joined_v1_3 : (yy_okM zt_T zm_X3_joined_v1_3 && zz_rows zm_X3_joined_v1_3) = true := by decide +kernel
set_option maxRecDepth 1000000 in
set_option maxHeartbeats 40000000 in
theorem zo_X3_joined_v4_2 : (yy_okM zt_T zm_X3_joined_v4_2 && zz_rows zm_X3_joined_v4_2) = true := by decide +kernel
set_option maxRecDepth 1000000 in
set_option maxHeartbeats 40000000 in
theorem zo_X3_joined_v1_2 : (yy_okM zt_T zm_X3_joined_v1_2 && zz_rows zm_X3_joined_v1_2) = true := by decide +kernel
set_option maxRecDepth 1000000 in
set_option maxHeartbeats 40000000 in
theorem zo_X3_joined_v4_1 : (yy_okM zt_T zm_X3_joined_v4_1 && zz_rows zm_X3_joined_v4_1) = true := by decide +kernel
set_option maxRecDepth 1000000 in
set_option maxHeartbeats 40000000 in
theorem zo_X3_joined_v1_1 : (yy_okM zt_T zm_X3_joined_v1_1 && zz_rows zm_X3_joined_v1_1) = true := by decide +kernel
set_option maxRecDepth 1000000 in
set_option maxHeartbeats 40000000 in
theorem zo_X3_joined_v4_0 : (yy_okM zt_T zm_X3_joined_v4_0 && zz_rows zm_X3_joined_v4_0) = true := by decide +kernel
set_option maxRecDepth 1000000 in
set_option maxHeartbeats 40000000 in
theorem zo_X3_joined_v0_0 : (yy_okM zt_T zm_X3_joined_v0_0 && zz_rows zm_X3_joined_v0_0) = true := by decide +kernel
set_option maxRecDepth 1000000 in
set_option maxHeartbeats 40000000 in
theorem zo_J6_numberOfTrailingZeros_0f7a4 : (yy_okM zt_T zm_J6_numberOfTrailingZeros_0f7a4 && zz_rows zm_J6_numberOfTrailingZeros_0f7a4) = true := by decide +kernel
set_option maxRecDepth 1000000 in
set_option maxHeartbeats 40000000 in
theorem zo_X2_valueIn : (yy_okM zt_T zm_X2_valueIn && zz_rows zm_X2_valueIn) = true := by decide +kernel
set_option maxRecDepth 1000000 in
set_option maxHeartbeats 40000000 in
theorem zo_J13_bitCount_95d88 : (yy_okM zt_T zm_J13_bitCount_95d88 && zz_rows zm_J13_bitCount_95d88) = true := by decide +kernel
set_option maxRecDepth 1000000 in
set_option maxHeartbeats 40000000 in
theorem zo_X3_knowsLine : (yy_okM zt_T zm_X3_knowsLine && zz_rows zm_X3_knowsLine) = true := by decide +kernel
set_option maxRecDepth 1000000 in
set_option maxHeartbeats 40000000 in
theorem zo_X1_copyFrom : (yy_okM zt_T zm_X1_copyFrom && zz_rows zm_X1_copyFrom) = true := by decide +kernel
set_option maxRecDepth 1000000 in
set_option maxHeartbeats 40000000 in
theorem zo_X4_forget : (yy_okM zt_T zm_X4_forget && zz_rows zm_X4_forget) = true := by decide +kernel
set_option maxRecDepth 1000000 in
set_option maxHeartbeats 40000000 in
theorem zo_X6_isPerson : (yy_okM zt_T zm_X6_isPerson && zz_rows zm_X6_isPerson) = true := by decide +kernel
set_option maxRecDepth 1000000 in
set_option maxHeartbeats 40000000 in
theorem zo_X6_has : (yy_okM zt_T zm_X6_has && zz_rows zm_X6_has) = true := by decide +kernel
set_option maxRecDepth 1000000 in
set_option maxHeartbeats 40000000 in
theorem zo_X6_spread : (yy_okM zt_T zm_X6_spread && zz_rows zm_X6_spread) = true := by decide +kernel
set_option maxRecDepth 1000000 in
set_option maxHeartbeats 40000000 in
theorem zo_X0_keep : (yy_okM zt_T zm_X0_keep && zz_rows zm_X0_keep) = true := by decide +kernel
set_option maxRecDepth 1000000 in
set_option maxHeartbeats 40000000 in
theorem zo_X6_measure : (yy_okM zt_T zm_X6_measure && zz_rows zm_X6_measure) = true := by decide +kernel
set_option maxRecDepth 1000000 in
set_option maxHeartbeats 40000000 in
theorem zo_X6_arePeople : (yy_okM zt_T zm_X6_arePeople && zz_rows zm_X6_arePeople) = true := by decide +kernel
set_option maxRecDepth 1000000 in
set_option maxHeartbeats 40000000 in
theorem zo_X6_undo : (yy_okM zt_T zm_X6_undo && zz_rows zm_X6_undo) = true := by decide +kernel
set_option maxRecDepth 1000000 in
set_option maxHeartbeats 40000000 in
theorem zo_X6_verdict : (yy_okM zt_T zm_X6_verdict && zz_rows zm_X6_verdict) = true := by decide +kernel
set_option maxRecDepth 1000000 in
set_option maxHeartbeats 40000000 in
theorem zo_X6_knownToAll : (yy_okM zt_T zm_X6_knownToAll && zz_rows zm_X6_knownToAll) = true := by decide +kernel
set_option maxRecDepth 1000000 in
set_option maxHeartbeats 40000000 in
theorem zo_X6_endOf : (yy_okM zt_T zm_X6_endOf && zz_rows zm_X6_endOf) = true := by decide +kernel
set_option maxRecDepth 1000000 in
set_option maxHeartbeats 40000000 in
theorem zo_X6_will : (yy_okM zt_T zm_X6_will && zz_rows zm_X6_will) = true := by decide +kernel
set_option maxRecDepth 1000000 in
set_option maxHeartbeats 40000000 in
theorem zo_X6_lesser : (yy_okM zt_T zm_X6_lesser && zz_rows zm_X6_lesser) = true := by decide +kernel
set_option maxRecDepth 1000000 in
set_option maxHeartbeats 40000000 in
theorem zo_X6_oneOrNumber : (yy_okM zt_T zm_X6_oneOrNumber && zz_rows zm_X6_oneOrNumber) = true := by decide +kernel
set_option maxRecDepth 1000000 in
set_option maxHeartbeats 40000000 in
theorem zo_X6_hint : (yy_okM zt_T zm_X6_hint && zz_rows zm_X6_hint) = true := by decide +kernel
set_option maxRecDepth 1000000 in
set_option maxHeartbeats 40000000 in
theorem zo_X6_wronged : (yy_okM zt_T zm_X6_wronged && zz_rows zm_X6_wronged) = true := by decide +kernel
set_option maxRecDepth 1000000 in
set_option maxHeartbeats 40000000 in
theorem zo_X6_knowersOf : (yy_okM zt_T zm_X6_knowersOf && zz_rows zm_X6_knowersOf) = true := by decide +kernel
set_option maxRecDepth 1000000 in
set_option maxHeartbeats 40000000 in
theorem zo_X6_suspected : (yy_okM zt_T zm_X6_suspected && zz_rows zm_X6_suspected) = true := by decide +kernel
set_option maxRecDepth 1000000 in
set_option maxHeartbeats 40000000 in
theorem zo_X6_shared : (yy_okM zt_T zm_X6_shared && zz_rows zm_X6_shared) = true := by decide +kernel
set_option maxRecDepth 1000000 in
set_option maxHeartbeats 40000000 in
theorem zo_X6_fate : (yy_okM zt_T zm_X6_fate && zz_rows zm_X6_fate) = true := by decide +kernel
set_option maxRecDepth 1000000 in
set_option maxHeartbeats 40000000 in
theorem zo_X6_bestPegs : (yy_okM zt_T zm_X6_bestPegs && zz_rows zm_X6_bestPegs) = true := by decide +kernel
set_option maxRecDepth 1000000 in
set_option maxHeartbeats 40000000 in
theorem zo_X6_meeting : (yy_okM zt_T zm_X6_meeting && zz_rows zm_X6_meeting) = true := by decide +kernel
set_option maxRecDepth 1000000 in
set_option maxHeartbeats 40000000 in
theorem zo_X6_odds : (yy_okM zt_T zm_X6_odds && zz_rows zm_X6_odds) = true := by decide +kernel
set_option maxRecDepth 1000000 in
set_option maxHeartbeats 40000000 in
theorem zo_X6_untell : (yy_okM zt_T zm_X6_untell && zz_rows zm_X6_untell) = true := by decide +kernel
set_option maxRecDepth 1000000 in
set_option maxHeartbeats 40000000 in
theorem zo_X4_countsAt : (yy_okM zt_T zm_X4_countsAt && zz_rows zm_X4_countsAt) = true := by decide +kernel
set_option maxRecDepth 1000000 in
set_option maxHeartbeats 40000000 in
theorem zo_X6_sure : (yy_okM zt_T zm_X6_sure && zz_rows zm_X6_sure) = true := by decide +kernel
set_option maxRecDepth 1000000 in
set_option maxHeartbeats 40000000 in
theorem zo_X6_about : (yy_okM zt_T zm_X6_about && zz_rows zm_X6_about) = true := by decide +kernel
set_option maxRecDepth 1000000 in
set_option maxHeartbeats 40000000 in
theorem zo_X7_folk : (yy_okM zt_T zm_X7_folk && zz_rows zm_X7_folk) = true := by decide +kernel
set_option maxRecDepth 1000000 in
set_option maxHeartbeats 40000000 in
theorem zo_X7_comes : (yy_okM zt_T zm_X7_comes && zz_rows zm_X7_comes) = true := by decide +kernel
set_option maxRecDepth 1000000 in
set_option maxHeartbeats 40000000 in
theorem zo_X7_bit : (yy_okM zt_T zm_X7_bit && zz_rows zm_X7_bit) = true := by decide +kernel
set_option maxRecDepth 1000000 in
set_option maxHeartbeats 40000000 in
theorem zo_X7_countMay : (yy_okM zt_T zm_X7_countMay && zz_rows zm_X7_countMay) = true := by decide +kernel
set_option maxRecDepth 1000000 in
set_option maxHeartbeats 40000000 in
theorem zo_X7_layKnowledge : (yy_okM zt_T zm_X7_layKnowledge && zz_rows zm_X7_layKnowledge) = true := by decide +kernel
set_option maxRecDepth 1000000 in
set_option maxHeartbeats 40000000 in
theorem zo_X7_goInEarnest : (yy_okM zt_T zm_X7_goInEarnest && zz_rows zm_X7_goInEarnest) = true := by decide +kernel
set_option maxRecDepth 1000000 in
set_option maxHeartbeats 40000000 in
theorem zo_X7_goAsk : (yy_okM zt_T zm_X7_goAsk && zz_rows zm_X7_goAsk) = true := by decide +kernel
set_option maxRecDepth 1000000 in
set_option maxHeartbeats 40000000 in
theorem zo_X7_canWhisper : (yy_okM zt_T zm_X7_canWhisper && zz_rows zm_X7_canWhisper) = true := by decide +kernel
set_option maxRecDepth 1000000 in
set_option maxHeartbeats 40000000 in
theorem zo_X7_mayBe : (yy_okM zt_T zm_X7_mayBe && zz_rows zm_X7_mayBe) = true := by decide +kernel
set_option maxRecDepth 1000000 in
set_option maxHeartbeats 40000000 in
theorem zo_X7_depth : (yy_okM zt_T zm_X7_depth && zz_rows zm_X7_depth) = true := by decide +kernel
set_option maxRecDepth 1000000 in
set_option maxHeartbeats 40000000 in
theorem zo_X7_behind : (yy_okM zt_T zm_X7_behind && zz_rows zm_X7_behind) = true := by decide +kernel
set_option maxRecDepth 1000000 in
set_option maxHeartbeats 40000000 in
theorem zo_X7_orNone : (yy_okM zt_T zm_X7_orNone && zz_rows zm_X7_orNone) = true := by decide +kernel
set_option maxRecDepth 1000000 in
set_option maxHeartbeats 40000000 in
theorem zo_X7_worldsAt : (yy_okM zt_T zm_X7_worldsAt && zz_rows zm_X7_worldsAt) = true := by decide +kernel
set_option maxRecDepth 1000000 in
set_option maxHeartbeats 40000000 in
theorem zo_X7_group : (yy_okM zt_T zm_X7_group && zz_rows zm_X7_group) = true := by decide +kernel
set_option maxRecDepth 1000000 in
set_option maxHeartbeats 40000000 in
theorem zo_X7_pin : (yy_okM zt_T zm_X7_pin && zz_rows zm_X7_pin) = true := by decide +kernel
set_option maxRecDepth 1000000 in
set_option maxHeartbeats 40000000 in
theorem zo_X7_wisest : (yy_okM zt_T zm_X7_wisest && zz_rows zm_X7_wisest) = true := by decide +kernel
set_option maxRecDepth 1000000 in
set_option maxHeartbeats 40000000 in
theorem zo_X7_least : (yy_okM zt_T zm_X7_least && zz_rows zm_X7_least) = true := by decide +kernel
set_option maxRecDepth 1000000 in
set_option maxHeartbeats 40000000 in
theorem zo_X7_shared : (yy_okM zt_T zm_X7_shared && zz_rows zm_X7_shared) = true := by decide +kernel
set_option maxRecDepth 1000000 in
set_option maxHeartbeats 40000000 in
theorem zo_X7_fate : (yy_okM zt_T zm_X7_fate && zz_rows zm_X7_fate) = true := by decide +kernel
set_option maxRecDepth 1000000 in
set_option maxHeartbeats 40000000 in
theorem zo_X7_pegs : (yy_okM zt_T zm_X7_pegs && zz_rows zm_X7_pegs) = true := by decide +kernel
set_option maxRecDepth 1000000 in
set_option maxHeartbeats 40000000 in
theorem zo_X7_within : (yy_okM zt_T zm_X7_within && zz_rows zm_X7_within) = true := by decide +kernel
set_option maxRecDepth 1000000 in
set_option maxHeartbeats 40000000 in
theorem zo_X7_odds : (yy_okM zt_T zm_X7_odds && zz_rows zm_X7_odds) = true := by decide +kernel
set_option maxRecDepth 1000000 in
set_option maxHeartbeats 40000000 in
theorem zo_X7_layTold : (yy_okM zt_T zm_X7_layTold && zz_rows zm_X7_layTold) = true := by decide +kernel
set_option maxRecDepth 1000000 in
set_option maxHeartbeats 40000000 in
theorem zo_X7_sure : (yy_okM zt_T zm_X7_sure && zz_rows zm_X7_sure) = true := by decide +kernel
set_option maxRecDepth 1000000 in
set_option maxHeartbeats 40000000 in
theorem zo_X7_back : (yy_okM zt_T zm_X7_back && zz_rows zm_X7_back) = true := by decide +kernel
