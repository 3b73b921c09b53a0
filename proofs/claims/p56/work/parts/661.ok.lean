set_option maxRecDepth 1000000 in
set_option maxHeartbeats 40000000 in
theorem zo_X6_feed : (yy_okM zt_T zm_X6_feed && zz_rows zm_X6_feed) = true := by decide +kernel
set_option maxRecDepth 1000000 in
set_option maxHeartbeats 40000000 in
theorem zo_X3_readNumber : (yy_okM zt_T zm_X3_readNumber && zz_rows zm_X3_readNumber) = true := by decide +kernel
set_option maxRecDepth 1000000 in
set_option maxHeartbeats 40000000 in
theorem zo_J1_charAt_3b067 : (yy_okM zt_T zm_J1_charAt_3b067 && zz_rows zm_J1_charAt_3b067) = true := by decide +kernel
set_option maxRecDepth 1000000 in
set_option maxHeartbeats 40000000 in
theorem zo_X3_rankOf : (yy_okM zt_T zm_X3_rankOf && zz_rows zm_X3_rankOf) = true := by decide +kernel
set_option maxRecDepth 1000000 in
set_option maxHeartbeats 40000000 in
theorem zo_X3_named : (yy_okM zt_T zm_X3_named && zz_rows zm_X3_named) = true := by decide +kernel
set_option maxRecDepth 1000000 in
set_option maxHeartbeats 40000000 in
theorem zo_X3_unit_v7 : (yy_okM zt_T zm_X3_unit_v7 && zz_rows zm_X3_unit_v7) = true := by decide +kernel
set_option maxRecDepth 1000000 in
set_option maxHeartbeats 40000000 in
theorem zo_X3_joined_v2_7 : (yy_okM zt_T zm_X3_joined_v2_7 && zz_rows zm_X3_joined_v2_7) = true := by decide +kernel
set_option maxRecDepth 1000000 in
set_option maxHeartbeats 40000000 in
theorem zo_X3_unit_v6 : (yy_okM zt_T zm_X3_unit_v6 && zz_rows zm_X3_unit_v6) = true := by decide +kernel
set_option maxRecDepth 1000000 in
set_option maxHeartbeats 40000000 in
theorem zo_X3_joined_v2_6 : (yy_okM zt_T zm_X3_joined_v2_6 && zz_rows zm_X3_joined_v2_6) = true := by decide +kernel
set_option maxRecDepth 1000000 in
set_option maxHeartbeats 40000000 in
theorem zo_X3_unit_v5 : (yy_okM zt_T zm_X3_unit_v5 && zz_rows zm_X3_unit_v5) = true := by decide +kernel
set_option maxRecDepth 1000000 in
set_option maxHeartbeats 40000000 in
theorem zo_X3_joined_v2_5 : (yy_okM zt_T zm_X3_joined_v2_5 && zz_rows zm_X3_joined_v2_5) = true := by decide +kernel
set_option maxRecDepth 1000000 in
set_option maxHeartbeats 40000000 in
theorem zo_X3_unit_v4 : (yy_okM zt_T zm_X3_unit_v4 && zz_rows zm_X3_unit_v4) = true := by decide +kernel
set_option maxRecDepth 1000000 in
set_option maxHeartbeats 40000000 in
theorem zo_X3_joined_v2_4 : (yy_okM zt_T zm_X3_joined_v2_4 && zz_rows zm_X3_joined_v2_4) = true := by decide +kernel
set_option maxRecDepth 1000000 in
set_option maxHeartbeats 40000000 in
theorem zo_X3_unit_v3 : (yy_okM zt_T zm_X3_unit_v3 && zz_rows zm_X3_unit_v3) = true := by decide +kernel
set_option maxRecDepth 1000000 in
set_option maxHeartbeats 40000000 in
theorem zo_X3_joined_v2_3 : (yy_okM zt_T zm_X3_joined_v2_3 && zz_rows zm_X3_joined_v2_3) = true := by decide +kernel
set_option maxRecDepth 1000000 in
set_option maxHeartbeats 40000000 in
theorem zo_X3_unit_v2 : (yy_okM zt_T zm_X3_unit_v2 && zz_rows zm_X3_unit_v2) = true := by decide +kernel
set_option maxRecDepth 1000000 in
set_option maxHeartbeats 40000000 in
theorem zo_X3_joined_v2_2 : (yy_okM zt_T zm_X3_joined_v2_2 && zz_rows zm_X3_joined_v2_2) = true := by decide +kernel
set_option maxRecDepth 1000000 in
set_option maxHeartbeats 40000000 in
theorem zo_X3_unit_v1 : (yy_okM zt_T zm_X3_unit_v1 && zz_rows zm_X3_unit_v1) = true := by decide +kernel
set_option maxRecDepth 1000000 in
set_option maxHeartbeats 40000000 in
theorem zo_X3_joined_v2_1 : (yy_okM zt_T zm_X3_joined_v2_1 && zz_rows zm_X3_joined_v2_1) = true := by decide +kernel
set_option maxRecDepth 1000000 in
set_option maxHeartbeats 40000000 in
theorem zo_X3_unit_v0 : (yy_okM zt_T zm_X3_unit_v0 && zz_rows zm_X3_unit_v0) = true := by decide +kernel
set_option maxRecDepth 1000000 in
set_option maxHeartbeats 40000000 in
theorem zo_X3_joined_v2_0 : (yy_okM zt_T zm_X3_joined_v2_0 && zz_rows zm_X3_joined_v2_0) = true := by decide +kernel
set_option maxRecDepth 1000000 in
set_option maxHeartbeats 40000000 in
theorem zo_X2_isUnit : (yy_okM zt_T zm_X2_isUnit && zz_rows zm_X2_isUnit) = true := by decide +kernel
set_option maxRecDepth 1000000 in
set_option maxHeartbeats 40000000 in
theorem zo_X2_unitIn : (yy_okM zt_T zm_X2_unitIn && zz_rows zm_X2_unitIn) = true := by decide +kernel
set_option maxRecDepth 1000000 in
set_option maxHeartbeats 40000000 in
theorem zo_X3_number : (yy_okM zt_T zm_X3_number && zz_rows zm_X3_number) = true := by decide +kernel
set_option maxRecDepth 1000000 in
set_option maxHeartbeats 40000000 in
theorem zo_X3_somebody : (yy_okM zt_T zm_X3_somebody && zz_rows zm_X3_somebody) = true := by decide +kernel
set_option maxRecDepth 1000000 in
set_option maxHeartbeats 40000000 in
theorem zo_X3_isFirst : (yy_okM zt_T zm_X3_isFirst && zz_rows zm_X3_isFirst) = true := by decide +kernel
set_option maxRecDepth 1000000 in
set_option maxHeartbeats 40000000 in
theorem zo_X5_startDay : (yy_okM zt_T zm_X5_startDay && zz_rows zm_X5_startDay) = true := by decide +kernel
set_option maxRecDepth 1000000 in
set_option maxHeartbeats 40000000 in
theorem zo_X6_startAnew : (yy_okM zt_T zm_X6_startAnew && zz_rows zm_X6_startAnew) = true := by decide +kernel
set_option maxRecDepth 1000000 in
set_option maxHeartbeats 40000000 in
theorem zo_X6_person : (yy_okM zt_T zm_X6_person && zz_rows zm_X6_person) = true := by decide +kernel
set_option maxRecDepth 1000000 in
set_option maxHeartbeats 40000000 in
theorem zo_X6_possible : (yy_okM zt_T zm_X6_possible && zz_rows zm_X6_possible) = true := by decide +kernel
set_option maxRecDepth 1000000 in
set_option maxHeartbeats 40000000 in
theorem zo_X6_knowing : (yy_okM zt_T zm_X6_knowing && zz_rows zm_X6_knowing) = true := by decide +kernel
set_option maxRecDepth 1000000 in
set_option maxHeartbeats 40000000 in
theorem zo_X6_foggyDawn : (yy_okM zt_T zm_X6_foggyDawn && zz_rows zm_X6_foggyDawn) = true := by decide +kernel
set_option maxRecDepth 1000000 in
set_option maxHeartbeats 40000000 in
theorem zo_X6_ask : (yy_okM zt_T zm_X6_ask && zz_rows zm_X6_ask) = true := by decide +kernel
set_option maxRecDepth 1000000 in
set_option maxHeartbeats 40000000 in
theorem zo_X6_canWhisper : (yy_okM zt_T zm_X6_canWhisper && zz_rows zm_X6_canWhisper) = true := by decide +kernel
set_option maxRecDepth 1000000 in
set_option maxHeartbeats 40000000 in
theorem zo_X0_doAgain : (yy_okM zt_T zm_X0_doAgain && zz_rows zm_X0_doAgain) = true := by decide +kernel
set_option maxRecDepth 1000000 in
set_option maxHeartbeats 40000000 in
theorem zo_X6_knows : (yy_okM zt_T zm_X6_knows && zz_rows zm_X6_knows) = true := by decide +kernel
set_option maxRecDepth 1000000 in
set_option maxHeartbeats 40000000 in
theorem zo_X6_depth : (yy_okM zt_T zm_X6_depth && zz_rows zm_X6_depth) = true := by decide +kernel
set_option maxRecDepth 1000000 in
set_option maxHeartbeats 40000000 in
theorem zo_X6_endNow : (yy_okM zt_T zm_X6_endNow && zz_rows zm_X6_endNow) = true := by decide +kernel
set_option maxRecDepth 1000000 in
set_option maxHeartbeats 40000000 in
theorem zo_X6_worldsAt : (yy_okM zt_T zm_X6_worldsAt && zz_rows zm_X6_worldsAt) = true := by decide +kernel
set_option maxRecDepth 1000000 in
set_option maxHeartbeats 40000000 in
theorem zo_X6_lesser : (yy_okM zt_T zm_X6_lesser && zz_rows zm_X6_lesser) = true := by decide +kernel
set_option maxRecDepth 1000000 in
set_option maxHeartbeats 40000000 in
theorem zo_X6_oneOrNumber : (yy_okM zt_T zm_X6_oneOrNumber && zz_rows zm_X6_oneOrNumber) = true := by decide +kernel
set_option maxRecDepth 1000000 in
set_option maxHeartbeats 40000000 in
theorem zo_X6_hint : (yy_okM zt_T zm_X6_hint && zz_rows zm_X6_hint) = true := by decide +kernel
set_option maxRecDepth 1000000 in
set_option maxHeartbeats 40000000 in
theorem zo_X6_wronged : (yy_okM zt_T zm_X6_wronged && zz_rows zm_X6_wronged) = true := by decide +kernel
set_option maxRecDepth 1000000 in
set_option maxHeartbeats 40000000 in
theorem zo_X6_knowersOf : (yy_okM zt_T zm_X6_knowersOf && zz_rows zm_X6_knowersOf) = true := by decide +kernel
set_option maxRecDepth 1000000 in
set_option maxHeartbeats 40000000 in
theorem zo_X6_suspected : (yy_okM zt_T zm_X6_suspected && zz_rows zm_X6_suspected) = true := by decide +kernel
set_option maxRecDepth 1000000 in
set_option maxHeartbeats 40000000 in
theorem zo_X6_shared : (yy_okM zt_T zm_X6_shared && zz_rows zm_X6_shared) = true := by decide +kernel
set_option maxRecDepth 1000000 in
set_option maxHeartbeats 40000000 in
theorem zo_X6_fate : (yy_okM zt_T zm_X6_fate && zz_rows zm_X6_fate) = true := by decide +kernel
set_option maxRecDepth 1000000 in
set_option maxHeartbeats 40000000 in
theorem zo_X6_bestPegs : (yy_okM zt_T zm_X6_bestPegs && zz_rows zm_X6_bestPegs) = true := by decide +kernel
set_option maxRecDepth 1000000 in
set_option maxHeartbeats 40000000 in
theorem zo_X6_meeting : (yy_okM zt_T zm_X6_meeting && zz_rows zm_X6_meeting) = true := by decide +kernel
set_option maxRecDepth 1000000 in
set_option maxHeartbeats 40000000 in
theorem zo_X6_odds : (yy_okM zt_T zm_X6_odds && zz_rows zm_X6_odds) = true := by decide +kernel
set_option maxRecDepth 1000000 in
set_option maxHeartbeats 40000000 in
theorem zo_X6_untell : (yy_okM zt_T zm_X6_untell && zz_rows zm_X6_untell) = true := by decide +kernel
set_option maxRecDepth 1000000 in
set_option maxHeartbeats 40000000 in
theorem zo_X4_countsAt : (yy_okM zt_T zm_X4_countsAt && zz_rows zm_X4_countsAt) = true := by decide +kernel
set_option maxRecDepth 1000000 in
set_option maxHeartbeats 40000000 in
theorem zo_X6_sure : (yy_okM zt_T zm_X6_sure && zz_rows zm_X6_sure) = true := by decide +kernel
set_option maxRecDepth 1000000 in
set_option maxHeartbeats 40000000 in
theorem zo_X6_about : (yy_okM zt_T zm_X6_about && zz_rows zm_X6_about) = true := by decide +kernel
set_option maxRecDepth 1000000 in
set_option maxHeartbeats 40000000 in
theorem zo_X7_folk : (yy_okM zt_T zm_X7_folk && zz_rows zm_X7_folk) = true := by decide +kernel
set_option maxRecDepth 1000000 in
set_option maxHeartbeats 40000000 in
theorem zo_X7_comes : (yy_okM zt_T zm_X7_comes && zz_rows zm_X7_comes) = true := by decide +kernel
set_option maxRecDepth 1000000 in
set_option maxHeartbeats 40000000 in
theorem zo_X7_bit : (yy_okM zt_T zm_X7_bit && zz_rows zm_X7_bit) = true := by decide +kernel
set_option maxRecDepth 1000000 in
set_option maxHeartbeats 40000000 in
theorem zo_X7_countMay : (yy_okM zt_T zm_X7_countMay && zz_rows zm_X7_countMay) = true := by decide +kernel
set_option maxRecDepth 1000000 in
set_option maxHeartbeats 40000000 in
theorem zo_X7_layKnowledge : (yy_okM zt_T zm_X7_layKnowledge && zz_rows zm_X7_layKnowledge) = true := by decide +kernel
set_option maxRecDepth 1000000 in
set_option maxHeartbeats 40000000 in
theorem zo_X7_goInEarnest : (yy_okM zt_T zm_X7_goInEarnest && zz_rows zm_X7_goInEarnest) = true := by decide +kernel
set_option maxRecDepth 1000000 in
set_option maxHeartbeats 40000000 in
theorem zo_X7_goAsk : (yy_okM zt_T zm_X7_goAsk && zz_rows zm_X7_goAsk) = true := by decide +kernel
set_option maxRecDepth 1000000 in
set_option maxHeartbeats 40000000 in
theorem zo_X7_canWhisper : (yy_okM zt_T zm_X7_canWhisper && zz_rows zm_X7_canWhisper) = true := by decide +kernel
set_option maxRecDepth 1000000 in
set_option maxHeartbeats 40000000 in
theorem zo_X7_mayBe : (yy_okM zt_T zm_X7_mayBe && zz_rows zm_X7_mayBe) = true := by decide +kernel
set_option maxRecDepth 1000000 in
set_option maxHeartbeats 40000000 in
theorem zo_X7_depth : (yy_okM zt_T zm_X7_depth && zz_rows zm_X7_depth) = true := by decide +kernel
set_option maxRecDepth 1000000 in
set_option maxHeartbeats 40000000 in
theorem zo_X7_behind : (yy_okM zt_T zm_X7_behind && zz_rows zm_X7_behind) = true := by decide +kernel
set_option maxRecDepth 1000000 in
set_option maxHeartbeats 40000000 in
theorem zo_X7_orNone : (yy_okM zt_T zm_X7_orNone && zz_rows zm_X7_orNone) = true := by decide +kernel
set_option maxRecDepth 1000000 in
set_option maxHeartbeats 40000000 in
theorem zo_X7_worldsAt : (yy_okM zt_T zm_X7_worldsAt && zz_rows zm_X7_worldsAt) = true := by decide +kernel
set_option maxRecDepth 1000000 in
set_option maxHeartbeats 40000000 in
theorem zo_X7_group : (yy_okM zt_T zm_X7_group && zz_rows zm_X7_group) = true := by decide +kernel
set_option maxRecDepth 1000000 in
set_option maxHeartbeats 40000000 in
theorem zo_X7_pin : (yy_okM zt_T zm_X7_pin && zz_rows zm_X7_pin) = true := by decide +kernel
set_option maxRecDepth 1000000 in
set_option maxHeartbeats 40000000 in
theorem zo_X7_wisest : (yy_okM zt_T zm_X7_wisest && zz_rows zm_X7_wisest) = true := by decide +kernel
set_option maxRecDepth 1000000 in
set_option maxHeartbeats 40000000 in
theorem zo_X7_least : (yy_okM zt_T zm_X7_least && zz_rows zm_X7_least) = true := by decide +kernel
set_option maxRecDepth 1000000 in
set_option maxHeartbeats 40000000 in
theorem zo_X7_shared : (yy_okM zt_T zm_X7_shared && zz_rows zm_X7_shared) = true := by decide +kernel
set_option maxRecDepth 1000000 in
set_option maxHeartbeats 40000000 in
theorem zo_X7_fate : (yy_okM zt_T zm_X7_fate && zz_rows zm_X7_fate) = true := by decide +kernel
set_option maxRecDepth 1000000 in
set_option maxHeartbeats 40000000 in
theorem zo_X7_pegs : (yy_okM zt_T zm_X7_pegs && zz_rows zm_X7_pegs) = true := by decide +kernel
set_option maxRecDepth 1000000 in
set_option maxHeartbeats 40000000 in
theorem zo_X7_within : (yy_okM zt_T zm_X7_within && zz_rows zm_X7_within) = true := by decide +kernel
set_option maxRecDepth 1000000 in
set_option maxHeartbeats 40000000 in
theorem zo_X7_odds : (yy_okM zt_T zm_X7_odds && zz_rows zm_X7_odds) = true := by decide +kernel
set_option maxRecDepth 1000000 in
set_option maxHeartbeats 40000000 in
theorem zo_X7_layTold : (yy_okM zt_T zm_X7_layTold && zz_rows zm_X7_layTold) = true := by decide +kernel
set_option maxRecDepth 1000000 in
set_option maxHeartbeats 40000000 in
theorem zo_X7_sure : (yy_okM zt_T zm_X7_sure && zz_rows zm_X7_sure) = true := by decide +kernel
set_option maxRecDepth 1000000 in
set_option maxHeartbeats 40000000 in
theorem zo_X7_back : (yy_okM zt_T zm_X7_back && zz_rows zm_X7_back) = true := by decide +kernel
