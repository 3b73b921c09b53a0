set_option maxRecDepth 1000000 in
set_option maxHeartbeats 40000000 in
theorem zo_X3_isDigit : (yy_okM zt_T zm_X3_isDigit && zz_rows zm_X3_isDigit) = true := by decide +kernel
set_option maxRecDepth 1000000 in
set_option maxHeartbeats 40000000 in
theorem zo_J0_length_8abf5 : (yy_okM zt_T zm_J0_length_8abf5 && zz_rows zm_J0_length_8abf5) = true := by decide +kernel
set_option maxRecDepth 1000000 in
set_option maxHeartbeats 40000000 in
theorem zo_X3_wordCode : (yy_okM zt_T zm_X3_wordCode && zz_rows zm_X3_wordCode) = true := by decide +kernel
set_option maxRecDepth 1000000 in
set_option maxHeartbeats 40000000 in
theorem zo_X3_advance : (yy_okM zt_T zm_X3_advance && zz_rows zm_X3_advance) = true := by decide +kernel
set_option maxRecDepth 1000000 in
set_option maxHeartbeats 40000000 in
theorem zo_X3_denied_v7 : (yy_okM zt_T zm_X3_denied_v7 && zz_rows zm_X3_denied_v7) = true := by decide +kernel
set_option maxRecDepth 1000000 in
set_option maxHeartbeats 40000000 in
theorem zo_X3_joined_v4_7 : (yy_okM zt_T zm_X3_joined_v4_7 && zz_rows zm_X3_joined_v4_7) = true := by decide +kernel
set_option maxRecDepth 1000000 in
set_option maxHeartbeats 40000000 in
theorem zo_X3_joined_v1_7 : (yy_okM zt_T zm_X3_joined_v1_7 && zz_rows zm_X3_joined_v1_7) = true := by decide +kernel
set_option maxRecDepth 1000000 in
set_option maxHeartbeats 40000000 in
theorem zo_X3_joined_v4_6 : (yy_okM zt_T zm_X3_joined_v4_6 && zz_rows zm_X3_joined_v4_6) = true := by decide +kernel
set_option maxRecDepth 1000000 in
set_option maxHeartbeats 40000000 in
theorem zo_X3_joined_v1_6 : (yy_okM zt_T zm_X3_joined_v1_6 && zz_rows zm_X3_joined_v1_6) = true := by decide +kernel
set_option maxRecDepth 1000000 in
set_option maxHeartbeats 40000000 in
theorem zo_X3_joined_v4_5 : (yy_okM zt_T zm_X3_joined_v4_5 && zz_rows zm_X3_joined_v4_5) = true := by decide +kernel
set_option maxRecDepth 1000000 in
set_option maxHeartbeats 40000000 in
theorem zo_X3_joined_v1_5 : (yy_okM zt_T zm_X3_joined_v1_5 && zz_rows zm_X3_joined_v1_5) = true := by decide +kernel
set_option maxRecDepth 1000000 in
set_option maxHeartbeats 40000000 in
theorem zo_X3_joined_v4_4 : (yy_okM zt_T zm_X3_joined_v4_4 && zz_rows zm_X3_joined_v4_4) = true := by decide +kernel
set_option maxRecDepth 1000000 in
set_option maxHeartbeats 40000000 in
theorem zo_X3_joined_v1_4 : (yy_okM zt_T zm_X3_joined_v1_4 && zz_rows zm_X3_joined_v1_4) = true := by decide +kernel
set_option maxRecDepth 1000000 in
set_option maxHeartbeats 40000000 in
theorem zo_X3_joined_v4_3 : (yy_okM zt_T zm_X3_joined_v4_3 && zz_rows zm_X3_joined_v4_3) = true := by decide +kernel
set_option maxRecDepth 1000000 in
set_option maxHeartbeats 40000000 in
theorem zo_X3_joined_v1_3 : (yy_okM zt_T zm_X3_joined_v1_3 && zz_rows zm_X3_joined_v1_3) = true := by decide +kernel
set_option maxRecDepth 1000000 in
set_option maxHeartbeats 40000000 in
theorem zo_X3_joined_v4_2 : (yy_okM zt_T zm_X3_joined_v4_2 && zz_rows zm_X3_joined_v4_2) = true := by decide +kernel
set_option maxRecDepth 1000000 in
set_option maxHeartbeats 40000000 in
theorem zo_X3_joined_v1_2 : (yy_okM zt_T zm_X3_joined_v1_2 && zz_rows zm_X3_joined_v1_2) = true := by decide +kernel
set_option maxRecDepth 1000000 in
set_option maxHeartbeats 40000000 in
theorem zo_X3_joined_v4_1 : (yy_okM zt_T zm_X3_joined_v4_1 && zz_rows zm_X3_joined_v4_1) = true := by decide +kernel
set_option maxRecDepth 1000000 in
set_option maxHeartbeats 40000000 in
theorem zo_X3_joined_v1_1 : (yy_okM zt_T zm_X3_joined_v1_1 && zz_rows zm_X3_joined_v1_1) = true := by decide +kernel
set_option maxRecDepth 1000000 in
set_option maxHeartbeats 40000000 in
theorem zo_X3_joined_v4_0 : (yy_okM zt_T zm_X3_joined_v4_0 && zz_rows zm_X3_joined_v4_0) = true := by decide +kernel
set_option maxRecDepth 1000000 in
set_option maxHeartbeats 40000000 in
theorem zo_X3_joined_v0_0 : (yy_okM zt_T zm_X3_joined_v0_0 && zz_rows zm_X3_joined_v0_0) = true := by decide +kernel
set_option maxRecDepth 1000000 in
set_option maxHeartbeats 40000000 in
theorem zo_J6_numberOfTrailingZeros_0f7a4 : (yy_okM zt_T zm_J6_numberOfTrailingZeros_0f7a4 && zz_rows zm_J6_numberOfTrailingZeros_0f7a4) = true := by decide +kernel
set_option maxRecDepth 1000000 in
set_option maxHeartbeats 40000000 in
theorem zo_X2_valueIn : (yy_okM zt_T zm_X2_valueIn && zz_rows zm_X2_valueIn) = true := by decide +kernel
set_option maxRecDepth 1000000 in
set_option maxHeartbeats 40000000 in
theorem zo_X3_personLine : (yy_okM zt_T zm_X3_personLine && zz_rows zm_X3_personLine) = true := by decide +kernel
set_option maxRecDepth 1000000 in
set_option maxHeartbeats 40000000 in
theorem zo_X1_addKnown : (yy_okM zt_T zm_X1_addKnown && zz_rows zm_X1_addKnown) = true := by decide +kernel
set_option maxRecDepth 1000000 in
set_option maxHeartbeats 40000000 in
theorem zo_X3_read : (yy_okM zt_T zm_X3_read && zz_rows zm_X3_read) = true := by decide +kernel
set_option maxRecDepth 1000000 in
set_option maxHeartbeats 40000000 in
theorem zo_X0_forget : (yy_okM zt_T zm_X0_forget && zz_rows zm_X0_forget) = true := by decide +kernel
set_option maxRecDepth 1000000 in
set_option maxHeartbeats 40000000 in
theorem zo_X6_fault : (yy_okM zt_T zm_X6_fault && zz_rows zm_X6_fault) = true := by decide +kernel
set_option maxRecDepth 1000000 in
set_option maxHeartbeats 40000000 in
theorem zo_X6_sign : (yy_okM zt_T zm_X6_sign && zz_rows zm_X6_sign) = true := by decide +kernel
set_option maxRecDepth 1000000 in
set_option maxHeartbeats 40000000 in
theorem zo_X0_push : (yy_okM zt_T zm_X0_push && zz_rows zm_X0_push) = true := by decide +kernel
set_option maxRecDepth 1000000 in
set_option maxHeartbeats 40000000 in
theorem zo_X6_dawn : (yy_okM zt_T zm_X6_dawn && zz_rows zm_X6_dawn) = true := by decide +kernel
set_option maxRecDepth 1000000 in
set_option maxHeartbeats 40000000 in
theorem zo_X5_signedLike : (yy_okM zt_T zm_X5_signedLike && zz_rows zm_X5_signedLike) = true := by decide +kernel
set_option maxRecDepth 1000000 in
set_option maxHeartbeats 40000000 in
theorem zo_X6_peg : (yy_okM zt_T zm_X6_peg && zz_rows zm_X6_peg) = true := by decide +kernel
set_option maxRecDepth 1000000 in
set_option maxHeartbeats 40000000 in
theorem zo_X0_takeBack : (yy_okM zt_T zm_X0_takeBack && zz_rows zm_X0_takeBack) = true := by decide +kernel
set_option maxRecDepth 1000000 in
set_option maxHeartbeats 40000000 in
theorem zo_X6_taken : (yy_okM zt_T zm_X6_taken && zz_rows zm_X6_taken) = true := by decide +kernel
set_option maxRecDepth 1000000 in
set_option maxHeartbeats 40000000 in
theorem zo_X6_knowsIn : (yy_okM zt_T zm_X6_knowsIn && zz_rows zm_X6_knowsIn) = true := by decide +kernel
set_option maxRecDepth 1000000 in
set_option maxHeartbeats 40000000 in
theorem zo_X6_open : (yy_okM zt_T zm_X6_open && zz_rows zm_X6_open) = true := by decide +kernel
set_option maxRecDepth 1000000 in
set_option maxHeartbeats 40000000 in
theorem zo_X6_first : (yy_okM zt_T zm_X6_first && zz_rows zm_X6_first) = true := by decide +kernel
set_option maxRecDepth 1000000 in
set_option maxHeartbeats 40000000 in
theorem zo_X6_tellSame : (yy_okM zt_T zm_X6_tellSame && zz_rows zm_X6_tellSame) = true := by decide +kernel
set_option maxRecDepth 1000000 in
set_option maxHeartbeats 40000000 in
theorem zo_X6_countOrSet : (yy_okM zt_T zm_X6_countOrSet && zz_rows zm_X6_countOrSet) = true := by decide +kernel
set_option maxRecDepth 1000000 in
set_option maxHeartbeats 40000000 in
theorem zo_X6_endOfTwo : (yy_okM zt_T zm_X6_endOfTwo && zz_rows zm_X6_endOfTwo) = true := by decide +kernel
set_option maxRecDepth 1000000 in
set_option maxHeartbeats 40000000 in
theorem zo_X6_thinks : (yy_okM zt_T zm_X6_thinks && zz_rows zm_X6_thinks) = true := by decide +kernel
set_option maxRecDepth 1000000 in
set_option maxHeartbeats 40000000 in
theorem zo_X6_settled : (yy_okM zt_T zm_X6_settled && zz_rows zm_X6_settled) = true := by decide +kernel
set_option maxRecDepth 1000000 in
set_option maxHeartbeats 40000000 in
theorem zo_X6_reach : (yy_okM zt_T zm_X6_reach && zz_rows zm_X6_reach) = true := by decide +kernel
set_option maxRecDepth 1000000 in
set_option maxHeartbeats 40000000 in
theorem zo_X6_lowest : (yy_okM zt_T zm_X6_lowest && zz_rows zm_X6_lowest) = true := by decide +kernel
set_option maxRecDepth 1000000 in
set_option maxHeartbeats 40000000 in
theorem zo_X6_alike : (yy_okM zt_T zm_X6_alike && zz_rows zm_X6_alike) = true := by decide +kernel
set_option maxRecDepth 1000000 in
set_option maxHeartbeats 40000000 in
theorem zo_X6_tale : (yy_okM zt_T zm_X6_tale && zz_rows zm_X6_tale) = true := by decide +kernel
set_option maxRecDepth 1000000 in
set_option maxHeartbeats 40000000 in
theorem zo_X6_bestSpying : (yy_okM zt_T zm_X6_bestSpying && zz_rows zm_X6_bestSpying) = true := by decide +kernel
set_option maxRecDepth 1000000 in
set_option maxHeartbeats 40000000 in
theorem zo_X6_within : (yy_okM zt_T zm_X6_within && zz_rows zm_X6_within) = true := by decide +kernel
set_option maxRecDepth 1000000 in
set_option maxHeartbeats 40000000 in
theorem zo_X6_seen : (yy_okM zt_T zm_X6_seen && zz_rows zm_X6_seen) = true := by decide +kernel
set_option maxRecDepth 1000000 in
set_option maxHeartbeats 40000000 in
theorem zo_X4_follow : (yy_okM zt_T zm_X4_follow && zz_rows zm_X4_follow) = true := by decide +kernel
set_option maxRecDepth 1000000 in
set_option maxHeartbeats 40000000 in
theorem zo_X4_fitting : (yy_okM zt_T zm_X4_fitting && zz_rows zm_X4_fitting) = true := by decide +kernel
set_option maxRecDepth 1000000 in
set_option maxHeartbeats 40000000 in
theorem zo_X6_image : (yy_okM zt_T zm_X6_image && zz_rows zm_X6_image) = true := by decide +kernel
set_option maxRecDepth 1000000 in
set_option maxHeartbeats 40000000 in
theorem zo_X7_end : (yy_okM zt_T zm_X7_end && zz_rows zm_X7_end) = true := by decide +kernel
set_option maxRecDepth 1000000 in
set_option maxHeartbeats 40000000 in
theorem zo_X7_isPerson : (yy_okM zt_T zm_X7_isPerson && zz_rows zm_X7_isPerson) = true := by decide +kernel
set_option maxRecDepth 1000000 in
set_option maxHeartbeats 40000000 in
theorem zo_X7_every : (yy_okM zt_T zm_X7_every && zz_rows zm_X7_every) = true := by decide +kernel
set_option maxRecDepth 1000000 in
set_option maxHeartbeats 40000000 in
theorem zo_X7_sign : (yy_okM zt_T zm_X7_sign && zz_rows zm_X7_sign) = true := by decide +kernel
set_option maxRecDepth 1000000 in
set_option maxHeartbeats 40000000 in
theorem zo_X7_keepAct : (yy_okM zt_T zm_X7_keepAct && zz_rows zm_X7_keepAct) = true := by decide +kernel
set_option maxRecDepth 1000000 in
set_option maxHeartbeats 40000000 in
theorem zo_X7_ownIn : (yy_okM zt_T zm_X7_ownIn && zz_rows zm_X7_ownIn) = true := by decide +kernel
set_option maxRecDepth 1000000 in
set_option maxHeartbeats 40000000 in
theorem zo_X7_measure : (yy_okM zt_T zm_X7_measure && zz_rows zm_X7_measure) = true := by decide +kernel
set_option maxRecDepth 1000000 in
set_option maxHeartbeats 40000000 in
theorem zo_X7_goPeg : (yy_okM zt_T zm_X7_goPeg && zz_rows zm_X7_goPeg) = true := by decide +kernel
set_option maxRecDepth 1000000 in
set_option maxHeartbeats 40000000 in
theorem zo_X7_swapAll : (yy_okM zt_T zm_X7_swapAll && zz_rows zm_X7_swapAll) = true := by decide +kernel
set_option maxRecDepth 1000000 in
set_option maxHeartbeats 40000000 in
theorem zo_X7_layIsSo : (yy_okM zt_T zm_X7_layIsSo && zz_rows zm_X7_layIsSo) = true := by decide +kernel
set_option maxRecDepth 1000000 in
set_option maxHeartbeats 40000000 in
theorem zo_X7_open : (yy_okM zt_T zm_X7_open && zz_rows zm_X7_open) = true := by decide +kernel
set_option maxRecDepth 1000000 in
set_option maxHeartbeats 40000000 in
theorem zo_X7_endOf : (yy_okM zt_T zm_X7_endOf && zz_rows zm_X7_endOf) = true := by decide +kernel
set_option maxRecDepth 1000000 in
set_option maxHeartbeats 40000000 in
theorem zo_X7_first : (yy_okM zt_T zm_X7_first && zz_rows zm_X7_first) = true := by decide +kernel
set_option maxRecDepth 1000000 in
set_option maxHeartbeats 40000000 in
theorem zo_X7_isLess : (yy_okM zt_T zm_X7_isLess && zz_rows zm_X7_isLess) = true := by decide +kernel
set_option maxRecDepth 1000000 in
set_option maxHeartbeats 40000000 in
theorem zo_X7_hint : (yy_okM zt_T zm_X7_hint && zz_rows zm_X7_hint) = true := by decide +kernel
set_option maxRecDepth 1000000 in
set_option maxHeartbeats 40000000 in
theorem zo_X7_wronged : (yy_okM zt_T zm_X7_wronged && zz_rows zm_X7_wronged) = true := by decide +kernel
set_option maxRecDepth 1000000 in
set_option maxHeartbeats 40000000 in
theorem zo_X7_talked : (yy_okM zt_T zm_X7_talked && zz_rows zm_X7_talked) = true := by decide +kernel
set_option maxRecDepth 1000000 in
set_option maxHeartbeats 40000000 in
theorem zo_X7_law : (yy_okM zt_T zm_X7_law && zz_rows zm_X7_law) = true := by decide +kernel
set_option maxRecDepth 1000000 in
set_option maxHeartbeats 40000000 in
theorem zo_X7_alike : (yy_okM zt_T zm_X7_alike && zz_rows zm_X7_alike) = true := by decide +kernel
set_option maxRecDepth 1000000 in
set_option maxHeartbeats 40000000 in
theorem zo_X7_tale : (yy_okM zt_T zm_X7_tale && zz_rows zm_X7_tale) = true := by decide +kernel
set_option maxRecDepth 1000000 in
set_option maxHeartbeats 40000000 in
theorem zo_X7_meeting : (yy_okM zt_T zm_X7_meeting && zz_rows zm_X7_meeting) = true := by decide +kernel
set_option maxRecDepth 1000000 in
set_option maxHeartbeats 40000000 in
theorem zo_X7_divisor : (yy_okM zt_T zm_X7_divisor && zz_rows zm_X7_divisor) = true := by decide +kernel
set_option maxRecDepth 1000000 in
set_option maxHeartbeats 40000000 in
theorem zo_X7_untell : (yy_okM zt_T zm_X7_untell && zz_rows zm_X7_untell) = true := by decide +kernel
set_option maxRecDepth 1000000 in
set_option maxHeartbeats 40000000 in
theorem zo_X7_layOwns : (yy_okM zt_T zm_X7_layOwns && zz_rows zm_X7_layOwns) = true := by decide +kernel
set_option maxRecDepth 1000000 in
set_option maxHeartbeats 40000000 in
theorem zo_X7_next : (yy_okM zt_T zm_X7_next && zz_rows zm_X7_next) = true := by decide +kernel
