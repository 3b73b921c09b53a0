set_option maxRecDepth 1000000 in
set_option maxHeartbeats 40000000 in
theorem zo_X6_feed : (yy_okM zt_T zm_X6_feed && zz_rows zm_X6_feed) = true := by decide +kernel
set_option maxRecDepth 1000000 in
set_option maxHeartbeats 40000000 in
theorem zo_X3_readNumber : (yy_okM zt_T zm_X3_readNumber && zz_rows zm_X3_readNumber) = true := by decide +kernel
set_option maxRecDepth 1000000 in
set_option maxHeartbeats 40000000 in
theorem zo_J1_charAt_3b067 : (yy_okM zt_T zm_J1_charAt_3b067 && zz_rows zm_J1_charAt_3b067) = true := by decide +kernel
set_option maxRecDepth 1000000 in
set_option maxHeartbeats 40000000 in
theorem zo_X3_rankOf : (yy_okM zt_T zm_X3_rankOf && zz_rows zm_X3_rankOf) = true := by decide +kernel
set_option maxRecDepth 1000000 in
set_option maxHeartbeats 40000000 in
theorem zo_X3_named : (yy_okM zt_T zm_X3_named && zz_rows zm_X3_named) = true := by decide +kernel
set_option maxRecDepth 1000000 in
set_option maxHeartbeats 40000000 in
theorem zo_X3_unit_v7 : (yy_okM zt_T zm_X3_unit_v7 && zz_rows zm_X3_unit_v7) = true := by decide +kernel
set_option maxRecDepth 1000000 in
set_option maxHeartbeats 40000000 in
theorem zo_X3_joined_v2_7 : (yy_okM zt_T zm_X3_joined_v2_7 && zz_rows zm_X3_joined_v2_7) = true := by decide +kernel
set_option maxRecDepth 1000000 in
set_option maxHeartbeats 40000000 in
theorem zo_X3_unit_v6 : (yy_okM zt_T zm_X3_unit_v6 && zz_rows zm_X3_unit_v6) = true := by decide +kernel
set_option maxRecDepth 1000000 in
set_option maxHeartbeats 40000000 in
theorem zo_X3_joined_v2_6 : (yy_okM zt_T zm_X3_joined_v2_6 && zz_rows zm_X3_joined_v2_6) = true := by decide +kernel
set_option maxRecDepth 1000000 in
set_option maxHeartbeats 40000000 in
theorem zo_X3_unit_v5 : (yy_okM zt_T zm_X3_unit_v5 && zz_rows zm_X3_unit_v5) = true := by decide +kernel
set_option maxRecDepth 1000000 in
set_option maxHeartbeats 40000000 in
theorem zo_X3_joined_v2_5 : (yy_okM zt_T zm_X3_joined_v2_5 && zz_rows zm_X3_joined_v2_5) = true := by decide +kernel
set_option maxRecDepth 1000000 in
set_option maxHeartbeats 40000000 in
theorem zo_X3_unit_v4 : (yy_okM zt_T zm_X3_unit_v4 && zz_rows zm_X3_unit_v4) = true := by decide +kernel
set_option maxRecDepth 1000000 in
set_option maxHeartbeats 40000000 in
theorem zo_X3_joined_v2_4 : (yy_okM zt_T zm_X3_joined_v2_4 && zz_rows zm_X3_joined_v2_4) = true := by decide +kernel
set_option maxRecDepth 1000000 in
set_option maxHeartbeats 40000000 in
theorem zo_X3_unit_v3 : (yy_okM zt_T zm_X3_unit_v3 && zz_rows zm_X3_unit_v3) = true := by decide +kernel
set_option maxRecDepth 1000000 in
set_option maxHeartbeats 40000000 in
theorem zo_X3_joined_v2_3 : (yy_okM zt_T zm_X3_joined_v2_3 && zz_rows zm_X3_joined_v2_3) = true := by decide +kernel
set_option maxRecDepth 1000000 in
set_option maxHeartbeats 40000000 in
theorem zo_X3_unit_v2 : (yy_okM zt_T zm_X3_unit_v2 && zz_rows zm_X3_unit_v2) = true := by decide +kernel
set_option maxRecDepth 1000000 in
set_option maxHeartbeats 40000000 in
theorem zo_X3_joined_v2_2 : (yy_okM zt_T zm_X3_joined_v2_2 && zz_rows zm_X3_joined_v2_2) = true := by decide +kernel
set_option maxRecDepth 1000000 in
set_option maxHeartbeats 40000000 in
theorem zo_X3_unit_v1 : (yy_okM zt_T zm_X3_unit_v1 && zz_rows zm_X3_unit_v1) = true := by decide +kernel
set_option maxRecDepth 1000000 in
set_option maxHeartbeats 40000000 in
theorem zo_X3_joined_v2_1 : (yy_okM zt_T zm_X3_joined_v2_1 && zz_rows zm_X3_joined_v2_1) = true := by decide +kernel
set_option maxRecDepth 1000000 in
set_option maxHeartbeats 40000000 in
theorem zo_X3_unit_v0 : (yy_okM zt_T zm_X3_unit_v0 && zz_rows zm_X3_unit_v0) = true := by decide +kernel
set_option maxRecDepth 1000000 in
set_option maxHeartbeats 40000000 in
theorem zo_X3_joined_v2_0 : (yy_okM zt_T zm_X3_joined_v2_0 && zz_rows zm_X3_joined_v2_0) = true := by decide +kernel
set_option maxRecDepth 1000000 in
set_option maxHeartbeats 40000000 in
theorem zo_X2_isUnit : (yy_okM zt_T zm_X2_isUnit && zz_rows zm_X2_isUnit) = true := by decide +kernel
set_option maxRecDepth 1000000 in
set_option maxHeartbeats 40000000 in
theorem zo_X2_unitIn : (yy_okM zt_T zm_X2_unitIn && zz_rows zm_X2_unitIn) = true := by decide +kernel
set_option maxRecDepth 1000000 in
set_option maxHeartbeats 40000000 in
theorem zo_X3_number : (yy_okM zt_T zm_X3_number && zz_rows zm_X3_number) = true := by decide +kernel
set_option maxRecDepth 1000000 in
set_option maxHeartbeats 40000000 in
theorem zo_X1_knownTo : (yy_okM zt_T zm_X1_knownTo && zz_rows zm_X1_knownTo) = true := by decide +kernel
set_option maxRecDepth 1000000 in
set_option maxHeartbeats 40000000 in
theorem zo_X3_line : (yy_okM zt_T zm_X3_line && zz_rows zm_X3_line) = true := by decide +kernel
set_option maxRecDepth 1000000 in
set_option maxHeartbeats 40000000 in
theorem zo_X5_copyFrom : (yy_okM zt_T zm_X5_copyFrom && zz_rows zm_X5_copyFrom) = true := by decide +kernel
set_option maxRecDepth 1000000 in
set_option maxHeartbeats 40000000 in
theorem zo_X6_parish : (yy_okM zt_T zm_X6_parish && zz_rows zm_X6_parish) = true := by decide +kernel
set_option maxRecDepth 1000000 in
set_option maxHeartbeats 40000000 in
theorem zo_X6_isWorld : (yy_okM zt_T zm_X6_isWorld && zz_rows zm_X6_isWorld) = true := by decide +kernel
set_option maxRecDepth 1000000 in
set_option maxHeartbeats 40000000 in
theorem zo_X6_worlds : (yy_okM zt_T zm_X6_worlds && zz_rows zm_X6_worlds) = true := by decide +kernel
set_option maxRecDepth 1000000 in
set_option maxHeartbeats 40000000 in
theorem zo_X6_owning : (yy_okM zt_T zm_X6_owning && zz_rows zm_X6_owning) = true := by decide +kernel
set_option maxRecDepth 1000000 in
set_option maxHeartbeats 40000000 in
theorem zo_X6_morning : (yy_okM zt_T zm_X6_morning && zz_rows zm_X6_morning) = true := by decide +kernel
set_option maxRecDepth 1000000 in
set_option maxHeartbeats 40000000 in
theorem zo_X6_likeTrue : (yy_okM zt_T zm_X6_likeTrue && zz_rows zm_X6_likeTrue) = true := by decide +kernel
set_option maxRecDepth 1000000 in
set_option maxHeartbeats 40000000 in
theorem zo_X6_whisper : (yy_okM zt_T zm_X6_whisper && zz_rows zm_X6_whisper) = true := by decide +kernel
set_option maxRecDepth 1000000 in
set_option maxHeartbeats 40000000 in
theorem zo_X6_redo : (yy_okM zt_T zm_X6_redo && zz_rows zm_X6_redo) = true := by decide +kernel
set_option maxRecDepth 1000000 in
set_option maxHeartbeats 40000000 in
theorem zo_X6_isPossible : (yy_okM zt_T zm_X6_isPossible && zz_rows zm_X6_isPossible) = true := by decide +kernel
set_option maxRecDepth 1000000 in
set_option maxHeartbeats 40000000 in
theorem zo_X6_common : (yy_okM zt_T zm_X6_common && zz_rows zm_X6_common) = true := by decide +kernel
set_option maxRecDepth 1000000 in
set_option maxHeartbeats 40000000 in
theorem zo_X6_ending : (yy_okM zt_T zm_X6_ending && zz_rows zm_X6_ending) = true := by decide +kernel
set_option maxRecDepth 1000000 in
set_option maxHeartbeats 40000000 in
theorem zo_X6_knownAmong : (yy_okM zt_T zm_X6_knownAmong && zz_rows zm_X6_knownAmong) = true := by decide +kernel
set_option maxRecDepth 1000000 in
set_option maxHeartbeats 40000000 in
theorem zo_X6_countOrSet : (yy_okM zt_T zm_X6_countOrSet && zz_rows zm_X6_countOrSet) = true := by decide +kernel
set_option maxRecDepth 1000000 in
set_option maxHeartbeats 40000000 in
theorem zo_X6_endOfTwo : (yy_okM zt_T zm_X6_endOfTwo && zz_rows zm_X6_endOfTwo) = true := by decide +kernel
set_option maxRecDepth 1000000 in
set_option maxHeartbeats 40000000 in
theorem zo_X6_thinks : (yy_okM zt_T zm_X6_thinks && zz_rows zm_X6_thinks) = true := by decide +kernel
set_option maxRecDepth 1000000 in
set_option maxHeartbeats 40000000 in
theorem zo_X6_settled : (yy_okM zt_T zm_X6_settled && zz_rows zm_X6_settled) = true := by decide +kernel
set_option maxRecDepth 1000000 in
set_option maxHeartbeats 40000000 in
theorem zo_X6_reach : (yy_okM zt_T zm_X6_reach && zz_rows zm_X6_reach) = true := by decide +kernel
set_option maxRecDepth 1000000 in
set_option maxHeartbeats 40000000 in
theorem zo_X6_lowest : (yy_okM zt_T zm_X6_lowest && zz_rows zm_X6_lowest) = true := by decide +kernel
set_option maxRecDepth 1000000 in
set_option maxHeartbeats 40000000 in
theorem zo_X6_alike : (yy_okM zt_T zm_X6_alike && zz_rows zm_X6_alike) = true := by decide +kernel
set_option maxRecDepth 1000000 in
set_option maxHeartbeats 40000000 in
theorem zo_X6_tale : (yy_okM zt_T zm_X6_tale && zz_rows zm_X6_tale) = true := by decide +kernel
set_option maxRecDepth 1000000 in
set_option maxHeartbeats 40000000 in
theorem zo_X6_bestSpying : (yy_okM zt_T zm_X6_bestSpying && zz_rows zm_X6_bestSpying) = true := by decide +kernel
set_option maxRecDepth 1000000 in
set_option maxHeartbeats 40000000 in
theorem zo_X6_within : (yy_okM zt_T zm_X6_within && zz_rows zm_X6_within) = true := by decide +kernel
set_option maxRecDepth 1000000 in
set_option maxHeartbeats 40000000 in
theorem zo_X6_seen : (yy_okM zt_T zm_X6_seen && zz_rows zm_X6_seen) = true := by decide +kernel
set_option maxRecDepth 1000000 in
set_option maxHeartbeats 40000000 in
theorem zo_X4_follow : (yy_okM zt_T zm_X4_follow && zz_rows zm_X4_follow) = true := by decide +kernel
set_option maxRecDepth 1000000 in
set_option maxHeartbeats 40000000 in
theorem zo_X4_fitting : (yy_okM zt_T zm_X4_fitting && zz_rows zm_X4_fitting) = true := by decide +kernel
set_option maxRecDepth 1000000 in
set_option maxHeartbeats 40000000 in
theorem zo_X6_image : (yy_okM zt_T zm_X6_image && zz_rows zm_X6_image) = true := by decide +kernel
set_option maxRecDepth 1000000 in
set_option maxHeartbeats 40000000 in
theorem zo_X7_end : (yy_okM zt_T zm_X7_end && zz_rows zm_X7_end) = true := by decide +kernel
set_option maxRecDepth 1000000 in
set_option maxHeartbeats 40000000 in
theorem zo_X7_isPerson : (yy_okM zt_T zm_X7_isPerson && zz_rows zm_X7_isPerson) = true := by decide +kernel
set_option maxRecDepth 1000000 in
set_option maxHeartbeats 40000000 in
theorem zo_X7_every : (yy_okM zt_T zm_X7_every && zz_rows zm_X7_every) = true := by decide +kernel
set_option maxRecDepth 1000000 in
set_option maxHeartbeats 40000000 in
theorem zo_X7_sign : (yy_okM zt_T zm_X7_sign && zz_rows zm_X7_sign) = true := by decide +kernel
set_option maxRecDepth 1000000 in
set_option maxHeartbeats 40000000 in
theorem zo_X7_keepAct : (yy_okM zt_T zm_X7_keepAct && zz_rows zm_X7_keepAct) = true := by decide +kernel
set_option maxRecDepth 1000000 in
set_option maxHeartbeats 40000000 in
theorem zo_X7_ownIn : (yy_okM zt_T zm_X7_ownIn && zz_rows zm_X7_ownIn) = true := by decide +kernel
set_option maxRecDepth 1000000 in
set_option maxHeartbeats 40000000 in
theorem zo_X7_measure : (yy_okM zt_T zm_X7_measure && zz_rows zm_X7_measure) = true := by decide +kernel
set_option maxRecDepth 1000000 in
set_option maxHeartbeats 40000000 in
theorem zo_X7_goPeg : (yy_okM zt_T zm_X7_goPeg && zz_rows zm_X7_goPeg) = true := by decide +kernel
set_option maxRecDepth 1000000 in
set_option maxHeartbeats 40000000 in
theorem zo_X7_swapAll : (yy_okM zt_T zm_X7_swapAll && zz_rows zm_X7_swapAll) = true := by decide +kernel
set_option maxRecDepth 1000000 in
set_option maxHeartbeats 40000000 in
theorem zo_X7_layIsSo : (yy_okM zt_T zm_X7_layIsSo && zz_rows zm_X7_layIsSo) = true := by decide +kernel
set_option maxRecDepth 1000000 in
set_option maxHeartbeats 40000000 in
theorem zo_X7_open : (yy_okM zt_T zm_X7_open && zz_rows zm_X7_open) = true := by decide +kernel
set_option maxRecDepth 1000000 in
set_option maxHeartbeats 40000000 in
theorem zo_X7_endOf : (yy_okM zt_T zm_X7_endOf && zz_rows zm_X7_endOf) = true := by decide +kernel
set_option maxRecDepth 1000000 in
set_option maxHeartbeats 40000000 in
theorem zo_X7_first : (yy_okM zt_T zm_X7_first && zz_rows zm_X7_first) = true := by decide +kernel
set_option maxRecDepth 1000000 in
set_option maxHeartbeats 40000000 in
theorem zo_X7_isLess : (yy_okM zt_T zm_X7_isLess && zz_rows zm_X7_isLess) = true := by decide +kernel
set_option maxRecDepth 1000000 in
set_option maxHeartbeats 40000000 in
theorem zo_X7_hint : (yy_okM zt_T zm_X7_hint && zz_rows zm_X7_hint) = true := by decide +kernel
set_option maxRecDepth 1000000 in
set_option maxHeartbeats 40000000 in
theorem zo_X7_wronged : (yy_okM zt_T zm_X7_wronged && zz_rows zm_X7_wronged) = true := by decide +kernel
set_option maxRecDepth 1000000 in
set_option maxHeartbeats 40000000 in
theorem zo_X7_talked : (yy_okM zt_T zm_X7_talked && zz_rows zm_X7_talked) = true := by decide +kernel
set_option maxRecDepth 1000000 in
set_option maxHeartbeats 40000000 in
theorem zo_X7_law : (yy_okM zt_T zm_X7_law && zz_rows zm_X7_law) = true := by decide +kernel
set_option maxRecDepth 1000000 in
set_option maxHeartbeats 40000000 in
theorem zo_X7_alike : (yy_okM zt_T zm_X7_alike && zz_rows zm_X7_alike) = true := by decide +kernel
set_option maxRecDepth 1000000 in
set_option maxHeartbeats 40000000 in
theorem zo_X7_tale : (yy_okM zt_T zm_X7_tale && zz_rows zm_X7_tale) = true := by decide +kernel
set_option maxRecDepth 1000000 in
set_option maxHeartbeats 40000000 in
theorem zo_X7_meeting : (yy_okM zt_T zm_X7_meeting && zz_rows zm_X7_meeting) = true := by decide +kernel
set_option maxRecDepth 1000000 in
set_option maxHeartbeats 40000000 in
theorem zo_X7_divisor : (yy_okM zt_T zm_X7_divisor && zz_rows zm_X7_divisor) = true := by decide +kernel
set_option maxRecDepth 1000000 in
set_option maxHeartbeats 40000000 in
theorem zo_X7_untell : (yy_okM zt_T zm_X7_untell && zz_rows zm_X7_untell) = true := by decide +kernel
set_option maxRecDepth 1000000 in
set_option maxHeartbeats 40000000 in
theorem zo_X7_layOwns : (yy_okM zt_T zm_X7_layOwns && zz_rows zm_X7_layOwns) = true := by decide +kernel
set_option maxRecDepth 1000000 in
set_option maxHeartbeats 40000000 in
theorem zo_X7_next : (yy_okM zt_T zm_X7_next && zz_rows zm_X7_next) = true := by decide +kernel
