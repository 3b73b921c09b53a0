set_option maxRecDepth 1000000 in
set_option maxHeartbeats 40000000 in
theorem zo_X3_append : (yy_okM zt_T zm_X3_append && zz_rows zm_X3_append) = true := by decide +kernel
set_option maxRecDepth 1000000 in
set_option maxHeartbeats 40000000 in
theorem zo_X3_isLetter : (yy_okM zt_T zm_X3_isLetter && zz_rows zm_X3_isLetter) = true := by decide +kernel
set_option maxRecDepth 1000000 in
set_option maxHeartbeats 40000000 in
theorem zo_J0_isLatin1_aae02 : (yy_okM zt_T zm_J0_isLatin1_aae02 && zz_rows zm_J0_isLatin1_aae02) = true := by decide +kernel
set_option maxRecDepth 1000000 in
set_option maxHeartbeats 40000000 in
theorem zo_X3_readWord : (yy_okM zt_T zm_X3_readWord && zz_rows zm_X3_readWord) = true := by decide +kernel
set_option maxRecDepth 1000000 in
set_option maxHeartbeats 40000000 in
theorem zo_X3_sameText : (yy_okM zt_T zm_X3_sameText && zz_rows zm_X3_sameText) = true := by decide +kernel
set_option maxRecDepth 1000000 in
set_option maxHeartbeats 40000000 in
theorem zo_X2_add : (yy_okM zt_T zm_X2_add && zz_rows zm_X2_add) = true := by decide +kernel
set_option maxRecDepth 1000000 in
set_option maxHeartbeats 40000000 in
theorem zo_X3_joined_v3_7 : (yy_okM zt_T zm_X3_joined_v3_7 && zz_rows zm_X3_joined_v3_7) = true := by decide +kernel
set_option maxRecDepth 1000000 in
set_option maxHeartbeats 40000000 in
theorem zo_X3_joined_v0_7 : (yy_okM zt_T zm_X3_joined_v0_7 && zz_rows zm_X3_joined_v0_7) = true := by decide +kernel
set_option maxRecDepth 1000000 in
set_option maxHeartbeats 40000000 in
theorem zo_X3_joined_v3_6 : (yy_okM zt_T zm_X3_joined_v3_6 && zz_rows zm_X3_joined_v3_6) = true := by decide +kernel
set_option maxRecDepth 1000000 in
set_option maxHeartbeats 40000000 in
theorem zo_X3_joined_v0_6 : (yy_okM zt_T zm_X3_joined_v0_6 && zz_rows zm_X3_joined_v0_6) = true := by decide +kernel
set_option maxRecDepth 1000000 in
set_option maxHeartbeats 40000000 in
theorem zo_X3_joined_v3_5 : (yy_okM zt_T zm_X3_joined_v3_5 && zz_rows zm_X3_joined_v3_5) = true := by decide +kernel
set_option maxRecDepth 1000000 in
set_option maxHeartbeats 40000000 in
theorem zo_X3_joined_v0_5 : (yy_okM zt_T zm_X3_joined_v0_5 && zz_rows zm_X3_joined_v0_5) = true := by decide +kernel
set_option maxRecDepth 1000000 in
set_option maxHeartbeats 40000000 in
theorem zo_X3_joined_v3_4 : (yy_okM zt_T zm_X3_joined_v3_4 && zz_rows zm_X3_joined_v3_4) = true := by decide +kernel
set_option maxRecDepth 1000000 in
set_option maxHeartbeats 40000000 in
theorem zo_X3_joined_v0_4 : (yy_okM zt_T zm_X3_joined_v0_4 && zz_rows zm_X3_joined_v0_4) = true := by decide +kernel
set_option maxRecDepth 1000000 in
set_option maxHeartbeats 40000000 in
theorem zo_X3_joined_v3_3 : (yy_okM zt_T zm_X3_joined_v3_3 && zz_rows zm_X3_joined_v3_3) = true := by decide +kernel
set_option maxRecDepth 1000000 in
set_option maxHeartbeats 40000000 in
theorem zo_X3_joined_v0_3 : (yy_okM zt_T zm_X3_joined_v0_3 && zz_rows zm_X3_joined_v0_3) = true := by decide +kernel
set_option maxRecDepth 1000000 in
set_option maxHeartbeats 40000000 in
theorem zo_X3_joined_v3_2 : (yy_okM zt_T zm_X3_joined_v3_2 && zz_rows zm_X3_joined_v3_2) = true := by decide +kernel
set_option maxRecDepth 1000000 in
set_option maxHeartbeats 40000000 in
theorem zo_X3_joined_v0_2 : (yy_okM zt_T zm_X3_joined_v0_2 && zz_rows zm_X3_joined_v0_2) = true := by decide +kernel
set_option maxRecDepth 1000000 in
set_option maxHeartbeats 40000000 in
theorem zo_X3_joined_v3_1 : (yy_okM zt_T zm_X3_joined_v3_1 && zz_rows zm_X3_joined_v3_1) = true := by decide +kernel
set_option maxRecDepth 1000000 in
set_option maxHeartbeats 40000000 in
theorem zo_X3_joined_v0_1 : (yy_okM zt_T zm_X3_joined_v0_1 && zz_rows zm_X3_joined_v0_1) = true := by decide +kernel
set_option maxRecDepth 1000000 in
set_option maxHeartbeats 40000000 in
theorem zo_X3_joined_v3_0 : (yy_okM zt_T zm_X3_joined_v3_0 && zz_rows zm_X3_joined_v3_0) = true := by decide +kernel
set_option maxRecDepth 1000000 in
set_option maxHeartbeats 40000000 in
theorem zo_X5_shameIn : (yy_okM zt_T zm_X5_shameIn && zz_rows zm_X5_shameIn) = true := by decide +kernel
set_option maxRecDepth 1000000 in
set_option maxHeartbeats 40000000 in
theorem zo_J6_numberOfLeadingZeros_0f7a4 : (yy_okM zt_T zm_J6_numberOfLeadingZeros_0f7a4 && zz_rows zm_J6_numberOfLeadingZeros_0f7a4) = true := by decide +kernel
set_option maxRecDepth 1000000 in
set_option maxHeartbeats 40000000 in
theorem zo_X5_clear : (yy_okM zt_T zm_X5_clear && zz_rows zm_X5_clear) = true := by decide +kernel
set_option maxRecDepth 1000000 in
set_option maxHeartbeats 40000000 in
theorem zo_X3_somebody : (yy_okM zt_T zm_X3_somebody && zz_rows zm_X3_somebody) = true := by decide +kernel
set_option maxRecDepth 1000000 in
set_option maxHeartbeats 40000000 in
theorem zo_X3_isFirst : (yy_okM zt_T zm_X3_isFirst && zz_rows zm_X3_isFirst) = true := by decide +kernel
set_option maxRecDepth 1000000 in
set_option maxHeartbeats 40000000 in
theorem zo_X5_startDay : (yy_okM zt_T zm_X5_startDay && zz_rows zm_X5_startDay) = true := by decide +kernel
set_option maxRecDepth 1000000 in
set_option maxHeartbeats 40000000 in
theorem zo_X6_startAnew : (yy_okM zt_T zm_X6_startAnew && zz_rows zm_X6_startAnew) = true := by decide +kernel
set_option maxRecDepth 1000000 in
set_option maxHeartbeats 40000000 in
theorem zo_X6_person : (yy_okM zt_T zm_X6_person && zz_rows zm_X6_person) = true := by decide +kernel
set_option maxRecDepth 1000000 in
set_option maxHeartbeats 40000000 in
theorem zo_X6_possible : (yy_okM zt_T zm_X6_possible && zz_rows zm_X6_possible) = true := by decide +kernel
set_option maxRecDepth 1000000 in
set_option maxHeartbeats 40000000 in
theorem zo_X6_knowing : (yy_okM zt_T zm_X6_knowing && zz_rows zm_X6_knowing) = true := by decide +kernel
set_option maxRecDepth 1000000 in
set_option maxHeartbeats 40000000 in
theorem zo_X6_foggyDawn : (yy_okM zt_T zm_X6_foggyDawn && zz_rows zm_X6_foggyDawn) = true := by decide +kernel
set_option maxRecDepth 1000000 in
set_option maxHeartbeats 40000000 in
theorem zo_X6_ask : (yy_okM zt_T zm_X6_ask && zz_rows zm_X6_ask) = true := by decide +kernel
set_option maxRecDepth 1000000 in
set_option maxHeartbeats 40000000 in
theorem zo_X6_canWhisper : (yy_okM zt_T zm_X6_canWhisper && zz_rows zm_X6_canWhisper) = true := by decide +kernel
set_option maxRecDepth 1000000 in
set_option maxHeartbeats 40000000 in
theorem zo_X0_doAgain : (yy_okM zt_T zm_X0_doAgain && zz_rows zm_X0_doAgain) = true := by decide +kernel
set_option maxRecDepth 1000000 in
set_option maxHeartbeats 40000000 in
theorem zo_X6_knows : (yy_okM zt_T zm_X6_knows && zz_rows zm_X6_knows) = true := by decide +kernel
set_option maxRecDepth 1000000 in
set_option maxHeartbeats 40000000 in
theorem zo_X6_depth : (yy_okM zt_T zm_X6_depth && zz_rows zm_X6_depth) = true := by decide +kernel
set_option maxRecDepth 1000000 in
set_option maxHeartbeats 40000000 in
theorem zo_X6_endNow : (yy_okM zt_T zm_X6_endNow && zz_rows zm_X6_endNow) = true := by decide +kernel
set_option maxRecDepth 1000000 in
set_option maxHeartbeats 40000000 in
theorem zo_X6_worldsAt : (yy_okM zt_T zm_X6_worldsAt && zz_rows zm_X6_worldsAt) = true := by decide +kernel
set_option maxRecDepth 1000000 in
set_option maxHeartbeats 40000000 in
theorem zo_X6_bestGroup : (yy_okM zt_T zm_X6_bestGroup && zz_rows zm_X6_bestGroup) = true := by decide +kernel
set_option maxRecDepth 1000000 in
set_option maxHeartbeats 40000000 in
theorem zo_X6_call : (yy_okM zt_T zm_X6_call && zz_rows zm_X6_call) = true := by decide +kernel
set_option maxRecDepth 1000000 in
set_option maxHeartbeats 40000000 in
theorem zo_X6_pin : (yy_okM zt_T zm_X6_pin && zz_rows zm_X6_pin) = true := by decide +kernel
set_option maxRecDepth 1000000 in
set_option maxHeartbeats 40000000 in
theorem zo_X6_isClearToAll : (yy_okM zt_T zm_X6_isClearToAll && zz_rows zm_X6_isClearToAll) = true := by decide +kernel
set_option maxRecDepth 1000000 in
set_option maxHeartbeats 40000000 in
theorem zo_X6_talked : (yy_okM zt_T zm_X6_talked && zz_rows zm_X6_talked) = true := by decide +kernel
set_option maxRecDepth 1000000 in
set_option maxHeartbeats 40000000 in
theorem zo_X6_law : (yy_okM zt_T zm_X6_law && zz_rows zm_X6_law) = true := by decide +kernel
set_option maxRecDepth 1000000 in
set_option maxHeartbeats 40000000 in
theorem zo_X6_parts : (yy_okM zt_T zm_X6_parts && zz_rows zm_X6_parts) = true := by decide +kernel
set_option maxRecDepth 1000000 in
set_option maxHeartbeats 40000000 in
theorem zo_X6_latest : (yy_okM zt_T zm_X6_latest && zz_rows zm_X6_latest) = true := by decide +kernel
set_option maxRecDepth 1000000 in
set_option maxHeartbeats 40000000 in
theorem zo_X6_pegs : (yy_okM zt_T zm_X6_pegs && zz_rows zm_X6_pegs) = true := by decide +kernel
set_option maxRecDepth 1000000 in
set_option maxHeartbeats 40000000 in
theorem zo_X6_unsure : (yy_okM zt_T zm_X6_unsure && zz_rows zm_X6_unsure) = true := by decide +kernel
set_option maxRecDepth 1000000 in
set_option maxHeartbeats 40000000 in
theorem zo_X4_add : (yy_okM zt_T zm_X4_add && zz_rows zm_X4_add) = true := by decide +kernel
set_option maxRecDepth 1000000 in
set_option maxHeartbeats 40000000 in
theorem zo_X6_later : (yy_okM zt_T zm_X6_later && zz_rows zm_X6_later) = true := by decide +kernel
set_option maxRecDepth 1000000 in
set_option maxHeartbeats 40000000 in
theorem zo_X4_ownersOn : (yy_okM zt_T zm_X4_ownersOn && zz_rows zm_X4_ownersOn) = true := by decide +kernel
set_option maxRecDepth 1000000 in
set_option maxHeartbeats 40000000 in
theorem zo_X6_next : (yy_okM zt_T zm_X6_next && zz_rows zm_X6_next) = true := by decide +kernel
set_option maxRecDepth 1000000 in
set_option maxHeartbeats 40000000 in
theorem zo_X7_feed : (yy_okM zt_T zm_X7_feed && zz_rows zm_X7_feed) = true := by decide +kernel
set_option maxRecDepth 1000000 in
set_option maxHeartbeats 40000000 in
theorem zo_X7_isIn : (yy_okM zt_T zm_X7_isIn && zz_rows zm_X7_isIn) = true := by decide +kernel
set_option maxRecDepth 1000000 in
set_option maxHeartbeats 40000000 in
theorem zo_X7_bitsOf : (yy_okM zt_T zm_X7_bitsOf && zz_rows zm_X7_bitsOf) = true := by decide +kernel
set_option maxRecDepth 1000000 in
set_option maxHeartbeats 40000000 in
theorem zo_X7_signOf : (yy_okM zt_T zm_X7_signOf && zz_rows zm_X7_signOf) = true := by decide +kernel
set_option maxRecDepth 1000000 in
set_option maxHeartbeats 40000000 in
theorem zo_X7_worlds : (yy_okM zt_T zm_X7_worlds && zz_rows zm_X7_worlds) = true := by decide +kernel
set_option maxRecDepth 1000000 in
set_option maxHeartbeats 40000000 in
theorem zo_X7_bearsOf : (yy_okM zt_T zm_X7_bearsOf && zz_rows zm_X7_bearsOf) = true := by decide +kernel
set_option maxRecDepth 1000000 in
set_option maxHeartbeats 40000000 in
theorem zo_X7_morning : (yy_okM zt_T zm_X7_morning && zz_rows zm_X7_morning) = true := by decide +kernel
set_option maxRecDepth 1000000 in
set_option maxHeartbeats 40000000 in
theorem zo_X7_ask : (yy_okM zt_T zm_X7_ask && zz_rows zm_X7_ask) = true := by decide +kernel
set_option maxRecDepth 1000000 in
set_option maxHeartbeats 40000000 in
theorem zo_X7_whisper : (yy_okM zt_T zm_X7_whisper && zz_rows zm_X7_whisper) = true := by decide +kernel
set_option maxRecDepth 1000000 in
set_option maxHeartbeats 40000000 in
theorem zo_X7_knowsIn : (yy_okM zt_T zm_X7_knowsIn && zz_rows zm_X7_knowsIn) = true := by decide +kernel
set_option maxRecDepth 1000000 in
set_option maxHeartbeats 40000000 in
theorem zo_X7_common : (yy_okM zt_T zm_X7_common && zz_rows zm_X7_common) = true := by decide +kernel
set_option maxRecDepth 1000000 in
set_option maxHeartbeats 40000000 in
theorem zo_X7_bringBack : (yy_okM zt_T zm_X7_bringBack && zz_rows zm_X7_bringBack) = true := by decide +kernel
set_option maxRecDepth 1000000 in
set_option maxHeartbeats 40000000 in
theorem zo_X7_ending : (yy_okM zt_T zm_X7_ending && zz_rows zm_X7_ending) = true := by decide +kernel
set_option maxRecDepth 1000000 in
set_option maxHeartbeats 40000000 in
theorem zo_X7_isTold : (yy_okM zt_T zm_X7_isTold && zz_rows zm_X7_isTold) = true := by decide +kernel
set_option maxRecDepth 1000000 in
set_option maxHeartbeats 40000000 in
theorem zo_X7_call : (yy_okM zt_T zm_X7_call && zz_rows zm_X7_call) = true := by decide +kernel
set_option maxRecDepth 1000000 in
set_option maxHeartbeats 40000000 in
theorem zo_X7_thinks : (yy_okM zt_T zm_X7_thinks && zz_rows zm_X7_thinks) = true := by decide +kernel
set_option maxRecDepth 1000000 in
set_option maxHeartbeats 40000000 in
theorem zo_X7_knowers : (yy_okM zt_T zm_X7_knowers && zz_rows zm_X7_knowers) = true := by decide +kernel
set_option maxRecDepth 1000000 in
set_option maxHeartbeats 40000000 in
theorem zo_X7_suspected : (yy_okM zt_T zm_X7_suspected && zz_rows zm_X7_suspected) = true := by decide +kernel
set_option maxRecDepth 1000000 in
set_option maxHeartbeats 40000000 in
theorem zo_X7_parts : (yy_okM zt_T zm_X7_parts && zz_rows zm_X7_parts) = true := by decide +kernel
set_option maxRecDepth 1000000 in
set_option maxHeartbeats 40000000 in
theorem zo_X7_latest : (yy_okM zt_T zm_X7_latest && zz_rows zm_X7_latest) = true := by decide +kernel
set_option maxRecDepth 1000000 in
set_option maxHeartbeats 40000000 in
theorem zo_X7_spy : (yy_okM zt_T zm_X7_spy && zz_rows zm_X7_spy) = true := by decide +kernel
set_option maxRecDepth 1000000 in
set_option maxHeartbeats 40000000 in
theorem zo_X7_lies : (yy_okM zt_T zm_X7_lies && zz_rows zm_X7_lies) = true := by decide +kernel
set_option maxRecDepth 1000000 in
set_option maxHeartbeats 40000000 in
theorem zo_X7_seen : (yy_okM zt_T zm_X7_seen && zz_rows zm_X7_seen) = true := by decide +kernel
set_option maxRecDepth 1000000 in
set_option maxHeartbeats 40000000 in
theorem zo_X7_doesFit : (yy_okM zt_T zm_X7_doesFit && zz_rows zm_X7_doesFit) = true := by decide +kernel
set_option maxRecDepth 1000000 in
set_option maxHeartbeats 40000000 in
theorem zo_X7_mostBy : (yy_okM zt_T zm_X7_mostBy && zz_rows zm_X7_mostBy) = true := by decide +kernel
set_option maxRecDepth 1000000 in
set_option maxHeartbeats 40000000 in
theorem zo_X7_about : (yy_okM zt_T zm_X7_about && zz_rows zm_X7_about) = true := by decide +kernel
