set_option maxRecDepth 1000000 in
set_option maxHeartbeats 40000000 in
theorem zo_X6_end : (yy_okM zt_T zm_X6_end && zz_rows zm_X6_end) = true := by decide +kernel
set_option maxRecDepth 1000000 in
set_option maxHeartbeats 40000000 in
theorem zo_J0_coder_7d493 : (yy_okM zt_T zm_J0_coder_7d493 && zz_rows zm_J0_coder_7d493) = true := by decide +kernel
set_option maxRecDepth 1000000 in
set_option maxHeartbeats 40000000 in
theorem zo_J0_charAt_5068e : (yy_okM zt_T zm_J0_charAt_5068e && zz_rows zm_J0_charAt_5068e) = true := by decide +kernel
set_option maxRecDepth 1000000 in
set_option maxHeartbeats 40000000 in
theorem zo_X3_isSign : (yy_okM zt_T zm_X3_isSign && zz_rows zm_X3_isSign) = true := by decide +kernel
set_option maxRecDepth 1000000 in
set_option maxHeartbeats 40000000 in
theorem zo_X3_refuse : (yy_okM zt_T zm_X3_refuse && zz_rows zm_X3_refuse) = true := by decide +kernel
set_option maxRecDepth 1000000 in
set_option maxHeartbeats 40000000 in
theorem zo_X3_joined_v5_7 : (yy_okM zt_T zm_X3_joined_v5_7 && zz_rows zm_X3_joined_v5_7) = true := by decide +kernel
set_option maxRecDepth 1000000 in
set_option maxHeartbeats 40000000 in
theorem zo_X3_denied_v6 : (yy_okM zt_T zm_X3_denied_v6 && zz_rows zm_X3_denied_v6) = true := by decide +kernel
set_option maxRecDepth 1000000 in
set_option maxHeartbeats 40000000 in
theorem zo_X3_joined_v5_6 : (yy_okM zt_T zm_X3_joined_v5_6 && zz_rows zm_X3_joined_v5_6) = true := by decide +kernel
set_option maxRecDepth 1000000 in
set_option maxHeartbeats 40000000 in
theorem zo_X3_denied_v5 : (yy_okM zt_T zm_X3_denied_v5 && zz_rows zm_X3_denied_v5) = true := by decide +kernel
set_option maxRecDepth 1000000 in
set_option maxHeartbeats 40000000 in
theorem zo_X3_joined_v5_5 : (yy_okM zt_T zm_X3_joined_v5_5 && zz_rows zm_X3_joined_v5_5) = true := by decide +kernel
set_option maxRecDepth 1000000 in
set_option maxHeartbeats 40000000 in
theorem zo_X3_denied_v4 : (yy_okM zt_T zm_X3_denied_v4 && zz_rows zm_X3_denied_v4) = true := by decide +kernel
set_option maxRecDepth 1000000 in
set_option maxHeartbeats 40000000 in
theorem zo_X3_joined_v5_4 : (yy_okM zt_T zm_X3_joined_v5_4 && zz_rows zm_X3_joined_v5_4) = true := by decide +kernel
set_option maxRecDepth 1000000 in
set_option maxHeartbeats 40000000 in
theorem zo_X3_denied_v3 : (yy_okM zt_T zm_X3_denied_v3 && zz_rows zm_X3_denied_v3) = true := by decide +kernel
set_option maxRecDepth 1000000 in
set_option maxHeartbeats 40000000 in
theorem zo_X3_joined_v5_3 : (yy_okM zt_T zm_X3_joined_v5_3 && zz_rows zm_X3_joined_v5_3) = true := by decide +kernel
set_option maxRecDepth 1000000 in
set_option maxHeartbeats 40000000 in
theorem zo_X3_denied_v2 : (yy_okM zt_T zm_X3_denied_v2 && zz_rows zm_X3_denied_v2) = true := by decide +kernel
set_option maxRecDepth 1000000 in
set_option maxHeartbeats 40000000 in
theorem zo_X3_joined_v5_2 : (yy_okM zt_T zm_X3_joined_v5_2 && zz_rows zm_X3_joined_v5_2) = true := by decide +kernel
set_option maxRecDepth 1000000 in
set_option maxHeartbeats 40000000 in
theorem zo_X3_denied_v1 : (yy_okM zt_T zm_X3_denied_v1 && zz_rows zm_X3_denied_v1) = true := by decide +kernel
set_option maxRecDepth 1000000 in
set_option maxHeartbeats 40000000 in
theorem zo_X3_joined_v5_1 : (yy_okM zt_T zm_X3_joined_v5_1 && zz_rows zm_X3_joined_v5_1) = true := by decide +kernel
set_option maxRecDepth 1000000 in
set_option maxHeartbeats 40000000 in
theorem zo_X3_denied_v0 : (yy_okM zt_T zm_X3_denied_v0 && zz_rows zm_X3_denied_v0) = true := by decide +kernel
set_option maxRecDepth 1000000 in
set_option maxHeartbeats 40000000 in
theorem zo_X3_joined_v5_0 : (yy_okM zt_T zm_X3_joined_v5_0 && zz_rows zm_X3_joined_v5_0) = true := by decide +kernel
set_option maxRecDepth 1000000 in
set_option maxHeartbeats 40000000 in
theorem zo_X3_joined_v1_0 : (yy_okM zt_T zm_X3_joined_v1_0 && zz_rows zm_X3_joined_v1_0) = true := by decide +kernel
set_option maxRecDepth 1000000 in
set_option maxHeartbeats 40000000 in
theorem zo_J6_bitCount_0f7a4 : (yy_okM zt_T zm_J6_bitCount_0f7a4 && zz_rows zm_J6_bitCount_0f7a4) = true := by decide +kernel
set_option maxRecDepth 1000000 in
set_option maxHeartbeats 40000000 in
theorem zo_X2_join : (yy_okM zt_T zm_X2_join && zz_rows zm_X2_join) = true := by decide +kernel
set_option maxRecDepth 1000000 in
set_option maxHeartbeats 40000000 in
theorem zo_J9_max_7cf53 : (yy_okM zt_T zm_J9_max_7cf53 && zz_rows zm_J9_max_7cf53) = true := by decide +kernel
set_option maxRecDepth 1000000 in
set_option maxHeartbeats 40000000 in
theorem zo_X1_knownTo : (yy_okM zt_T zm_X1_knownTo && zz_rows zm_X1_knownTo) = true := by decide +kernel
set_option maxRecDepth 1000000 in
set_option maxHeartbeats 40000000 in
theorem zo_X3_line : (yy_okM zt_T zm_X3_line && zz_rows zm_X3_line) = true := by decide +kernel
set_option maxRecDepth 1000000 in
set_option maxHeartbeats 40000000 in
theorem zo_X5_copyFrom : (yy_okM zt_T zm_X5_copyFrom && zz_rows zm_X5_copyFrom) = true := by decide +kernel
set_option maxRecDepth 1000000 in
set_option maxHeartbeats 40000000 in
theorem zo_X6_parish : (yy_okM zt_T zm_X6_parish && zz_rows zm_X6_parish) = true := by decide +kernel
set_option maxRecDepth 1000000 in
set_option maxHeartbeats 40000000 in
theorem zo_X6_isWorld : (yy_okM zt_T zm_X6_isWorld && zz_rows zm_X6_isWorld) = true := by decide +kernel
set_option maxRecDepth 1000000 in
set_option maxHeartbeats 40000000 in
theorem zo_X6_worlds : (yy_okM zt_T zm_X6_worlds && zz_rows zm_X6_worlds) = true := by decide +kernel
set_option maxRecDepth 1000000 in
set_option maxHeartbeats 40000000 in
theorem zo_X6_owning : (yy_okM zt_T zm_X6_owning && zz_rows zm_X6_owning) = true := by decide +kernel
set_option maxRecDepth 1000000 in
set_option maxHeartbeats 40000000 in
theorem zo_X6_morning : (yy_okM zt_T zm_X6_morning && zz_rows zm_X6_morning) = true := by decide +kernel
set_option maxRecDepth 1000000 in
set_option maxHeartbeats 40000000 in
theorem zo_X6_likeTrue : (yy_okM zt_T zm_X6_likeTrue && zz_rows zm_X6_likeTrue) = true := by decide +kernel
set_option maxRecDepth 1000000 in
set_option maxHeartbeats 40000000 in
theorem zo_X6_whisper : (yy_okM zt_T zm_X6_whisper && zz_rows zm_X6_whisper) = true := by decide +kernel
set_option maxRecDepth 1000000 in
set_option maxHeartbeats 40000000 in
theorem zo_X6_redo : (yy_okM zt_T zm_X6_redo && zz_rows zm_X6_redo) = true := by decide +kernel
set_option maxRecDepth 1000000 in
set_option maxHeartbeats 40000000 in
theorem zo_X6_isPossible : (yy_okM zt_T zm_X6_isPossible && zz_rows zm_X6_isPossible) = true := by decide +kernel
set_option maxRecDepth 1000000 in
set_option maxHeartbeats 40000000 in
theorem zo_X6_common : (yy_okM zt_T zm_X6_common && zz_rows zm_X6_common) = true := by decide +kernel
set_option maxRecDepth 1000000 in
set_option maxHeartbeats 40000000 in
theorem zo_X6_ending : (yy_okM zt_T zm_X6_ending && zz_rows zm_X6_ending) = true := by decide +kernel
set_option maxRecDepth 1000000 in
set_option maxHeartbeats 40000000 in
theorem zo_X6_knownAmong : (yy_okM zt_T zm_X6_knownAmong && zz_rows zm_X6_knownAmong) = true := by decide +kernel
set_option maxRecDepth 1000000 in
set_option maxHeartbeats 40000000 in
theorem zo_X6_bestGroup : (yy_okM zt_T zm_X6_bestGroup && zz_rows zm_X6_bestGroup) = true := by decide +kernel
set_option maxRecDepth 1000000 in
set_option maxHeartbeats 40000000 in
theorem zo_X6_call : (yy_okM zt_T zm_X6_call && zz_rows zm_X6_call) = true := by decide +kernel
set_option maxRecDepth 1000000 in
set_option maxHeartbeats 40000000 in
theorem zo_X6_pin : (yy_okM zt_T zm_X6_pin && zz_rows zm_X6_pin) = true := by decide +kernel
set_option maxRecDepth 1000000 in
set_option maxHeartbeats 40000000 in
theorem zo_X6_isClearToAll : (yy_okM zt_T zm_X6_isClearToAll && zz_rows zm_X6_isClearToAll) = true := by decide +kernel
set_option maxRecDepth 1000000 in
set_option maxHeartbeats 40000000 in
theorem zo_X6_talked : (yy_okM zt_T zm_X6_talked && zz_rows zm_X6_talked) = true := by decide +kernel
set_option maxRecDepth 1000000 in
set_option maxHeartbeats 40000000 in
theorem zo_X6_law : (yy_okM zt_T zm_X6_law && zz_rows zm_X6_law) = true := by decide +kernel
set_option maxRecDepth 1000000 in
set_option maxHeartbeats 40000000 in
theorem zo_X6_parts : (yy_okM zt_T zm_X6_parts && zz_rows zm_X6_parts) = true := by decide +kernel
set_option maxRecDepth 1000000 in
set_option maxHeartbeats 40000000 in
theorem zo_X6_latest : (yy_okM zt_T zm_X6_latest && zz_rows zm_X6_latest) = true := by decide +kernel
set_option maxRecDepth 1000000 in
set_option maxHeartbeats 40000000 in
theorem zo_X6_pegs : (yy_okM zt_T zm_X6_pegs && zz_rows zm_X6_pegs) = true := by decide +kernel
set_option maxRecDepth 1000000 in
set_option maxHeartbeats 40000000 in
theorem zo_X6_unsure : (yy_okM zt_T zm_X6_unsure && zz_rows zm_X6_unsure) = true := by decide +kernel
set_option maxRecDepth 1000000 in
set_option maxHeartbeats 40000000 in
theorem zo_X4_add : (yy_okM zt_T zm_X4_add && zz_rows zm_X4_add) = true := by decide +kernel
set_option maxRecDepth 1000000 in
set_option maxHeartbeats 40000000 in
theorem zo_X6_later : (yy_okM zt_T zm_X6_later && zz_rows zm_X6_later) = true := by decide +kernel
set_option maxRecDepth 1000000 in
set_option maxHeartbeats 40000000 in
theorem zo_X4_ownersOn : (yy_okM zt_T zm_X4_ownersOn && zz_rows zm_X4_ownersOn) = true := by decide +kernel
set_option maxRecDepth 1000000 in
set_option maxHeartbeats 40000000 in
theorem zo_X6_next : (yy_okM zt_T zm_X6_next && zz_rows zm_X6_next) = true := by decide +kernel
set_option maxRecDepth 1000000 in
set_option maxHeartbeats 40000000 in
theorem zo_X7_feed : (yy_okM zt_T zm_X7_feed && zz_rows zm_X7_feed) = true := by decide +kernel
set_option maxRecDepth 1000000 in
set_option maxHeartbeats 40000000 in
theorem zo_X7_isIn : (yy_okM zt_T zm_X7_isIn && zz_rows zm_X7_isIn) = true := by decide +kernel
set_option maxRecDepth 1000000 in
set_option maxHeartbeats 40000000 in
theorem zo_X7_bitsOf : (yy_okM zt_T zm_X7_bitsOf && zz_rows zm_X7_bitsOf) = true := by decide +kernel
set_option maxRecDepth 1000000 in
set_option maxHeartbeats 40000000 in
theorem zo_X7_signOf : (yy_okM zt_T zm_X7_signOf && zz_rows zm_X7_signOf) = true := by decide +kernel
set_option maxRecDepth 1000000 in
set_option maxHeartbeats 40000000 in
theorem zo_X7_worlds : (yy_okM zt_T zm_X7_worlds && zz_rows zm_X7_worlds) = true := by decide +kernel
set_option maxRecDepth 1000000 in
set_option maxHeartbeats 40000000 in
theorem zo_X7_bearsOf : (yy_okM zt_T zm_X7_bearsOf && zz_rows zm_X7_bearsOf) = true := by decide +kernel
set_option maxRecDepth 1000000 in
set_option maxHeartbeats 40000000 in
theorem zo_X7_morning : (yy_okM zt_T zm_X7_morning && zz_rows zm_X7_morning) = true := by decide +kernel
set_option maxRecDepth 1000000 in
set_option maxHeartbeats 40000000 in
theorem zo_X7_ask : (yy_okM zt_T zm_X7_ask && zz_rows zm_X7_ask) = true := by decide +kernel
set_option maxRecDepth 1000000 in
set_option maxHeartbeats 40000000 in
theorem zo_X7_whisper : (yy_okM zt_T zm_X7_whisper && zz_rows zm_X7_whisper) = true := by decide +kernel
set_option maxRecDepth 1000000 in
set_option maxHeartbeats 40000000 in
theorem zo_X7_knowsIn : (yy_okM zt_T zm_X7_knowsIn && zz_rows zm_X7_knowsIn) = true := by decide +kernel
set_option maxRecDepth 1000000 in
set_option maxHeartbeats 40000000 in
theorem zo_X7_common : (yy_okM zt_T zm_X7_common && zz_rows zm_X7_common) = true := by decide +kernel
set_option maxRecDepth 1000000 in
set_option maxHeartbeats 40000000 in
theorem zo_X7_bringBack : (yy_okM zt_T zm_X7_bringBack && zz_rows zm_X7_bringBack) = true := by decide +kernel
set_option maxRecDepth 1000000 in
set_option maxHeartbeats 40000000 in
theorem zo_X7_ending : (yy_okM zt_T zm_X7_ending && zz_rows zm_X7_ending) = true := by decide +kernel
set_option maxRecDepth 1000000 in
set_option maxHeartbeats 40000000 in
theorem zo_X7_isTold : (yy_okM zt_T zm_X7_isTold && zz_rows zm_X7_isTold) = true := by decide +kernel
set_option maxRecDepth 1000000 in
set_option maxHeartbeats 40000000 in
theorem zo_X7_call : (yy_okM zt_T zm_X7_call && zz_rows zm_X7_call) = true := by decide +kernel
set_option maxRecDepth 1000000 in
set_option maxHeartbeats 40000000 in
theorem zo_X7_thinks : (yy_okM zt_T zm_X7_thinks && zz_rows zm_X7_thinks) = true := by decide +kernel
set_option maxRecDepth 1000000 in
set_option maxHeartbeats 40000000 in
theorem zo_X7_knowers : (yy_okM zt_T zm_X7_knowers && zz_rows zm_X7_knowers) = true := by decide +kernel
set_option maxRecDepth 1000000 in
set_option maxHeartbeats 40000000 in
theorem zo_X7_suspected : (yy_okM zt_T zm_X7_suspected && zz_rows zm_X7_suspected) = true := by decide +kernel
set_option maxRecDepth 1000000 in
set_option maxHeartbeats 40000000 in
theorem zo_X7_parts : (yy_okM zt_T zm_X7_parts && zz_rows zm_X7_parts) = true := by decide +kernel
set_option maxRecDepth 1000000 in
set_option maxHeartbeats 40000000 in
theorem zo_X7_latest : (yy_okM zt_T zm_X7_latest && zz_rows zm_X7_latest) = true := by decide +kernel
set_option maxRecDepth 1000000 in
set_option maxHeartbeats 40000000 in
theorem zo_X7_spy : (yy_okM zt_T zm_X7_spy && zz_rows zm_X7_spy) = true := by decide +kernel
set_option maxRecDepth 1000000 in
set_option maxHeartbeats 40000000 in
theorem zo_X7_lies : (yy_okM zt_T zm_X7_lies && zz_rows zm_X7_lies) = true := by decide +kernel
set_option maxRecDepth 1000000 in
set_option maxHeartbeats 40000000 in
theorem zo_X7_seen : (yy_okM zt_T zm_X7_seen && zz_rows zm_X7_seen) = true := by decide +kernel
set_option maxRecDepth 1000000 in
set_option maxHeartbeats 40000000 in
theorem zo_X7_doesFit : (yy_okM zt_T zm_X7_doesFit && zz_rows zm_X7_doesFit) = true := by decide +kernel
set_option maxRecDepth 1000000 in
set_option maxHeartbeats 40000000 in
theorem zo_X7_mostBy : (yy_okM zt_T zm_X7_mostBy && zz_rows zm_X7_mostBy) = true := by decide +kernel
set_option maxRecDepth 1000000 in
set_option maxHeartbeats 40000000 in
theorem zo_X7_about : (yy_okM zt_T zm_X7_about && zz_rows zm_X7_about) = true := by decide +kernel
