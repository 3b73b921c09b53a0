set_option maxRecDepth 1000000 in
set_option maxHeartbeats 40000000 in
theorem zo_X6_end : (yy_okM zt_T zm_X6_end && zz_rows zm_X6_end) = true := by decide +kernel
set_option maxRecDepth 1000000 in
set_option maxHeartbeats 40000000 in
theorem zo_J0_coder_7d493 : (yy_okM zt_T zm_J0_coder_7d493 && zz_rows zm_J0_coder_7d493) = true := by decide +kernel
set_option maxRecDepth 1000000 in
set_option maxHeartbeats 40000000 in
theorem zo_J0_charAt_5068e : (yy_okM zt_T zm_J0_charAt_5068e && zz_rows zm_J0_charAt_5068e) = true := by decide +kernel
set_option maxRecDepth 1000000 in
set_option maxHeartbeats 40000000 in
theorem zo_X3_isSign : (yy_okM zt_T zm_X3_isSign && zz_rows zm_X3_isSign) = true := by decide +kernel
set_option maxRecDepth 1000000 in
set_option maxHeartbeats 40000000 in
theorem zo_X3_refuse : (yy_okM zt_T zm_X3_refuse && zz_rows zm_X3_refuse) = true := by decide +kernel
set_option maxRecDepth 1000000 in
set_option maxHeartbeats 40000000 in
theorem zo_X3_joined_v5_7 : (yy_okM zt_T zm_X3_joined_v5_7 && zz_rows zm_X3_joined_v5_7) = true := by decide +kernel
set_option maxRecDepth 1000000 in
set_option maxHeartbeats 40000000 in
theorem zo_X3_denied_v6 : (yy_okM zt_T zm_X3_denied_v6 && zz_rows zm_X3_denied_v6) = true := by decide +kernel
set_option maxRecDepth 1000000 in
set_option maxHeartbeats 40000000 in
theorem zo_X3_joined_v5_6 : (yy_okM zt_T zm_X3_joined_v5_6 && zz_rows zm_X3_joined_v5_6) = true := by decide +kernel
set_option maxRecDepth 1000000 in
set_option maxHeartbeats 40000000 in
theorem zo_X3_denied_v5 : (yy_okM zt_T zm_X3_denied_v5 && zz_rows zm_X3_denied_v5) = true := by decide +kernel
set_option maxRecDepth 1000000 in
set_option maxHeartbeats 40000000 in
theorem zo_X3_joined_v5_5 : (yy_okM zt_T zm_X3_joined_v5_5 && zz_rows zm_X3_joined_v5_5) = true := by decide +kernel
set_option maxRecDepth 1000000 in
set_option maxHeartbeats 40000000 in
theorem zo_X3_denied_v4 : (yy_okM zt_T zm_X3_denied_v4 && zz_rows zm_X3_denied_v4) = true := by decide +kernel
set_option maxRecDepth 1000000 in
set_option maxHeartbeats 40000000 in
theorem zo_X3_joined_v5_4 : (yy_okM zt_T zm_X3_joined_v5_4 && zz_rows zm_X3_joined_v5_4) = true := by decide +kernel
set_option maxRecDepth 1000000 in
set_option maxHeartbeats 40000000 in
theorem zo_X3_denied_v3 : (yy_okM zt_T zm_X3_denied_v3 && zz_rows zm_X3_denied_v3) = true := by decide +kernel
set_option maxRecDepth 1000000 in
set_option maxHeartbeats 40000000 in
theorem zo_X3_joined_v5_3 : (yy_okM zt_T zm_X3_joined_v5_3 && zz_rows zm_X3_joined_v5_3) = true := by decide +kernel
set_option maxRecDepth 1000000 in
set_option maxHeartbeats 40000000 in
theorem zo_X3_denied_v2 : (yy_okM zt_T zm_X3_denied_v2 && zz_rows zm_X3_denied_v2) = true := by decide +kernel
set_option maxRecDepth 1000000 in
set_option maxHeartbeats 40000000 in
theorem zo_X3_joined_v5_2 : (yy_okM zt_T zm_X3_joined_v5_2 && zz_rows zm_X3_joined_v5_2) = true := by decide +kernel
set_option maxRecDepth 1000000 in
set_option maxHeartbeats 40000000 in
theorem zo_X3_denied_v1 : (yy_okM zt_T zm_X3_denied_v1 && zz_rows zm_X3_denied_v1) = true := by decide +kernel
set_option maxRecDepth 1000000 in
set_option maxHeartbeats 40000000 in
theorem zo_X3_joined_v5_1 : (yy_okM zt_T zm_X3_joined_v5_1 && zz_rows zm_X3_joined_v5_1) = true := by decide +kernel
set_option maxRecDepth 1000000 in
set_option maxHeartbeats 40000000 in
theorem zo_X3_denied_v0 : (yy_okM zt_T zm_X3_denied_v0 && zz_rows zm_X3_denied_v0) = true := by decide +kernel
set_option maxRecDepth 1000000 in
set_option maxHeartbeats 40000000 in
theorem zo_X3_joined_v5_0 : (yy_okM zt_T zm_X3_joined_v5_0 && zz_rows zm_X3_joined_v5_0) = true := by decide +kernel
set_option maxRecDepth 1000000 in
set_option maxHeartbeats 40000000 in
theorem zo_X3_joined_v1_0 : (yy_okM zt_T zm_X3_joined_v1_0 && zz_rows zm_X3_joined_v1_0) = true := by decide +kernel
set_option maxRecDepth 1000000 in
set_option maxHeartbeats 40000000 in
theorem zo_J6_bitCount_0f7a4 : (yy_okM zt_T zm_J6_bitCount_0f7a4 && zz_rows zm_J6_bitCount_0f7a4) = true := by decide +kernel
set_option maxRecDepth 1000000 in
set_option maxHeartbeats 40000000 in
theorem zo_X2_join : (yy_okM zt_T zm_X2_join && zz_rows zm_X2_join) = true := by decide +kernel
set_option maxRecDepth 1000000 in
set_option maxHeartbeats 40000000 in
theorem zo_X3_personLine : (yy_okM zt_T zm_X3_personLine && zz_rows zm_X3_personLine) = true := by decide +kernel
set_option maxRecDepth 1000000 in
set_option maxHeartbeats 40000000 in
theorem zo_X1_addKnown : (yy_okM zt_T zm_X1_addKnown && zz_rows zm_X1_addKnown) = true := by decide +kernel
set_option maxRecDepth 1000000 in
set_option maxHeartbeats 40000000 in
theorem zo_X3_read : (yy_okM zt_T zm_X3_read && zz_rows zm_X3_read) = true := by decide +kernel
set_option maxRecDepth 1000000 in
set_option maxHeartbeats 40000000 in
theorem zo_X0_forget : (yy_okM zt_T zm_X0_forget && zz_rows zm_X0_forget) = true := by decide +kernel
set_option maxRecDepth 1000000 in
set_option maxHeartbeats 40000000 in
theorem zo_X6_fault : (yy_okM zt_T zm_X6_fault && zz_rows zm_X6_fault) = true := by decide +kernel
set_option maxRecDepth 1000000 in
set_option maxHeartbeats 40000000 in
theorem zo_X6_sign : (yy_okM zt_T zm_X6_sign && zz_rows zm_X6_sign) = true := by decide +kernel
set_option maxRecDepth 1000000 in
set_option maxHeartbeats 40000000 in
theorem zo_X0_push : (yy_okM zt_T zm_X0_push && zz_rows zm_X0_push) = true := by decide +kernel
set_option maxRecDepth 1000000 in
set_option maxHeartbeats 40000000 in
theorem zo_X6_dawn : (yy_okM zt_T zm_X6_dawn && zz_rows zm_X6_dawn) = true := by decide +kernel
set_option maxRecDepth 1000000 in
set_option maxHeartbeats 40000000 in
theorem zo_X5_signedLike : (yy_okM zt_T zm_X5_signedLike && zz_rows zm_X5_signedLike) = true := by decide +kernel
set_option maxRecDepth 1000000 in
set_option maxHeartbeats 40000000 in
theorem zo_X6_peg : (yy_okM zt_T zm_X6_peg && zz_rows zm_X6_peg) = true := by decide +kernel
set_option maxRecDepth 1000000 in
set_option maxHeartbeats 40000000 in
theorem zo_X0_takeBack : (yy_okM zt_T zm_X0_takeBack && zz_rows zm_X0_takeBack) = true := by decide +kernel
set_option maxRecDepth 1000000 in
set_option maxHeartbeats 40000000 in
theorem zo_X6_taken : (yy_okM zt_T zm_X6_taken && zz_rows zm_X6_taken) = true := by decide +kernel
set_option maxRecDepth 1000000 in
set_option maxHeartbeats 40000000 in
theorem zo_X6_knowsIn : (yy_okM zt_T zm_X6_knowsIn && zz_rows zm_X6_knowsIn) = true := by decide +kernel
set_option maxRecDepth 1000000 in
set_option maxHeartbeats 40000000 in
theorem zo_X6_open : (yy_okM zt_T zm_X6_open && zz_rows zm_X6_open) = true := by decide +kernel
set_option maxRecDepth 1000000 in
set_option maxHeartbeats 40000000 in
theorem zo_X6_first : (yy_okM zt_T zm_X6_first && zz_rows zm_X6_first) = true := by decide +kernel
set_option maxRecDepth 1000000 in
set_option maxHeartbeats 40000000 in
theorem zo_X6_tellSame : (yy_okM zt_T zm_X6_tellSame && zz_rows zm_X6_tellSame) = true := by decide +kernel
set_option maxRecDepth 1000000 in
set_option maxHeartbeats 40000000 in
theorem zo_X6_group : (yy_okM zt_T zm_X6_group && zz_rows zm_X6_group) = true := by decide +kernel
set_option maxRecDepth 1000000 in
set_option maxHeartbeats 40000000 in
theorem zo_X6_twoOrEnd : (yy_okM zt_T zm_X6_twoOrEnd && zz_rows zm_X6_twoOrEnd) = true := by decide +kernel
set_option maxRecDepth 1000000 in
set_option maxHeartbeats 40000000 in
theorem zo_X6_isThoughtOf : (yy_okM zt_T zm_X6_isThoughtOf && zz_rows zm_X6_isThoughtOf) = true := by decide +kernel
set_option maxRecDepth 1000000 in
set_option maxHeartbeats 40000000 in
theorem zo_X6_wisest : (yy_okM zt_T zm_X6_wisest && zz_rows zm_X6_wisest) = true := by decide +kernel
set_option maxRecDepth 1000000 in
set_option maxHeartbeats 40000000 in
theorem zo_X6_least : (yy_okM zt_T zm_X6_least && zz_rows zm_X6_least) = true := by decide +kernel
set_option maxRecDepth 1000000 in
set_option maxHeartbeats 40000000 in
theorem zo_X6_bet : (yy_okM zt_T zm_X6_bet && zz_rows zm_X6_bet) = true := by decide +kernel
set_option maxRecDepth 1000000 in
set_option maxHeartbeats 40000000 in
theorem zo_X6_fateOf : (yy_okM zt_T zm_X6_fateOf && zz_rows zm_X6_fateOf) = true := by decide +kernel
set_option maxRecDepth 1000000 in
set_option maxHeartbeats 40000000 in
theorem zo_X6_quiet : (yy_okM zt_T zm_X6_quiet && zz_rows zm_X6_quiet) = true := by decide +kernel
set_option maxRecDepth 1000000 in
set_option maxHeartbeats 40000000 in
theorem zo_X6_spy : (yy_okM zt_T zm_X6_spy && zz_rows zm_X6_spy) = true := by decide +kernel
set_option maxRecDepth 1000000 in
set_option maxHeartbeats 40000000 in
theorem zo_X6_lies : (yy_okM zt_T zm_X6_lies && zz_rows zm_X6_lies) = true := by decide +kernel
set_option maxRecDepth 1000000 in
set_option maxHeartbeats 40000000 in
theorem zo_X4_withdraw : (yy_okM zt_T zm_X4_withdraw && zz_rows zm_X4_withdraw) = true := by decide +kernel
set_option maxRecDepth 1000000 in
set_option maxHeartbeats 40000000 in
theorem zo_X4_followAll : (yy_okM zt_T zm_X4_followAll && zz_rows zm_X4_followAll) = true := by decide +kernel
set_option maxRecDepth 1000000 in
set_option maxHeartbeats 40000000 in
theorem zo_X6_fits : (yy_okM zt_T zm_X6_fits && zz_rows zm_X6_fits) = true := by decide +kernel
set_option maxRecDepth 1000000 in
set_option maxHeartbeats 40000000 in
theorem zo_X6_back : (yy_okM zt_T zm_X6_back && zz_rows zm_X6_back) = true := by decide +kernel
set_option maxRecDepth 1000000 in
set_option maxHeartbeats 40000000 in
theorem zo_X7_fault : (yy_okM zt_T zm_X7_fault && zz_rows zm_X7_fault) = true := by decide +kernel
set_option maxRecDepth 1000000 in
set_option maxHeartbeats 40000000 in
theorem zo_X7_person : (yy_okM zt_T zm_X7_person && zz_rows zm_X7_person) = true := by decide +kernel
set_option maxRecDepth 1000000 in
set_option maxHeartbeats 40000000 in
theorem zo_X7_isWorld : (yy_okM zt_T zm_X7_isWorld && zz_rows zm_X7_isWorld) = true := by decide +kernel
set_option maxRecDepth 1000000 in
set_option maxHeartbeats 40000000 in
theorem zo_X7_possible : (yy_okM zt_T zm_X7_possible && zz_rows zm_X7_possible) = true := by decide +kernel
set_option maxRecDepth 1000000 in
set_option maxHeartbeats 40000000 in
theorem zo_X7_classOf : (yy_okM zt_T zm_X7_classOf && zz_rows zm_X7_classOf) = true := by decide +kernel
set_option maxRecDepth 1000000 in
set_option maxHeartbeats 40000000 in
theorem zo_X7_goMorning : (yy_okM zt_T zm_X7_goMorning && zz_rows zm_X7_goMorning) = true := by decide +kernel
set_option maxRecDepth 1000000 in
set_option maxHeartbeats 40000000 in
theorem zo_X7_knownIn : (yy_okM zt_T zm_X7_knownIn && zz_rows zm_X7_knownIn) = true := by decide +kernel
set_option maxRecDepth 1000000 in
set_option maxHeartbeats 40000000 in
theorem zo_X7_peg : (yy_okM zt_T zm_X7_peg && zz_rows zm_X7_peg) = true := by decide +kernel
set_option maxRecDepth 1000000 in
set_option maxHeartbeats 40000000 in
theorem zo_X7_knows : (yy_okM zt_T zm_X7_knows && zz_rows zm_X7_knows) = true := by decide +kernel
set_option maxRecDepth 1000000 in
set_option maxHeartbeats 40000000 in
theorem zo_X7_deepen : (yy_okM zt_T zm_X7_deepen && zz_rows zm_X7_deepen) = true := by decide +kernel
set_option maxRecDepth 1000000 in
set_option maxHeartbeats 40000000 in
theorem zo_X7_keepNow : (yy_okM zt_T zm_X7_keepNow && zz_rows zm_X7_keepNow) = true := by decide +kernel
set_option maxRecDepth 1000000 in
set_option maxHeartbeats 40000000 in
theorem zo_X7_endNow : (yy_okM zt_T zm_X7_endNow && zz_rows zm_X7_endNow) = true := by decide +kernel
set_option maxRecDepth 1000000 in
set_option maxHeartbeats 40000000 in
theorem zo_X7_will : (yy_okM zt_T zm_X7_will && zz_rows zm_X7_will) = true := by decide +kernel
set_option maxRecDepth 1000000 in
set_option maxHeartbeats 40000000 in
theorem zo_X7_toldOf : (yy_okM zt_T zm_X7_toldOf && zz_rows zm_X7_toldOf) = true := by decide +kernel
set_option maxRecDepth 1000000 in
set_option maxHeartbeats 40000000 in
theorem zo_X7_endPegged : (yy_okM zt_T zm_X7_endPegged && zz_rows zm_X7_endPegged) = true := by decide +kernel
set_option maxRecDepth 1000000 in
set_option maxHeartbeats 40000000 in
theorem zo_X7_settled : (yy_okM zt_T zm_X7_settled && zz_rows zm_X7_settled) = true := by decide +kernel
set_option maxRecDepth 1000000 in
set_option maxHeartbeats 40000000 in
theorem zo_X7_reach : (yy_okM zt_T zm_X7_reach && zz_rows zm_X7_reach) = true := by decide +kernel
set_option maxRecDepth 1000000 in
set_option maxHeartbeats 40000000 in
theorem zo_X7_bet : (yy_okM zt_T zm_X7_bet && zz_rows zm_X7_bet) = true := by decide +kernel
set_option maxRecDepth 1000000 in
set_option maxHeartbeats 40000000 in
theorem zo_X7_fateOf : (yy_okM zt_T zm_X7_fateOf && zz_rows zm_X7_fateOf) = true := by decide +kernel
set_option maxRecDepth 1000000 in
set_option maxHeartbeats 40000000 in
theorem zo_X7_quiet : (yy_okM zt_T zm_X7_quiet && zz_rows zm_X7_quiet) = true := by decide +kernel
set_option maxRecDepth 1000000 in
set_option maxHeartbeats 40000000 in
theorem zo_X7_unsure : (yy_okM zt_T zm_X7_unsure && zz_rows zm_X7_unsure) = true := by decide +kernel
set_option maxRecDepth 1000000 in
set_option maxHeartbeats 40000000 in
theorem zo_X7_power : (yy_okM zt_T zm_X7_power && zz_rows zm_X7_power) = true := by decide +kernel
set_option maxRecDepth 1000000 in
set_option maxHeartbeats 40000000 in
theorem zo_X7_later : (yy_okM zt_T zm_X7_later && zz_rows zm_X7_later) = true := by decide +kernel
set_option maxRecDepth 1000000 in
set_option maxHeartbeats 40000000 in
theorem zo_X7_fits : (yy_okM zt_T zm_X7_fits && zz_rows zm_X7_fits) = true := by decide +kernel
set_option maxRecDepth 1000000 in
set_option maxHeartbeats 40000000 in
theorem zo_X7_image : (yy_okM zt_T zm_X7_image && zz_rows zm_X7_image) = true := by decide +kernel
