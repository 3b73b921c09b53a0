set_option maxRecDepth 1000000 in
set_option maxHeartbeats 40000000 in
theorem zo_X3_append : (yy_okM zt_T zm_X3_append && zz_rows zm_X3_append) = true := by decide +kernel
set_option maxRecDepth 1000000 in
set_option maxHeartbeats 40000000 in
theorem zo_X3_isLetter : (yy_okM zt_T zm_X3_isLetter && zz_rows zm_X3_isLetter) = true := by decide +kernel
set_option maxRecDepth 1000000 in
set_option maxHeartbeats 40000000 in
theorem zo_J0_isLatin1_aae02 : (yy_okM zt_T zm_J0_isLatin1_aae02 && zz_rows zm_J0_isLatin1_aae02) = true := by decide +kernel
set_option maxRecDepth 1000000 in
set_option maxHeartbeats 40000000 in
theorem zo_X3_readWord : (yy_okM zt_T zm_X3_readWord && zz_rows zm_X3_readWord) = true := by decide +kernel
set_option maxRecDepth 1000000 in
set_option maxHeartbeats 40000000 in
theorem zo_X3_sameText : (yy_okM zt_T zm_X3_sameText && zz_rows zm_X3_sameText) = true := by decide +kernel
set_option maxRecDepth 1000000 in
set_option maxHeartbeats 40000000 in
theorem zo_X2_add : (yy_okM zt_T zm_X2_add && zz_rows zm_X2_add) = true := by decide +kernel
set_option maxRecDepth 1000000 in
set_option maxHeartbeats 40000000 in
theorem zo_X3_joined_v3_7 : (yy_okM zt_T zm_X3_joined_v3_7 && zz_rows zm_X3_joined_v3_7) = true := by decide +kernel
set_option maxRecDepth 1000000 in
set_option maxHeartbeats 40000000 in
theorem zo_X3_joined_v0_7 : (yy_okM zt_T zm_X3_joined_v0_7 && zz_rows zm_X3_joined_v0_7) = true := by decide +kernel
set_option maxRecDepth 1000000 in
set_option maxHeartbeats 40000000 in
theorem zo_X3_joined_v3_6 : (yy_okM zt_T zm_X3_joined_v3_6 && zz_rows zm_X3_joined_v3_6) = true := by decide +kernel
set_option maxRecDepth 1000000 in
set_option maxHeartbeats 40000000 in
theorem zo_X3_joined_v0_6 : (yy_okM zt_T zm_X3_joined_v0_6 && zz_rows zm_X3_joined_v0_6) = true := by decide +kernel
set_option maxRecDepth 1000000 in
set_option maxHeartbeats 40000000 in
theorem zo_X3_joined_v3_5 : (yy_okM zt_T zm_X3_joined_v3_5 && zz_rows zm_X3_joined_v3_5) = true := by decide +kernel
set_option maxRecDepth 1000000 in
set_option maxHeartbeats 40000000 in
theorem zo_X3_joined_v0_5 : (yy_okM zt_T zm_X3_joined_v0_5 && zz_rows zm_X3_joined_v0_5) = true := by decide +kernel
set_option maxRecDepth 1000000 in
set_option maxHeartbeats 40000000 in
theorem zo_X3_joined_v3_4 : (yy_okM zt_T zm_X3_joined_v3_4 && zz_rows zm_X3_joined_v3_4) = true := by decide +kernel
set_option maxRecDepth 1000000 in
set_option maxHeartbeats 40000000 in
theorem zo_X3_joined_v0_4 : (yy_okM zt_T zm_X3_joined_v0_4 && zz_rows zm_X3_joined_v0_4) = true := by decide +kernel
set_option maxRecDepth 1000000 in
set_option maxHeartbeats 40000000 in
theorem zo_X3_joined_v3_3 : (yy_okM zt_T zm_X3_joined_v3_3 && zz_rows zm_X3_joined_v3_3) = true := by decide +kernel
set_option maxRecDepth 1000000 in
set_option maxHeartbeats 40000000 in
theorem zo_X3_joined_v0_3 : (yy_okM zt_T zm_X3_joined_v0_3 && zz_rows zm_X3_joined_v0_3) = true := by decide +kernel
set_option maxRecDepth 1000000 in
set_option maxHeartbeats 40000000 in
theorem zo_X3_joined_v3_2 : (yy_okM zt_T zm_X3_joined_v3_2 && zz_rows zm_X3_joined_v3_2) = true := by decide +kernel
set_option maxRecDepth 1000000 in
set_option maxHeartbeats 40000000 in
theorem zo_X3_joined_v0_2 : (yy_okM zt_T zm_X3_joined_v0_2 && zz_rows zm_X3_joined_v0_2) = true := by decide +kernel
set_option maxRecDepth 1000000 in
set_option maxHeartbeats 40000000 in
theorem zo_X3_joined_v3_1 : (yy_okM zt_T zm_X3_joined_v3_1 && zz_rows zm_X3_joined_v3_1) = true := by decide +kernel
set_option maxRecDepth 1000000 in
set_option maxHeartbeats 40000000 in
theorem zo_X3_joined_v0_1 : (yy_okM zt_T zm_X3_joined_v0_1 && zz_rows zm_X3_joined_v0_1) = true := by decide +kernel
set_option maxRecDepth 1000000 in
set_option maxHeartbeats 40000000 in
theorem zo_X3_joined_v3_0 : (yy_okM zt_T zm_X3_joined_v3_0 && zz_rows zm_X3_joined_v3_0) = true := by decide +kernel
set_option maxRecDepth 1000000 in
set_option maxHeartbeats 40000000 in
theorem zo_X5_shameIn : (yy_okM zt_T zm_X5_shameIn && zz_rows zm_X5_shameIn) = true := by decide +kernel
set_option maxRecDepth 1000000 in
set_option maxHeartbeats 40000000 in
theorem zo_J6_numberOfLeadingZeros_0f7a4 : (yy_okM zt_T zm_J6_numberOfLeadingZeros_0f7a4 && zz_rows zm_J6_numberOfLeadingZeros_0f7a4) = true := by decide +kernel
set_option maxRecDepth 1000000 in
set_option maxHeartbeats 40000000 in
theorem zo_X5_clear : (yy_okM zt_T zm_X5_clear && zz_rows zm_X5_clear) = true := by decide +kernel
set_option maxRecDepth 1000000 in
set_option maxHeartbeats 40000000 in
theorem zo_J13_bitCount_95d88 : (yy_okM zt_T zm_J13_bitCount_95d88 && zz_rows zm_J13_bitCount_95d88) = true := by decide +kernel
set_option maxRecDepth 1000000 in
set_option maxHeartbeats 40000000 in
theorem zo_X3_knowsLine : (yy_okM zt_T zm_X3_knowsLine && zz_rows zm_X3_knowsLine) = true := by decide +kernel
set_option maxRecDepth 1000000 in
set_option maxHeartbeats 40000000 in
theorem zo_X1_copyFrom : (yy_okM zt_T zm_X1_copyFrom && zz_rows zm_X1_copyFrom) = true := by decide +kernel
set_option maxRecDepth 1000000 in
set_option maxHeartbeats 40000000 in
theorem zo_X4_forget : (yy_okM zt_T zm_X4_forget && zz_rows zm_X4_forget) = true := by decide +kernel
set_option maxRecDepth 1000000 in
set_option maxHeartbeats 40000000 in
theorem zo_X6_isPerson : (yy_okM zt_T zm_X6_isPerson && zz_rows zm_X6_isPerson) = true := by decide +kernel
set_option maxRecDepth 1000000 in
set_option maxHeartbeats 40000000 in
theorem zo_X6_has : (yy_okM zt_T zm_X6_has && zz_rows zm_X6_has) = true := by decide +kernel
set_option maxRecDepth 1000000 in
set_option maxHeartbeats 40000000 in
theorem zo_X6_spread : (yy_okM zt_T zm_X6_spread && zz_rows zm_X6_spread) = true := by decide +kernel
set_option maxRecDepth 1000000 in
set_option maxHeartbeats 40000000 in
theorem zo_X0_keep : (yy_okM zt_T zm_X0_keep && zz_rows zm_X0_keep) = true := by decide +kernel
set_option maxRecDepth 1000000 in
set_option maxHeartbeats 40000000 in
theorem zo_X6_measure : (yy_okM zt_T zm_X6_measure && zz_rows zm_X6_measure) = true := by decide +kernel
set_option maxRecDepth 1000000 in
set_option maxHeartbeats 40000000 in
theorem zo_X6_arePeople : (yy_okM zt_T zm_X6_arePeople && zz_rows zm_X6_arePeople) = true := by decide +kernel
set_option maxRecDepth 1000000 in
set_option maxHeartbeats 40000000 in
theorem zo_X6_undo : (yy_okM zt_T zm_X6_undo && zz_rows zm_X6_undo) = true := by decide +kernel
set_option maxRecDepth 1000000 in
set_option maxHeartbeats 40000000 in
theorem zo_X6_verdict : (yy_okM zt_T zm_X6_verdict && zz_rows zm_X6_verdict) = true := by decide +kernel
set_option maxRecDepth 1000000 in
set_option maxHeartbeats 40000000 in
theorem zo_X6_knownToAll : (yy_okM zt_T zm_X6_knownToAll && zz_rows zm_X6_knownToAll) = true := by decide +kernel
set_option maxRecDepth 1000000 in
set_option maxHeartbeats 40000000 in
theorem zo_X6_endOf : (yy_okM zt_T zm_X6_endOf && zz_rows zm_X6_endOf) = true := by decide +kernel
set_option maxRecDepth 1000000 in
set_option maxHeartbeats 40000000 in
theorem zo_X6_will : (yy_okM zt_T zm_X6_will && zz_rows zm_X6_will) = true := by decide +kernel
set_option maxRecDepth 1000000 in
set_option maxHeartbeats 40000000 in
theorem zo_J9_min_7cf53 : (yy_okM zt_T zm_J9_min_7cf53 && zz_rows zm_J9_min_7cf53) = true := by decide +kernel
set_option maxRecDepth 1000000 in
set_option maxHeartbeats 40000000 in
theorem zo_X6_group : (yy_okM zt_T zm_X6_group && zz_rows zm_X6_group) = true := by decide +kernel
set_option maxRecDepth 1000000 in
set_option maxHeartbeats 40000000 in
theorem zo_X6_twoOrEnd : (yy_okM zt_T zm_X6_twoOrEnd && zz_rows zm_X6_twoOrEnd) = true := by decide +kernel
set_option maxRecDepth 1000000 in
set_option maxHeartbeats 40000000 in
theorem zo_X6_isThoughtOf : (yy_okM zt_T zm_X6_isThoughtOf && zz_rows zm_X6_isThoughtOf) = true := by decide +kernel
set_option maxRecDepth 1000000 in
set_option maxHeartbeats 40000000 in
theorem zo_X6_wisest : (yy_okM zt_T zm_X6_wisest && zz_rows zm_X6_wisest) = true := by decide +kernel
set_option maxRecDepth 1000000 in
set_option maxHeartbeats 40000000 in
theorem zo_X6_least : (yy_okM zt_T zm_X6_least && zz_rows zm_X6_least) = true := by decide +kernel
set_option maxRecDepth 1000000 in
set_option maxHeartbeats 40000000 in
theorem zo_X6_bet : (yy_okM zt_T zm_X6_bet && zz_rows zm_X6_bet) = true := by decide +kernel
set_option maxRecDepth 1000000 in
set_option maxHeartbeats 40000000 in
theorem zo_X6_fateOf : (yy_okM zt_T zm_X6_fateOf && zz_rows zm_X6_fateOf) = true := by decide +kernel
set_option maxRecDepth 1000000 in
set_option maxHeartbeats 40000000 in
theorem zo_X6_quiet : (yy_okM zt_T zm_X6_quiet && zz_rows zm_X6_quiet) = true := by decide +kernel
set_option maxRecDepth 1000000 in
set_option maxHeartbeats 40000000 in
theorem zo_X6_spy : (yy_okM zt_T zm_X6_spy && zz_rows zm_X6_spy) = true := by decide +kernel
set_option maxRecDepth 1000000 in
set_option maxHeartbeats 40000000 in
theorem zo_X6_lies : (yy_okM zt_T zm_X6_lies && zz_rows zm_X6_lies) = true := by decide +kernel
set_option maxRecDepth 1000000 in
set_option maxHeartbeats 40000000 in
theorem zo_X4_withdraw : (yy_okM zt_T zm_X4_withdraw && zz_rows zm_X4_withdraw) = true := by decide +kernel
set_option maxRecDepth 1000000 in
set_option maxHeartbeats 40000000 in
theorem zo_X4_followAll : (yy_okM zt_T zm_X4_followAll && zz_rows zm_X4_followAll) = true := by decide +kernel
set_option maxRecDepth 1000000 in
set_option maxHeartbeats 40000000 in
theorem zo_X6_fits : (yy_okM zt_T zm_X6_fits && zz_rows zm_X6_fits) = true := by decide +kernel
set_option maxRecDepth 1000000 in
set_option maxHeartbeats 40000000 in
theorem zo_X6_back : (yy_okM zt_T zm_X6_back && zz_rows zm_X6_back) = true := by decide +kernel
set_option maxRecDepth 1000000 in
set_option maxHeartbeats 40000000 in
theorem zo_X7_fault : (yy_okM zt_T zm_X7_fault && zz_rows zm_X7_fault) = true := by decide +kernel
set_option maxRecDepth 1000000 in
set_option maxHeartbeats 40000000 in
theorem zo_X7_person : (yy_okM zt_T zm_X7_person && zz_rows zm_X7_person) = true := by decide +kernel
set_option maxRecDepth 1000000 in
set_option maxHeartbeats 40000000 in
theorem zo_X7_isWorld : (yy_okM zt_T zm_X7_isWorld && zz_rows zm_X7_isWorld) = true := by decide +kernel
set_option maxRecDepth 1000000 in
set_option maxHeartbeats 40000000 in
theorem zo_X7_possible : (yy_okM zt_T zm_X7_possible && zz_rows zm_X7_possible) = true := by decide +kernel
set_option maxRecDepth 1000000 in
set_option maxHeartbeats 40000000 in
theorem zo_X7_classOf : (yy_okM zt_T zm_X7_classOf && zz_rows zm_X7_classOf) = true := by decide +kernel
set_option maxRecDepth 1000000 in
set_option maxHeartbeats 40000000 in
theorem zo_X7_goMorning : (yy_okM zt_T zm_X7_goMorning && zz_rows zm_X7_goMorning) = true := by decide +kernel
set_option maxRecDepth 1000000 in
set_option maxHeartbeats 40000000 in
theorem zo_X7_knownIn : (yy_okM zt_T zm_X7_knownIn && zz_rows zm_X7_knownIn) = true := by decide +kernel
set_option maxRecDepth 1000000 in
set_option maxHeartbeats 40000000 in
theorem zo_X7_peg : (yy_okM zt_T zm_X7_peg && zz_rows zm_X7_peg) = true := by decide +kernel
set_option maxRecDepth 1000000 in
set_option maxHeartbeats 40000000 in
theorem zo_X7_knows : (yy_okM zt_T zm_X7_knows && zz_rows zm_X7_knows) = true := by decide +kernel
set_option maxRecDepth 1000000 in
set_option maxHeartbeats 40000000 in
theorem zo_X7_deepen : (yy_okM zt_T zm_X7_deepen && zz_rows zm_X7_deepen) = true := by decide +kernel
set_option maxRecDepth 1000000 in
set_option maxHeartbeats 40000000 in
theorem zo_X7_keepNow : (yy_okM zt_T zm_X7_keepNow && zz_rows zm_X7_keepNow) = true := by decide +kernel
set_option maxRecDepth 1000000 in
set_option maxHeartbeats 40000000 in
theorem zo_X7_endNow : (yy_okM zt_T zm_X7_endNow && zz_rows zm_X7_endNow) = true := by decide +kernel
set_option maxRecDepth 1000000 in
set_option maxHeartbeats 40000000 in
theorem zo_X7_will : (yy_okM zt_T zm_X7_will && zz_rows zm_X7_will) = true := by decide +kernel
set_option maxRecDepth 1000000 in
set_option maxHeartbeats 40000000 in
theorem zo_X7_toldOf : (yy_okM zt_T zm_X7_toldOf && zz_rows zm_X7_toldOf) = true := by decide +kernel
set_option maxRecDepth 1000000 in
set_option maxHeartbeats 40000000 in
theorem zo_X7_endPegged : (yy_okM zt_T zm_X7_endPegged && zz_rows zm_X7_endPegged) = true := by decide +kernel
set_option maxRecDepth 1000000 in
set_option maxHeartbeats 40000000 in
theorem zo_X7_settled : (yy_okM zt_T zm_X7_settled && zz_rows zm_X7_settled) = true := by decide +kernel
set_option maxRecDepth 1000000 in
set_option maxHeartbeats 40000000 in
theorem zo_X7_reach : (yy_okM zt_T zm_X7_reach && zz_rows zm_X7_reach) = true := by decide +kernel
set_option maxRecDepth 1000000 in
set_option maxHeartbeats 40000000 in
theorem zo_X7_bet : (yy_okM zt_T zm_X7_bet && zz_rows zm_X7_bet) = true := by decide +kernel
set_option maxRecDepth 1000000 in
set_option maxHeartbeats 40000000 in
theorem zo_X7_fateOf : (yy_okM zt_T zm_X7_fateOf && zz_rows zm_X7_fateOf) = true := by decide +kernel
set_option maxRecDepth 1000000 in
set_option maxHeartbeats 40000000 in
theorem zo_X7_quiet : (yy_okM zt_T zm_X7_quiet && zz_rows zm_X7_quiet) = true := by decide +kernel
set_option maxRecDepth 1000000 in
set_option maxHeartbeats 40000000 in
theorem zo_X7_unsure : (yy_okM zt_T zm_X7_unsure && zz_rows zm_X7_unsure) = true := by decide +kernel
set_option maxRecDepth 1000000 in
set_option maxHeartbeats 40000000 in
theorem zo_X7_power : (yy_okM zt_T zm_X7_power && zz_rows zm_X7_power) = true := by decide +kernel
set_option maxRecDepth 1000000 in
set_option maxHeartbeats 40000000 in
theorem zo_X7_later : (yy_okM zt_T zm_X7_later && zz_rows zm_X7_later) = true := by decide +kernel
set_option maxRecDepth 1000000 in
set_option maxHeartbeats 40000000 in
theorem zo_X7_fits : (yy_okM zt_T zm_X7_fits && zz_rows zm_X7_fits) = true := by decide +kernel
set_option maxRecDepth 1000000 in
set_option maxHeartbeats 40000000 in
theorem zo_X7_image : (yy_okM zt_T zm_X7_image && zz_rows zm_X7_image) = true := by decide +kernel
