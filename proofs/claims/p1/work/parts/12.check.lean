set_option maxRecDepth 1000000 in
set_option maxHeartbeats 40000000 in
theorem xo_LAW0 : xr_LAW_0.all (xx_okI xx_tab xm_LAW) = true := by decide +kernel
set_option maxRecDepth 1000000 in
set_option maxHeartbeats 40000000 in
theorem xo_LAW1 : xr_LAW_1.all (xx_okI xx_tab xm_LAW) = true := by decide +kernel
set_option maxRecDepth 1000000 in
set_option maxHeartbeats 40000000 in
theorem xo_LAW2 : xr_LAW_2.all (xx_okI xx_tab xm_LAW) = true := by decide +kernel
set_option maxRecDepth 1000000 in
set_option maxHeartbeats 40000000 in
theorem xo_LAW3 : xr_LAW_3.all (xx_okI xx_tab xm_LAW) = true := by decide +kernel
set_option maxRecDepth 1000000 in
set_option maxHeartbeats 40000000 in
theorem xo_LAW4 : xr_LAW_4.all (xx_okI xx_tab xm_LAW) = true := by decide +kernel
set_option maxRecDepth 1000000 in
set_option maxHeartbeats 40000000 in
theorem xo_LAW5 : xr_LAW_5.all (xx_okI xx_tab xm_LAW) = true := by decide +kernel
set_option maxRecDepth 1000000 in
set_option maxHeartbeats 40000000 in
theorem xo_LAW6 : xr_LAW_6.all (xx_okI xx_tab xm_LAW) = true := by decide +kernel
set_option maxRecDepth 1000000 in
set_option maxHeartbeats 40000000 in
theorem xo_LAW7 : xr_LAW_7.all (xx_okI xx_tab xm_LAW) = true := by decide +kernel
set_option maxRecDepth 1000000 in
set_option maxHeartbeats 40000000 in
theorem xo_LAW8 : xr_LAW_8.all (xx_okI xx_tab xm_LAW) = true := by decide +kernel
set_option maxRecDepth 1000000 in
set_option maxHeartbeats 40000000 in
theorem xo_LAW9 : xr_LAW_9.all (xx_okI xx_tab xm_LAW) = true := by decide +kernel
set_option maxRecDepth 1000000 in
set_option maxHeartbeats 40000000 in
theorem xo_LAW10 : xr_LAW_10.all (xx_okI xx_tab xm_LAW) = true := by decide +kernel
set_option maxRecDepth 1000000 in
set_option maxHeartbeats 40000000 in
theorem xo_LAW11 : xr_LAW_11.all (xx_okI xx_tab xm_LAW) = true := by decide +kernel
theorem xx_lawk : xx_okM xx_tab xm_LAW = true := by
  have h : xm_LAW.2.2.2.2.2.all (xx_okI xx_tab xm_LAW) = true := by
    show (xr_LAW_0 ++ (xr_LAW_1 ++ (xr_LAW_2 ++ (xr_LAW_3 ++ (xr_LAW_4 ++ (xr_LAW_5 ++ (xr_LAW_6 ++ (xr_LAW_7 ++ (xr_LAW_8 ++ (xr_LAW_9 ++ (xr_LAW_10 ++ (xr_LAW_11)))))))))))).all (xx_okI xx_tab xm_LAW) = true
    simp only [List.all_append, xo_LAW0, xo_LAW1, xo_LAW2, xo_LAW3, xo_LAW4, xo_LAW5, xo_LAW6, xo_LAW7, xo_LAW8, xo_LAW9, xo_LAW10, xo_LAW11, Bool.and_self]
  unfold xx_okM
  rw [h]
  decide +kernel
theorem xx_tbk0 : xx_tb0.all (xx_okM xx_tab) = true := by
  unfold xx_tb0
  simp only [List.all_cons, List.all_nil, xo_X6_about, xo_X6_isPerson, xo_X6_arePeople, xo_X6_alike, xo_X6_ask, xo_X6_back, xo_X6_bet, xo_X6_oneOrNumber, xo_X6_call, xo_X6_common, xo_X6_depth, xo_X6_end, xo_X1_copyFrom, xo_X6_endOf, xo_X6_endNow, xo_X6_ending, xo_X6_fateOf, xo_X6_has, xo_X6_isWorld, xo_X6_isPossible, Bool.and_self]
theorem xx_tbk1 : xx_tb1.all (xx_okM xx_tab) = true := by
  unfold xx_tb1
  simp only [List.all_cons, List.all_nil, xo_X6_fate, xo_X6_fault, xo_X3_append, xo_X6_feed, xo_X6_dawn, xo_X6_first, xo_J13_bitCount_95d88, xo_X5_startDay, xo_X4_follow, xo_X4_followAll, xo_X4_fitting, xo_X6_fits, xo_X6_group, xo_X6_twoOrEnd, xo_X6_hint, xo_X6_image, xo_X1_init, xo_X0_init, xo_X2_init, xo_X5_init, Bool.and_self]
theorem xx_tbk2 : xx_tb2.all (xx_okM xx_tab) = true := by
  unfold xx_tb2
  simp only [List.all_cons, List.all_nil, xo_X3_init, xo_X2_add, xo_X2_isUnit, xo_J6_bitCount_0f7a4, xo_X2_unitIn, xo_X2_valueIn, xo_X3_advance, xo_X5_clear, xo_X3_read, xo_X4_init, xo_X0_forget, xo_X4_forget, xo_X5_copyFrom, xo_X6_startAnew, xo_X6_init, xo_X6_knows, xo_X6_knowsIn, xo_X6_later, xo_X6_latest, xo_X6_law, Bool.and_self]
theorem xx_tbk3 : xx_tb3.all (xx_okM xx_tab) = true := by
  unfold xx_tb3
  simp only [List.all_cons, List.all_nil, xo_X6_least, xo_X6_lies, xo_X0_push, xo_X0_keep, xo_X5_signedLike, xo_X6_measure, xo_X6_meeting, xo_X6_foggyDawn, xo_X6_morning, xo_X6_next, xo_X6_lowest, xo_X6_odds, xo_X6_open, xo_X6_parish, xo_X6_parts, xo_X6_peg, xo_X6_spread, xo_X6_likeTrue, xo_X6_bestPegs, xo_X6_countOrSet, Bool.and_self]
theorem xx_tbk4 : xx_tb4.all (xx_okM xx_tab) = true := by
  unfold xx_tb4
  simp only [List.all_cons, List.all_nil, xo_X6_pegs, xo_X6_person, xo_X6_pin, xo_X6_possible, xo_X6_quiet, xo_X6_reach, xo_X0_doAgain, xo_X6_redo, xo_X6_seen, xo_X6_settled, xo_X6_shared, xo_X6_sign, xo_X6_spy, xo_X6_sure, xo_X6_suspected, xo_X6_tale, xo_X6_talked, xo_X6_thinks, xo_X0_takeBack, xo_X6_undo, Bool.and_self]
theorem xx_tbk5 : xx_tb5.all (xx_okM xx_tab) = true := by
  unfold xx_tb5
  simp only [List.all_cons, List.all_nil, xo_X6_unsure, xo_X4_withdraw, xo_X6_untell, xo_X6_canWhisper, xo_X6_whisper, xo_X6_will, xo_X6_wisest, xo_X6_within, xo_X6_worlds, xo_X6_worldsAt, xo_X6_wronged, xo_X7_folk, xo_X7_about, xo_X7_isIn, xo_X7_isPerson, xo_X7_alike, xo_X7_ask, xo_X7_back, xo_X7_bet, xo_X7_call, Bool.and_self]
theorem xx_tbk6 : xx_tb6.all (xx_okM xx_tab) = true := by
  unfold xx_tb6
  simp only [List.all_cons, List.all_nil, xo_X7_common, xo_X7_depth, xo_X7_end, xo_X7_bringBack, xo_X7_every, xo_X7_ownIn, xo_X7_goMorning, xo_X7_behind, xo_X7_endOf, xo_X7_keepNow, xo_X7_endNow, xo_X7_orNone, xo_X7_ending, xo_X7_fateOf, xo_X7_isWorld, xo_X7_mayBe, xo_X7_fate, xo_X7_fault, xo_X7_feed, xo_X7_first, Bool.and_self]
theorem xx_tbk7 : xx_tb7.all (xx_okM xx_tab) = true := by
  unfold xx_tb7
  simp only [List.all_cons, List.all_nil, xo_X7_doesFit, xo_X7_bit, xo_X7_bitsOf, xo_X7_signOf, xo_X7_layTold, xo_X7_layOwns, xo_X7_fits, xo_X7_group, xo_X7_canWhisper, xo_X7_hint, xo_X7_image, xo_X7_clearBank, xo_X7_startAnew, xo_X7_init, xo_X7_knows, xo_X7_knowsIn, xo_X7_later, xo_X7_latest, xo_X7_law, xo_X7_least, Bool.and_self]
theorem xx_tbk8 : xx_tb8.all (xx_okM xx_tab) = true := by
  unfold xx_tb8
  simp only [List.all_cons, List.all_nil, xo_X7_lies, xo_X7_countMay, xo_X7_keepAct, xo_X7_measure, xo_X7_meeting, xo_X7_goInEarnest, xo_X7_morning, xo_X7_next, xo_X7_divisor, xo_X7_power, xo_X7_odds, xo_X7_open, xo_X7_byteAt, xo_X7_goOn, xo_X7_isGood, xo_X7_parish, xo_X7_parts, xo_X7_peg, xo_X7_endPegged, xo_X7_isLess, Bool.and_self]
theorem xx_tbk9 : xx_tb9.all (xx_okM xx_tab) = true := by
  unfold xx_tb9
  simp only [List.all_cons, List.all_nil, xo_X7_toldOf, xo_X7_pegs, xo_X7_person, xo_X7_pin, xo_X7_possible, xo_X7_quiet, xo_X7_reach, xo_X7_redo, xo_X7_seen, xo_X7_settled, xo_X7_shared, xo_X7_sign, xo_X7_spy, xo_X7_sure, xo_X7_suspected, xo_X7_tale, xo_X7_talked, xo_X7_thinks, xo_X7_undo, xo_X7_unsure, Bool.and_self]
theorem xx_tbk10 : xx_tb10.all (xx_okM xx_tab) = true := by
  unfold xx_tb10
  simp only [List.all_cons, List.all_nil, xo_X7_untell, xo_X7_whisper, xo_X7_will, xo_X7_wisest, xo_X7_within, xo_X7_worlds, xo_X7_worldsAt, xo_X7_wronged, Bool.and_self]
theorem xx_tabk : ∀ M ∈ xx_tab, xx_okM xx_tab M = true := by
  have h : xx_tab.all (xx_okM xx_tab) = true := by
    have e : xx_tab = xx_tb0 ++ (xx_tb1 ++ (xx_tb2 ++ (xx_tb3 ++ (xx_tb4 ++ (xx_tb5 ++ (xx_tb6 ++ (xx_tb7 ++ (xx_tb8 ++ (xx_tb9 ++ (xx_tb10)))))))))) := rfl
    rw [e]
    simp only [List.all_append, xx_tbk0, xx_tbk1, xx_tbk2, xx_tbk3, xx_tbk4, xx_tbk5, xx_tbk6, xx_tbk7, xx_tbk8, xx_tbk9, xx_tbk10, Bool.and_self]
  exact List.all_eq_true.mp h
