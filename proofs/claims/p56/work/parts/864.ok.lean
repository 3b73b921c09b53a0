theorem zo_sp {l : List xx_I} {p : xx_I → Bool} (a : Nat) {n : Nat} (h : ((l.drop a).take n).all p = true) (g : (l.drop (a + n)).all p = true) : (l.drop a).all p = true := by
  rw [← List.take_append_drop n (l.drop a), List.all_append, Bool.and_eq_true, List.drop_drop]
  exact ⟨h, g⟩
set_option maxRecDepth 1000000 in
set_option maxHeartbeats 40000000 in
theorem zo_LAW_r_0_0 : ((zm_LAW_r_0.drop 0).take 12).all (yy_okI zt_T zm_LAW) = true := by decide +kernel
set_option maxRecDepth 1000000 in
set_option maxHeartbeats 40000000 in
theorem zo_LAW_r_0_12 : ((zm_LAW_r_0.drop 12).take 12).all (yy_okI zt_T zm_LAW) = true := by decide +kernel
set_option maxRecDepth 1000000 in
set_option maxHeartbeats 40000000 in
theorem zo_LAW_r_0_24 : ((zm_LAW_r_0.drop 24).take 12).all (yy_okI zt_T zm_LAW) = true := by decide +kernel
set_option maxRecDepth 1000000 in
set_option maxHeartbeats 40000000 in
theorem zo_LAW_r_0_36 : ((zm_LAW_r_0.drop 36).take 12).all (yy_okI zt_T zm_LAW) = true := by decide +kernel
set_option maxRecDepth 1000000 in
set_option maxHeartbeats 40000000 in
theorem zo_LAW_r_0_48 : ((zm_LAW_r_0.drop 48).take 12).all (yy_okI zt_T zm_LAW) = true := by decide +kernel
set_option maxRecDepth 1000000 in
set_option maxHeartbeats 40000000 in
theorem zo_LAW_r_0_60 : ((zm_LAW_r_0.drop 60).take 12).all (yy_okI zt_T zm_LAW) = true := by decide +kernel
set_option maxRecDepth 1000000 in
set_option maxHeartbeats 40000000 in
theorem zo_LAW_r_0_72 : ((zm_LAW_r_0.drop 72).take 12).all (yy_okI zt_T zm_LAW) = true := by decide +kernel
set_option maxRecDepth 1000000 in
set_option maxHeartbeats 40000000 in
theorem zo_LAW_r_0_84 : ((zm_LAW_r_0.drop 84).take 12).all (yy_okI zt_T zm_LAW) = true := by decide +kernel
set_option maxRecDepth 1000000 in
set_option maxHeartbeats 40000000 in
theorem zo_LAW_r_0_96 : ((zm_LAW_r_0.drop 96).take 12).all (yy_okI zt_T zm_LAW) = true := by decide +kernel
theorem zo_LAW_r_0_e : (zm_LAW_r_0.drop 108).all (yy_okI zt_T zm_LAW) = true := by decide +kernel
theorem zo_LAW_r_0 : zm_LAW_r_0.all (yy_okI zt_T zm_LAW) = true := (zo_sp 0 zo_LAW_r_0_0 (zo_sp 12 zo_LAW_r_0_12 (zo_sp 24 zo_LAW_r_0_24 (zo_sp 36 zo_LAW_r_0_36 (zo_sp 48 zo_LAW_r_0_48 (zo_sp 60 zo_LAW_r_0_60 (zo_sp 72 zo_LAW_r_0_72 (zo_sp 84 zo_LAW_r_0_84 (zo_sp 96 zo_LAW_r_0_96 zo_LAW_r_0_e)))))))))
set_option maxRecDepth 1000000 in
set_option maxHeartbeats 40000000 in
theorem zo_LAW_r_1_0 : ((zm_LAW_r_1.drop 0).take 12).all (yy_okI zt_T zm_LAW) = true := by decide +kernel
set_option maxRecDepth 1000000 in
set_option maxHeartbeats 40000000 in
theorem zo_LAW_r_1_12 : ((zm_LAW_r_1.drop 12).take 12).all (yy_okI zt_T zm_LAW) = true := by decide +kernel
set_option maxRecDepth 1000000 in
set_option maxHeartbeats 40000000 in
theorem zo_LAW_r_1_24 : ((zm_LAW_r_1.drop 24).take 12).all (yy_okI zt_T zm_LAW) = true := by decide +kernel
set_option maxRecDepth 1000000 in
set_option maxHeartbeats 40000000 in
theorem zo_LAW_r_1_36 : ((zm_LAW_r_1.drop 36).take 12).all (yy_okI zt_T zm_LAW) = true := by decide +kernel
set_option maxRecDepth 1000000 in
set_option maxHeartbeats 40000000 in
theorem zo_LAW_r_1_48 : ((zm_LAW_r_1.drop 48).take 12).all (yy_okI zt_T zm_LAW) = true := by decide +kernel
set_option maxRecDepth 1000000 in
set_option maxHeartbeats 40000000 in
theorem zo_LAW_r_1_60 : ((zm_LAW_r_1.drop 60).take 12).all (yy_okI zt_T zm_LAW) = true := by decide +kernel
set_option maxRecDepth 1000000 in
set_option maxHeartbeats 40000000 in
theorem zo_LAW_r_1_72 : ((zm_LAW_r_1.drop 72).take 12).all (yy_okI zt_T zm_LAW) = true := by decide +kernel
set_option maxRecDepth 1000000 in
set_option maxHeartbeats 40000000 in
theorem zo_LAW_r_1_84 : ((zm_LAW_r_1.drop 84).take 12).all (yy_okI zt_T zm_LAW) = true := by decide +kernel
set_option maxRecDepth 1000000 in
set_option maxHeartbeats 40000000 in
theorem zo_LAW_r_1_96 : ((zm_LAW_r_1.drop 96).take 12).all (yy_okI zt_T zm_LAW) = true := by decide +kernel
theorem zo_LAW_r_1_e : (zm_LAW_r_1.drop 108).all (yy_okI zt_T zm_LAW) = true := by decide +kernel
theorem zo_LAW_r_1 : zm_LAW_r_1.all (yy_okI zt_T zm_LAW) = true := (zo_sp 0 zo_LAW_r_1_0 (zo_sp 12 zo_LAW_r_1_12 (zo_sp 24 zo_LAW_r_1_24 (zo_sp 36 zo_LAW_r_1_36 (zo_sp 48 zo_LAW_r_1_48 (zo_sp 60 zo_LAW_r_1_60 (zo_sp 72 zo_LAW_r_1_72 (zo_sp 84 zo_LAW_r_1_84 (zo_sp 96 zo_LAW_r_1_96 zo_LAW_r_1_e)))))))))
set_option maxRecDepth 1000000 in
set_option maxHeartbeats 40000000 in
theorem zo_LAW_r_2_0 : ((zm_LAW_r_2.drop 0).take 12).all (yy_okI zt_T zm_LAW) = true := by decide +kernel
set_option maxRecDepth 1000000 in
set_option maxHeartbeats 40000000 in
theorem zo_LAW_r_2_12 : ((zm_LAW_r_2.drop 12).take 12).all (yy_okI zt_T zm_LAW) = true := by decide +kernel
set_option maxRecDepth 1000000 in
set_option maxHeartbeats 40000000 in
theorem zo_LAW_r_2_24 : ((zm_LAW_r_2.drop 24).take 12).all (yy_okI zt_T zm_LAW) = true := by decide +kernel
set_option maxRecDepth 1000000 in
set_option maxHeartbeats 40000000 in
theorem zo_LAW_r_2_36 : ((zm_LAW_r_2.drop 36).take 12).all (yy_okI zt_T zm_LAW) = true := by decide +kernel
set_option maxRecDepth 1000000 in
set_option maxHeartbeats 40000000 in
theorem zo_LAW_r_2_48 : ((zm_LAW_r_2.drop 48).take 12).all (yy_okI zt_T zm_LAW) = true := by decide +kernel
set_option maxRecDepth 1000000 in
set_option maxHeartbeats 40000000 in
theorem zo_LAW_r_2_60 : ((zm_LAW_r_2.drop 60).take 12).all (yy_okI zt_T zm_LAW) = true := by decide +kernel
set_option maxRecDepth 1000000 in
set_option maxHeartbeats 40000000 in
theorem zo_LAW_r_2_72 : ((zm_LAW_r_2.drop 72).take 12).all (yy_okI zt_T zm_LAW) = true := by decide +kernel
set_option maxRecDepth 1000000 in
set_option maxHeartbeats 40000000 in
theorem zo_LAW_r_2_84 : ((zm_LAW_r_2.drop 84).take 12).all (yy_okI zt_T zm_LAW) = true := by decide +kernel
set_option maxRecDepth 1000000 in
set_option maxHeartbeats 40000000 in
theorem zo_LAW_r_2_96 : ((zm_LAW_r_2.drop 96).take 12).all (yy_okI zt_T zm_LAW) = true := by decide +kernel
theorem zo_LAW_r_2_e : (zm_LAW_r_2.drop 108).all (yy_okI zt_T zm_LAW) = true := by decide +kernel
theorem zo_LAW_r_2 : zm_LAW_r_2.all (yy_okI zt_T zm_LAW) = true := (zo_sp 0 zo_LAW_r_2_0 (zo_sp 12 zo_LAW_r_2_12 (zo_sp 24 zo_LAW_r_2_24 (zo_sp 36 zo_LAW_r_2_36 (zo_sp 48 zo_LAW_r_2_48 (zo_sp 60 zo_LAW_r_2_60 (zo_sp 72 zo_LAW_r_2_72 (zo_sp 84 zo_LAW_r_2_84 (zo_sp 96 zo_LAW_r_2_96 zo_LAW_r_2_e)))))))))
set_option maxRecDepth 1000000 in
set_option maxHeartbeats 40000000 in
theorem zo_LAW_r_3_0 : ((zm_LAW_r_3.drop 0).take 12).all (yy_okI zt_T zm_LAW) = true := by decide +kernel
set_option maxRecDepth 1000000 in
set_option maxHeartbeats 40000000 in
theorem zo_LAW_r_3_12 : ((zm_LAW_r_3.drop 12).take 12).all (yy_okI zt_T zm_LAW) = true := by decide +kernel
set_option maxRecDepth 1000000 in
set_option maxHeartbeats 40000000 in
theorem zo_LAW_r_3_24 : ((zm_LAW_r_3.drop 24).take 12).all (yy_okI zt_T zm_LAW) = true := by decide +kernel
set_option maxRecDepth 1000000 in
set_option maxHeartbeats 40000000 in
theorem zo_LAW_r_3_36 : ((zm_LAW_r_3.drop 36).take 12).all (yy_okI zt_T zm_LAW) = true := by decide +kernel
set_option maxRecDepth 1000000 in
set_option maxHeartbeats 40000000 in
theorem zo_LAW_r_3_48 : ((zm_LAW_r_3.drop 48).take 12).all (yy_okI zt_T zm_LAW) = true := by decide +kernel
set_option maxRecDepth 1000000 in
set_option maxHeartbeats 40000000 in
theorem zo_LAW_r_3_60 : ((zm_LAW_r_3.drop 60).take 12).all (yy_okI zt_T zm_LAW) = true := by decide +kernel
set_option maxRecDepth 1000000 in
set_option maxHeartbeats 40000000 in
theorem zo_LAW_r_3_72 : ((zm_LAW_r_3.drop 72).take 12).all (yy_okI zt_T zm_LAW) = true := by decide +kernel
set_option maxRecDepth 1000000 in
set_option maxHeartbeats 40000000 in
theorem zo_LAW_r_3_84 : ((zm_LAW_r_3.drop 84).take 12).all (yy_okI zt_T zm_LAW) = true := by decide +kernel
set_option maxRecDepth 1000000 in
set_option maxHeartbeats 40000000 in
theorem zo_LAW_r_3_96 : ((zm_LAW_r_3.drop 96).take 12).all (yy_okI zt_T zm_LAW) = true := by decide +kernel
theorem zo_LAW_r_3_e : (zm_LAW_r_3.drop 108).all (yy_okI zt_T zm_LAW) = true := by decide +kernel
theorem zo_LAW_r_3 : zm_LAW_r_3.all (yy_okI zt_T zm_LAW) = true := (zo_sp 0 zo_LAW_r_3_0 (zo_sp 12 zo_LAW_r_3_12 (zo_sp 24 zo_LAW_r_3_24 (zo_sp 36 zo_LAW_r_3_36 (zo_sp 48 zo_LAW_r_3_48 (zo_sp 60 zo_LAW_r_3_60 (zo_sp 72 zo_LAW_r_3_72 (zo_sp 84 zo_LAW_r_3_84 (zo_sp 96 zo_LAW_r_3_96 zo_LAW_r_3_e)))))))))
set_option maxRecDepth 1000000 in
set_option maxHeartbeats 40000000 in
theorem zo_LAW_r_4_0 : ((zm_LAW_r_4.drop 0).take 12).all (yy_okI zt_T zm_LAW) = true := by decide +kernel
set_option maxRecDepth 1000000 in
set_option maxHeartbeats 40000000 in
theorem zo_LAW_r_4_12 : ((zm_LAW_r_4.drop 12).take 12).all (yy_okI zt_T zm_LAW) = true := by decide +kernel
set_option maxRecDepth 1000000 in
set_option maxHeartbeats 40000000 in
theorem zo_LAW_r_4_24 : ((zm_LAW_r_4.drop 24).take 12).all (yy_okI zt_T zm_LAW) = true := by decide +kernel
set_option maxRecDepth 1000000 in
set_option maxHeartbeats 40000000 in
theorem zo_LAW_r_4_36 : ((zm_LAW_r_4.drop 36).take 12).all (yy_okI zt_T zm_LAW) = true := by decide +kernel
set_option maxRecDepth 1000000 in
set_option maxHeartbeats 40000000 in
theorem zo_LAW_r_4_48 : ((zm_LAW_r_4.drop 48).take 12).all (yy_okI zt_T zm_LAW) = true := by decide +kernel
set_option maxRecDepth 1000000 in
set_option maxHeartbeats 40000000 in
theorem zo_LAW_r_4_60 : ((zm_LAW_r_4.drop 60).take 12).all (yy_okI zt_T zm_LAW) = true := by decide +kernel
set_option maxRecDepth 1000000 in
set_option maxHeartbeats 40000000 in
theorem zo_LAW_r_4_72 : ((zm_LAW_r_4.drop 72).take 12).all (yy_okI zt_T zm_LAW) = true := by decide +kernel
set_option maxRecDepth 1000000 in
set_option maxHeartbeats 40000000 in
theorem zo_LAW_r_4_84 : ((zm_LAW_r_4.drop 84).take 12).all (yy_okI zt_T zm_LAW) = true := by decide +kernel
set_option maxRecDepth 1000000 in
set_option maxHeartbeats 40000000 in
theorem zo_LAW_r_4_96 : ((zm_LAW_r_4.drop 96).take 12).all (yy_okI zt_T zm_LAW) = true := by decide +kernel
theorem zo_LAW_r_4_e : (zm_LAW_r_4.drop 108).all (yy_okI zt_T zm_LAW) = true := by decide +kernel
theorem zo_LAW_r_4 : zm_LAW_r_4.all (yy_okI zt_T zm_LAW) = true := (zo_sp 0 zo_LAW_r_4_0 (zo_sp 12 zo_LAW_r_4_12 (zo_sp 24 zo_LAW_r_4_24 (zo_sp 36 zo_LAW_r_4_36 (zo_sp 48 zo_LAW_r_4_48 (zo_sp 60 zo_LAW_r_4_60 (zo_sp 72 zo_LAW_r_4_72 (zo_sp 84 zo_LAW_r_4_84 (zo_sp 96 zo_LAW_r_4_96 zo_LAW_r_4_e)))))))))
set_option maxRecDepth 1000000 in
set_option maxHeartbeats 40000000 in
theorem zo_LAW_r_5_0 : ((zm_LAW_r_5.drop 0).take 12).all (yy_okI zt_T zm_LAW) = true := by decide +kernel
set_option maxRecDepth 1000000 in
set_option maxHeartbeats 40000000 in
theorem zo_LAW_r_5_12 : ((zm_LAW_r_5.drop 12).take 12).all (yy_okI zt_T zm_LAW) = true := by decide +kernel
set_option maxRecDepth 1000000 in
set_option maxHeartbeats 40000000 in
theorem zo_LAW_r_5_24 : ((zm_LAW_r_5.drop 24).take 12).all (yy_okI zt_T zm_LAW) = true := by decide +kernel
set_option maxRecDepth 1000000 in
set_option maxHeartbeats 40000000 in
theorem zo_LAW_r_5_36 : ((zm_LAW_r_5.drop 36).take 12).all (yy_okI zt_T zm_LAW) = true := by decide +kernel
set_option maxRecDepth 1000000 in
set_option maxHeartbeats 40000000 in
theorem zo_LAW_r_5_48 : ((zm_LAW_r_5.drop 48).take 12).all (yy_okI zt_T zm_LAW) = true := by decide +kernel
set_option maxRecDepth 1000000 in
set_option maxHeartbeats 40000000 in
theorem zo_LAW_r_5_60 : ((zm_LAW_r_5.drop 60).take 12).all (yy_okI zt_T zm_LAW) = true := by decide +kernel
set_option maxRecDepth 1000000 in
set_option maxHeartbeats 40000000 in
theorem zo_LAW_r_5_72 : ((zm_LAW_r_5.drop 72).take 12).all (yy_okI zt_T zm_LAW) = true := by decide +kernel
set_option maxRecDepth 1000000 in
set_option maxHeartbeats 40000000 in
theorem zo_LAW_r_5_84 : ((zm_LAW_r_5.drop 84).take 12).all (yy_okI zt_T zm_LAW) = true := by decide +kernel
set_option maxRecDepth 1000000 in
set_option maxHeartbeats 40000000 in
theorem zo_LAW_r_5_96 : ((zm_LAW_r_5.drop 96).take 12).all (yy_okI zt_T zm_LAW) = true := by decide +kernel
theorem zo_LAW_r_5_e : (zm_LAW_r_5.drop 108).all (yy_okI zt_T zm_LAW) = true := by decide +kernel
theorem zo_LAW_r_5 : zm_LAW_r_5.all (yy_okI zt_T zm_LAW) = true := (zo_sp 0 zo_LAW_r_5_0 (zo_sp 12 zo_LAW_r_5_12 (zo_sp 24 zo_LAW_r_5_24 (zo_sp 36 zo_LAW_r_5_36 (zo_sp 48 zo_LAW_r_5_48 (zo_sp 60 zo_LAW_r_5_60 (zo_sp 72 zo_LAW_r_5_72 (zo_sp 84 zo_LAW_r_5_84 (zo_sp 96 zo_LAW_r_5_96 zo_LAW_r_5_e)))))))))
set_option maxRecDepth 1000000 in
set_option maxHeartbeats 40000000 in
theorem zo_LAW_r_6_0 : ((zm_LAW_r_6.drop 0).take 12).all (yy_okI zt_T zm_LAW) = true := by decide +kernel
set_option maxRecDepth 1000000 in
set_option maxHeartbeats 40000000 in
theorem zo_LAW_r_6_12 : ((zm_LAW_r_6.drop 12).take 12).all (yy_okI zt_T zm_LAW) = true := by decide +kernel
set_option maxRecDepth 1000000 in
set_option maxHeartbeats 40000000 in
theorem zo_LAW_r_6_24 : ((zm_LAW_r_6.drop 24).take 12).all (yy_okI zt_T zm_LAW) = true := by decide +kernel
set_option maxRecDepth 1000000 in
set_option maxHeartbeats 40000000 in
theorem zo_LAW_r_6_36 : ((zm_LAW_r_6.drop 36).take 12).all (yy_okI zt_T zm_LAW) = true := by decide +kernel
set_option maxRecDepth 1000000 in
set_option maxHeartbeats 40000000 in
theorem zo_LAW_r_6_48 : ((zm_LAW_r_6.drop 48).take 12).all (yy_okI zt_T zm_LAW) = true := by decide +kernel
set_option maxRecDepth 1000000 in
set_option maxHeartbeats 40000000 in
theorem zo_LAW_r_6_60 : ((zm_LAW_r_6.drop 60).take 12).all (yy_okI zt_T zm_LAW) = true := by decide +kernel
set_option maxRecDepth 1000000 in
set_option maxHeartbeats 40000000 in
theorem zo_LAW_r_6_72 : ((zm_LAW_r_6.drop 72).take 12).all (yy_okI zt_T zm_LAW) = true := by decide +kernel
set_option maxRecDepth 1000000 in
set_option maxHeartbeats 40000000 in
theorem zo_LAW_r_6_84 : ((zm_LAW_r_6.drop 84).take 12).all (yy_okI zt_T zm_LAW) = true := by decide +kernel
set_option maxRecDepth 1000000 in
set_option maxHeartbeats 40000000 in
theorem zo_LAW_r_6_96 : ((zm_LAW_r_6.drop 96).take 12).all (yy_okI zt_T zm_LAW) = true := by decide +kernel
theorem zo_LAW_r_6_e : (zm_LAW_r_6.drop 108).all (yy_okI zt_T zm_LAW) = true := by decide +kernel
theorem zo_LAW_r_6 : zm_LAW_r_6.all (yy_okI zt_T zm_LAW) = true := (zo_sp 0 zo_LAW_r_6_0 (zo_sp 12 zo_LAW_r_6_12 (zo_sp 24 zo_LAW_r_6_24 (zo_sp 36 zo_LAW_r_6_36 (zo_sp 48 zo_LAW_r_6_48 (zo_sp 60 zo_LAW_r_6_60 (zo_sp 72 zo_LAW_r_6_72 (zo_sp 84 zo_LAW_r_6_84 (zo_sp 96 zo_LAW_r_6_96 zo_LAW_r_6_e)))))))))
set_option maxRecDepth 1000000 in
set_option maxHeartbeats 40000000 in
theorem zo_LAW_r_7_0 : ((zm_LAW_r_7.drop 0).take 12).all (yy_okI zt_T zm_LAW) = true := by decide +kernel
set_option maxRecDepth 1000000 in
set_option maxHeartbeats 40000000 in
theorem zo_LAW_r_7_12 : ((zm_LAW_r_7.drop 12).take 12).all (yy_okI zt_T zm_LAW) = true := by decide +kernel
set_option maxRecDepth 1000000 in
set_option maxHeartbeats 40000000 in
theorem zo_LAW_r_7_24 : ((zm_LAW_r_7.drop 24).take 12).all (yy_okI zt_T zm_LAW) = true := by decide +kernel
set_option maxRecDepth 1000000 in
set_option maxHeartbeats 40000000 in
theorem zo_LAW_r_7_36 : ((zm_LAW_r_7.drop 36).take 12).all (yy_okI zt_T zm_LAW) = true := by decide +kernel
set_option maxRecDepth 1000000 in
set_option maxHeartbeats 40000000 in
theorem zo_LAW_r_7_48 : ((zm_LAW_r_7.drop 48).take 12).all (yy_okI zt_T zm_LAW) = true := by decide +kernel
set_option maxRecDepth 1000000 in
set_option maxHeartbeats 40000000 in
theorem zo_LAW_r_7_60 : ((zm_LAW_r_7.drop 60).take 12).all (yy_okI zt_T zm_LAW) = true := by decide +kernel
set_option maxRecDepth 1000000 in
set_option maxHeartbeats 40000000 in
theorem zo_LAW_r_7_72 : ((zm_LAW_r_7.drop 72).take 12).all (yy_okI zt_T zm_LAW) = true := by decide +kernel
set_option maxRecDepth 1000000 in
set_option maxHeartbeats 40000000 in
theorem zo_LAW_r_7_84 : ((zm_LAW_r_7.drop 84).take 12).all (yy_okI zt_T zm_LAW) = true := by decide +kernel
set_option maxRecDepth 1000000 in
set_option maxHeartbeats 40000000 in
theorem zo_LAW_r_7_96 : ((zm_LAW_r_7.drop 96).take 12).all (yy_okI zt_T zm_LAW) = true := by decide +kernel
theorem zo_LAW_r_7_e : (zm_LAW_r_7.drop 108).all (yy_okI zt_T zm_LAW) = true := by decide +kernel
theorem zo_LAW_r_7 : zm_LAW_r_7.all (yy_okI zt_T zm_LAW) = true := (zo_sp 0 zo_LAW_r_7_0 (zo_sp 12 zo_LAW_r_7_12 (zo_sp 24 zo_LAW_r_7_24 (zo_sp 36 zo_LAW_r_7_36 (zo_sp 48 zo_LAW_r_7_48 (zo_sp 60 zo_LAW_r_7_60 (zo_sp 72 zo_LAW_r_7_72 (zo_sp 84 zo_LAW_r_7_84 (zo_sp 96 zo_LAW_r_7_96 zo_LAW_r_7_e)))))))))
set_option maxRecDepth 1000000 in
set_option maxHeartbeats 40000000 in
theorem zo_LAW_r_8_0 : ((zm_LAW_r_8.drop 0).take 12).all (yy_okI zt_T zm_LAW) = true := by decide +kernel
set_option maxRecDepth 1000000 in
set_option maxHeartbeats 40000000 in
theorem zo_LAW_r_8_12 : ((zm_LAW_r_8.drop 12).take 12).all (yy_okI zt_T zm_LAW) = true := by decide +kernel
set_option maxRecDepth 1000000 in
set_option maxHeartbeats 40000000 in
theorem zo_LAW_r_8_24 : ((zm_LAW_r_8.drop 24).take 12).all (yy_okI zt_T zm_LAW) = true := by decide +kernel
set_option maxRecDepth 1000000 in
set_option maxHeartbeats 40000000 in
theorem zo_LAW_r_8_36 : ((zm_LAW_r_8.drop 36).take 12).all (yy_okI zt_T zm_LAW) = true := by decide +kernel
set_option maxRecDepth 1000000 in
set_option maxHeartbeats 40000000 in
theorem zo_LAW_r_8_48 : ((zm_LAW_r_8.drop 48).take 12).all (yy_okI zt_T zm_LAW) = true := by decide +kernel
set_option maxRecDepth 1000000 in
set_option maxHeartbeats 40000000 in
theorem zo_LAW_r_8_60 : ((zm_LAW_r_8.drop 60).take 12).all (yy_okI zt_T zm_LAW) = true := by decide +kernel
set_option maxRecDepth 1000000 in
set_option maxHeartbeats 40000000 in
theorem zo_LAW_r_8_72 : ((zm_LAW_r_8.drop 72).take 12).all (yy_okI zt_T zm_LAW) = true := by decide +kernel
set_option maxRecDepth 1000000 in
set_option maxHeartbeats 40000000 in
theorem zo_LAW_r_8_84 : ((zm_LAW_r_8.drop 84).take 12).all (yy_okI zt_T zm_LAW) = true := by decide +kernel
set_option maxRecDepth 1000000 in
set_option maxHeartbeats 40000000 in
theorem zo_LAW_r_8_96 : ((zm_LAW_r_8.drop 96).take 12).all (yy_okI zt_T zm_LAW) = true := by decide +kernel
theorem zo_LAW_r_8_e : (zm_LAW_r_8.drop 108).all (yy_okI zt_T zm_LAW) = true := by decide +kernel
theorem zo_LAW_r_8 : zm_LAW_r_8.all (yy_okI zt_T zm_LAW) = true := (zo_sp 0 zo_LAW_r_8_0 (zo_sp 12 zo_LAW_r_8_12 (zo_sp 24 zo_LAW_r_8_24 (zo_sp 36 zo_LAW_r_8_36 (zo_sp 48 zo_LAW_r_8_48 (zo_sp 60 zo_LAW_r_8_60 (zo_sp 72 zo_LAW_r_8_72 (zo_sp 84 zo_LAW_r_8_84 (zo_sp 96 zo_LAW_r_8_96 zo_LAW_r_8_e)))))))))
set_option maxRecDepth 1000000 in
set_option maxHeartbeats 40000000 in
theorem zo_LAW_r_9_0 : ((zm_LAW_r_9.drop 0).take 12).all (yy_okI zt_T zm_LAW) = true := by decide +kernel
set_option maxRecDepth 1000000 in
set_option maxHeartbeats 40000000 in
theorem zo_LAW_r_9_12 : ((zm_LAW_r_9.drop 12).take 12).all (yy_okI zt_T zm_LAW) = true := by decide +kernel
set_option maxRecDepth 1000000 in
set_option maxHeartbeats 40000000 in
theorem zo_LAW_r_9_24 : ((zm_LAW_r_9.drop 24).take 12).all (yy_okI zt_T zm_LAW) = true := by decide +kernel
set_option maxRecDepth 1000000 in
set_option maxHeartbeats 40000000 in
theorem zo_LAW_r_9_36 : ((zm_LAW_r_9.drop 36).take 12).all (yy_okI zt_T zm_LAW) = true := by decide +kernel
set_option maxRecDepth 1000000 in
set_option maxHeartbeats 40000000 in
theorem zo_LAW_r_9_48 : ((zm_LAW_r_9.drop 48).take 12).all (yy_okI zt_T zm_LAW) = true := by decide +kernel
set_option maxRecDepth 1000000 in
set_option maxHeartbeats 40000000 in
theorem zo_LAW_r_9_60 : ((zm_LAW_r_9.drop 60).take 12).all (yy_okI zt_T zm_LAW) = true := by decide +kernel
set_option maxRecDepth 1000000 in
set_option maxHeartbeats 40000000 in
theorem zo_LAW_r_9_72 : ((zm_LAW_r_9.drop 72).take 12).all (yy_okI zt_T zm_LAW) = true := by decide +kernel
set_option maxRecDepth 1000000 in
set_option maxHeartbeats 40000000 in
theorem zo_LAW_r_9_84 : ((zm_LAW_r_9.drop 84).take 12).all (yy_okI zt_T zm_LAW) = true := by decide +kernel
set_option maxRecDepth 1000000 in
set_option maxHeartbeats 40000000 in
theorem zo_LAW_r_9_96 : ((zm_LAW_r_9.drop 96).take 12).all (yy_okI zt_T zm_LAW) = true := by decide +kernel
theorem zo_LAW_r_9_e : (zm_LAW_r_9.drop 108).all (yy_okI zt_T zm_LAW) = true := by decide +kernel
theorem zo_LAW_r_9 : zm_LAW_r_9.all (yy_okI zt_T zm_LAW) = true := (zo_sp 0 zo_LAW_r_9_0 (zo_sp 12 zo_LAW_r_9_12 (zo_sp 24 zo_LAW_r_9_24 (zo_sp 36 zo_LAW_r_9_36 (zo_sp 48 zo_LAW_r_9_48 (zo_sp 60 zo_LAW_r_9_60 (zo_sp 72 zo_LAW_r_9_72 (zo_sp 84 zo_LAW_r_9_84 (zo_sp 96 zo_LAW_r_9_96 zo_LAW_r_9_e)))))))))
set_option maxRecDepth 1000000 in
set_option maxHeartbeats 40000000 in
theorem zo_LAW_r_10_0 : ((zm_LAW_r_10.drop 0).take 12).all (yy_okI zt_T zm_LAW) = true := by decide +kernel
set_option maxRecDepth 1000000 in
set_option maxHeartbeats 40000000 in
theorem zo_LAW_r_10_12 : ((zm_LAW_r_10.drop 12).take 12).all (yy_okI zt_T zm_LAW) = true := by decide +kernel
set_option maxRecDepth 1000000 in
set_option maxHeartbeats 40000000 in
theorem zo_LAW_r_10_24 : ((zm_LAW_r_10.drop 24).take 12).all (yy_okI zt_T zm_LAW) = true := by decide +kernel
set_option maxRecDepth 1000000 in
set_option maxHeartbeats 40000000 in
theorem zo_LAW_r_10_36 : ((zm_LAW_r_10.drop 36).take 12).all (yy_okI zt_T zm_LAW) = true := by decide +kernel
set_option maxRecDepth 1000000 in
set_option maxHeartbeats 40000000 in
theorem zo_LAW_r_10_48 : ((zm_LAW_r_10.drop 48).take 12).all (yy_okI zt_T zm_LAW) = true := by decide +kernel
set_option maxRecDepth 1000000 in
set_option maxHeartbeats 40000000 in
theorem zo_LAW_r_10_60 : ((zm_LAW_r_10.drop 60).take 12).all (yy_okI zt_T zm_LAW) = true := by decide +kernel
set_option maxRecDepth 1000000 in
set_option maxHeartbeats 40000000 in
theorem zo_LAW_r_10_72 : ((zm_LAW_r_10.drop 72).take 12).all (yy_okI zt_T zm_LAW) = true := by decide +kernel
set_option maxRecDepth 1000000 in
set_option maxHeartbeats 40000000 in
theorem zo_LAW_r_10_84 : ((zm_LAW_r_10.drop 84).take 12).all (yy_okI zt_T zm_LAW) = true := by decide +kernel
set_option maxRecDepth 1000000 in
set_option maxHeartbeats 40000000 in
theorem zo_LAW_r_10_96 : ((zm_LAW_r_10.drop 96).take 12).all (yy_okI zt_T zm_LAW) = true := by decide +kernel
theorem zo_LAW_r_10_e : (zm_LAW_r_10.drop 108).all (yy_okI zt_T zm_LAW) = true := by decide +kernel
theorem zo_LAW_r_10 : zm_LAW_r_10.all (yy_okI zt_T zm_LAW) = true := (zo_sp 0 zo_LAW_r_10_0 (zo_sp 12 zo_LAW_r_10_12 (zo_sp 24 zo_LAW_r_10_24 (zo_sp 36 zo_LAW_r_10_36 (zo_sp 48 zo_LAW_r_10_48 (zo_sp 60 zo_LAW_r_10_60 (zo_sp 72 zo_LAW_r_10_72 (zo_sp 84 zo_LAW_r_10_84 (zo_sp 96 zo_LAW_r_10_96 zo_LAW_r_10_e)))))))))
set_option maxRecDepth 1000000 in
set_option maxHeartbeats 40000000 in
theorem zo_LAW_r_11_0 : ((zm_LAW_r_11.drop 0).take 12).all (yy_okI zt_T zm_LAW) = true := by decide +kernel
set_option maxRecDepth 1000000 in
set_option maxHeartbeats 40000000 in
theorem zo_LAW_r_11_12 : ((zm_LAW_r_11.drop 12).take 12).all (yy_okI zt_T zm_LAW) = true := by decide +kernel
set_option maxRecDepth 1000000 in
set_option maxHeartbeats 40000000 in
theorem zo_LAW_r_11_24 : ((zm_LAW_r_11.drop 24).take 12).all (yy_okI zt_T zm_LAW) = true := by decide +kernel
set_option maxRecDepth 1000000 in
set_option maxHeartbeats 40000000 in
theorem zo_LAW_r_11_36 : ((zm_LAW_r_11.drop 36).take 12).all (yy_okI zt_T zm_LAW) = true := by decide +kernel
set_option maxRecDepth 1000000 in
set_option maxHeartbeats 40000000 in
theorem zo_LAW_r_11_48 : ((zm_LAW_r_11.drop 48).take 12).all (yy_okI zt_T zm_LAW) = true := by decide +kernel
theorem zo_LAW_r_11_e : (zm_LAW_r_11.drop 60).all (yy_okI zt_T zm_LAW) = true := by decide +kernel
theorem zo_LAW_r_11 : zm_LAW_r_11.all (yy_okI zt_T zm_LAW) = true := (zo_sp 0 zo_LAW_r_11_0 (zo_sp 12 zo_LAW_r_11_12 (zo_sp 24 zo_LAW_r_11_24 (zo_sp 36 zo_LAW_r_11_36 (zo_sp 48 zo_LAW_r_11_48 zo_LAW_r_11_e)))))
theorem zo_LAW : yy_okM zt_T zm_LAW = true := by
  have hp : plainName zm_LAW.1.cls = true := by decide +kernel
  unfold yy_okM
  rw [hp, Bool.true_and]
  show zm_LAW_r.all (yy_okI zt_T zm_LAW) = true
  unfold zm_LAW_r
  simp only [List.all_append, zo_LAW_r_0, zo_LAW_r_1, zo_LAW_r_2, zo_LAW_r_3, zo_LAW_r_4, zo_LAW_r_5, zo_LAW_r_6, zo_LAW_r_7, zo_LAW_r_8, zo_LAW_r_9, zo_LAW_r_10, zo_LAW_r_11, Bool.and_self]
theorem zo_zt_T_0 : zt_T_0.all (yy_okM zt_T) = true := by
  unfold zt_T_0
  simp only [List.all_cons, List.all_nil, zo_X7_bit, zo_X7_lowest, zo_X7_highest, zo_X7_bitsOf, zo_X7_folk, zo_X7_shameOf, zo_X7_asked, zo_X7_two, zo_X3_append, zo_X6_feed, zo_X6_end, zo_X3_isDigit, zo_X3_isLetter, zo_X3_readNumber, zo_J0_coder_7d493, zo_J0_length_8abf5, zo_J0_isLatin1_aae02, zo_J1_charAt_3b067, zo_J0_charAt_5068e, zo_X3_wordCode, Bool.and_self]
theorem zo_zt_T_1 : zt_T_1.all (yy_okM zt_T) = true := by
  unfold zt_T_1
  simp only [List.all_cons, List.all_nil, zo_X3_readWord, zo_X3_rankOf, zo_X3_isSign, zo_X3_advance, zo_X3_sameText, zo_X3_named, zo_X3_refuse, zo_X3_denied_v7, zo_X2_add, zo_X3_unit_v7, zo_X3_joined_v5_7, zo_X3_joined_v4_7, zo_X3_joined_v3_7, zo_X3_joined_v2_7, zo_X3_denied_v6, zo_X3_joined_v1_7, zo_X3_joined_v0_7, zo_X3_unit_v6, zo_X3_joined_v5_6, zo_X3_joined_v4_6, Bool.and_self]
theorem zo_zt_T_2 : zt_T_2.all (yy_okM zt_T) = true := by
  unfold zt_T_2
  simp only [List.all_cons, List.all_nil, zo_X3_joined_v3_6, zo_X3_joined_v2_6, zo_X3_denied_v5, zo_X3_joined_v1_6, zo_X3_joined_v0_6, zo_X3_unit_v5, zo_X3_joined_v5_5, zo_X3_joined_v4_5, zo_X3_joined_v3_5, zo_X3_joined_v2_5, zo_X3_denied_v4, zo_X3_joined_v1_5, zo_X3_joined_v0_5, zo_X3_unit_v4, zo_X3_joined_v5_4, zo_X3_joined_v4_4, zo_X3_joined_v3_4, zo_X3_joined_v2_4, zo_X3_denied_v3, zo_X3_joined_v1_4, Bool.and_self]
theorem zo_zt_T_3 : zt_T_3.all (yy_okM zt_T) = true := by
  unfold zt_T_3
  simp only [List.all_cons, List.all_nil, zo_X3_joined_v0_4, zo_X3_unit_v3, zo_X3_joined_v5_3, zo_X3_joined_v4_3, zo_X3_joined_v3_3, zo_X3_joined_v2_3, zo_X3_denied_v2, zo_X3_joined_v1_3, zo_X3_joined_v0_3, zo_X3_unit_v2, zo_X3_joined_v5_2, zo_X3_joined_v4_2, zo_X3_joined_v3_2, zo_X3_joined_v2_2, zo_X3_denied_v1, zo_X3_joined_v1_2, zo_X3_joined_v0_2, zo_X3_unit_v1, zo_X3_joined_v5_1, zo_X3_joined_v4_1, Bool.and_self]
theorem zo_zt_T_4 : zt_T_4.all (yy_okM zt_T) = true := by
  unfold zt_T_4
  simp only [List.all_cons, List.all_nil, zo_X3_joined_v3_1, zo_X3_joined_v2_1, zo_X3_denied_v0, zo_X3_joined_v1_1, zo_X3_joined_v0_1, zo_X3_unit_v0, zo_X3_joined_v5_0, zo_X3_joined_v4_0, zo_X3_joined_v3_0, zo_X3_joined_v2_0, zo_X3_joined_v1_0, zo_X3_joined_v0_0, zo_X5_shameIn, zo_X2_isUnit, zo_J6_bitCount_0f7a4, zo_J6_numberOfTrailingZeros_0f7a4, zo_J6_numberOfLeadingZeros_0f7a4, zo_X2_unitIn, zo_X2_join, zo_X2_valueIn, Bool.and_self]
theorem zo_zt_T_5 : zt_T_5.all (yy_okM zt_T) = true := by
  unfold zt_T_5
  simp only [List.all_cons, List.all_nil, zo_X5_clear, zo_X3_number, zo_X3_personLine, zo_J13_bitCount_95d88, zo_X3_somebody, zo_X1_knownTo, zo_X1_addKnown, zo_X3_knowsLine, zo_X3_isFirst, zo_X3_line, zo_X3_read, zo_X1_copyFrom, zo_X5_startDay, zo_X5_copyFrom, zo_X0_forget, zo_X4_forget, zo_X6_startAnew, zo_X6_parish, zo_X6_fault, zo_X6_isPerson, Bool.and_self]
theorem zo_zt_T_6 : zt_T_6.all (yy_okM zt_T) = true := by
  unfold zt_T_6
  simp only [List.all_cons, List.all_nil, zo_X6_person, zo_X6_isWorld, zo_X6_sign, zo_X6_has, zo_X6_possible, zo_X6_worlds, zo_X0_push, zo_X6_spread, zo_X6_knowing, zo_X6_owning, zo_X6_dawn, zo_X0_keep, zo_X6_foggyDawn, zo_X6_morning, zo_X5_signedLike, zo_X6_measure, zo_X6_ask, zo_X6_likeTrue, zo_X6_peg, zo_X6_arePeople, Bool.and_self]
theorem zo_zt_T_7 : zt_T_7.all (yy_okM zt_T) = true := by
  unfold zt_T_7
  simp only [List.all_cons, List.all_nil, zo_X6_canWhisper, zo_X6_whisper, zo_X0_takeBack, zo_X6_undo, zo_X0_doAgain, zo_X6_redo, zo_X6_taken, zo_X6_verdict, zo_X6_knows, zo_X6_isPossible, zo_X6_knowsIn, zo_X6_knownToAll, zo_X6_depth, zo_X6_common, zo_X6_open, zo_X6_endOf, zo_X6_endNow, zo_X6_ending, zo_X6_first, zo_X6_will, Bool.and_self]
theorem zo_zt_T_8 : zt_T_8.all (yy_okM zt_T) = true := by
  unfold zt_T_8
  simp only [List.all_cons, List.all_nil, zo_X6_worldsAt, zo_X6_knownAmong, zo_X6_tellSame, zo_X6_lesser, zo_X6_bestGroup, zo_X6_countOrSet, zo_X6_group, zo_X6_oneOrNumber, zo_X6_call, zo_X6_endOfTwo, zo_X6_twoOrEnd, zo_X6_hint, zo_X6_pin, zo_X6_thinks, zo_X6_isThoughtOf, zo_X6_wronged, zo_X6_isClearToAll, zo_X6_settled, zo_X6_wisest, zo_X6_knowersOf, Bool.and_self]
theorem zo_zt_T_9 : zt_T_9.all (yy_okM zt_T) = true := by
  unfold zt_T_9
  simp only [List.all_cons, List.all_nil, zo_X6_talked, zo_X6_reach, zo_X6_least, zo_X6_suspected, zo_X6_law, zo_X6_lowest, zo_X6_bet, zo_X6_shared, zo_X6_parts, zo_X6_alike, zo_X6_fateOf, zo_X6_fate, zo_X6_latest, zo_X6_tale, zo_X6_quiet, zo_X6_bestPegs, zo_X6_pegs, zo_X6_bestSpying, zo_X6_spy, zo_X6_meeting, Bool.and_self]
theorem zo_zt_T_10 : zt_T_10.all (yy_okM zt_T) = true := by
  unfold zt_T_10
  simp only [List.all_cons, List.all_nil, zo_X6_unsure, zo_X6_within, zo_X6_lies, zo_X6_odds, zo_X4_add, zo_X6_seen, zo_X4_withdraw, zo_X6_untell, zo_X4_follow, zo_X4_followAll, zo_X4_countsAt, zo_X4_ownersOn, zo_X4_fitting, zo_X6_fits, zo_X6_sure, zo_X6_next, zo_X6_image, zo_X6_back, zo_X6_about, zo_X7_feed, Bool.and_self]
theorem zo_zt_T_11 : zt_T_11.all (yy_okM zt_T) = true := by
  unfold zt_T_11
  simp only [List.all_cons, List.all_nil, zo_X7_end, zo_X7_isKept, zo_X7_byteAt, zo_X7_isLetter, zo_X7_isDigit, zo_X7_isSign, zo_X7_goOn, zo_X7_comes, zo_X7_signOf, zo_X7_every, zo_X7_layTold, zo_X7_startAnew, zo_X7_here, zo_X7_isGood, zo_X7_isWord, zo_X7_fails, zo_X7_misplaced, zo_X7_numeral, zo_X7_perhaps, zo_X7_must, Bool.and_self]
theorem zo_zt_T_12 : zt_T_12.all (yy_okM zt_T) = true := by
  unfold zt_T_12
  simp only [List.all_cons, List.all_nil, zo_X7_readPerson, zo_X7_someone, zo_X7_readKnows, zo_X7_pushE, zo_X7_byteAt_vY, zo_X7_isSignHere, zo_X7_wordHere, zo_X7_emit, zo_X7_unit, zo_X7_rankHere, zo_X7_isCompared, zo_X7_behindUnit, zo_X7_e, zo_X7_readRule, zo_X7_isFull, zo_X7_once, zo_X7_readLine, zo_X7_clearBank, zo_X7_parish, zo_X7_fault, Bool.and_self]
theorem zo_zt_T_13 : zt_T_13.all (yy_okM zt_T) = true := by
  unfold zt_T_13
  simp only [List.all_cons, List.all_nil, zo_X7_isIn, zo_X7_isPerson, zo_X7_person, zo_X7_isWorld, zo_X7_sign, zo_X7_possible, zo_X7_countMay, zo_X7_worlds, zo_X7_keepAct, zo_X7_classOf, zo_X7_layKnowledge, zo_X7_bearsOf, zo_X7_ownIn, zo_X7_goMorning, zo_X7_goInEarnest, zo_X7_morning, zo_X7_measure, zo_X7_knownIn, zo_X7_goAsk, zo_X7_ask, Bool.and_self]
theorem zo_zt_T_14 : zt_T_14.all (yy_okM zt_T) = true := by
  unfold zt_T_14
  simp only [List.all_cons, List.all_nil, zo_X7_goPeg, zo_X7_peg, zo_X7_canWhisper, zo_X7_whisper, zo_X7_swapAll, zo_X7_undo, zo_X7_redo, zo_X7_knows, zo_X7_mayBe, zo_X7_knowsIn, zo_X7_layIsSo, zo_X7_deepen, zo_X7_depth, zo_X7_common, zo_X7_open, zo_X7_keepNow, zo_X7_behind, zo_X7_bringBack, zo_X7_endOf, zo_X7_endNow, Bool.and_self]
theorem zo_zt_T_15 : zt_T_15.all (yy_okM zt_T) = true := by
  unfold zt_T_15
  simp only [List.all_cons, List.all_nil, zo_X7_orNone, zo_X7_ending, zo_X7_first, zo_X7_will, zo_X7_worldsAt, zo_X7_isTold, zo_X7_isLess, zo_X7_toldOf, zo_X7_group, zo_X7_call, zo_X7_hint, zo_X7_endPegged, zo_X7_pin, zo_X7_thinks, zo_X7_wronged, zo_X7_settled, zo_X7_wisest, zo_X7_knowers, zo_X7_talked, zo_X7_reach, Bool.and_self]
theorem zo_zt_T_16 : zt_T_16.all (yy_okM zt_T) = true := by
  unfold zt_T_16
  simp only [List.all_cons, List.all_nil, zo_X7_least, zo_X7_suspected, zo_X7_law, zo_X7_divisor, zo_X7_bet, zo_X7_shared, zo_X7_parts, zo_X7_alike, zo_X7_fateOf, zo_X7_fate, zo_X7_latest, zo_X7_tale, zo_X7_quiet, zo_X7_pegs, zo_X7_spy, zo_X7_meeting, zo_X7_unsure, zo_X7_within, zo_X7_lies, zo_X7_power, Bool.and_self]
theorem zo_zt_T_17 : zt_T_17.all (yy_okM zt_T) = true := by
  unfold zt_T_17
  simp only [List.all_cons, List.all_nil, zo_X7_odds, zo_X7_seen, zo_X7_untell, zo_X7_doesFit, zo_X7_layOwns, zo_X7_fits, zo_X7_sure, zo_X7_mostBy, zo_X7_next, zo_X7_image, zo_X7_back, zo_X7_about, zo_X6_later, zo_X7_later, Bool.and_self]
theorem zo_all : ∀ M ∈ zt_T, yy_okM zt_T M = true := by
  intro M hM
  have h : zt_T.all (yy_okM zt_T) = true := by
    show (zt_T_0 ++ (zt_T_1 ++ (zt_T_2 ++ (zt_T_3 ++ (zt_T_4 ++ (zt_T_5 ++ (zt_T_6 ++ (zt_T_7 ++ (zt_T_8 ++ (zt_T_9 ++ (zt_T_10 ++ (zt_T_11 ++ (zt_T_12 ++ (zt_T_13 ++ (zt_T_14 ++ (zt_T_15 ++ (zt_T_16 ++ (zt_T_17)))))))))))))))))).all (yy_okM zt_T) = true
    simp only [List.all_append, zo_zt_T_0, zo_zt_T_1, zo_zt_T_2, zo_zt_T_3, zo_zt_T_4, zo_zt_T_5, zo_zt_T_6, zo_zt_T_7, zo_zt_T_8, zo_zt_T_9, zo_zt_T_10, zo_zt_T_11, zo_zt_T_12, zo_zt_T_13, zo_zt_T_14, zo_zt_T_15, zo_zt_T_16, zo_zt_T_17, Bool.and_self]
  exact List.all_eq_true.mp h M hM
