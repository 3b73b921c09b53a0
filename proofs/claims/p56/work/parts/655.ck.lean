def zu_5 : zz_T := [(0, (([(.ofNat 0, (.ofNat 1600, (none, none)))], (0, ([(155, (.inl (.ofNat 7), .inr (.inl (0, .ofNat 0))))], ([], ([(0, .inr (.inr (.inl 155)))], []))))), [(true, .inl (.ofNat 1)), (true, .inr (.inl (0, .ofNat 0)))]))]
set_option maxRecDepth 1000000 in
set_option maxHeartbeats 40000000 in
theorem zc_5 : zz_ck zt_E 5 6000 zk_5 zu_5 [] = true := by decide +kernel
def zu_10 : zz_T := []
set_option maxRecDepth 1000000 in
set_option maxHeartbeats 40000000 in
theorem zc_10 : zz_ck zt_E 10 6000 zk_10 zu_10 [] = true := by decide +kernel
def zu_16 : zz_T := [(64, (([(.ofNat 0, (.ofNat 1600, (none, none)))], (0, ([], ([], ([(0, .inr (.inr (.inl 155))), (1, .inl (.ofNat 1)), (2, .inl (.ofNat 7)), (3, .inl (.ofNat 1600)), (4, .inr (.inl (0, .ofNat 0)))], []))))), [(true, .inl (.ofNat 1)), (true, .inr (.inl (0, .ofNat 0)))]))]
set_option maxRecDepth 1000000 in
set_option maxHeartbeats 40000000 in
theorem zc_16 : zz_ck zt_E 16 6000 zk_16 zu_16 [] = true := by decide +kernel
def zu_22 : zz_T := [(64, (([(.ofNat 0, (.ofNat 1, (none, none)))], (0, ([], ([], ([(0, .inr (.inr (.inl 155))), (1, .inl (.ofNat 2)), (2, .inl (.ofNat 6)), (3, .inl (.ofNat 1)), (4, .inr (.inl (0, .ofNat 0)))], []))))), [(true, .inl (.ofNat 1)), (true, .inr (.inl (0, .ofNat 0)))]))]
set_option maxRecDepth 1000000 in
set_option maxHeartbeats 40000000 in
theorem zc_22 : zz_ck zt_E 22 6000 zk_22 zu_22 [] = true := by decide +kernel
def zu_29 : zz_T := [(64, (([(.ofNat 0, (.ofNat 1600, (none, none)))], (0, ([], ([], ([(0, .inr (.inr (.inl 155))), (1, .inl (.ofNat 3)), (2, .inl (.ofNat 5)), (3, .inl (.ofNat 1600)), (4, .inr (.inl (0, .ofNat 0)))], []))))), [(true, .inl (.ofNat 1)), (true, .inr (.inl (0, .ofNat 0)))]))]
set_option maxRecDepth 1000000 in
set_option maxHeartbeats 40000000 in
theorem zc_29 : zz_ck zt_E 29 6000 zk_29 zu_29 [] = true := by decide +kernel
def zu_36 : zz_T := [(64, (([(.ofNat 0, (.ofNat 1600, (none, none)))], (0, ([], ([], ([(0, .inr (.inr (.inl 155))), (1, .inl (.ofNat 4)), (2, .inl (.ofNat 4)), (3, .inl (.ofNat 1600)), (4, .inr (.inl (0, .ofNat 0)))], []))))), [(true, .inl (.ofNat 1)), (true, .inr (.inl (0, .ofNat 0)))]))]
set_option maxRecDepth 1000000 in
set_option maxHeartbeats 40000000 in
theorem zc_36 : zz_ck zt_E 36 6000 zk_36 zu_36 [] = true := by decide +kernel
def zu_43 : zz_T := []
set_option maxRecDepth 1000000 in
set_option maxHeartbeats 40000000 in
theorem zc_43 : zz_ck zt_E 43 6000 zk_43 zu_43 [] = true := by decide +kernel
def zu_50 : zz_T := []
set_option maxRecDepth 1000000 in
set_option maxHeartbeats 40000000 in
theorem zc_50 : zz_ck zt_E 50 6000 zk_50 zu_50 [] = true := by decide +kernel
def zu_57 : zz_T := [(64, (([(.ofNat 0, (.ofNat 1600, (none, none)))], (0, ([], ([], ([(0, .inr (.inr (.inl 155))), (1, .inl (.ofNat 0)), (2, .inl (.ofNat 2)), (3, .inl (.ofNat 1600)), (4, .inr (.inl (0, .ofNat 0)))], []))))), [(true, .inl (.ofNat 1)), (true, .inr (.inl (0, .ofNat 0)))]))]
set_option maxRecDepth 1000000 in
set_option maxHeartbeats 40000000 in
theorem zc_57 : zz_ck zt_E 57 6000 zk_57 zu_57 [] = true := by decide +kernel
def zu_63 : zz_T := []
set_option maxRecDepth 1000000 in
set_option maxHeartbeats 40000000 in
theorem zc_63 : zz_ck zt_E 63 6000 zk_63 zu_63 [] = true := by decide +kernel
def zu_66 : zz_T := []
set_option maxRecDepth 1000000 in
set_option maxHeartbeats 40000000 in
theorem zc_66 : zz_ck zt_E 66 6000 zk_66 zu_66 [] = true := by decide +kernel
def zu_73 : zz_T := [(4, (([(.negSucc 2147483647, (.ofNat 2147483647, (none, none))), (.negSucc 2147483647, (.ofNat 2147483647, (none, none))), (.ofNat 0, (.ofNat 6, (none, none)))], (0, ([], ([], ([(0, .inr (.inr (.inl 153))), (1, .inr (.inl (0, .ofNat 0))), (2, .inr (.inl (1, .ofNat 0))), (3, .inr (.inl (2, .ofNat 0)))], []))))), [(true, .inl (.ofNat 1)), (true, .inr (.inl (2, .ofNat 0)))]))]
set_option maxRecDepth 1000000 in
set_option maxHeartbeats 40000000 in
theorem zc_73 : zz_ck zt_E 73 6000 zk_73 zu_73 [] = true := by decide +kernel
def zu_76 : zz_T := [(26, (([(.ofNat 0, (.ofNat 63, (none, none))), (.ofNat 0, (.ofNat 1, (none, none))), (.ofNat 0, (.ofNat 64, (none, none))), (.negSucc 2147483647, (.ofNat 2147483647, (none, none))), (.negSucc 2147483647, (.ofNat 2147483647, (none, none))), (.negSucc 2147483647, (.ofNat 2147483647, (none, none)))], (1, ([(138, (.inl (.ofNat 4), .inr (.inl (3, .ofNat 0)))), (140, (.inl (.ofNat 4), .inr (.inl (3, .ofNat 0)))), (138, (.inl (.ofNat 3), .inr (.inl (4, .ofNat 0)))), (140, (.inl (.ofNat 3), .inr (.inl (4, .ofNat 0)))), (138, (.inl (.ofNat 2), .inr (.inl (5, .ofNat 0)))), (140, (.inl (.ofNat 2), .inr (.inl (5, .ofNat 0)))), (138, (.inl (.ofNat 1), .inr (.inr (.inr (.inr 0))))), (140, (.inl (.ofNat 1), .inr (.inr (.inr (.inr 0)))))], ([], ([(0, .inr (.inr (.inl 143))), (1, .inr (.inr (.inl 138))), (3, .inr (.inl (1, .ofNat 0))), (4, .inr (.inl (2, .ofNat 0)))], []))))), [(true, .inl (.ofNat 1)), (true, .inr (.inl (2, .ofNat 0)))]))]
set_option maxRecDepth 1000000 in
set_option maxHeartbeats 40000000 in
theorem zc_76 : zz_ck zt_E 76 6000 zk_76 zu_76 [] = true := by decide +kernel
def zu_81 : zz_T := []
set_option maxRecDepth 1000000 in
set_option maxHeartbeats 40000000 in
theorem zc_81 : zz_ck zt_E 81 6000 zk_81 zu_81 [] = true := by decide +kernel
def zu_85 : zz_T := [(6, (([(.negSucc 2147483647, (.ofNat 2147483647, (none, none))), (.ofNat 0, (.ofNat 6, (none, none))), (.ofNat 0, (.ofNat 6, (none, none)))], (2, ([], ([], ([(2, .inr (.inl (0, .ofNat 0))), (3, .inr (.inl (1, .ofNat 0))), (4, .inr (.inr (.inr (.inr 1)))), (6, .inr (.inl (2, .ofNat 0)))], []))))), [(true, .inl (.ofNat 1)), (true, .inr (.inl (2, .ofNat 0)))]))]
set_option maxRecDepth 1000000 in
set_option maxHeartbeats 40000000 in
theorem zc_85 : zz_ck zt_E 85 6000 zk_85 zu_85 [] = true := by decide +kernel
def zu_92 : zz_T := []
set_option maxRecDepth 1000000 in
set_option maxHeartbeats 40000000 in
theorem zc_92 : zz_ck zt_E 92 6000 zk_92 zu_92 [] = true := by decide +kernel
def zu_98 : zz_T := []
set_option maxRecDepth 1000000 in
set_option maxHeartbeats 40000000 in
theorem zc_98 : zz_ck zt_E 98 6000 zk_98 zu_98 [] = true := by decide +kernel
def zu_104 : zz_T := [(3, (([(.negSucc 2147483647, (.ofNat 2147483647, (none, none))), (.negSucc 2147483647, (.ofNat 2147483647, (none, none))), (.ofNat 0, (.ofNat 2147483647, (none, none)))], (0, ([], ([], ([(0, .inr (.inr (.inl 143))), (1, .inr (.inr (.inl 137))), (2, .inr (.inl (0, .ofNat 0))), (3, .inr (.inl (1, .ofNat 0))), (4, .inr (.inl (2, .ofNat 0)))], []))))), [(true, .inl (.ofNat 1)), (true, .inr (.inl (2, .ofNat 0)))]))]
set_option maxRecDepth 1000000 in
set_option maxHeartbeats 40000000 in
theorem zc_104 : zz_ck zt_E 104 6000 zk_104 zu_104 [] = true := by decide +kernel
def zu_111 : zz_T := []
set_option maxRecDepth 1000000 in
set_option maxHeartbeats 40000000 in
theorem zc_111 : zz_ck zt_E 111 6000 zk_111 zu_111 [] = true := by decide +kernel
def zu_115 : zz_T := []
set_option maxRecDepth 1000000 in
set_option maxHeartbeats 40000000 in
theorem zc_115 : zz_ck zt_E 115 6000 zk_115 zu_115 [] = true := by decide +kernel
def zu_118 : zz_T := [(2, (([(.ofNat 0, (.ofNat 5, (none, none))), (.ofNat 0, (.ofNat 6, (none, none)))], (0, ([], ([], ([(0, .inr (.inr (.inl 156))), (1, .inr (.inl (0, .ofNat 0))), (2, .inr (.inl (1, .ofNat 0)))], []))))), [(true, .inl (.ofNat 1)), (true, .inr (.inl (1, .ofNat 0)))]))]
set_option maxRecDepth 1000000 in
set_option maxHeartbeats 40000000 in
theorem zc_118 : zz_ck zt_E 118 6000 zk_118 zu_118 [] = true := by decide +kernel
def zu_124 : zz_T := [(2, (([(.negSucc 2147483647, (.ofNat 2147483647, (none, none))), (.ofNat 0, (.ofNat 64, (none, none)))], (0, ([], ([], ([(0, .inr (.inr (.inl 156))), (1, .inr (.inl (0, .ofNat 0))), (2, .inr (.inl (1, .ofNat 0)))], []))))), [(true, .inl (.ofNat 1)), (true, .inr (.inl (1, .ofNat 0)))]))]
set_option maxRecDepth 1000000 in
set_option maxHeartbeats 40000000 in
theorem zc_124 : zz_ck zt_E 124 6000 zk_124 zu_124 [] = true := by decide +kernel
def zu_129 : zz_T := [(37, (([(.ofNat 0, (.ofNat 5, (none, none))), (.ofNat 0, (.ofNat 9, (none, none))), (.ofNat 0, (.ofNat 9, (none, none))), (.ofNat 1, (.ofNat 6, (none, none)))], (1, ([(143, (.inl (.ofNat 0), .inr (.inl (3, .ofNat 0))))], ([], ([(0, .inr (.inr (.inl 156))), (2, .inr (.inl (1, .ofNat 0))), (3, .inr (.inr (.inr (.inr 0)))), (5, .inr (.inl (2, .ofNat 0)))], []))))), [(true, .inl (.ofNat 1)), (true, .inr (.inl (2, .ofNat 0)))]))]
set_option maxRecDepth 1000000 in
set_option maxHeartbeats 40000000 in
theorem zc_129 : zz_ck zt_E 129 6000 zk_129 zu_129 [] = true := by decide +kernel
def zu_134 : zz_T := [(28, (([(.ofNat 0, (.ofNat 63, (none, none))), (.ofNat 0, (.ofNat 9, (none, none))), (.negSucc 2147483647, (.ofNat 2147483647, (none, none)))], (1, ([(137, (.inl (.ofNat 4), .inr (.inl (2, .ofNat 0)))), (138, (.inl (.ofNat 4), .inr (.inl (2, .ofNat 0)))), (137, (.inl (.ofNat 1), .inr (.inr (.inr (.inr 0))))), (138, (.inl (.ofNat 1), .inr (.inr (.inr (.inr 0))))), (156, (.inl (.ofNat 8), .inr (.inl (1, .ofNat 0))))], ([], ([(0, .inr (.inr (.inl 156))), (1, .inr (.inl (0, .ofNat 0))), (2, .inr (.inl (1, .ofNat 0)))], []))))), [(true, .inl (.ofNat 1)), (true, .inr (.inl (1, .ofNat 0)))]))]
set_option maxRecDepth 1000000 in
set_option maxHeartbeats 40000000 in
theorem zc_134 : zz_ck zt_E 134 6000 zk_134 zu_134 [] = true := by decide +kernel
def zu_143 : zz_T := []
set_option maxRecDepth 1000000 in
set_option maxHeartbeats 40000000 in
theorem zc_143 : zz_ck zt_E 143 6000 zk_143 zu_143 [] = true := by decide +kernel
def zu_145 : zz_T := []
set_option maxRecDepth 1000000 in
set_option maxHeartbeats 40000000 in
theorem zc_145 : zz_ck zt_E 145 6000 zk_145 zu_145 [] = true := by decide +kernel
def zu_149 : zz_T := [(11, (([(.negSucc 2147483647, (.ofNat 2147483647, (none, none))), (.ofNat 0, (.ofNat 63, (none, none))), (.ofNat 0, (.ofNat 6, (none, none)))], (1, ([], ([], ([(0, .inr (.inr (.inl 143))), (1, .inr (.inr (.inl 42))), (2, .inr (.inl (0, .ofNat 0))), (3, .inr (.inl (1, .ofNat 0))), (4, .inr (.inr (.inr (.inr 0)))), (6, .inr (.inl (2, .ofNat 0)))], []))))), [(true, .inl (.ofNat 1)), (true, .inr (.inl (2, .ofNat 0)))]))]
set_option maxRecDepth 1000000 in
set_option maxHeartbeats 40000000 in
theorem zc_149 : zz_ck zt_E 149 6000 zk_149 zu_149 [] = true := by decide +kernel
def zu_157 : zz_T := []
set_option maxRecDepth 1000000 in
set_option maxHeartbeats 40000000 in
theorem zc_157 : zz_ck zt_E 157 6000 zk_157 zu_157 [] = true := by decide +kernel
def zu_162 : zz_T := []
set_option maxRecDepth 1000000 in
set_option maxHeartbeats 40000000 in
theorem zc_162 : zz_ck zt_E 162 6000 zk_162 zu_162 [] = true := by decide +kernel
def zu_174 : zz_T := [(15, (([(.negSucc 2147483647, (.ofNat 2147483647, (none, none))), (.ofNat 0, (.ofNat 64, (none, none))), (.ofNat 0, (.ofNat 63, (none, none)))], (0, ([(38, (.inl (.ofNat 35), .inr (.inl (2, .ofNat 0))))], ([], ([(0, .inr (.inr (.inl 38))), (1, .inr (.inl (0, .ofNat 0))), (2, .inr (.inl (1, .ofNat 0)))], []))))), [(true, .inl (.ofNat 1)), (true, .inr (.inl (1, .ofNat 0)))]))]
set_option maxRecDepth 1000000 in
set_option maxHeartbeats 40000000 in
theorem zc_174 : zz_ck zt_E 174 6000 zk_174 zu_174 [] = true := by decide +kernel
def zu_179 : zz_T := []
set_option maxRecDepth 1000000 in
set_option maxHeartbeats 40000000 in
theorem zc_179 : zz_ck zt_E 179 6000 zk_179 zu_179 [] = true := by decide +kernel
def zu_186 : zz_T := [(4, (([(.ofNat 0, (.ofNat 63, (none, none))), (.ofNat 0, (.ofNat 6, (none, none)))], (0, ([], ([], ([(0, .inr (.inr (.inl 38))), (1, .inr (.inl (0, .ofNat 0))), (2, .inr (.inl (1, .ofNat 0)))], []))))), [(true, .inl (.ofNat 1)), (true, .inr (.inl (1, .ofNat 0))), (true, .inl (.ofNat 0)), (true, .inl (.ofNat 0))])), (19, (([(.ofNat 0, (.ofNat 63, (none, none))), (.ofNat 0, (.ofNat 5, (none, none))), (.ofNat 0, (.ofNat 64, (none, none)))], (0, ([], ([], ([(0, .inr (.inr (.inl 38))), (1, .inr (.inl (0, .ofNat 0))), (2, .inr (.inl (1, .ofNat 0))), (3, .inr (.inl (2, .ofNat 0)))], []))))), [(true, .inl (.ofNat 1)), (true, .inr (.inl (1, .ofNat 0))), (true, .inl (.ofNat 1)), (true, .inr (.inl (2, .ofNat 0)))]))]
set_option maxRecDepth 1000000 in
set_option maxHeartbeats 40000000 in
theorem zc_186 : zz_ck zt_E 186 6000 zk_186 zu_186 [] = true := by decide +kernel
def zu_196 : zz_T := [(24, (([(.ofNat 0, (.ofNat 5, (none, none))), (.ofNat 0, (.ofNat 1, (none, none))), (.negSucc 0, (.ofNat 63, (none, none))), (.ofNat 0, (.ofNat 64, (none, none)))], (0, ([], ([], ([(0, .inr (.inr (.inl 38))), (1, .inr (.inl (0, .ofNat 0))), (2, .inr (.inl (1, .ofNat 0))), (3, .inr (.inl (2, .ofNat 0))), (4, .inr (.inl (3, .ofNat 0)))], []))))), [(true, .inl (.ofNat 1)), (true, .inr (.inl (3, .ofNat 0))), (true, .inl (.ofNat 0)), (true, .inl (.ofNat 0))])), (39, (([(.ofNat 0, (.ofNat 5, (none, none))), (.ofNat 0, (.ofNat 1, (none, none))), (.negSucc 0, (.ofNat 63, (none, none))), (.ofNat 0, (.ofNat 63, (none, none))), (.negSucc 2147483647, (.ofNat 2147483647, (none, none))), (.ofNat 0, (.ofNat 6, (none, none)))], (0, ([], ([], ([(0, .inr (.inr (.inl 38))), (1, .inr (.inl (0, .ofNat 0))), (2, .inr (.inl (1, .ofNat 0))), (3, .inr (.inl (2, .ofNat 0))), (4, .inr (.inl (3, .ofNat 0))), (5, .inr (.inl (4, .ofNat 0))), (6, .inr (.inl (5, .ofNat 0)))], []))))), [(true, .inl (.ofNat 1)), (true, .inr (.inl (3, .ofNat 0))), (true, .inl (.ofNat 1)), (true, .inr (.inl (5, .ofNat 0)))]))]
set_option maxRecDepth 1000000 in
set_option maxHeartbeats 40000000 in
theorem zc_196 : zz_ck zt_E 196 6000 zk_196 zu_196 [] = true := by decide +kernel
def zu_204 : zz_T := [(8, (([(.negSucc 0, (.ofNat 5, (none, none))), (.ofNat 0, (.ofNat 6, (none, none)))], (0, ([], ([], ([(0, .inr (.inr (.inl 38))), (1, .inr (.inl (0, .ofNat 0))), (2, .inr (.inl (1, .ofNat 0)))], []))))), [(true, .inl (.ofNat 1)), (true, .inr (.inl (1, .ofNat 0)))]))]
set_option maxRecDepth 1000000 in
set_option maxHeartbeats 40000000 in
theorem zc_204 : zz_ck zt_E 204 6000 zk_204 zu_204 [] = true := by decide +kernel
def zu_206 : zz_T := [(4, (([(.negSucc 0, (.ofNat 5, (none, none))), (.ofNat 0, (.ofNat 6, (none, none)))], (0, ([], ([], ([(0, .inr (.inr (.inl 38))), (1, .inr (.inl (0, .ofNat 0))), (2, .inr (.inl (1, .ofNat 0)))], []))))), [(true, .inl (.ofNat 1)), (true, .inr (.inl (1, .ofNat 0)))]))]
set_option maxRecDepth 1000000 in
set_option maxHeartbeats 40000000 in
theorem zc_206 : zz_ck zt_E 206 6000 zk_206 zu_206 [] = true := by decide +kernel
def zu_213 : zz_T := [(18, (([(.ofNat 0, (.ofNat 5, (none, none))), (.negSucc 2147483647, (.ofNat 2147483647, (none, none))), (.ofNat 0, (.ofNat 64, (none, none)))], (0, ([], ([], ([(0, .inr (.inr (.inl 38))), (1, .inr (.inl (0, .ofNat 0))), (2, .inr (.inl (1, .ofNat 0))), (3, .inr (.inl (2, .ofNat 0)))], []))))), [(true, .inl (.ofNat 1)), (true, .inr (.inl (2, .ofNat 0)))]))]
set_option maxRecDepth 1000000 in
set_option maxHeartbeats 40000000 in
theorem zc_213 : zz_ck zt_E 213 6000 zk_213 zu_213 [] = true := by decide +kernel
def zu_219 : zz_T := [(26, (([(.ofNat 0, (.ofNat 9, (none, none))), (.ofNat 0, (.ofNat 1, (none, none))), (.negSucc 0, (.ofNat 63, (none, none))), (.ofNat 0, (.ofNat 64, (none, none)))], (0, ([], ([], ([(0, .inr (.inr (.inl 38))), (1, .inr (.inl (0, .ofNat 0))), (2, .inr (.inl (1, .ofNat 0))), (3, .inr (.inl (2, .ofNat 0))), (4, .inr (.inl (3, .ofNat 0)))], []))))), [(true, .inl (.ofNat 1)), (true, .inr (.inl (3, .ofNat 0)))]))]
set_option maxRecDepth 1000000 in
set_option maxHeartbeats 40000000 in
theorem zc_219 : zz_ck zt_E 219 6000 zk_219 zu_219 [] = true := by decide +kernel
def zu_226 : zz_T := []
set_option maxRecDepth 1000000 in
set_option maxHeartbeats 40000000 in
theorem zc_226 : zz_ck zt_E 226 6000 zk_226 zu_226 [] = true := by decide +kernel
def zu_232 : zz_T := [(11, (([(.negSucc 2147483647, (.ofNat 2147483647, (none, none))), (.ofNat 0, (.ofNat 64, (none, none)))], (0, ([], ([], ([(0, .inr (.inr (.inl 38))), (1, .inr (.inl (0, .ofNat 0))), (2, .inr (.inl (1, .ofNat 0)))], []))))), [(true, .inl (.ofNat 1)), (true, .inr (.inl (1, .ofNat 0))), (true, .inl (.ofNat 0)), (true, .inl (.ofNat 0))])), (30, (([(.negSucc 2147483647, (.ofNat 2147483647, (none, none))), (.ofNat 0, (.ofNat 63, (none, none))), (.ofNat 0, (.ofNat 9, (none, none)))], (0, ([(38, (.inl (.ofNat 38), .inr (.inl (1, .ofNat 0))))], ([], ([(0, .inr (.inr (.inl 38))), (1, .inr (.inl (0, .ofNat 0))), (2, .inr (.inl (1, .ofNat 0))), (3, .inr (.inl (2, .ofNat 0)))], []))))), [(true, .inl (.ofNat 1)), (true, .inr (.inl (1, .ofNat 0))), (true, .inl (.ofNat 1)), (true, .inr (.inl (2, .ofNat 0)))]))]
set_option maxRecDepth 1000000 in
set_option maxHeartbeats 40000000 in
theorem zc_232 : zz_ck zt_E 232 6000 zk_232 zu_232 [] = true := by decide +kernel
def zu_238 : zz_T := [(22, (([(.ofNat 0, (.ofNat 2, (none, none))), (.ofNat 0, (.ofNat 73, (none, none)))], (0, ([(0, (.inr (.inl (0, .ofNat 0)), .inl (.ofNat 1)))], ([], ([(0, .inr (.inr (.inl 38))), (1, .inr (.inl (0, .ofNat 0))), (2, .inr (.inl (1, .ofNat 0)))], []))))), [(true, .inl (.ofNat 1)), (true, .inr (.inl (1, .ofNat 0)))]))]
set_option maxRecDepth 1000000 in
set_option maxHeartbeats 40000000 in
theorem zc_238 : zz_ck zt_E 238 6000 zk_238 zu_238 [] = true := by decide +kernel
