def zu_1 : zz_T := []
set_option maxRecDepth 1000000 in
set_option maxHeartbeats 40000000 in
theorem zc_1 : zz_ck zt_E 1 6000 zk_1 zu_1 [] = true := by decide +kernel
def zu_9 : zz_T := []
set_option maxRecDepth 1000000 in
set_option maxHeartbeats 40000000 in
theorem zc_9 : zz_ck zt_E 9 6000 zk_9 zu_9 [] = true := by decide +kernel
def zu_11 : zz_T := []
set_option maxRecDepth 1000000 in
set_option maxHeartbeats 40000000 in
theorem zc_11 : zz_ck zt_E 11 6000 zk_11 zu_11 [] = true := by decide +kernel
def zu_18 : zz_T := []
set_option maxRecDepth 1000000 in
set_option maxHeartbeats 40000000 in
theorem zc_18 : zz_ck zt_E 18 6000 zk_18 zu_18 [] = true := by decide +kernel
def zu_27 : zz_T := []
set_option maxRecDepth 1000000 in
set_option maxHeartbeats 40000000 in
theorem zc_27 : zz_ck zt_E 27 6000 zk_27 zu_27 [] = true := by decide +kernel
def zu_32 : zz_T := [(64, (([(.ofNat 0, (.ofNat 1600, (none, none)))], (0, ([], ([], ([(0, .inr (.inr (.inl 155))), (1, .inl (.ofNat 1)), (2, .inl (.ofNat 5)), (3, .inl (.ofNat 1600)), (4, .inr (.inl (0, .ofNat 0)))], []))))), [(true, .inl (.ofNat 1)), (true, .inr (.inl (0, .ofNat 0)))]))]
set_option maxRecDepth 1000000 in
set_option maxHeartbeats 40000000 in
theorem zc_32 : zz_ck zt_E 32 6000 zk_32 zu_32 [] = true := by decide +kernel
def zu_38 : zz_T := [(64, (([(.ofNat 0, (.ofNat 1, (none, none)))], (0, ([], ([], ([(0, .inr (.inr (.inl 155))), (1, .inl (.ofNat 2)), (2, .inl (.ofNat 4)), (3, .inl (.ofNat 1)), (4, .inr (.inl (0, .ofNat 0)))], []))))), [(true, .inl (.ofNat 1)), (true, .inr (.inl (0, .ofNat 0)))]))]
set_option maxRecDepth 1000000 in
set_option maxHeartbeats 40000000 in
theorem zc_38 : zz_ck zt_E 38 6000 zk_38 zu_38 [] = true := by decide +kernel
def zu_45 : zz_T := [(64, (([(.ofNat 0, (.ofNat 1600, (none, none)))], (0, ([], ([], ([(0, .inr (.inr (.inl 155))), (1, .inl (.ofNat 3)), (2, .inl (.ofNat 3)), (3, .inl (.ofNat 1600)), (4, .inr (.inl (0, .ofNat 0)))], []))))), [(true, .inl (.ofNat 1)), (true, .inr (.inl (0, .ofNat 0)))]))]
set_option maxRecDepth 1000000 in
set_option maxHeartbeats 40000000 in
theorem zc_45 : zz_ck zt_E 45 6000 zk_45 zu_45 [] = true := by decide +kernel
def zu_52 : zz_T := [(64, (([(.ofNat 0, (.ofNat 1600, (none, none)))], (0, ([], ([], ([(0, .inr (.inr (.inl 155))), (1, .inl (.ofNat 4)), (2, .inl (.ofNat 2)), (3, .inl (.ofNat 1600)), (4, .inr (.inl (0, .ofNat 0)))], []))))), [(true, .inl (.ofNat 1)), (true, .inr (.inl (0, .ofNat 0)))]))]
set_option maxRecDepth 1000000 in
set_option maxHeartbeats 40000000 in
theorem zc_52 : zz_ck zt_E 52 6000 zk_52 zu_52 [] = true := by decide +kernel
def zu_58 : zz_T := []
set_option maxRecDepth 1000000 in
set_option maxHeartbeats 40000000 in
theorem zc_58 : zz_ck zt_E 58 6000 zk_58 zu_58 [] = true := by decide +kernel
def zu_65 : zz_T := [(64, (([(.ofNat 0, (.ofNat 1600, (none, none)))], (0, ([], ([], ([(0, .inr (.inr (.inl 155))), (1, .inl (.ofNat 0)), (2, .inl (.ofNat 1)), (3, .inl (.ofNat 1600)), (4, .inr (.inl (0, .ofNat 0)))], []))))), [(true, .inl (.ofNat 1)), (true, .inr (.inl (0, .ofNat 0)))]))]
set_option maxRecDepth 1000000 in
set_option maxHeartbeats 40000000 in
theorem zc_65 : zz_ck zt_E 65 6000 zk_65 zu_65 [] = true := by decide +kernel
def zu_71 : zz_T := [(64, (([(.ofNat 0, (.ofNat 1600, (none, none)))], (0, ([], ([], ([(0, .inr (.inr (.inl 155))), (1, .inl (.ofNat 1)), (2, .inl (.ofNat 0)), (3, .inl (.ofNat 1600)), (4, .inr (.inl (0, .ofNat 0)))], []))))), [(true, .inl (.ofNat 1)), (true, .inr (.inl (0, .ofNat 0)))]))]
set_option maxRecDepth 1000000 in
set_option maxHeartbeats 40000000 in
theorem zc_71 : zz_ck zt_E 71 6000 zk_71 zu_71 [] = true := by decide +kernel
def zu_78 : zz_T := []
set_option maxRecDepth 1000000 in
set_option maxHeartbeats 40000000 in
theorem zc_78 : zz_ck zt_E 78 6000 zk_78 zu_78 [] = true := by decide +kernel
def zu_82 : zz_T := []
set_option maxRecDepth 1000000 in
set_option maxHeartbeats 40000000 in
theorem zc_82 : zz_ck zt_E 82 6000 zk_82 zu_82 [] = true := by decide +kernel
def zu_86 : zz_T := [(11, (([(.negSucc 2147483647, (.ofNat 2147483647, (none, none))), (.ofNat 0, (.ofNat 63, (none, none))), (.ofNat 0, (.ofNat 6, (none, none)))], (1, ([], ([], ([(0, .inr (.inr (.inl 143))), (1, .inr (.inr (.inl 138))), (2, .inr (.inl (0, .ofNat 0))), (3, .inr (.inl (1, .ofNat 0))), (4, .inr (.inr (.inr (.inr 0)))), (6, .inr (.inl (2, .ofNat 0)))], []))))), [(true, .inl (.ofNat 1)), (true, .inr (.inl (2, .ofNat 0)))]))]
set_option maxRecDepth 1000000 in
set_option maxHeartbeats 40000000 in
theorem zc_86 : zz_ck zt_E 86 6000 zk_86 zu_86 [] = true := by decide +kernel
def zu_96 : zz_T := []
set_option maxRecDepth 1000000 in
set_option maxHeartbeats 40000000 in
theorem zc_96 : zz_ck zt_E 96 6000 zk_96 zu_96 [] = true := by decide +kernel
def zu_99 : zz_T := [(11, (([(.ofNat 0, (.ofNat 6, (none, none)))], (2, ([], ([], ([(0, .inr (.inr (.inl 156))), (1, .inr (.inr (.inr (.inr 0)))), (3, .inr (.inr (.inr (.inr 1)))), (5, .inr (.inl (0, .ofNat 0)))], []))))), [(true, .inl (.ofNat 1)), (true, .inr (.inl (0, .ofNat 0)))]))]
set_option maxRecDepth 1000000 in
set_option maxHeartbeats 40000000 in
theorem zc_99 : zz_ck zt_E 99 6000 zk_99 zu_99 [] = true := by decide +kernel
def zu_105 : zz_T := []
set_option maxRecDepth 1000000 in
set_option maxHeartbeats 40000000 in
theorem zc_105 : zz_ck zt_E 105 6000 zk_105 zu_105 [] = true := by decide +kernel
def zu_107 : zz_T := [(38, (([(.ofNat 1, (.ofNat 30, (none, none))), (.ofNat 0, (.ofNat 1, (none, none))), (.ofNat 0, (.ofNat 63, (none, none))), (.ofNat 0, (.ofNat 30, (none, none)))], (1, ([(137, (.inl (.ofNat 1), .inr (.inr (.inr (.inr 0))))), (138, (.inl (.ofNat 1), .inr (.inr (.inr (.inr 0)))))], ([], ([(0, .inr (.inr (.inl 156))), (1, .inr (.inl (0, .ofNat 0))), (2, .inr (.inl (1, .ofNat 0))), (3, .inr (.inl (2, .ofNat 0))), (4, .inr (.inl (3, .ofNat 0)))], []))))), [(true, .inl (.ofNat 1)), (true, .inr (.inl (3, .ofNat 0)))]))]
set_option maxRecDepth 1000000 in
set_option maxHeartbeats 40000000 in
theorem zc_107 : zz_ck zt_E 107 6000 zk_107 zu_107 [] = true := by decide +kernel
def zu_112 : zz_T := [(4, (([(.negSucc 2147483647, (.ofNat 2147483647, (none, none))), (.negSucc 0, (.ofNat 999, (none, none))), (.ofNat 0, (.ofNat 6, (none, none)))], (0, ([], ([], ([(0, .inr (.inr (.inl 156))), (1, .inr (.inl (0, .ofNat 0))), (2, .inr (.inl (1, .ofNat 0))), (3, .inr (.inl (2, .ofNat 0)))], []))))), [(true, .inl (.ofNat 1)), (true, .inr (.inl (2, .ofNat 0)))]))]
set_option maxRecDepth 1000000 in
set_option maxHeartbeats 40000000 in
theorem zc_112 : zz_ck zt_E 112 6000 zk_112 zu_112 [] = true := by decide +kernel
def zu_120 : zz_T := [(4, (([(.negSucc 2147483647, (.ofNat 2147483647, (none, none))), (.ofNat 0, (.ofNat 6, (none, none)))], (0, ([], ([], ([(0, .inr (.inr (.inl 156))), (1, .inr (.inl (0, .ofNat 0))), (2, .inr (.inl (1, .ofNat 0)))], []))))), [(true, .inl (.ofNat 1)), (true, .inr (.inl (1, .ofNat 0)))]))]
set_option maxRecDepth 1000000 in
set_option maxHeartbeats 40000000 in
theorem zc_120 : zz_ck zt_E 120 6000 zk_120 zu_120 [] = true := by decide +kernel
def zu_127 : zz_T := [(8, (([(.negSucc 2147483647, (.ofNat 2147483647, (none, none))), (.negSucc 2147483647, (.ofNat 2147483647, (none, none))), (.negSucc 2147483647, (.ofNat 2147483647, (none, none))), (.negSucc 2147483647, (.ofNat 2147483647, (none, none))), (.negSucc 2147483647, (.ofNat 2147483647, (none, none))), (.ofNat 0, (.ofNat 64, (none, none)))], (0, ([], ([], ([(0, .inr (.inl (0, .ofNat 0))), (1, .inr (.inl (1, .ofNat 0))), (2, .inr (.inl (2, .ofNat 0))), (3, .inr (.inl (3, .ofNat 0))), (4, .inr (.inl (4, .ofNat 0))), (5, .inr (.inl (5, .ofNat 0)))], []))))), [(true, .inl (.ofNat 1)), (true, .inr (.inl (5, .ofNat 0)))]))]
set_option maxRecDepth 1000000 in
set_option maxHeartbeats 40000000 in
theorem zc_127 : zz_ck zt_E 127 6000 zk_127 zu_127 [] = true := by decide +kernel
def zu_133 : zz_T := [(6, (([(.negSucc 0, (.ofNat 63, (none, none))), (.negSucc 0, (.ofNat 2147483647, (none, none))), (.ofNat 0, (.ofNat 64, (none, none)))], (0, ([], ([], ([(0, .inr (.inr (.inl 156))), (1, .inr (.inl (0, .ofNat 0))), (2, .inr (.inl (1, .ofNat 0))), (3, .inr (.inl (2, .ofNat 0)))], []))))), [(true, .inl (.ofNat 1)), (true, .inr (.inl (2, .ofNat 0)))]))]
set_option maxRecDepth 1000000 in
set_option maxHeartbeats 40000000 in
theorem zc_133 : zz_ck zt_E 133 6000 zk_133 zu_133 [] = true := by decide +kernel
def zu_142 : zz_T := [(26, (([(.ofNat 1, (.ofNat 64, (none, none))), (.ofNat 0, (.ofNat 30, (none, none))), (.negSucc 2147483647, (.ofNat 2147483647, (none, none)))], (1, ([(137, (.inl (.ofNat 4), .inr (.inl (2, .ofNat 0)))), (138, (.inl (.ofNat 4), .inr (.inl (2, .ofNat 0)))), (137, (.inl (.ofNat 1), .inr (.inr (.inr (.inr 0))))), (138, (.inl (.ofNat 1), .inr (.inr (.inr (.inr 0)))))], ([], ([(0, .inr (.inr (.inl 156))), (1, .inr (.inl (0, .ofNat 0))), (2, .inr (.inl (1, .ofNat 0)))], []))))), [(true, .inl (.ofNat 1)), (true, .inr (.inl (1, .ofNat 0)))]))]
set_option maxRecDepth 1000000 in
set_option maxHeartbeats 40000000 in
theorem zc_142 : zz_ck zt_E 142 6000 zk_142 zu_142 [] = true := by decide +kernel
def zu_151 : zz_T := [(10, (([(.ofNat 0, (.ofNat 54, (none, none)))], (0, ([(50, (.inl (.ofNat 8), .inl (.ofNat 0)))], ([], ([(0, .inr (.inr (.inl 50))), (1, .inr (.inr (.inl 143))), (2, .inr (.inl (0, .ofNat 0)))], []))))), [(true, .inl (.ofNat 1)), (true, .inr (.inl (0, .ofNat 0)))])), (37, (([(.ofNat 0, (.ofNat 64, (none, none)))], (1, ([(50, (.inl (.ofNat 8), .inl (.ofNat 0)))], ([], ([(0, .inr (.inr (.inl 50))), (1, .inr (.inr (.inl 143))), (2, .inr (.inr (.inr (.inr 0)))), (4, .inr (.inl (0, .ofNat 0)))], []))))), [(true, .inl (.ofNat 2)), (true, .inr (.inl (0, .ofNat 0)))]))]
set_option maxRecDepth 1000000 in
set_option maxHeartbeats 40000000 in
theorem zc_151 : zz_ck zt_E 151 6000 zk_151 zu_151 [] = true := by decide +kernel
def zu_156 : zz_T := []
set_option maxRecDepth 1000000 in
set_option maxHeartbeats 40000000 in
theorem zc_156 : zz_ck zt_E 156 6000 zk_156 zu_156 [] = true := by decide +kernel
def zu_161 : zz_T := []
set_option maxRecDepth 1000000 in
set_option maxHeartbeats 40000000 in
theorem zc_161 : zz_ck zt_E 161 6000 zk_161 zu_161 [] = true := by decide +kernel
def zu_167 : zz_T := [(4, (([(.negSucc 2147483647, (.ofNat 2147483647, (none, none))), (.ofNat 0, (.ofNat 64, (none, none)))], (0, ([], ([], ([(0, .inr (.inr (.inl 38))), (1, .inr (.inl (0, .ofNat 0))), (2, .inr (.inl (1, .ofNat 0)))], []))))), [(true, .inl (.ofNat 1)), (true, .inr (.inl (1, .ofNat 0)))]))]
set_option maxRecDepth 1000000 in
set_option maxHeartbeats 40000000 in
theorem zc_167 : zz_ck zt_E 167 6000 zk_167 zu_167 [] = true := by decide +kernel
def zu_171 : zz_T := [(4, (([(.ofNat 0, (.ofNat 63, (none, none))), (.ofNat 0, (.ofNat 63, (none, none))), (.ofNat 0, (.ofNat 6, (none, none)))], (0, ([], ([], ([(0, .inr (.inr (.inl 38))), (1, .inr (.inl (0, .ofNat 0))), (2, .inr (.inl (1, .ofNat 0))), (3, .inr (.inl (2, .ofNat 0)))], []))))), [(true, .inl (.ofNat 1)), (true, .inr (.inl (2, .ofNat 0)))]))]
set_option maxRecDepth 1000000 in
set_option maxHeartbeats 40000000 in
theorem zc_171 : zz_ck zt_E 171 6000 zk_171 zu_171 [] = true := by decide +kernel
def zu_176 : zz_T := []
set_option maxRecDepth 1000000 in
set_option maxHeartbeats 40000000 in
theorem zc_176 : zz_ck zt_E 176 6000 zk_176 zu_176 [] = true := by decide +kernel
def zu_178 : zz_T := []
set_option maxRecDepth 1000000 in
set_option maxHeartbeats 40000000 in
theorem zc_178 : zz_ck zt_E 178 6000 zk_178 zu_178 [] = true := by decide +kernel
def zu_181 : zz_T := []
set_option maxRecDepth 1000000 in
set_option maxHeartbeats 40000000 in
theorem zc_181 : zz_ck zt_E 181 6000 zk_181 zu_181 [] = true := by decide +kernel
def zu_185 : zz_T := [(28, (([(.ofNat 0, (.ofNat 5, (none, none))), (.ofNat 0, (.ofNat 9, (none, none)))], (0, ([], ([], ([(0, .inr (.inr (.inl 38))), (2, .inr (.inl (1, .ofNat 0)))], []))))), [(true, .inl (.ofNat 1)), (true, .inr (.inl (1, .ofNat 0)))]))]
set_option maxRecDepth 1000000 in
set_option maxHeartbeats 40000000 in
theorem zc_185 : zz_ck zt_E 185 6000 zk_185 zu_185 [] = true := by decide +kernel
def zu_193 : zz_T := [(30, (([(.ofNat 1, (.ofNat 30, (none, none))), (.ofNat 0, (.ofNat 1, (none, none))), (.ofNat 0, (.ofNat 63, (none, none))), (.ofNat 0, (.ofNat 30, (none, none)))], (0, ([], ([], ([(0, .inr (.inr (.inl 38))), (1, .inr (.inl (0, .ofNat 0))), (2, .inr (.inl (1, .ofNat 0))), (3, .inr (.inl (2, .ofNat 0))), (4, .inr (.inl (3, .ofNat 0)))], []))))), [(true, .inl (.ofNat 1)), (true, .inr (.inl (3, .ofNat 0)))]))]
set_option maxRecDepth 1000000 in
set_option maxHeartbeats 40000000 in
theorem zc_193 : zz_ck zt_E 193 6000 zk_193 zu_193 [] = true := by decide +kernel
def zu_198 : zz_T := [(21, (([(.ofNat 0, (.ofNat 2, (none, none))), (.negSucc 0, (.ofNat 39, (none, none))), (.ofNat 0, (.ofNat 1000, (none, none))), (.ofNat 0, (.ofNat 39, (none, none)))], (0, ([], ([], ([(0, .inr (.inr (.inl 38))), (1, .inr (.inl (0, .ofNat 0))), (2, .inr (.inl (1, .ofNat 0))), (3, .inr (.inl (2, .ofNat 0))), (4, .inr (.inl (3, .ofNat 0)))], []))))), [(true, .inl (.ofNat 1)), (true, .inr (.inl (3, .ofNat 0)))]))]
set_option maxRecDepth 1000000 in
set_option maxHeartbeats 40000000 in
theorem zc_198 : zz_ck zt_E 198 6000 zk_198 zu_198 [] = true := by decide +kernel
def zu_208 : zz_T := [(2, (([(.negSucc 2147483647, (.ofNat 2147483647, (none, none))), (.ofNat 0, (.ofNat 64, (none, none)))], (0, ([], ([], ([(0, .inr (.inr (.inl 38))), (1, .inr (.inl (0, .ofNat 0))), (2, .inr (.inl (1, .ofNat 0)))], []))))), [(true, .inl (.ofNat 1)), (true, .inr (.inl (1, .ofNat 0)))]))]
set_option maxRecDepth 1000000 in
set_option maxHeartbeats 40000000 in
theorem zc_208 : zz_ck zt_E 208 6000 zk_208 zu_208 [] = true := by decide +kernel
def zu_214 : zz_T := [(27, (([(.ofNat 0, (.ofNat 5, (none, none))), (.ofNat 0, (.ofNat 5, (none, none))), (.ofNat 0, (.ofNat 63, (none, none))), (.ofNat 0, (.ofNat 6, (none, none)))], (0, ([], ([], ([(0, .inr (.inr (.inl 38))), (1, .inr (.inl (0, .ofNat 0))), (2, .inr (.inl (1, .ofNat 0))), (3, .inr (.inl (2, .ofNat 0))), (4, .inr (.inl (3, .ofNat 0)))], []))))), [(true, .inl (.ofNat 1)), (true, .inr (.inl (3, .ofNat 0)))]))]
set_option maxRecDepth 1000000 in
set_option maxHeartbeats 40000000 in
theorem zc_214 : zz_ck zt_E 214 6000 zk_214 zu_214 [] = true := by decide +kernel
def zu_221 : zz_T := [(21, (([(.ofNat 0, (.ofNat 2, (none, none))), (.negSucc 0, (.ofNat 39, (none, none))), (.ofNat 0, (.ofNat 1000, (none, none))), (.ofNat 0, (.ofNat 39, (none, none)))], (0, ([], ([], ([(0, .inr (.inr (.inl 38))), (1, .inr (.inl (0, .ofNat 0))), (2, .inr (.inl (1, .ofNat 0))), (3, .inr (.inl (2, .ofNat 0))), (4, .inr (.inl (3, .ofNat 0)))], []))))), [(true, .inl (.ofNat 1)), (true, .inr (.inl (3, .ofNat 0)))]))]
set_option maxRecDepth 1000000 in
set_option maxHeartbeats 40000000 in
theorem zc_221 : zz_ck zt_E 221 6000 zk_221 zu_221 [] = true := by decide +kernel
def zu_236 : zz_T := [(48, (([(.ofNat 1, (.ofNat 9, (none, none))), (.ofNat 0, (.ofNat 1, (none, none))), (.negSucc 2147483647, (.ofNat 2147483647, (none, none))), (.ofNat 0, (.ofNat 5, (none, none))), (.ofNat 1, (.ofNat 6, (none, none)))], (0, ([], ([], ([(0, .inr (.inr (.inl 38))), (1, .inr (.inl (0, .ofNat 0))), (2, .inr (.inl (1, .ofNat 0))), (4, .inr (.inl (3, .ofNat 0))), (5, .inr (.inl (4, .ofNat 0)))], []))))), [(true, .inl (.ofNat 1)), (true, .inr (.inl (4, .ofNat 0)))]))]
set_option maxRecDepth 1000000 in
set_option maxHeartbeats 40000000 in
theorem zc_236 : zz_ck zt_E 236 6000 zk_236 zu_236 [] = true := by decide +kernel
