def zu_0 : zz_T := [(3, (([(.negSucc 2147483647, (.ofNat 2147483647, (none, none))), (.negSucc 127, (.ofNat 24, (none, none)))], (0, ([], ([], ([(0, .inr (.inr (.inl 155))), (1, .inr (.inl (0, .ofNat 0))), (2, .inr (.inl (1, .ofNat 0)))], []))))), [(true, .inl (.ofNat 1)), (false, .inr (.inl (1, .ofNat 0)))]))]
set_option maxRecDepth 1000000 in
set_option maxHeartbeats 40000000 in
theorem zc_0 : zz_ck zt_E 0 6000 zk_0 zu_0 [] = true := by decide +kernel
def zu_8 : zz_T := [(2, (([(.ofNat 0, (.ofNat 6, (none, none)))], (0, ([], ([], ([(0, .inr (.inr (.inl 155))), (1, .inr (.inl (0, .ofNat 0)))], []))))), [(true, .inl (.ofNat 1)), (true, .inr (.inl (0, .ofNat 0)))]))]
set_option maxRecDepth 1000000 in
set_option maxHeartbeats 40000000 in
theorem zc_8 : zz_ck zt_E 8 6000 zk_8 zu_8 [] = true := by decide +kernel
def zu_12 : zz_T := [(64, (([(.ofNat 0, (.ofNat 1600, (none, none)))], (0, ([], ([], ([(0, .inr (.inr (.inl 155))), (1, .inl (.ofNat 4)), (2, .inl (.ofNat 7)), (3, .inl (.ofNat 1600)), (4, .inr (.inl (0, .ofNat 0)))], []))))), [(true, .inl (.ofNat 1)), (true, .inr (.inl (0, .ofNat 0)))]))]
set_option maxRecDepth 1000000 in
set_option maxHeartbeats 40000000 in
theorem zc_12 : zz_ck zt_E 12 6000 zk_12 zu_12 [] = true := by decide +kernel
def zu_19 : zz_T := []
set_option maxRecDepth 1000000 in
set_option maxHeartbeats 40000000 in
theorem zc_19 : zz_ck zt_E 19 6000 zk_19 zu_19 [] = true := by decide +kernel
def zu_24 : zz_T := [(64, (([(.ofNat 0, (.ofNat 1600, (none, none)))], (0, ([], ([], ([(0, .inr (.inr (.inl 155))), (1, .inl (.ofNat 1)), (2, .inl (.ofNat 6)), (3, .inl (.ofNat 1600)), (4, .inr (.inl (0, .ofNat 0)))], []))))), [(true, .inl (.ofNat 1)), (true, .inr (.inl (0, .ofNat 0)))]))]
set_option maxRecDepth 1000000 in
set_option maxHeartbeats 40000000 in
theorem zc_24 : zz_ck zt_E 24 6000 zk_24 zu_24 [] = true := by decide +kernel
def zu_30 : zz_T := [(64, (([(.ofNat 0, (.ofNat 1, (none, none)))], (0, ([], ([], ([(0, .inr (.inr (.inl 155))), (1, .inl (.ofNat 2)), (2, .inl (.ofNat 5)), (3, .inl (.ofNat 1)), (4, .inr (.inl (0, .ofNat 0)))], []))))), [(true, .inl (.ofNat 1)), (true, .inr (.inl (0, .ofNat 0)))]))]
set_option maxRecDepth 1000000 in
set_option maxHeartbeats 40000000 in
theorem zc_30 : zz_ck zt_E 30 6000 zk_30 zu_30 [] = true := by decide +kernel
def zu_37 : zz_T := [(64, (([(.ofNat 0, (.ofNat 1600, (none, none)))], (0, ([], ([], ([(0, .inr (.inr (.inl 155))), (1, .inl (.ofNat 3)), (2, .inl (.ofNat 4)), (3, .inl (.ofNat 1600)), (4, .inr (.inl (0, .ofNat 0)))], []))))), [(true, .inl (.ofNat 1)), (true, .inr (.inl (0, .ofNat 0)))]))]
set_option maxRecDepth 1000000 in
set_option maxHeartbeats 40000000 in
theorem zc_37 : zz_ck zt_E 37 6000 zk_37 zu_37 [] = true := by decide +kernel
def zu_44 : zz_T := [(64, (([(.ofNat 0, (.ofNat 1600, (none, none)))], (0, ([], ([], ([(0, .inr (.inr (.inl 155))), (1, .inl (.ofNat 4)), (2, .inl (.ofNat 3)), (3, .inl (.ofNat 1600)), (4, .inr (.inl (0, .ofNat 0)))], []))))), [(true, .inl (.ofNat 1)), (true, .inr (.inl (0, .ofNat 0)))]))]
set_option maxRecDepth 1000000 in
set_option maxHeartbeats 40000000 in
theorem zc_44 : zz_ck zt_E 44 6000 zk_44 zu_44 [] = true := by decide +kernel
def zu_51 : zz_T := []
set_option maxRecDepth 1000000 in
set_option maxHeartbeats 40000000 in
theorem zc_51 : zz_ck zt_E 51 6000 zk_51 zu_51 [] = true := by decide +kernel
def zu_56 : zz_T := [(64, (([(.ofNat 0, (.ofNat 1600, (none, none)))], (0, ([], ([], ([(0, .inr (.inr (.inl 155))), (1, .inl (.ofNat 1)), (2, .inl (.ofNat 2)), (3, .inl (.ofNat 1600)), (4, .inr (.inl (0, .ofNat 0)))], []))))), [(true, .inl (.ofNat 1)), (true, .inr (.inl (0, .ofNat 0)))]))]
set_option maxRecDepth 1000000 in
set_option maxHeartbeats 40000000 in
theorem zc_56 : zz_ck zt_E 56 6000 zk_56 zu_56 [] = true := by decide +kernel
def zu_62 : zz_T := [(64, (([(.ofNat 0, (.ofNat 1, (none, none)))], (0, ([], ([], ([(0, .inr (.inr (.inl 155))), (1, .inl (.ofNat 2)), (2, .inl (.ofNat 1)), (3, .inl (.ofNat 1)), (4, .inr (.inl (0, .ofNat 0)))], []))))), [(true, .inl (.ofNat 1)), (true, .inr (.inl (0, .ofNat 0)))]))]
set_option maxRecDepth 1000000 in
set_option maxHeartbeats 40000000 in
theorem zc_62 : zz_ck zt_E 62 6000 zk_62 zu_62 [] = true := by decide +kernel
def zu_69 : zz_T := [(64, (([(.ofNat 0, (.ofNat 1600, (none, none)))], (0, ([], ([], ([(0, .inr (.inr (.inl 155))), (1, .inl (.ofNat 3)), (2, .inl (.ofNat 0)), (3, .inl (.ofNat 1600)), (4, .inr (.inl (0, .ofNat 0)))], []))))), [(true, .inl (.ofNat 1)), (true, .inr (.inl (0, .ofNat 0)))]))]
set_option maxRecDepth 1000000 in
set_option maxHeartbeats 40000000 in
theorem zc_69 : zz_ck zt_E 69 6000 zk_69 zu_69 [] = true := by decide +kernel
def zu_75 : zz_T := [(41, (([(.ofNat 0, (.ofNat 1600, (none, none))), (.ofNat 0, (.ofNat 7, (none, none))), (.negSucc 2147483647, (.ofNat 999, (none, none))), (.negSucc 2147483647, (.ofNat 100, (none, none))), (.ofNat 0, (.ofNat 9, (none, none)))], (0, ([(155, (.inl (.ofNat 10), .inr (.inl (1, .ofNat 0)))), (150, (.inl (.ofNat 4), .inr (.inl (2, .ofNat 0)))), (153, (.inl (.ofNat 6), .inr (.inl (3, .ofNat 0)))), (153, (.inl (.ofNat 4), .inr (.inl (4, .ofNat 0))))], ([], ([(0, .inr (.inr (.inl 155))), (1, .inr (.inl (0, .ofNat 0)))], []))))), [(true, .inl (.ofNat 1)), (true, .inr (.inl (0, .ofNat 0)))])), (94, (([(.ofNat 0, (.ofNat 64, (none, none))), (.ofNat 1, (.ofNat 300, (none, none))), (.ofNat 0, (.ofNat 7, (none, none))), (.negSucc 2147483647, (.ofNat 999, (none, none))), (.negSucc 2147483647, (.ofNat 100, (none, none))), (.ofNat 0, (.ofNat 9, (none, none)))], (0, ([(148, (.inl (.ofNat 2), .inr (.inl (1, .ofNat 0)))), (155, (.inl (.ofNat 10), .inr (.inl (2, .ofNat 0)))), (150, (.inl (.ofNat 4), .inr (.inl (3, .ofNat 0)))), (153, (.inl (.ofNat 6), .inr (.inl (4, .ofNat 0)))), (153, (.inl (.ofNat 4), .inr (.inl (5, .ofNat 0))))], ([], ([(0, .inr (.inr (.inl 155))), (1, .inr (.inl (0, .ofNat 0)))], []))))), [(true, .inl (.ofNat 2)), (true, .inr (.inl (0, .ofNat 0)))]))]
set_option maxRecDepth 1000000 in
set_option maxHeartbeats 40000000 in
theorem zc_75 : zz_ck zt_E 75 6000 zk_75 zu_75 [] = true := by decide +kernel
def zu_87 : zz_T := []
set_option maxRecDepth 1000000 in
set_option maxHeartbeats 40000000 in
theorem zc_87 : zz_ck zt_E 87 6000 zk_87 zu_87 [] = true := by decide +kernel
def zu_90 : zz_T := []
set_option maxRecDepth 1000000 in
set_option maxHeartbeats 40000000 in
theorem zc_90 : zz_ck zt_E 90 6000 zk_90 zu_90 [] = true := by decide +kernel
def zu_100 : zz_T := [(41, (([(.ofNat 0, (.ofNat 5, (none, none))), (.ofNat 0, (.ofNat 9, (none, none))), (.ofNat 1, (.ofNat 6, (none, none)))], (1, ([(143, (.inl (.ofNat 0), .inr (.inl (2, .ofNat 0))))], ([], ([(0, .inr (.inr (.inl 156))), (2, .inr (.inr (.inr (.inr 0)))), (4, .inr (.inl (1, .ofNat 0)))], []))))), [(true, .inl (.ofNat 1)), (true, .inr (.inl (1, .ofNat 0)))]))]
set_option maxRecDepth 1000000 in
set_option maxHeartbeats 40000000 in
theorem zc_100 : zz_ck zt_E 100 6000 zk_100 zu_100 [] = true := by decide +kernel
def zu_108 : zz_T := [(25, (([(.ofNat 0, (.ofNat 30, (none, none))), (.ofNat 0, (.ofNat 30, (none, none))), (.negSucc 2147483647, (.ofNat 2147483647, (none, none)))], (1, ([(137, (.inl (.ofNat 4), .inr (.inl (2, .ofNat 0)))), (138, (.inl (.ofNat 4), .inr (.inl (2, .ofNat 0)))), (137, (.inl (.ofNat 1), .inr (.inr (.inr (.inr 0))))), (138, (.inl (.ofNat 1), .inr (.inr (.inr (.inr 0)))))], ([], ([(0, .inr (.inr (.inl 156))), (1, .inr (.inl (0, .ofNat 0))), (2, .inr (.inl (1, .ofNat 0)))], []))))), [(true, .inl (.ofNat 1)), (true, .inr (.inl (1, .ofNat 0)))]))]
set_option maxRecDepth 1000000 in
set_option maxHeartbeats 40000000 in
theorem zc_108 : zz_ck zt_E 108 6000 zk_108 zu_108 [] = true := by decide +kernel
def zu_113 : zz_T := [(4, (([(.negSucc 2147483647, (.ofNat 2147483647, (none, none))), (.negSucc 2147483647, (.ofNat 2147483647, (none, none))), (.ofNat 0, (.ofNat 6, (none, none)))], (0, ([], ([], ([(0, .inr (.inr (.inl 156))), (1, .inr (.inl (0, .ofNat 0))), (2, .inr (.inl (1, .ofNat 0))), (3, .inr (.inl (2, .ofNat 0)))], []))))), [(true, .inl (.ofNat 1)), (true, .inr (.inl (2, .ofNat 0))), (true, .inl (.ofNat 0)), (true, .inl (.ofNat 0))])), (18, (([(.negSucc 2147483647, (.ofNat 2147483647, (none, none))), (.negSucc 2147483647, (.ofNat 2147483647, (none, none))), (.ofNat 0, (.ofNat 5, (none, none))), (.ofNat 0, (.ofNat 6, (none, none))), (.ofNat 1, (.ofNat 6, (none, none)))], (0, ([(143, (.inl (.ofNat 0), .inr (.inl (4, .ofNat 0))))], ([], ([(0, .inr (.inr (.inl 156))), (1, .inr (.inl (0, .ofNat 0))), (2, .inr (.inl (1, .ofNat 0))), (3, .inr (.inl (2, .ofNat 0))), (4, .inr (.inl (3, .ofNat 0)))], []))))), [(true, .inl (.ofNat 1)), (true, .inr (.inl (2, .ofNat 0))), (true, .inl (.ofNat 1)), (true, .inr (.inl (3, .ofNat 0)))]))]
set_option maxRecDepth 1000000 in
set_option maxHeartbeats 40000000 in
theorem zc_113 : zz_ck zt_E 113 6000 zk_113 zu_113 [] = true := by decide +kernel
def zu_121 : zz_T := [(4, (([(.negSucc 2147483647, (.ofNat 2147483647, (none, none))), (.ofNat 0, (.ofNat 63, (none, none))), (.ofNat 0, (.ofNat 6, (none, none)))], (0, ([], ([], ([(0, .inr (.inr (.inl 156))), (1, .inr (.inl (0, .ofNat 0))), (2, .inr (.inl (1, .ofNat 0))), (3, .inr (.inl (2, .ofNat 0)))], []))))), [(true, .inl (.ofNat 1)), (true, .inr (.inl (2, .ofNat 0)))]))]
set_option maxRecDepth 1000000 in
set_option maxHeartbeats 40000000 in
theorem zc_121 : zz_ck zt_E 121 6000 zk_121 zu_121 [] = true := by decide +kernel
def zu_128 : zz_T := []
set_option maxRecDepth 1000000 in
set_option maxHeartbeats 40000000 in
theorem zc_128 : zz_ck zt_E 128 6000 zk_128 zu_128 [] = true := by decide +kernel
def zu_132 : zz_T := []
set_option maxRecDepth 1000000 in
set_option maxHeartbeats 40000000 in
theorem zc_132 : zz_ck zt_E 132 6000 zk_132 zu_132 [] = true := by decide +kernel
def zu_135 : zz_T := [(10, (([(.ofNat 0, (.ofNat 6, (none, none)))], (1, ([], ([], ([(0, .inr (.inr (.inl 156))), (1, .inr (.inr (.inr (.inr 0)))), (3, .inr (.inl (0, .ofNat 0)))], []))))), [(true, .inl (.ofNat 1)), (true, .inr (.inl (0, .ofNat 0)))]))]
set_option maxRecDepth 1000000 in
set_option maxHeartbeats 40000000 in
theorem zc_135 : zz_ck zt_E 135 6000 zk_135 zu_135 [] = true := by decide +kernel
def zu_140 : zz_T := [(4, (([(.negSucc 2147483647, (.ofNat 2147483647, (none, none))), (.negSucc 2147483647, (.ofNat 2147483647, (none, none))), (.ofNat 0, (.ofNat 6, (none, none)))], (0, ([], ([], ([(0, .inr (.inr (.inl 156))), (1, .inr (.inl (0, .ofNat 0))), (2, .inr (.inl (1, .ofNat 0))), (3, .inr (.inl (2, .ofNat 0)))], []))))), [(true, .inl (.ofNat 1)), (true, .inr (.inl (2, .ofNat 0))), (true, .inl (.ofNat 0)), (true, .inl (.ofNat 0))])), (20, (([(.negSucc 2147483647, (.ofNat 2147483647, (none, none))), (.negSucc 2147483647, (.ofNat 2147483647, (none, none))), (.ofNat 0, (.ofNat 5, (none, none))), (.ofNat 1, (.ofNat 6, (none, none))), (.ofNat 1, (.ofNat 6, (none, none)))], (0, ([(143, (.inl (.ofNat 0), .inr (.inl (4, .ofNat 0))))], ([], ([(0, .inr (.inr (.inl 156))), (1, .inr (.inl (0, .ofNat 0))), (2, .inr (.inl (1, .ofNat 0))), (3, .inr (.inl (2, .ofNat 0))), (4, .inr (.inl (3, .ofNat 0)))], []))))), [(true, .inl (.ofNat 1)), (true, .inr (.inl (2, .ofNat 0))), (true, .inl (.ofNat 1)), (true, .inr (.inl (3, .ofNat 0)))]))]
set_option maxRecDepth 1000000 in
set_option maxHeartbeats 40000000 in
theorem zc_140 : zz_ck zt_E 140 6000 zk_140 zu_140 [] = true := by decide +kernel
def zu_153 : zz_T := []
set_option maxRecDepth 1000000 in
set_option maxHeartbeats 40000000 in
theorem zc_153 : zz_ck zt_E 153 6000 zk_153 zu_153 [] = true := by decide +kernel
def zu_154 : zz_T := []
set_option maxRecDepth 1000000 in
set_option maxHeartbeats 40000000 in
theorem zc_154 : zz_ck zt_E 154 6000 zk_154 zu_154 [] = true := by decide +kernel
def zu_158 : zz_T := []
set_option maxRecDepth 1000000 in
set_option maxHeartbeats 40000000 in
theorem zc_158 : zz_ck zt_E 158 6000 zk_158 zu_158 [] = true := by decide +kernel
def zu_172 : zz_T := [(15, (([(.ofNat 0, (.ofNat 63, (none, none))), (.ofNat 0, (.ofNat 64, (none, none)))], (0, ([], ([], ([(0, .inr (.inr (.inl 38))), (1, .inr (.inl (0, .ofNat 0))), (2, .inr (.inl (1, .ofNat 0)))], []))))), [(true, .inl (.ofNat 1)), (true, .inr (.inl (1, .ofNat 0)))]))]
set_option maxRecDepth 1000000 in
set_option maxHeartbeats 40000000 in
theorem zc_172 : zz_ck zt_E 172 6000 zk_172 zu_172 [] = true := by decide +kernel
def zu_180 : zz_T := [(2, (([(.ofNat 0, (.ofNat 73, (none, none)))], (0, ([], ([], ([(0, .inr (.inr (.inl 38))), (1, .inr (.inl (0, .ofNat 0)))], []))))), [(true, .inl (.ofNat 1)), (true, .inr (.inl (0, .ofNat 0)))]))]
set_option maxRecDepth 1000000 in
set_option maxHeartbeats 40000000 in
theorem zc_180 : zz_ck zt_E 180 6000 zk_180 zu_180 [] = true := by decide +kernel
def zu_189 : zz_T := [(2, (([(.negSucc 2147483647, (.ofNat 2147483647, (none, none))), (.ofNat 0, (.ofNat 1, (none, none))), (.ofNat 0, (.ofNat 31, (none, none)))], (0, ([], ([], ([(0, .inr (.inr (.inl 38))), (1, .inr (.inl (0, .ofNat 0))), (2, .inr (.inl (1, .ofNat 0))), (3, .inr (.inl (2, .ofNat 0)))], []))))), [(true, .inl (.ofNat 1)), (true, .inr (.inl (2, .ofNat 0)))]))]
set_option maxRecDepth 1000000 in
set_option maxHeartbeats 40000000 in
theorem zc_189 : zz_ck zt_E 189 6000 zk_189 zu_189 [] = true := by decide +kernel
def zu_195 : zz_T := [(2, (([(.negSucc 2147483647, (.ofNat 2147483647, (none, none))), (.negSucc 2147483647, (.ofNat 2147483647, (none, none))), (.ofNat 0, (.ofNat 64, (none, none)))], (0, ([], ([], ([(0, .inr (.inr (.inl 38))), (1, .inr (.inl (0, .ofNat 0))), (2, .inr (.inl (1, .ofNat 0))), (3, .inr (.inl (2, .ofNat 0)))], []))))), [(true, .inl (.ofNat 1)), (true, .inr (.inl (2, .ofNat 0)))]))]
set_option maxRecDepth 1000000 in
set_option maxHeartbeats 40000000 in
theorem zc_195 : zz_ck zt_E 195 6000 zk_195 zu_195 [] = true := by decide +kernel
def zu_200 : zz_T := [(20, (([(.ofNat 0, (.ofNat 1, (none, none))), (.negSucc 0, (.ofNat 5, (none, none))), (.ofNat 0, (.ofNat 1000, (none, none))), (.ofNat 0, (.ofNat 6, (none, none)))], (0, ([], ([], ([(0, .inr (.inr (.inl 38))), (1, .inr (.inl (0, .ofNat 0))), (2, .inr (.inl (1, .ofNat 0))), (3, .inr (.inl (2, .ofNat 0))), (4, .inr (.inl (3, .ofNat 0)))], []))))), [(true, .inl (.ofNat 1)), (true, .inr (.inl (3, .ofNat 0)))]))]
set_option maxRecDepth 1000000 in
set_option maxHeartbeats 40000000 in
theorem zc_200 : zz_ck zt_E 200 6000 zk_200 zu_200 [] = true := by decide +kernel
def zu_205 : zz_T := [(4, (([(.negSucc 2147483647, (.ofNat 2147483647, (none, none))), (.ofNat 0, (.ofNat 63, (none, none))), (.ofNat 0, (.ofNat 6, (none, none)))], (0, ([], ([], ([(0, .inr (.inr (.inl 38))), (1, .inr (.inl (0, .ofNat 0))), (2, .inr (.inl (1, .ofNat 0))), (3, .inr (.inl (2, .ofNat 0)))], []))))), [(true, .inl (.ofNat 1)), (true, .inr (.inl (2, .ofNat 0)))]))]
set_option maxRecDepth 1000000 in
set_option maxHeartbeats 40000000 in
theorem zc_205 : zz_ck zt_E 205 6000 zk_205 zu_205 [] = true := by decide +kernel
def zu_210 : zz_T := []
set_option maxRecDepth 1000000 in
set_option maxHeartbeats 40000000 in
theorem zc_210 : zz_ck zt_E 210 6000 zk_210 zu_210 [] = true := by decide +kernel
def zu_215 : zz_T := []
set_option maxRecDepth 1000000 in
set_option maxHeartbeats 40000000 in
theorem zc_215 : zz_ck zt_E 215 6000 zk_215 zu_215 [] = true := by decide +kernel
def zu_217 : zz_T := [(24, (([(.ofNat 0, (.ofNat 63, (none, none))), (.ofNat 0, (.ofNat 9, (none, none)))], (0, ([(38, (.inl (.ofNat 38), .inr (.inl (0, .ofNat 0)))), (38, (.inl (.ofNat 49), .inr (.inl (1, .ofNat 0))))], ([], ([(0, .inr (.inr (.inl 38))), (1, .inr (.inl (0, .ofNat 0)))], []))))), [(true, .inl (.ofNat 1)), (true, .inr (.inl (1, .ofNat 0)))]))]
set_option maxRecDepth 1000000 in
set_option maxHeartbeats 40000000 in
theorem zc_217 : zz_ck zt_E 217 6000 zk_217 zu_217 [] = true := by decide +kernel
def zu_224 : zz_T := []
set_option maxRecDepth 1000000 in
set_option maxHeartbeats 40000000 in
theorem zc_224 : zz_ck zt_E 224 6000 zk_224 zu_224 [] = true := by decide +kernel
def zu_228 : zz_T := []
set_option maxRecDepth 1000000 in
set_option maxHeartbeats 40000000 in
theorem zc_228 : zz_ck zt_E 228 6000 zk_228 zu_228 [] = true := by decide +kernel
def zu_231 : zz_T := [(2, (([(.ofNat 0, (.ofNat 63, (none, none))), (.negSucc 2147483647, (.ofNat 2147483647, (none, none))), (.ofNat 0, (.ofNat 30, (none, none)))], (0, ([], ([], ([(0, .inr (.inr (.inl 38))), (1, .inr (.inl (0, .ofNat 0))), (2, .inr (.inl (1, .ofNat 0))), (3, .inr (.inl (2, .ofNat 0)))], []))))), [(true, .inl (.ofNat 1)), (true, .inr (.inl (2, .ofNat 0)))]))]
set_option maxRecDepth 1000000 in
set_option maxHeartbeats 40000000 in
theorem zc_231 : zz_ck zt_E 231 6000 zk_231 zu_231 [] = true := by decide +kernel
def zu_237 : zz_T := [(13, (([(.ofNat 0, (.ofNat 2, (none, none))), (.ofNat 0, (.ofNat 73, (none, none)))], (0, ([], ([], ([(0, .inr (.inr (.inl 38))), (1, .inr (.inl (0, .ofNat 0))), (2, .inr (.inl (1, .ofNat 0)))], []))))), [(true, .inl (.ofNat 1)), (true, .inr (.inl (1, .ofNat 0)))]))]
set_option maxRecDepth 1000000 in
set_option maxHeartbeats 40000000 in
theorem zc_237 : zz_ck zt_E 237 6000 zk_237 zu_237 [] = true := by decide +kernel
