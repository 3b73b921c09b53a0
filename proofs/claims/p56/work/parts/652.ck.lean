def zu_2 : zz_T := []
set_option maxRecDepth 1000000 in
set_option maxHeartbeats 40000000 in
theorem zc_2 : zz_ck zt_E 2 6000 zk_2 zu_2 [] = true := by decide +kernel
def zu_6 : zz_T := [(8, (([(.ofNat 0, (.ofNat 1600, (none, none)))], (0, ([(155, (.inl (.ofNat 6), .inr (.inl (0, .ofNat 0))))], ([], ([(0, .inr (.inr (.inl 155)))], []))))), [(true, .inl (.ofNat 1)), (true, .inr (.inl (0, .ofNat 0)))]))]
set_option maxRecDepth 1000000 in
set_option maxHeartbeats 40000000 in
theorem zc_6 : zz_ck zt_E 6 6000 zk_6 zu_6 [] = true := by decide +kernel
def zu_15 : zz_T := []
set_option maxRecDepth 1000000 in
set_option maxHeartbeats 40000000 in
theorem zc_15 : zz_ck zt_E 15 6000 zk_15 zu_15 [] = true := by decide +kernel
def zu_17 : zz_T := [(64, (([(.ofNat 0, (.ofNat 1600, (none, none)))], (0, ([], ([], ([(0, .inr (.inr (.inl 155))), (1, .inl (.ofNat 0)), (2, .inl (.ofNat 7)), (3, .inl (.ofNat 1600)), (4, .inr (.inl (0, .ofNat 0)))], []))))), [(true, .inl (.ofNat 1)), (true, .inr (.inl (0, .ofNat 0)))]))]
set_option maxRecDepth 1000000 in
set_option maxHeartbeats 40000000 in
theorem zc_17 : zz_ck zt_E 17 6000 zk_17 zu_17 [] = true := by decide +kernel
def zu_23 : zz_T := []
set_option maxRecDepth 1000000 in
set_option maxHeartbeats 40000000 in
theorem zc_23 : zz_ck zt_E 23 6000 zk_23 zu_23 [] = true := by decide +kernel
def zu_28 : zz_T := [(64, (([(.ofNat 0, (.ofNat 1600, (none, none)))], (0, ([], ([], ([(0, .inr (.inr (.inl 155))), (1, .inl (.ofNat 4)), (2, .inl (.ofNat 5)), (3, .inl (.ofNat 1600)), (4, .inr (.inl (0, .ofNat 0)))], []))))), [(true, .inl (.ofNat 1)), (true, .inr (.inl (0, .ofNat 0)))]))]
set_option maxRecDepth 1000000 in
set_option maxHeartbeats 40000000 in
theorem zc_28 : zz_ck zt_E 28 6000 zk_28 zu_28 [] = true := by decide +kernel
def zu_33 : zz_T := [(64, (([(.ofNat 0, (.ofNat 1600, (none, none)))], (0, ([], ([], ([(0, .inr (.inr (.inl 155))), (1, .inl (.ofNat 0)), (2, .inl (.ofNat 5)), (3, .inl (.ofNat 1600)), (4, .inr (.inl (0, .ofNat 0)))], []))))), [(true, .inl (.ofNat 1)), (true, .inr (.inl (0, .ofNat 0)))]))]
set_option maxRecDepth 1000000 in
set_option maxHeartbeats 40000000 in
theorem zc_33 : zz_ck zt_E 33 6000 zk_33 zu_33 [] = true := by decide +kernel
def zu_39 : zz_T := []
set_option maxRecDepth 1000000 in
set_option maxHeartbeats 40000000 in
theorem zc_39 : zz_ck zt_E 39 6000 zk_39 zu_39 [] = true := by decide +kernel
def zu_41 : zz_T := [(64, (([(.ofNat 0, (.ofNat 1600, (none, none)))], (0, ([], ([], ([(0, .inr (.inr (.inl 155))), (1, .inl (.ofNat 0)), (2, .inl (.ofNat 4)), (3, .inl (.ofNat 1600)), (4, .inr (.inl (0, .ofNat 0)))], []))))), [(true, .inl (.ofNat 1)), (true, .inr (.inl (0, .ofNat 0)))]))]
set_option maxRecDepth 1000000 in
set_option maxHeartbeats 40000000 in
theorem zc_41 : zz_ck zt_E 41 6000 zk_41 zu_41 [] = true := by decide +kernel
def zu_47 : zz_T := []
set_option maxRecDepth 1000000 in
set_option maxHeartbeats 40000000 in
theorem zc_47 : zz_ck zt_E 47 6000 zk_47 zu_47 [] = true := by decide +kernel
def zu_49 : zz_T := [(64, (([(.ofNat 0, (.ofNat 1600, (none, none)))], (0, ([], ([], ([(0, .inr (.inr (.inl 155))), (1, .inl (.ofNat 0)), (2, .inl (.ofNat 3)), (3, .inl (.ofNat 1600)), (4, .inr (.inl (0, .ofNat 0)))], []))))), [(true, .inl (.ofNat 1)), (true, .inr (.inl (0, .ofNat 0)))]))]
set_option maxRecDepth 1000000 in
set_option maxHeartbeats 40000000 in
theorem zc_49 : zz_ck zt_E 49 6000 zk_49 zu_49 [] = true := by decide +kernel
def zu_55 : zz_T := []
set_option maxRecDepth 1000000 in
set_option maxHeartbeats 40000000 in
theorem zc_55 : zz_ck zt_E 55 6000 zk_55 zu_55 [] = true := by decide +kernel
def zu_59 : zz_T := []
set_option maxRecDepth 1000000 in
set_option maxHeartbeats 40000000 in
theorem zc_59 : zz_ck zt_E 59 6000 zk_59 zu_59 [] = true := by decide +kernel
def zu_64 : zz_T := [(64, (([(.ofNat 0, (.ofNat 1600, (none, none)))], (0, ([], ([], ([(0, .inr (.inr (.inl 155))), (1, .inl (.ofNat 1)), (2, .inl (.ofNat 1)), (3, .inl (.ofNat 1600)), (4, .inr (.inl (0, .ofNat 0)))], []))))), [(true, .inl (.ofNat 1)), (true, .inr (.inl (0, .ofNat 0)))]))]
set_option maxRecDepth 1000000 in
set_option maxHeartbeats 40000000 in
theorem zc_64 : zz_ck zt_E 64 6000 zk_64 zu_64 [] = true := by decide +kernel
def zu_70 : zz_T := [(64, (([(.ofNat 0, (.ofNat 1, (none, none)))], (0, ([], ([], ([(0, .inr (.inr (.inl 155))), (1, .inl (.ofNat 2)), (2, .inl (.ofNat 0)), (3, .inl (.ofNat 1)), (4, .inr (.inl (0, .ofNat 0)))], []))))), [(true, .inl (.ofNat 1)), (true, .inr (.inl (0, .ofNat 0)))]))]
set_option maxRecDepth 1000000 in
set_option maxHeartbeats 40000000 in
theorem zc_70 : zz_ck zt_E 70 6000 zk_70 zu_70 [] = true := by decide +kernel
def zu_77 : zz_T := [(53, (([(.ofNat 0, (.ofNat 3, (none, none))), (.negSucc 2147483647, (.ofNat 2147483647, (none, none))), (.negSucc 2147483647, (.ofNat 2147483647, (none, none))), (.negSucc 2147483647, (.ofNat 2147483647, (none, none))), (.negSucc 2147483647, (.ofNat 2147483647, (none, none))), (.negSucc 2147483647, (.ofNat 2147483647, (none, none))), (.negSucc 2147483647, (.ofNat 2147483647, (none, none))), (.ofNat 0, (.ofNat 63, (none, none))), (.ofNat 0, (.ofNat 6, (none, none)))], (2, ([(156, (.inl (.ofNat 8), .inl (.ofNat 0))), (50, (.inl (.ofNat 8), .inl (.ofNat 0))), (50, (.inl (.ofNat 5), .inl (.ofNat 0))), (136, (.inl (.ofNat 4), .inl (.ofNat 0))), (136, (.inl (.ofNat 3), .inl (.ofNat 0))), (140, (.inl (.ofNat 4), .inr (.inl (1, .ofNat 0)))), (150, (.inl (.ofNat 4), .inr (.inl (1, .ofNat 0)))), (140, (.inl (.ofNat 3), .inr (.inl (2, .ofNat 0)))), (150, (.inl (.ofNat 3), .inr (.inl (2, .ofNat 0)))), (140, (.inl (.ofNat 2), .inr (.inl (3, .ofNat 0)))), (150, (.inl (.ofNat 2), .inr (.inl (3, .ofNat 0)))), (140, (.inl (.ofNat 1), .inr (.inr (.inr (.inr 0))))), (150, (.inl (.ofNat 1), .inr (.inr (.inr (.inr 0))))), (140, (.inl (.ofNat 0), .inr (.inr (.inr (.inr 1))))), (150, (.inl (.ofNat 0), .inr (.inr (.inr (.inr 1))))), (143, (.inl (.ofNat 7), .inr (.inl (4, .ofNat 0)))), (153, (.inl (.ofNat 7), .inr (.inl (4, .ofNat 0)))), (143, (.inl (.ofNat 6), .inr (.inl (5, .ofNat 0)))), (153, (.inl (.ofNat 6), .inr (.inl (5, .ofNat 0)))), (143, (.inl (.ofNat 4), .inr (.inl (6, .ofNat 0)))), (153, (.inl (.ofNat 4), .inr (.inl (6, .ofNat 0)))), (143, (.inl (.ofNat 1), .inr (.inl (7, .ofNat 0)))), (153, (.inl (.ofNat 1), .inr (.inl (7, .ofNat 0)))), (143, (.inl (.ofNat 0), .inr (.inl (8, .ofNat 0)))), (153, (.inl (.ofNat 0), .inr (.inl (8, .ofNat 0))))], ([], ([(0, .inr (.inr (.inl 156))), (1, .inr (.inl (0, .ofNat 0)))], []))))), [(true, .inl (.ofNat 1)), (true, .inr (.inl (0, .ofNat 0)))]))]
set_option maxRecDepth 1000000 in
set_option maxHeartbeats 40000000 in
theorem zc_77 : zz_ck zt_E 77 6000 zk_77 zu_77 [] = true := by decide +kernel
def zu_83 : zz_T := []
set_option maxRecDepth 1000000 in
set_option maxHeartbeats 40000000 in
theorem zc_83 : zz_ck zt_E 83 6000 zk_83 zu_83 [] = true := by decide +kernel
def zu_84 : zz_T := [(32, (([(.ofNat 0, (.ofNat 39, (none, none)))], (0, ([(136, (.inl (.ofNat 3), .inr (.inl (0, .ofNat 0))))], ([], ([(0, .inr (.inr (.inl 136))), (1, .inr (.inr (.inl 138)))], []))))), [(true, .inl (.ofNat 1)), (true, .inl (.ofNat 0))]))]
set_option maxRecDepth 1000000 in
set_option maxHeartbeats 40000000 in
theorem zc_84 : zz_ck zt_E 84 6000 zk_84 zu_84 [] = true := by decide +kernel
def zu_91 : zz_T := []
set_option maxRecDepth 1000000 in
set_option maxHeartbeats 40000000 in
theorem zc_91 : zz_ck zt_E 91 6000 zk_91 zu_91 [] = true := by decide +kernel
def zu_97 : zz_T := []
set_option maxRecDepth 1000000 in
set_option maxHeartbeats 40000000 in
theorem zc_97 : zz_ck zt_E 97 6000 zk_97 zu_97 [] = true := by decide +kernel
def zu_101 : zz_T := [(15, (([(.ofNat 0, (.ofNat 64, (none, none)))], (2, ([], ([], ([(0, .inr (.inr (.inl 156))), (1, .inr (.inr (.inr (.inr 0)))), (3, .inr (.inr (.inr (.inr 1)))), (5, .inr (.inl (0, .ofNat 0)))], []))))), [(true, .inl (.ofNat 1)), (true, .inr (.inl (0, .ofNat 0))), (true, .inl (.ofNat 0)), (true, .inl (.ofNat 0))])), (33, (([(.ofNat 0, (.ofNat 63, (none, none))), (.ofNat 0, (.ofNat 6, (none, none)))], (2, ([], ([], ([(0, .inr (.inr (.inl 156))), (1, .inr (.inr (.inr (.inr 0)))), (3, .inr (.inr (.inr (.inr 1)))), (5, .inr (.inl (0, .ofNat 0))), (6, .inr (.inl (1, .ofNat 0)))], []))))), [(true, .inl (.ofNat 1)), (true, .inr (.inl (0, .ofNat 0))), (true, .inl (.ofNat 1)), (true, .inr (.inl (1, .ofNat 0)))])), (94, (([(.ofNat 0, (.ofNat 63, (none, none))), (.ofNat 0, (.ofNat 6, (none, none)))], (1, ([], ([], ([(0, .inr (.inr (.inl 156))), (1, .inr (.inr (.inr (.inr 0)))), (5, .inr (.inl (0, .ofNat 0))), (6, .inr (.inl (1, .ofNat 0)))], []))))), [(true, .inl (.ofNat 2)), (true, .inr (.inl (1, .ofNat 0))), (true, .inl (.ofNat 0)), (true, .inl (.ofNat 0))]))]
set_option maxRecDepth 1000000 in
set_option maxHeartbeats 40000000 in
theorem zc_101 : zz_ck zt_E 101 6000 zk_101 zu_101 [] = true := by decide +kernel
def zu_114 : zz_T := [(4, (([(.negSucc 2147483647, (.ofNat 2147483647, (none, none))), (.negSucc 2147483647, (.ofNat 2147483647, (none, none))), (.ofNat 0, (.ofNat 6, (none, none)))], (0, ([], ([], ([(0, .inr (.inr (.inl 156))), (1, .inr (.inl (0, .ofNat 0))), (2, .inr (.inl (1, .ofNat 0))), (3, .inr (.inl (2, .ofNat 0)))], []))))), [(true, .inl (.ofNat 1)), (true, .inr (.inl (2, .ofNat 0)))]))]
set_option maxRecDepth 1000000 in
set_option maxHeartbeats 40000000 in
theorem zc_114 : zz_ck zt_E 114 6000 zk_114 zu_114 [] = true := by decide +kernel
def zu_123 : zz_T := [(18, (([(.ofNat 0, (.ofNat 5, (none, none))), (.ofNat 0, (.ofNat 5, (none, none))), (.ofNat 0, (.ofNat 63, (none, none))), (.ofNat 0, (.ofNat 6, (none, none))), (.ofNat 1, (.ofNat 6, (none, none)))], (0, ([(143, (.inl (.ofNat 0), .inr (.inl (4, .ofNat 0))))], ([], ([(0, .inr (.inr (.inl 156))), (2, .inr (.inl (1, .ofNat 0))), (3, .inr (.inl (2, .ofNat 0))), (4, .inr (.inl (3, .ofNat 0)))], []))))), [(true, .inl (.ofNat 1)), (true, .inr (.inl (3, .ofNat 0)))]))]
set_option maxRecDepth 1000000 in
set_option maxHeartbeats 40000000 in
theorem zc_123 : zz_ck zt_E 123 6000 zk_123 zu_123 [] = true := by decide +kernel
def zu_131 : zz_T := [(16, (([(.ofNat 0, (.ofNat 5, (none, none))), (.ofNat 0, (.ofNat 5, (none, none))), (.ofNat 0, (.ofNat 63, (none, none))), (.ofNat 0, (.ofNat 6, (none, none))), (.ofNat 1, (.ofNat 6, (none, none)))], (0, ([(143, (.inl (.ofNat 0), .inr (.inl (4, .ofNat 0))))], ([], ([(0, .inr (.inr (.inl 156))), (1, .inr (.inl (0, .ofNat 0))), (2, .inr (.inl (1, .ofNat 0))), (3, .inr (.inl (2, .ofNat 0))), (4, .inr (.inl (3, .ofNat 0)))], []))))), [(true, .inl (.ofNat 1)), (true, .inr (.inl (3, .ofNat 0)))]))]
set_option maxRecDepth 1000000 in
set_option maxHeartbeats 40000000 in
theorem zc_131 : zz_ck zt_E 131 6000 zk_131 zu_131 [] = true := by decide +kernel
def zu_138 : zz_T := [(4, (([(.ofNat 0, (.ofNat 5, (none, none))), (.negSucc 0, (.ofNat 100000, (none, none))), (.ofNat 0, (.ofNat 64, (none, none)))], (0, ([], ([], ([(0, .inr (.inr (.inl 156))), (1, .inr (.inl (0, .ofNat 0))), (2, .inr (.inl (1, .ofNat 0))), (3, .inr (.inl (2, .ofNat 0)))], []))))), [(true, .inl (.ofNat 1)), (true, .inr (.inl (2, .ofNat 0)))]))]
set_option maxRecDepth 1000000 in
set_option maxHeartbeats 40000000 in
theorem zc_138 : zz_ck zt_E 138 6000 zk_138 zu_138 [] = true := by decide +kernel
def zu_147 : zz_T := []
set_option maxRecDepth 1000000 in
set_option maxHeartbeats 40000000 in
theorem zc_147 : zz_ck zt_E 147 6000 zk_147 zu_147 [] = true := by decide +kernel
def zu_150 : zz_T := [(11, (([(.ofNat 0, (.ofNat 63, (none, none))), (.ofNat 0, (.ofNat 9, (none, none)))], (0, ([], ([], ([(0, .inr (.inr (.inl 50))), (1, .inr (.inr (.inl 143))), (2, .inr (.inl (0, .ofNat 0))), (3, .inr (.inl (1, .ofNat 0)))], []))))), [(true, .inl (.ofNat 1)), (true, .inr (.inl (1, .ofNat 0)))])), (40, (([(.ofNat 0, (.ofNat 63, (none, none))), (.ofNat 0, (.ofNat 54, (none, none)))], (0, ([], ([], ([(0, .inr (.inr (.inl 50))), (3, .inr (.inl (1, .ofNat 0)))], []))))), [(true, .inl (.ofNat 2)), (true, .inr (.inl (1, .ofNat 0)))]))]
set_option maxRecDepth 1000000 in
set_option maxHeartbeats 40000000 in
theorem zc_150 : zz_ck zt_E 150 6000 zk_150 zu_150 [] = true := by decide +kernel
def zu_159 : zz_T := [(18, (([(.negSucc 2147483647, (.ofNat 2147483647, (none, none))), (.negSucc 2147483647, (.ofNat 2147483647, (none, none))), (.negSucc 2147483647, (.ofNat 2147483647, (none, none))), (.negSucc 2147483647, (.ofNat 2147483647, (none, none))), (.negSucc 2147483647, (.ofNat 2147483647, (none, none))), (.ofNat 0, (.ofNat 20, (none, none))), (.ofNat 0, (.ofNat 1580, (none, none)))], (0, ([(38, (.inl (.ofNat 2), .inr (.inl (6, .ofNat 0))))], ([], ([(0, .inr (.inr (.inl 38))), (1, .inr (.inl (0, .ofNat 0))), (2, .inr (.inl (1, .ofNat 0))), (3, .inr (.inl (2, .ofNat 0))), (4, .inr (.inl (3, .ofNat 0))), (5, .inr (.inl (4, .ofNat 0))), (6, .inr (.inl (5, .ofNat 0)))], []))))), [(true, .inl (.ofNat 1)), (true, .inr (.inl (5, .ofNat 0)))]))]
set_option maxRecDepth 1000000 in
set_option maxHeartbeats 40000000 in
theorem zc_159 : zz_ck zt_E 159 6000 zk_159 zu_159 [] = true := by decide +kernel
def zu_173 : zz_T := []
set_option maxRecDepth 1000000 in
set_option maxHeartbeats 40000000 in
theorem zc_173 : zz_ck zt_E 173 6000 zk_173 zu_173 [] = true := by decide +kernel
def zu_175 : zz_T := [(26, (([(.ofNat 0, (.ofNat 5, (none, none))), (.ofNat 0, (.ofNat 1, (none, none))), (.ofNat 0, (.ofNat 64, (none, none)))], (0, ([], ([], ([(0, .inr (.inr (.inl 38))), (1, .inr (.inl (0, .ofNat 0))), (2, .inr (.inl (1, .ofNat 0))), (3, .inr (.inl (2, .ofNat 0)))], []))))), [(true, .inl (.ofNat 1)), (true, .inr (.inl (2, .ofNat 0)))]))]
set_option maxRecDepth 1000000 in
set_option maxHeartbeats 40000000 in
theorem zc_175 : zz_ck zt_E 175 6000 zk_175 zu_175 [] = true := by decide +kernel
def zu_183 : zz_T := [(2, (([(.negSucc 2147483647, (.ofNat 2147483647, (none, none))), (.ofNat 0, (.ofNat 64, (none, none)))], (0, ([], ([], ([(0, .inr (.inr (.inl 38))), (1, .inr (.inl (0, .ofNat 0))), (2, .inr (.inl (1, .ofNat 0)))], []))))), [(true, .inl (.ofNat 1)), (true, .inr (.inl (1, .ofNat 0)))]))]
set_option maxRecDepth 1000000 in
set_option maxHeartbeats 40000000 in
theorem zc_183 : zz_ck zt_E 183 6000 zk_183 zu_183 [] = true := by decide +kernel
def zu_188 : zz_T := [(2, (([(.ofNat 0, (.ofNat 73, (none, none)))], (0, ([], ([], ([(0, .inr (.inr (.inl 38))), (1, .inr (.inl (0, .ofNat 0)))], []))))), [(true, .inl (.ofNat 1)), (true, .inr (.inl (0, .ofNat 0)))]))]
set_option maxRecDepth 1000000 in
set_option maxHeartbeats 40000000 in
theorem zc_188 : zz_ck zt_E 188 6000 zk_188 zu_188 [] = true := by decide +kernel
def zu_190 : zz_T := [(2, (([(.ofNat 0, (.ofNat 73, (none, none)))], (0, ([], ([], ([(0, .inr (.inr (.inl 38))), (1, .inr (.inl (0, .ofNat 0)))], []))))), [(true, .inl (.ofNat 1)), (true, .inr (.inl (0, .ofNat 0)))]))]
set_option maxRecDepth 1000000 in
set_option maxHeartbeats 40000000 in
theorem zc_190 : zz_ck zt_E 190 6000 zk_190 zu_190 [] = true := by decide +kernel
def zu_197 : zz_T := [(20, (([(.ofNat 0, (.ofNat 1, (none, none))), (.negSucc 0, (.ofNat 5, (none, none))), (.negSucc 2147483647, (.ofNat 1000, (none, none))), (.ofNat 0, (.ofNat 6, (none, none)))], (0, ([], ([], ([(0, .inr (.inr (.inl 38))), (1, .inr (.inl (0, .ofNat 0))), (2, .inr (.inl (1, .ofNat 0))), (3, .inr (.inl (2, .ofNat 0))), (4, .inr (.inl (3, .ofNat 0)))], []))))), [(true, .inl (.ofNat 1)), (true, .inr (.inl (3, .ofNat 0)))]))]
set_option maxRecDepth 1000000 in
set_option maxHeartbeats 40000000 in
theorem zc_197 : zz_ck zt_E 197 6000 zk_197 zu_197 [] = true := by decide +kernel
def zu_202 : zz_T := [(8, (([(.ofNat 0, (.ofNat 63, (none, none))), (.ofNat 0, (.ofNat 6, (none, none)))], (0, ([], ([], ([(0, .inr (.inr (.inl 38))), (1, .inr (.inl (0, .ofNat 0))), (2, .inr (.inl (1, .ofNat 0)))], []))))), [(true, .inl (.ofNat 1)), (true, .inr (.inl (1, .ofNat 0))), (true, .inl (.ofNat 0)), (true, .inl (.ofNat 0))])), (21, (([(.ofNat 0, (.ofNat 63, (none, none))), (.ofNat 0, (.ofNat 5, (none, none))), (.ofNat 0, (.ofNat 1, (none, none))), (.ofNat 0, (.ofNat 6, (none, none)))], (0, ([], ([], ([(0, .inr (.inr (.inl 38))), (1, .inr (.inl (0, .ofNat 0))), (2, .inr (.inl (1, .ofNat 0))), (3, .inr (.inl (2, .ofNat 0))), (4, .inr (.inl (3, .ofNat 0)))], []))))), [(true, .inl (.ofNat 1)), (true, .inr (.inl (1, .ofNat 0))), (true, .inl (.ofNat 1)), (true, .inr (.inl (3, .ofNat 0)))]))]
set_option maxRecDepth 1000000 in
set_option maxHeartbeats 40000000 in
theorem zc_202 : zz_ck zt_E 202 6000 zk_202 zu_202 [] = true := by decide +kernel
def zu_209 : zz_T := [(14, (([(.ofNat 0, (.ofNat 5, (none, none))), (.negSucc 2147483647, (.ofNat 2147483647, (none, none))), (.ofNat 0, (.ofNat 64, (none, none)))], (0, ([], ([], ([(0, .inr (.inr (.inl 38))), (1, .inr (.inl (0, .ofNat 0))), (2, .inr (.inl (1, .ofNat 0))), (3, .inr (.inl (2, .ofNat 0)))], []))))), [(true, .inl (.ofNat 1)), (true, .inr (.inl (2, .ofNat 0)))]))]
set_option maxRecDepth 1000000 in
set_option maxHeartbeats 40000000 in
theorem zc_209 : zz_ck zt_E 209 6000 zk_209 zu_209 [] = true := by decide +kernel
def zu_216 : zz_T := [(6, (([(.negSucc 0, (.ofNat 63, (none, none))), (.negSucc 0, (.ofNat 1000, (none, none))), (.ofNat 0, (.ofNat 64, (none, none)))], (0, ([], ([], ([(0, .inr (.inr (.inl 38))), (1, .inr (.inl (0, .ofNat 0))), (2, .inr (.inl (1, .ofNat 0))), (3, .inr (.inl (2, .ofNat 0)))], []))))), [(true, .inl (.ofNat 1)), (true, .inr (.inl (2, .ofNat 0)))]))]
set_option maxRecDepth 1000000 in
set_option maxHeartbeats 40000000 in
theorem zc_216 : zz_ck zt_E 216 6000 zk_216 zu_216 [] = true := by decide +kernel
def zu_222 : zz_T := [(8, (([(.ofNat 0, (.ofNat 63, (none, none))), (.ofNat 0, (.ofNat 6, (none, none)))], (0, ([], ([], ([(0, .inr (.inr (.inl 38))), (1, .inr (.inl (0, .ofNat 0))), (2, .inr (.inl (1, .ofNat 0)))], []))))), [(true, .inl (.ofNat 1)), (true, .inr (.inl (1, .ofNat 0)))]))]
set_option maxRecDepth 1000000 in
set_option maxHeartbeats 40000000 in
theorem zc_222 : zz_ck zt_E 222 6000 zk_222 zu_222 [] = true := by decide +kernel
def zu_227 : zz_T := []
set_option maxRecDepth 1000000 in
set_option maxHeartbeats 40000000 in
theorem zc_227 : zz_ck zt_E 227 6000 zk_227 zu_227 [] = true := by decide +kernel
def zu_235 : zz_T := [(5, (([(.ofNat 0, (.ofNat 8, (none, none))), (.negSucc 2147483647, (.ofNat 2147483647, (none, none))), (.negSucc 2147483647, (.ofNat 2147483647, (none, none))), (.ofNat 0, (.ofNat 64, (none, none)))], (0, ([], ([], ([(0, .inr (.inr (.inl 38))), (1, .inr (.inl (0, .ofNat 0))), (2, .inr (.inl (1, .ofNat 0))), (3, .inr (.inl (2, .ofNat 0))), (4, .inr (.inl (3, .ofNat 0)))], []))))), [(true, .inl (.ofNat 1)), (true, .inr (.inl (3, .ofNat 0)))]))]
set_option maxRecDepth 1000000 in
set_option maxHeartbeats 40000000 in
theorem zc_235 : zz_ck zt_E 235 6000 zk_235 zu_235 [] = true := by decide +kernel
