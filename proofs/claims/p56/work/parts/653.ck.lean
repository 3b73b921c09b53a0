def zu_3 : zz_T := [(5, (([(.ofNat 0, (.ofNat 1600, (none, none)))], (0, ([(155, (.inl (.ofNat 7), .inr (.inl (0, .ofNat 0))))], ([], ([(0, .inr (.inr (.inl 155)))], []))))), [(true, .inl (.ofNat 1)), (true, .inr (.inl (0, .ofNat 0)))]))]
set_option maxRecDepth 1000000 in
set_option maxHeartbeats 40000000 in
theorem zc_3 : zz_ck zt_E 3 6000 zk_3 zu_3 [] = true := by decide +kernel
def zu_13 : zz_T := [(64, (([(.ofNat 0, (.ofNat 1600, (none, none)))], (0, ([], ([], ([(0, .inr (.inr (.inl 155))), (1, .inl (.ofNat 3)), (2, .inl (.ofNat 7)), (3, .inl (.ofNat 1600)), (4, .inr (.inl (0, .ofNat 0)))], []))))), [(true, .inl (.ofNat 1)), (true, .inr (.inl (0, .ofNat 0)))]))]
set_option maxRecDepth 1000000 in
set_option maxHeartbeats 40000000 in
theorem zc_13 : zz_ck zt_E 13 6000 zk_13 zu_13 [] = true := by decide +kernel
def zu_20 : zz_T := [(64, (([(.ofNat 0, (.ofNat 1600, (none, none)))], (0, ([], ([], ([(0, .inr (.inr (.inl 155))), (1, .inl (.ofNat 4)), (2, .inl (.ofNat 6)), (3, .inl (.ofNat 1600)), (4, .inr (.inl (0, .ofNat 0)))], []))))), [(true, .inl (.ofNat 1)), (true, .inr (.inl (0, .ofNat 0)))]))]
set_option maxRecDepth 1000000 in
set_option maxHeartbeats 40000000 in
theorem zc_20 : zz_ck zt_E 20 6000 zk_20 zu_20 [] = true := by decide +kernel
def zu_25 : zz_T := [(64, (([(.ofNat 0, (.ofNat 1600, (none, none)))], (0, ([], ([], ([(0, .inr (.inr (.inl 155))), (1, .inl (.ofNat 0)), (2, .inl (.ofNat 6)), (3, .inl (.ofNat 1600)), (4, .inr (.inl (0, .ofNat 0)))], []))))), [(true, .inl (.ofNat 1)), (true, .inr (.inl (0, .ofNat 0)))]))]
set_option maxRecDepth 1000000 in
set_option maxHeartbeats 40000000 in
theorem zc_25 : zz_ck zt_E 25 6000 zk_25 zu_25 [] = true := by decide +kernel
def zu_31 : zz_T := []
set_option maxRecDepth 1000000 in
set_option maxHeartbeats 40000000 in
theorem zc_31 : zz_ck zt_E 31 6000 zk_31 zu_31 [] = true := by decide +kernel
def zu_35 : zz_T := []
set_option maxRecDepth 1000000 in
set_option maxHeartbeats 40000000 in
theorem zc_35 : zz_ck zt_E 35 6000 zk_35 zu_35 [] = true := by decide +kernel
def zu_40 : zz_T := [(64, (([(.ofNat 0, (.ofNat 1600, (none, none)))], (0, ([], ([], ([(0, .inr (.inr (.inl 155))), (1, .inl (.ofNat 1)), (2, .inl (.ofNat 4)), (3, .inl (.ofNat 1600)), (4, .inr (.inl (0, .ofNat 0)))], []))))), [(true, .inl (.ofNat 1)), (true, .inr (.inl (0, .ofNat 0)))]))]
set_option maxRecDepth 1000000 in
set_option maxHeartbeats 40000000 in
theorem zc_40 : zz_ck zt_E 40 6000 zk_40 zu_40 [] = true := by decide +kernel
def zu_46 : zz_T := [(64, (([(.ofNat 0, (.ofNat 1, (none, none)))], (0, ([], ([], ([(0, .inr (.inr (.inl 155))), (1, .inl (.ofNat 2)), (2, .inl (.ofNat 3)), (3, .inl (.ofNat 1)), (4, .inr (.inl (0, .ofNat 0)))], []))))), [(true, .inl (.ofNat 1)), (true, .inr (.inl (0, .ofNat 0)))]))]
set_option maxRecDepth 1000000 in
set_option maxHeartbeats 40000000 in
theorem zc_46 : zz_ck zt_E 46 6000 zk_46 zu_46 [] = true := by decide +kernel
def zu_53 : zz_T := [(64, (([(.ofNat 0, (.ofNat 1600, (none, none)))], (0, ([], ([], ([(0, .inr (.inr (.inl 155))), (1, .inl (.ofNat 3)), (2, .inl (.ofNat 2)), (3, .inl (.ofNat 1600)), (4, .inr (.inl (0, .ofNat 0)))], []))))), [(true, .inl (.ofNat 1)), (true, .inr (.inl (0, .ofNat 0)))]))]
set_option maxRecDepth 1000000 in
set_option maxHeartbeats 40000000 in
theorem zc_53 : zz_ck zt_E 53 6000 zk_53 zu_53 [] = true := by decide +kernel
def zu_60 : zz_T := [(64, (([(.ofNat 0, (.ofNat 1600, (none, none)))], (0, ([], ([], ([(0, .inr (.inr (.inl 155))), (1, .inl (.ofNat 4)), (2, .inl (.ofNat 1)), (3, .inl (.ofNat 1600)), (4, .inr (.inl (0, .ofNat 0)))], []))))), [(true, .inl (.ofNat 1)), (true, .inr (.inl (0, .ofNat 0)))]))]
set_option maxRecDepth 1000000 in
set_option maxHeartbeats 40000000 in
theorem zc_60 : zz_ck zt_E 60 6000 zk_60 zu_60 [] = true := by decide +kernel
def zu_67 : zz_T := []
set_option maxRecDepth 1000000 in
set_option maxHeartbeats 40000000 in
theorem zc_67 : zz_ck zt_E 67 6000 zk_67 zu_67 [] = true := by decide +kernel
def zu_72 : zz_T := [(64, (([(.ofNat 0, (.ofNat 1600, (none, none)))], (0, ([], ([], ([(0, .inr (.inr (.inl 155))), (1, .inl (.ofNat 0)), (2, .inl (.ofNat 0)), (3, .inl (.ofNat 1600)), (4, .inr (.inl (0, .ofNat 0)))], []))))), [(true, .inl (.ofNat 1)), (true, .inr (.inl (0, .ofNat 0)))]))]
set_option maxRecDepth 1000000 in
set_option maxHeartbeats 40000000 in
theorem zc_72 : zz_ck zt_E 72 6000 zk_72 zu_72 [] = true := by decide +kernel
def zu_79 : zz_T := []
set_option maxRecDepth 1000000 in
set_option maxHeartbeats 40000000 in
theorem zc_79 : zz_ck zt_E 79 6000 zk_79 zu_79 [] = true := by decide +kernel
def zu_80 : zz_T := []
set_option maxRecDepth 1000000 in
set_option maxHeartbeats 40000000 in
theorem zc_80 : zz_ck zt_E 80 6000 zk_80 zu_80 [] = true := by decide +kernel
def zu_89 : zz_T := []
set_option maxRecDepth 1000000 in
set_option maxHeartbeats 40000000 in
theorem zc_89 : zz_ck zt_E 89 6000 zk_89 zu_89 [] = true := by decide +kernel
def zu_94 : zz_T := []
set_option maxRecDepth 1000000 in
set_option maxHeartbeats 40000000 in
theorem zc_94 : zz_ck zt_E 94 6000 zk_94 zu_94 [] = true := by decide +kernel
def zu_95 : zz_T := []
set_option maxRecDepth 1000000 in
set_option maxHeartbeats 40000000 in
theorem zc_95 : zz_ck zt_E 95 6000 zk_95 zu_95 [] = true := by decide +kernel
def zu_102 : zz_T := []
set_option maxRecDepth 1000000 in
set_option maxHeartbeats 40000000 in
theorem zc_102 : zz_ck zt_E 102 6000 zk_102 zu_102 [] = true := by decide +kernel
def zu_106 : zz_T := [(13, (([(.ofNat 0, (.ofNat 30, (none, none))), (.negSucc 2147483647, (.ofNat 2147483647, (none, none)))], (1, ([(137, (.inl (.ofNat 4), .inr (.inl (1, .ofNat 0)))), (138, (.inl (.ofNat 4), .inr (.inl (1, .ofNat 0)))), (137, (.inl (.ofNat 1), .inr (.inr (.inr (.inr 0))))), (138, (.inl (.ofNat 1), .inr (.inr (.inr (.inr 0)))))], ([], ([(0, .inr (.inr (.inl 156))), (1, .inr (.inl (0, .ofNat 0)))], []))))), [(true, .inl (.ofNat 1)), (true, .inr (.inl (0, .ofNat 0)))]))]
set_option maxRecDepth 1000000 in
set_option maxHeartbeats 40000000 in
theorem zc_106 : zz_ck zt_E 106 6000 zk_106 zu_106 [] = true := by decide +kernel
def zu_109 : zz_T := [(4, (([(.negSucc 2147483647, (.ofNat 2147483647, (none, none))), (.ofNat 0, (.ofNat 63, (none, none))), (.ofNat 0, (.ofNat 6, (none, none)))], (0, ([], ([], ([(0, .inr (.inr (.inl 156))), (1, .inr (.inl (0, .ofNat 0))), (2, .inr (.inl (1, .ofNat 0))), (3, .inr (.inl (2, .ofNat 0)))], []))))), [(true, .inl (.ofNat 1)), (true, .inr (.inl (2, .ofNat 0)))]))]
set_option maxRecDepth 1000000 in
set_option maxHeartbeats 40000000 in
theorem zc_109 : zz_ck zt_E 109 6000 zk_109 zu_109 [] = true := by decide +kernel
def zu_116 : zz_T := [(2, (([(.ofNat 0, (.ofNat 5, (none, none))), (.ofNat 0, (.ofNat 6, (none, none)))], (0, ([], ([], ([(0, .inr (.inr (.inl 156))), (1, .inr (.inl (0, .ofNat 0))), (2, .inr (.inl (1, .ofNat 0)))], []))))), [(true, .inl (.ofNat 1)), (true, .inr (.inl (1, .ofNat 0)))]))]
set_option maxRecDepth 1000000 in
set_option maxHeartbeats 40000000 in
theorem zc_116 : zz_ck zt_E 116 6000 zk_116 zu_116 [] = true := by decide +kernel
def zu_119 : zz_T := [(4, (([(.ofNat 0, (.ofNat 63, (none, none))), (.ofNat 0, (.ofNat 6, (none, none)))], (0, ([], ([], ([(0, .inr (.inr (.inl 156))), (1, .inr (.inl (0, .ofNat 0))), (2, .inr (.inl (1, .ofNat 0)))], []))))), [(true, .inl (.ofNat 1)), (true, .inr (.inl (1, .ofNat 0)))]))]
set_option maxRecDepth 1000000 in
set_option maxHeartbeats 40000000 in
theorem zc_119 : zz_ck zt_E 119 6000 zk_119 zu_119 [] = true := by decide +kernel
def zu_125 : zz_T := []
set_option maxRecDepth 1000000 in
set_option maxHeartbeats 40000000 in
theorem zc_125 : zz_ck zt_E 125 6000 zk_125 zu_125 [] = true := by decide +kernel
def zu_126 : zz_T := [(29, (([(.ofNat 0, (.ofNat 99, (none, none))), (.negSucc 2147483647, (.ofNat 2147483647, (none, none))), (.ofNat 0, (.ofNat 6, (none, none))), (.ofNat 0, (.ofNat 2147483647, (none, none)))], (0, ([(138, (.inl (.ofNat 3), .inr (.inl (3, .ofNat 0))))], ([], ([(0, .inr (.inr (.inl 156))), (2, .inr (.inl (1, .ofNat 0))), (3, .inr (.inl (2, .ofNat 0)))], []))))), [(true, .inl (.ofNat 1)), (true, .inr (.inl (2, .ofNat 0)))]))]
set_option maxRecDepth 1000000 in
set_option maxHeartbeats 40000000 in
theorem zc_126 : zz_ck zt_E 126 6000 zk_126 zu_126 [] = true := by decide +kernel
def zu_136 : zz_T := [(4, (([(.negSucc 2147483647, (.ofNat 2147483647, (none, none))), (.negSucc 0, (.ofNat 100000, (none, none))), (.ofNat 0, (.ofNat 64, (none, none)))], (0, ([], ([], ([(0, .inr (.inr (.inl 156))), (1, .inr (.inl (0, .ofNat 0))), (2, .inr (.inl (1, .ofNat 0))), (3, .inr (.inl (2, .ofNat 0)))], []))))), [(true, .inl (.ofNat 1)), (true, .inr (.inl (2, .ofNat 0)))]))]
set_option maxRecDepth 1000000 in
set_option maxHeartbeats 40000000 in
theorem zc_136 : zz_ck zt_E 136 6000 zk_136 zu_136 [] = true := by decide +kernel
def zu_144 : zz_T := [(19, (([(.ofNat 0, (.ofNat 4, (none, none))), (.negSucc 2147483647, (.ofNat 2147483647, (none, none))), (.negSucc 2147483647, (.ofNat 2147483647, (none, none))), (.negSucc 2147483647, (.ofNat 2147483647, (none, none))), (.ofNat 0, (.ofNat 4, (none, none)))], (0, ([], ([], ([(0, .inr (.inr (.inl 156))), (1, .inr (.inl (0, .ofNat 0))), (2, .inr (.inl (1, .ofNat 0))), (3, .inr (.inl (2, .ofNat 0))), (4, .inr (.inl (3, .ofNat 0))), (5, .inr (.inl (4, .ofNat 0)))], []))))), [(true, .inl (.ofNat 1)), (true, .inr (.inl (4, .ofNat 0)))]))]
set_option maxRecDepth 1000000 in
set_option maxHeartbeats 40000000 in
theorem zc_144 : zz_ck zt_E 144 6000 zk_144 zu_144 [] = true := by decide +kernel
def zu_152 : zz_T := [(10, (([(.negSucc 2147483647, (.ofNat 2147483647, (none, none))), (.ofNat 0, (.ofNat 64, (none, none)))], (1, ([], ([], ([(0, .inr (.inr (.inl 50))), (1, .inr (.inr (.inl 143))), (2, .inr (.inl (0, .ofNat 0))), (3, .inr (.inr (.inr (.inr 0)))), (5, .inr (.inl (1, .ofNat 0)))], []))))), [(true, .inl (.ofNat 1)), (true, .inr (.inl (1, .ofNat 0)))])), (37, (([(.negSucc 2147483647, (.ofNat 2147483647, (none, none))), (.ofNat 0, (.ofNat 30, (none, none)))], (1, ([], ([], ([(0, .inr (.inr (.inl 50))), (2, .inr (.inl (0, .ofNat 0))), (3, .inr (.inr (.inr (.inr 0)))), (5, .inr (.inl (1, .ofNat 0)))], []))))), [(true, .inl (.ofNat 2)), (true, .inr (.inl (1, .ofNat 0)))]))]
set_option maxRecDepth 1000000 in
set_option maxHeartbeats 40000000 in
theorem zc_152 : zz_ck zt_E 152 6000 zk_152 zu_152 [] = true := by decide +kernel
def zu_160 : zz_T := []
set_option maxRecDepth 1000000 in
set_option maxHeartbeats 40000000 in
theorem zc_160 : zz_ck zt_E 160 6000 zk_160 zu_160 [] = true := by decide +kernel
def zu_165 : zz_T := []
set_option maxRecDepth 1000000 in
set_option maxHeartbeats 40000000 in
theorem zc_165 : zz_ck zt_E 165 6000 zk_165 zu_165 [] = true := by decide +kernel
def zu_168 : zz_T := []
set_option maxRecDepth 1000000 in
set_option maxHeartbeats 40000000 in
theorem zc_168 : zz_ck zt_E 168 6000 zk_168 zu_168 [] = true := by decide +kernel
def zu_169 : zz_T := [(11, (([(.ofNat 0, (.ofNat 2920, (none, none)))], (0, ([(38, (.inl (.ofNat 46), .inl (.ofNat 40)))], ([], ([(0, .inr (.inr (.inl 38))), (1, .inr (.inl (0, .ofNat 0)))], []))))), [(true, .inl (.ofNat 1)), (true, .inr (.inl (0, .ofNat 0)))])), (51, (([(.ofNat 0, (.ofNat 73, (none, none))), (.ofNat 0, (.ofNat 39, (none, none)))], (0, ([(38, (.inl (.ofNat 46), .inr (.inl (1, .ofNat 0))))], ([], ([(0, .inr (.inr (.inl 38))), (1, .inr (.inl (0, .ofNat 0)))], []))))), [(true, .inl (.ofNat 2)), (true, .inr (.inl (0, .ofNat 0)))]))]
set_option maxRecDepth 1000000 in
set_option maxHeartbeats 40000000 in
theorem zc_169 : zz_ck zt_E 169 6000 zk_169 zu_169 [] = true := by decide +kernel
def zu_177 : zz_T := [(2, (([(.ofNat 0, (.ofNat 5, (none, none))), (.ofNat 0, (.ofNat 64, (none, none)))], (0, ([], ([], ([(0, .inr (.inr (.inl 38))), (1, .inr (.inl (0, .ofNat 0))), (2, .inr (.inl (1, .ofNat 0)))], []))))), [(true, .inl (.ofNat 1)), (true, .inr (.inl (1, .ofNat 0)))]))]
set_option maxRecDepth 1000000 in
set_option maxHeartbeats 40000000 in
theorem zc_177 : zz_ck zt_E 177 6000 zk_177 zu_177 [] = true := by decide +kernel
def zu_184 : zz_T := [(2, (([(.ofNat 0, (.ofNat 384, (none, none)))], (0, ([], ([], ([(0, .inr (.inr (.inl 38))), (1, .inr (.inl (0, .ofNat 0)))], []))))), [(true, .inl (.ofNat 1)), (true, .inr (.inl (0, .ofNat 0))), (true, .inl (.ofNat 0)), (true, .inl (.ofNat 0))])), (24, (([(.ofNat 0, (.ofNat 6, (none, none)))], (0, ([], ([], ([(0, .inr (.inr (.inl 38))), (1, .inr (.inl (0, .ofNat 0)))], []))))), [(true, .inl (.ofNat 2)), (true, .inr (.inl (0, .ofNat 0))), (true, .inl (.ofNat 0)), (true, .inl (.ofNat 0))])), (34, (([(.ofNat 0, (.ofNat 5, (none, none))), (.ofNat 0, (.ofNat 64, (none, none)))], (0, ([], ([], ([(0, .inr (.inr (.inl 38))), (1, .inr (.inl (0, .ofNat 0))), (2, .inr (.inl (1, .ofNat 0)))], []))))), [(true, .inl (.ofNat 2)), (true, .inr (.inl (0, .ofNat 0))), (true, .inl (.ofNat 1)), (true, .inr (.inl (1, .ofNat 0)))])), (89, (([(.ofNat 0, (.ofNat 64, (none, none)))], (0, ([], ([], ([(0, .inr (.inr (.inl 38))), (1, .inr (.inl (0, .ofNat 0)))], []))))), [(true, .inl (.ofNat 3)), (true, .inr (.inl (0, .ofNat 0))), (true, .inl (.ofNat 0)), (true, .inl (.ofNat 0))])), (101, (([(.ofNat 0, (.ofNat 63, (none, none))), (.ofNat 0, (.ofNat 1, (none, none))), (.ofNat 0, (.ofNat 6, (none, none)))], (0, ([], ([], ([(0, .inr (.inr (.inl 38))), (1, .inr (.inl (0, .ofNat 0))), (2, .inr (.inl (1, .ofNat 0))), (3, .inr (.inl (2, .ofNat 0)))], []))))), [(true, .inl (.ofNat 3)), (true, .inr (.inl (0, .ofNat 0))), (true, .inl (.ofNat 1)), (true, .inr (.inl (2, .ofNat 0)))]))]
set_option maxRecDepth 1000000 in
set_option maxHeartbeats 40000000 in
theorem zc_184 : zz_ck zt_E 184 6000 zk_184 zu_184 [] = true := by decide +kernel
def zu_201 : zz_T := [(23, (([(.ofNat 0, (.ofNat 5, (none, none))), (.ofNat 0, (.ofNat 5, (none, none))), (.negSucc 2147483647, (.ofNat 2147483647, (none, none))), (.ofNat 0, (.ofNat 64, (none, none)))], (0, ([], ([], ([(0, .inr (.inr (.inl 38))), (1, .inr (.inl (0, .ofNat 0))), (2, .inr (.inl (1, .ofNat 0))), (3, .inr (.inl (2, .ofNat 0))), (4, .inr (.inl (3, .ofNat 0)))], []))))), [(true, .inl (.ofNat 1)), (true, .inr (.inl (3, .ofNat 0))), (true, .inl (.ofNat 0)), (true, .inl (.ofNat 0))])), (38, (([(.ofNat 0, (.ofNat 5, (none, none))), (.ofNat 0, (.ofNat 5, (none, none))), (.negSucc 2147483647, (.ofNat 2147483647, (none, none))), (.ofNat 0, (.ofNat 63, (none, none))), (.ofNat 0, (.ofNat 1, (none, none))), (.ofNat 0, (.ofNat 64, (none, none)))], (0, ([], ([], ([(0, .inr (.inr (.inl 38))), (1, .inr (.inl (0, .ofNat 0))), (2, .inr (.inl (1, .ofNat 0))), (3, .inr (.inl (2, .ofNat 0))), (4, .inr (.inl (3, .ofNat 0))), (5, .inr (.inl (4, .ofNat 0))), (6, .inr (.inl (5, .ofNat 0)))], []))))), [(true, .inl (.ofNat 1)), (true, .inr (.inl (3, .ofNat 0))), (true, .inl (.ofNat 1)), (true, .inr (.inl (5, .ofNat 0)))]))]
set_option maxRecDepth 1000000 in
set_option maxHeartbeats 40000000 in
theorem zc_201 : zz_ck zt_E 201 6000 zk_201 zu_201 [] = true := by decide +kernel
def zu_212 : zz_T := [(27, (([(.ofNat 0, (.ofNat 5, (none, none))), (.ofNat 0, (.ofNat 9, (none, none))), (.ofNat 0, (.ofNat 9, (none, none)))], (0, ([], ([], ([(0, .inr (.inr (.inl 38))), (2, .inr (.inl (1, .ofNat 0))), (3, .inr (.inl (2, .ofNat 0)))], []))))), [(true, .inl (.ofNat 1)), (true, .inr (.inl (2, .ofNat 0)))])), (47, (([(.ofNat 0, (.ofNat 5, (none, none))), (.ofNat 0, (.ofNat 9, (none, none))), (.negSucc 2147483647, (.ofNat 2147483647, (none, none))), (.ofNat 0, (.ofNat 64, (none, none)))], (0, ([], ([], ([(0, .inr (.inr (.inl 38))), (3, .inr (.inl (2, .ofNat 0))), (4, .inr (.inl (3, .ofNat 0)))], []))))), [(true, .inl (.ofNat 2)), (true, .inr (.inl (3, .ofNat 0)))]))]
set_option maxRecDepth 1000000 in
set_option maxHeartbeats 40000000 in
theorem zc_212 : zz_ck zt_E 212 6000 zk_212 zu_212 [] = true := by decide +kernel
def zu_220 : zz_T := [(39, (([(.ofNat 0, (.ofNat 5, (none, none))), (.ofNat 0, (.ofNat 1, (none, none))), (.negSucc 0, (.ofNat 63, (none, none))), (.negSucc 2147483647, (.ofNat 2147483647, (none, none))), (.ofNat 0, (.ofNat 64, (none, none)))], (0, ([], ([], ([(0, .inr (.inr (.inl 38))), (1, .inr (.inl (0, .ofNat 0))), (2, .inr (.inl (1, .ofNat 0))), (3, .inr (.inl (2, .ofNat 0))), (4, .inr (.inl (3, .ofNat 0))), (5, .inr (.inl (4, .ofNat 0)))], []))))), [(true, .inl (.ofNat 1)), (true, .inr (.inl (4, .ofNat 0)))]))]
set_option maxRecDepth 1000000 in
set_option maxHeartbeats 40000000 in
theorem zc_220 : zz_ck zt_E 220 6000 zk_220 zu_220 [] = true := by decide +kernel
def zu_230 : zz_T := [(2, (([(.ofNat 0, (.ofNat 73, (none, none)))], (0, ([], ([], ([(0, .inr (.inr (.inl 38))), (1, .inr (.inl (0, .ofNat 0)))], []))))), [(true, .inl (.ofNat 1)), (true, .inr (.inl (0, .ofNat 0)))])), (40, (([(.ofNat 0, (.ofNat 1, (none, none))), (.ofNat 0, (.ofNat 64, (none, none))), (.ofNat 0, (.ofNat 63, (none, none)))], (0, ([(38, (.inl (.ofNat 35), .inr (.inl (2, .ofNat 0))))], ([], ([(0, .inr (.inr (.inl 38))), (1, .inr (.inl (0, .ofNat 0))), (2, .inr (.inl (1, .ofNat 0)))], []))))), [(true, .inl (.ofNat 2)), (true, .inr (.inl (1, .ofNat 0)))])), (86, (([(.ofNat 0, (.ofNat 6, (none, none))), (.ofNat 0, (.ofNat 63, (none, none)))], (0, ([(38, (.inl (.ofNat 35), .inr (.inl (1, .ofNat 0))))], ([], ([(0, .inr (.inr (.inl 38))), (2, .inr (.inl (0, .ofNat 0)))], []))))), [(true, .inl (.ofNat 3)), (true, .inr (.inl (0, .ofNat 0)))]))]
set_option maxRecDepth 1000000 in
set_option maxHeartbeats 40000000 in
theorem zc_230 : zz_ck zt_E 230 6000 zk_230 zu_230 [] = true := by decide +kernel
