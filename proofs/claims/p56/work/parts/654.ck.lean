def zu_4 : zz_T := [(8, (([(.negSucc 2147483647, (.ofNat 2147483647, (none, none))), (.negSucc 0, (.ofNat 79, (none, none))), (.ofNat 0, (.ofNat 79, (some (1, .ofNat 0), none)))], (0, ([], ([], ([(0, .inr (.inr (.inl 155))), (1, .inr (.inl (0, .ofNat 0))), (2, .inr (.inl (1, .ofNat 0))), (3, .inr (.inl (2, .ofNat 0)))], []))))), [(true, .inl (.ofNat 1)), (true, .inr (.inl (2, .ofNat 0)))]))]
set_option maxRecDepth 1000000 in
set_option maxHeartbeats 40000000 in
theorem zc_4 : zz_ck zt_E 4 6000 zk_4 zu_4 [] = true := by decide +kernel
def zu_14 : zz_T := [(64, (([(.ofNat 0, (.ofNat 1, (none, none)))], (0, ([], ([], ([(0, .inr (.inr (.inl 155))), (1, .inl (.ofNat 2)), (2, .inl (.ofNat 7)), (3, .inl (.ofNat 1)), (4, .inr (.inl (0, .ofNat 0)))], []))))), [(true, .inl (.ofNat 1)), (true, .inr (.inl (0, .ofNat 0)))]))]
set_option maxRecDepth 1000000 in
set_option maxHeartbeats 40000000 in
theorem zc_14 : zz_ck zt_E 14 6000 zk_14 zu_14 [] = true := by decide +kernel
def zu_21 : zz_T := [(64, (([(.ofNat 0, (.ofNat 1600, (none, none)))], (0, ([], ([], ([(0, .inr (.inr (.inl 155))), (1, .inl (.ofNat 3)), (2, .inl (.ofNat 6)), (3, .inl (.ofNat 1600)), (4, .inr (.inl (0, .ofNat 0)))], []))))), [(true, .inl (.ofNat 1)), (true, .inr (.inl (0, .ofNat 0)))]))]
set_option maxRecDepth 1000000 in
set_option maxHeartbeats 40000000 in
theorem zc_21 : zz_ck zt_E 21 6000 zk_21 zu_21 [] = true := by decide +kernel
def zu_26 : zz_T := []
set_option maxRecDepth 1000000 in
set_option maxHeartbeats 40000000 in
theorem zc_26 : zz_ck zt_E 26 6000 zk_26 zu_26 [] = true := by decide +kernel
def zu_34 : zz_T := []
set_option maxRecDepth 1000000 in
set_option maxHeartbeats 40000000 in
theorem zc_34 : zz_ck zt_E 34 6000 zk_34 zu_34 [] = true := by decide +kernel
def zu_42 : zz_T := []
set_option maxRecDepth 1000000 in
set_option maxHeartbeats 40000000 in
theorem zc_42 : zz_ck zt_E 42 6000 zk_42 zu_42 [] = true := by decide +kernel
def zu_48 : zz_T := [(64, (([(.ofNat 0, (.ofNat 1600, (none, none)))], (0, ([], ([], ([(0, .inr (.inr (.inl 155))), (1, .inl (.ofNat 1)), (2, .inl (.ofNat 3)), (3, .inl (.ofNat 1600)), (4, .inr (.inl (0, .ofNat 0)))], []))))), [(true, .inl (.ofNat 1)), (true, .inr (.inl (0, .ofNat 0)))]))]
set_option maxRecDepth 1000000 in
set_option maxHeartbeats 40000000 in
theorem zc_48 : zz_ck zt_E 48 6000 zk_48 zu_48 [] = true := by decide +kernel
def zu_54 : zz_T := [(64, (([(.ofNat 0, (.ofNat 1, (none, none)))], (0, ([], ([], ([(0, .inr (.inr (.inl 155))), (1, .inl (.ofNat 2)), (2, .inl (.ofNat 2)), (3, .inl (.ofNat 1)), (4, .inr (.inl (0, .ofNat 0)))], []))))), [(true, .inl (.ofNat 1)), (true, .inr (.inl (0, .ofNat 0)))]))]
set_option maxRecDepth 1000000 in
set_option maxHeartbeats 40000000 in
theorem zc_54 : zz_ck zt_E 54 6000 zk_54 zu_54 [] = true := by decide +kernel
def zu_61 : zz_T := [(64, (([(.ofNat 0, (.ofNat 1600, (none, none)))], (0, ([], ([], ([(0, .inr (.inr (.inl 155))), (1, .inl (.ofNat 3)), (2, .inl (.ofNat 1)), (3, .inl (.ofNat 1600)), (4, .inr (.inl (0, .ofNat 0)))], []))))), [(true, .inl (.ofNat 1)), (true, .inr (.inl (0, .ofNat 0)))]))]
set_option maxRecDepth 1000000 in
set_option maxHeartbeats 40000000 in
theorem zc_61 : zz_ck zt_E 61 6000 zk_61 zu_61 [] = true := by decide +kernel
def zu_68 : zz_T := [(64, (([(.ofNat 0, (.ofNat 1600, (none, none)))], (0, ([], ([], ([(0, .inr (.inr (.inl 155))), (1, .inl (.ofNat 4)), (2, .inl (.ofNat 0)), (3, .inl (.ofNat 1600)), (4, .inr (.inl (0, .ofNat 0)))], []))))), [(true, .inl (.ofNat 1)), (true, .inr (.inl (0, .ofNat 0)))]))]
set_option maxRecDepth 1000000 in
set_option maxHeartbeats 40000000 in
theorem zc_68 : zz_ck zt_E 68 6000 zk_68 zu_68 [] = true := by decide +kernel
def zu_74 : zz_T := [(5, (([(.negSucc 2147483647, (.ofNat 2147483647, (none, none))), (.ofNat 0, (.ofNat 64, (none, none))), (.ofNat 0, (.ofNat 300, (none, none)))], (0, ([], ([], ([(0, .inr (.inr (.inl 148))), (1, .inr (.inr (.inl 153))), (2, .inr (.inl (0, .ofNat 0))), (3, .inr (.inl (1, .ofNat 0))), (4, .inr (.inl (2, .ofNat 0)))], []))))), [(true, .inl (.ofNat 1)), (true, .inr (.inl (2, .ofNat 0)))]))]
set_option maxRecDepth 1000000 in
set_option maxHeartbeats 40000000 in
theorem zc_74 : zz_ck zt_E 74 6000 zk_74 zu_74 [] = true := by decide +kernel
def zu_88 : zz_T := [(5, (([(.ofNat 0, (.ofNat 63, (none, none))), (.ofNat 0, (.ofNat 64, (none, none)))], (1, ([], ([], ([(0, .inr (.inr (.inl 143))), (1, .inr (.inl (0, .ofNat 0))), (2, .inr (.inr (.inr (.inr 0)))), (4, .inr (.inl (1, .ofNat 0)))], []))))), [(true, .inl (.ofNat 1)), (true, .inr (.inl (1, .ofNat 0)))]))]
set_option maxRecDepth 1000000 in
set_option maxHeartbeats 40000000 in
theorem zc_88 : zz_ck zt_E 88 6000 zk_88 zu_88 [] = true := by decide +kernel
def zu_93 : zz_T := [(31, (([(.ofNat 0, (.ofNat 39, (none, none))), (.ofNat 1, (.ofNat 40, (none, none)))], (0, ([(136, (.inl (.ofNat 4), .inr (.inl (0, .ofNat 0)))), (136, (.inl (.ofNat 3), .inr (.inl (1, .ofNat 0))))], ([], ([(0, .inr (.inr (.inl 136))), (1, .inr (.inr (.inl 138)))], []))))), [(true, .inl (.ofNat 1)), (true, .inl (.ofNat 0))]))]
set_option maxRecDepth 1000000 in
set_option maxHeartbeats 40000000 in
theorem zc_93 : zz_ck zt_E 93 6000 zk_93 zu_93 [] = true := by decide +kernel
def zu_103 : zz_T := [(11, (([(.negSucc 2147483647, (.ofNat 2147483647, (none, none))), (.ofNat 0, (.ofNat 63, (none, none))), (.ofNat 0, (.ofNat 6, (none, none)))], (1, ([], ([], ([(0, .inr (.inr (.inl 143))), (1, .inr (.inr (.inl 137))), (2, .inr (.inl (0, .ofNat 0))), (3, .inr (.inl (1, .ofNat 0))), (4, .inr (.inr (.inr (.inr 0)))), (6, .inr (.inl (2, .ofNat 0)))], []))))), [(true, .inl (.ofNat 1)), (true, .inr (.inl (2, .ofNat 0)))]))]
set_option maxRecDepth 1000000 in
set_option maxHeartbeats 40000000 in
theorem zc_103 : zz_ck zt_E 103 6000 zk_103 zu_103 [] = true := by decide +kernel
def zu_110 : zz_T := [(4, (([(.ofNat 0, (.ofNat 5, (none, none))), (.negSucc 0, (.ofNat 100000, (none, none))), (.ofNat 0, (.ofNat 64, (none, none)))], (0, ([], ([], ([(0, .inr (.inr (.inl 156))), (1, .inr (.inl (0, .ofNat 0))), (2, .inr (.inl (1, .ofNat 0))), (3, .inr (.inl (2, .ofNat 0)))], []))))), [(true, .inl (.ofNat 1)), (true, .inr (.inl (2, .ofNat 0)))]))]
set_option maxRecDepth 1000000 in
set_option maxHeartbeats 40000000 in
theorem zc_110 : zz_ck zt_E 110 6000 zk_110 zu_110 [] = true := by decide +kernel
def zu_117 : zz_T := [(4, (([(.ofNat 0, (.ofNat 63, (none, none))), (.ofNat 0, (.ofNat 6, (none, none)))], (0, ([], ([], ([(0, .inr (.inr (.inl 156))), (1, .inr (.inl (0, .ofNat 0))), (2, .inr (.inl (1, .ofNat 0)))], []))))), [(true, .inl (.ofNat 1)), (true, .inr (.inl (1, .ofNat 0)))]))]
set_option maxRecDepth 1000000 in
set_option maxHeartbeats 40000000 in
theorem zc_117 : zz_ck zt_E 117 6000 zk_117 zu_117 [] = true := by decide +kernel
def zu_122 : zz_T := [(6, (([(.negSucc 0, (.ofNat 5, (none, none))), (.negSucc 0, (.ofNat 63, (none, none))), (.ofNat 0, (.ofNat 6, (none, none)))], (0, ([], ([], ([(0, .inr (.inr (.inl 156))), (1, .inr (.inl (0, .ofNat 0))), (2, .inr (.inl (1, .ofNat 0))), (3, .inr (.inl (2, .ofNat 0)))], []))))), [(true, .inl (.ofNat 1)), (true, .inr (.inl (2, .ofNat 0)))]))]
set_option maxRecDepth 1000000 in
set_option maxHeartbeats 40000000 in
theorem zc_122 : zz_ck zt_E 122 6000 zk_122 zu_122 [] = true := by decide +kernel
def zu_130 : zz_T := [(24, (([(.ofNat 0, (.ofNat 5, (none, none))), (.ofNat 0, (.ofNat 63, (none, none))), (.ofNat 0, (.ofNat 64, (none, none))), (.ofNat 1, (.ofNat 6, (none, none)))], (1, ([(143, (.inl (.ofNat 0), .inr (.inl (3, .ofNat 0))))], ([], ([(0, .inr (.inr (.inl 156))), (2, .inr (.inl (1, .ofNat 0))), (3, .inr (.inr (.inr (.inr 0)))), (5, .inr (.inl (2, .ofNat 0)))], []))))), [(true, .inl (.ofNat 1)), (true, .inr (.inl (2, .ofNat 0)))]))]
set_option maxRecDepth 1000000 in
set_option maxHeartbeats 40000000 in
theorem zc_130 : zz_ck zt_E 130 6000 zk_130 zu_130 [] = true := by decide +kernel
def zu_137 : zz_T := []
set_option maxRecDepth 1000000 in
set_option maxHeartbeats 40000000 in
theorem zc_137 : zz_ck zt_E 137 6000 zk_137 zu_137 [] = true := by decide +kernel
def zu_139 : zz_T := []
set_option maxRecDepth 1000000 in
set_option maxHeartbeats 40000000 in
theorem zc_139 : zz_ck zt_E 139 6000 zk_139 zu_139 [] = true := by decide +kernel
def zu_141 : zz_T := [(4, (([(.ofNat 0, (.ofNat 63, (none, none))), (.ofNat 0, (.ofNat 6, (none, none)))], (0, ([], ([], ([(0, .inr (.inr (.inl 156))), (1, .inr (.inl (0, .ofNat 0))), (2, .inr (.inl (1, .ofNat 0)))], []))))), [(true, .inl (.ofNat 1)), (true, .inr (.inl (1, .ofNat 0)))]))]
set_option maxRecDepth 1000000 in
set_option maxHeartbeats 40000000 in
theorem zc_141 : zz_ck zt_E 141 6000 zk_141 zu_141 [] = true := by decide +kernel
def zu_146 : zz_T := []
set_option maxRecDepth 1000000 in
set_option maxHeartbeats 40000000 in
theorem zc_146 : zz_ck zt_E 146 6000 zk_146 zu_146 [] = true := by decide +kernel
def zu_148 : zz_T := [(26, (([(.ofNat 0, (.ofNat 63, (none, none))), (.ofNat 0, (.ofNat 1, (none, none))), (.ofNat 0, (.ofNat 64, (none, none))), (.negSucc 2147483647, (.ofNat 2147483647, (none, none))), (.negSucc 2147483647, (.ofNat 2147483647, (none, none))), (.negSucc 2147483647, (.ofNat 2147483647, (none, none)))], (1, ([(42, (.inl (.ofNat 4), .inr (.inl (3, .ofNat 0)))), (140, (.inl (.ofNat 4), .inr (.inl (3, .ofNat 0)))), (42, (.inl (.ofNat 3), .inr (.inl (4, .ofNat 0)))), (140, (.inl (.ofNat 3), .inr (.inl (4, .ofNat 0)))), (42, (.inl (.ofNat 2), .inr (.inl (5, .ofNat 0)))), (140, (.inl (.ofNat 2), .inr (.inl (5, .ofNat 0)))), (42, (.inl (.ofNat 1), .inr (.inr (.inr (.inr 0))))), (140, (.inl (.ofNat 1), .inr (.inr (.inr (.inr 0)))))], ([], ([(0, .inr (.inr (.inl 143))), (1, .inr (.inr (.inl 42))), (3, .inr (.inl (1, .ofNat 0))), (4, .inr (.inl (2, .ofNat 0)))], []))))), [(true, .inl (.ofNat 1)), (true, .inr (.inl (2, .ofNat 0)))]))]
set_option maxRecDepth 1000000 in
set_option maxHeartbeats 40000000 in
theorem zc_148 : zz_ck zt_E 148 6000 zk_148 zu_148 [] = true := by decide +kernel
def zu_155 : zz_T := [(40, (([(.ofNat 1, (.ofNat 9, (none, none))), (.negSucc 2147483647, (.ofNat 2147483647, (none, none))), (.negSucc 2147483647, (.ofNat 2147483647, (none, none))), (.negSucc 0, (.ofNat 999, (none, none))), (.ofNat 0, (.ofNat 6, (none, none)))], (1, ([], ([], ([(0, .inr (.inr (.inl 156))), (1, .inr (.inl (0, .ofNat 0))), (2, .inr (.inl (1, .ofNat 0))), (4, .inr (.inr (.inr (.inr 0)))), (6, .inr (.inl (3, .ofNat 0))), (7, .inr (.inl (4, .ofNat 0)))], []))))), [(true, .inl (.ofNat 1)), (true, .inr (.inl (4, .ofNat 0)))]))]
set_option maxRecDepth 1000000 in
set_option maxHeartbeats 40000000 in
theorem zc_155 : zz_ck zt_E 155 6000 zk_155 zu_155 [] = true := by decide +kernel
def zu_166 : zz_T := []
set_option maxRecDepth 1000000 in
set_option maxHeartbeats 40000000 in
theorem zc_166 : zz_ck zt_E 166 6000 zk_166 zu_166 [] = true := by decide +kernel
def zu_170 : zz_T := [(2, (([(.ofNat 0, (.ofNat 384, (none, none)))], (0, ([], ([], ([(0, .inr (.inr (.inl 38))), (1, .inr (.inl (0, .ofNat 0)))], []))))), [(true, .inl (.ofNat 1)), (true, .inr (.inl (0, .ofNat 0))), (true, .inl (.ofNat 0)), (true, .inl (.ofNat 0))])), (39, (([(.ofNat 0, (.ofNat 6, (none, none)))], (0, ([], ([], ([(0, .inr (.inr (.inl 38))), (1, .inr (.inl (0, .ofNat 0)))], []))))), [(true, .inl (.ofNat 2)), (true, .inr (.inl (0, .ofNat 0))), (true, .inl (.ofNat 0)), (true, .inl (.ofNat 0))])), (49, (([(.ofNat 0, (.ofNat 5, (none, none))), (.ofNat 0, (.ofNat 64, (none, none)))], (0, ([], ([], ([(0, .inr (.inr (.inl 38))), (1, .inr (.inl (0, .ofNat 0))), (2, .inr (.inl (1, .ofNat 0)))], []))))), [(true, .inl (.ofNat 2)), (true, .inr (.inl (0, .ofNat 0))), (true, .inl (.ofNat 1)), (true, .inr (.inl (1, .ofNat 0)))]))]
set_option maxRecDepth 1000000 in
set_option maxHeartbeats 40000000 in
theorem zc_170 : zz_ck zt_E 170 6000 zk_170 zu_170 [] = true := by decide +kernel
def zu_182 : zz_T := []
set_option maxRecDepth 1000000 in
set_option maxHeartbeats 40000000 in
theorem zc_182 : zz_ck zt_E 182 6000 zk_182 zu_182 [] = true := by decide +kernel
def zu_187 : zz_T := []
set_option maxRecDepth 1000000 in
set_option maxHeartbeats 40000000 in
theorem zc_187 : zz_ck zt_E 187 6000 zk_187 zu_187 [] = true := by decide +kernel
def zu_191 : zz_T := []
set_option maxRecDepth 1000000 in
set_option maxHeartbeats 40000000 in
theorem zc_191 : zz_ck zt_E 191 6000 zk_191 zu_191 [] = true := by decide +kernel
def zu_192 : zz_T := []
set_option maxRecDepth 1000000 in
set_option maxHeartbeats 40000000 in
theorem zc_192 : zz_ck zt_E 192 6000 zk_192 zu_192 [] = true := by decide +kernel
def zu_194 : zz_T := [(20, (([(.ofNat 0, (.ofNat 30, (none, none))), (.ofNat 0, (.ofNat 30, (none, none)))], (0, ([], ([], ([(0, .inr (.inr (.inl 38))), (1, .inr (.inl (0, .ofNat 0))), (3, .inr (.inl (1, .ofNat 0)))], []))))), [(true, .inl (.ofNat 1)), (true, .inr (.inl (1, .ofNat 0)))]))]
set_option maxRecDepth 1000000 in
set_option maxHeartbeats 40000000 in
theorem zc_194 : zz_ck zt_E 194 6000 zk_194 zu_194 [] = true := by decide +kernel
def zu_199 : zz_T := [(8, (([(.negSucc 2147483647, (.ofNat 2147483647, (none, none))), (.negSucc 2147483647, (.ofNat 2147483647, (none, none))), (.ofNat 0, (.ofNat 6, (none, none)))], (0, ([], ([], ([(0, .inr (.inr (.inl 38))), (1, .inr (.inl (0, .ofNat 0))), (2, .inr (.inl (1, .ofNat 0))), (3, .inr (.inl (2, .ofNat 0)))], []))))), [(true, .inl (.ofNat 1)), (true, .inr (.inl (2, .ofNat 0)))]))]
set_option maxRecDepth 1000000 in
set_option maxHeartbeats 40000000 in
theorem zc_199 : zz_ck zt_E 199 6000 zk_199 zu_199 [] = true := by decide +kernel
def zu_203 : zz_T := [(8, (([(.ofNat 0, (.ofNat 63, (none, none))), (.ofNat 0, (.ofNat 6, (none, none)))], (0, ([], ([], ([(0, .inr (.inr (.inl 38))), (1, .inr (.inl (0, .ofNat 0))), (2, .inr (.inl (1, .ofNat 0)))], []))))), [(true, .inl (.ofNat 1)), (true, .inr (.inl (1, .ofNat 0))), (true, .inl (.ofNat 0)), (true, .inl (.ofNat 0))])), (21, (([(.ofNat 0, (.ofNat 63, (none, none))), (.ofNat 0, (.ofNat 5, (none, none))), (.ofNat 0, (.ofNat 1, (none, none))), (.ofNat 0, (.ofNat 6, (none, none)))], (0, ([], ([], ([(0, .inr (.inr (.inl 38))), (1, .inr (.inl (0, .ofNat 0))), (2, .inr (.inl (1, .ofNat 0))), (3, .inr (.inl (2, .ofNat 0))), (4, .inr (.inl (3, .ofNat 0)))], []))))), [(true, .inl (.ofNat 1)), (true, .inr (.inl (1, .ofNat 0))), (true, .inl (.ofNat 1)), (true, .inr (.inl (3, .ofNat 0)))]))]
set_option maxRecDepth 1000000 in
set_option maxHeartbeats 40000000 in
theorem zc_203 : zz_ck zt_E 203 6000 zk_203 zu_203 [] = true := by decide +kernel
def zu_207 : zz_T := [(25, (([(.ofNat 0, (.ofNat 5, (none, none))), (.ofNat 0, (.ofNat 5, (none, none))), (.ofNat 0, (.ofNat 63, (none, none))), (.ofNat 0, (.ofNat 6, (none, none)))], (0, ([], ([], ([(0, .inr (.inr (.inl 38))), (2, .inr (.inl (1, .ofNat 0))), (3, .inr (.inl (2, .ofNat 0))), (4, .inr (.inl (3, .ofNat 0)))], []))))), [(true, .inl (.ofNat 1)), (true, .inr (.inl (3, .ofNat 0))), (true, .inl (.ofNat 0)), (true, .inl (.ofNat 0))])), (49, (([(.ofNat 0, (.ofNat 5, (none, none))), (.ofNat 0, (.ofNat 5, (none, none))), (.ofNat 0, (.ofNat 63, (none, none))), (.ofNat 0, (.ofNat 5, (none, none))), (.ofNat 0, (.ofNat 63, (none, none))), (.ofNat 0, (.ofNat 6, (none, none)))], (0, ([], ([], ([(0, .inr (.inr (.inl 38))), (2, .inr (.inl (1, .ofNat 0))), (3, .inr (.inl (2, .ofNat 0))), (4, .inr (.inl (3, .ofNat 0))), (5, .inr (.inl (4, .ofNat 0))), (6, .inr (.inl (5, .ofNat 0)))], []))))), [(true, .inl (.ofNat 1)), (true, .inr (.inl (3, .ofNat 0))), (true, .inl (.ofNat 1)), (true, .inr (.inl (5, .ofNat 0)))]))]
set_option maxRecDepth 1000000 in
set_option maxHeartbeats 40000000 in
theorem zc_207 : zz_ck zt_E 207 6000 zk_207 zu_207 [] = true := by decide +kernel
def zu_218 : zz_T := [(8, (([(.negSucc 2147483647, (.ofNat 2147483647, (none, none))), (.ofNat 0, (.ofNat 64, (none, none)))], (0, ([], ([], ([(0, .inr (.inr (.inl 38))), (1, .inr (.inl (0, .ofNat 0))), (2, .inr (.inl (1, .ofNat 0)))], []))))), [(true, .inl (.ofNat 1)), (true, .inr (.inl (1, .ofNat 0)))]))]
set_option maxRecDepth 1000000 in
set_option maxHeartbeats 40000000 in
theorem zc_218 : zz_ck zt_E 218 6000 zk_218 zu_218 [] = true := by decide +kernel
def zu_223 : zz_T := [(18, (([(.ofNat 1, (.ofNat 64, (none, none))), (.ofNat 0, (.ofNat 31, (none, none)))], (0, ([], ([], ([(0, .inr (.inr (.inl 38))), (1, .inr (.inl (0, .ofNat 0))), (2, .inr (.inl (1, .ofNat 0)))], []))))), [(true, .inl (.ofNat 1)), (true, .inr (.inl (1, .ofNat 0)))]))]
set_option maxRecDepth 1000000 in
set_option maxHeartbeats 40000000 in
theorem zc_223 : zz_ck zt_E 223 6000 zk_223 zu_223 [] = true := by decide +kernel
def zu_229 : zz_T := []
set_option maxRecDepth 1000000 in
set_option maxHeartbeats 40000000 in
theorem zc_229 : zz_ck zt_E 229 6000 zk_229 zu_229 [] = true := by decide +kernel
def zu_233 : zz_T := []
set_option maxRecDepth 1000000 in
set_option maxHeartbeats 40000000 in
theorem zc_233 : zz_ck zt_E 233 6000 zk_233 zu_233 [] = true := by decide +kernel
def zu_234 : zz_T := [(20, (([(.ofNat 0, (.ofNat 5, (none, none))), (.negSucc 2147483647, (.ofNat 2147483647, (none, none))), (.negSucc 2147483647, (.ofNat 2147483647, (none, none))), (.ofNat 0, (.ofNat 64, (none, none)))], (0, ([], ([], ([(0, .inr (.inr (.inl 38))), (1, .inr (.inl (0, .ofNat 0))), (3, .inr (.inl (2, .ofNat 0))), (4, .inr (.inl (3, .ofNat 0)))], []))))), [(true, .inl (.ofNat 1)), (true, .inr (.inl (3, .ofNat 0)))]))]
set_option maxRecDepth 1000000 in
set_option maxHeartbeats 40000000 in
theorem zc_234 : zz_ck zt_E 234 6000 zk_234 zu_234 [] = true := by decide +kernel
def zu_239 : zz_T := []
set_option maxRecDepth 1000000 in
set_option maxHeartbeats 40000000 in
theorem zc_239 : zz_ck zt_E 239 6000 zk_239 zu_239 [] = true := by decide +kernel
