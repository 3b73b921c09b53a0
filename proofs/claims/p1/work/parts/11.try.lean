set_option maxRecDepth 1000000 in
set_option maxHeartbeats 4000000 in
theorem xx_t1 : (xx_exec xx_tab 3000 xm_X7_init 0 [] 0 xm_X7_init.2.2.2.2.2 [] [(0, .inr (7, xx_def 7))] 1 0 0 [(0, .inr (.inr (.inl (some 0))))] []).isSome = true := by decide +kernel
