/-! the law up to its loop: both constructors, by p1's engine -/
def lz_run (fuel scr : Nat) (ct : xx_T) (pc : Nat) (Z : xx_S) : xx_A := xx_exec xx_tab fuel xm_LAW scr ct pc (xx_from pc xm_LAW.2.2.2.2.2) Z.1 Z.2.1 Z.2.2.1 Z.2.2.2.1 Z.2.2.2.2.1 Z.2.2.2.2.2.1 Z.2.2.2.2.2.2
def lz_chk (fuel scr : Nat) (ct : xx_T) (pc : Nat) (Z : xx_S) : Bool := match lz_run fuel scr ct pc Z with
  | some [] => true
  | _ => false
def lz_e : xx_S := ([], ([], (0, (0, (0, ([(0, .inr (.inr (.inl (some 1000000))))], []))))))
set_option maxRecDepth 1000000 in
set_option maxHeartbeats 40000000 in
theorem lz_r0 : lz_chk 3000 0 [(16, lz_0)] 0 lz_e = true := by decide +kernel
