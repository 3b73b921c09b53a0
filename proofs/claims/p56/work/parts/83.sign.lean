/-! the reference's signs: what is found by a rule -/
def zs_pl (ω0 ω : yy_O) : Prop := ∀ k j, k < 2000000 → (k = 18 → 60 ≤ j) → ω.1 k j = ω0.1 k j ∧ ω.2 k j = ω0.2 k j
def zs_eq (ω0 ω : yy_O) : Prop := ∀ k j, k < 2000000 → ω.1 k j = ω0.1 k j ∧ ω.2 k j = ω0.2 k j
theorem zs_pl_tr {a b c : yy_O} (h : zs_pl a b) (g : zs_pl b c) : zs_pl a c := fun k j hk hp => ⟨(g k j hk hp).1.trans (h k j hk hp).1, (g k j hk hp).2.trans (h k j hk hp).2⟩
theorem zs_eq_pl {a b : yy_O} (h : zs_eq a b) : zs_pl a b := fun k j hk _ => h k j hk
theorem zs_pl_put {ω0 ω : yy_O} {j : Nat} {x : Int32} (h : zs_pl ω0 ω) (hj : j < 60) : zs_pl ω0 (yy_uI ω 18 j x) := by
  intro k i hk hp
  by_cases e : k = 18
  · rw [zh_o2 (by have := hp e; omega)]
    exact ⟨(h k i hk hp).1, (h k i hk hp).2⟩
  · rw [zh_o1 e]
    exact ⟨(h k i hk hp).1, (h k i hk hp).2⟩
/-- the pile, its top first -/
def zs_pm (ω : yy_O) : List Int32 → Prop
  | [] => True
  | x :: s => ω.1 18 s.length = x ∧ zs_pm ω s
theorem zs_pm_cong {ω ω' : yy_O} : ∀ {s : List Int32}, (∀ j, j < s.length → ω'.1 18 j = ω.1 18 j) → zs_pm ω s → zs_pm ω' s
  | [], _, _ => trivial
  | x :: s, h, g => ⟨by rw [h _ (by simp)]; exact g.1, zs_pm_cong (fun j hj => h j (by simp only [List.length_cons]; omega)) g.2⟩
theorem zs_pm_put {ω : yy_O} {s : List Int32} {j : Nat} {x : Int32} (hj : s.length ≤ j) (h : zs_pm ω s) : zs_pm (yy_uI ω 18 j x) s := zs_pm_cong (fun i hi => zh_o2 (by omega)) h
theorem zs_pm_0 {ω : yy_O} : ∀ {s : List Int32} (hs : s ≠ []), zs_pm ω s → ω.1 18 0 = s.getLast hs
  | [], hs, _ => absurd rfl hs
  | [x], _, h => h.1
  | x :: y :: s, _, h => by
    rw [List.getLast_cons (by simp)]
    exact zs_pm_0 (by simp) h.2
def zs_ev (ask : Int32 → Int32 → Int32) (tw : Int32 → Int32 → Int32 → Int32) (C N : Nat → Int32) (fr : Nat) : Nat → Option (List Int32)
  | 0 => some []
  | l + 1 => match zs_ev ask tw C N fr l with
    | none => none
    | some s => if C (fr + l) = 126 then (match s with
        | x :: s => some ((if x.toInt = 0 then 1 else 0) :: s)
        | [] => none) else if 97 ≤ (C (fr + l)).toInt ∧ (C (fr + l)).toInt ≤ 122 then some (ask (C (fr + l)) (N (fr + l)) :: s) else (match s with
        | b :: a :: s => some (tw (C (fr + l)) a b :: s)
        | _ => none)
theorem zp_run_pre {C : Nat → Int32} {fr : Nat} : ∀ {l m : Nat} {h : Nat}, zp_run C fr (l + m) = some h → ∃ h', zp_run C fr l = some h'
  | l, 0, h, e => ⟨h, e⟩
  | l, m + 1, h, e => by
    have e : (match zp_run C fr (l + m) with
      | none => none
      | some h => zp_st h (C (fr + (l + m)))) = some h := e
    cases e2 : zp_run C fr (l + m) with
    | none => rw [e2] at e; cases e
    | some h2 => exact zp_run_pre e2
/-- a rule that is safe has a value -/
theorem zs_ev_ok {ask : Int32 → Int32 → Int32} {tw : Int32 → Int32 → Int32 → Int32} {C N : Nat → Int32} {fr : Nat} : ∀ {l h : Nat}, zp_run C fr l = some h → ∃ s, zs_ev ask tw C N fr l = some s ∧ s.length = h ∧ (0 < l → s ≠ [])
  | 0, h, e => by
    cases e
    exact ⟨[], rfl, rfl, fun h => absurd h (Nat.lt_irrefl 0)⟩
  | l + 1, h, e => by
    have e : (match zp_run C fr l with
      | none => none
      | some h => zp_st h (C (fr + l))) = some h := e
    cases e2 : zp_run C fr l with
    | none => rw [e2] at e; cases e
    | some h2 =>
      rw [e2] at e
      have e : zp_st h2 (C (fr + l)) = some h := e
      obtain ⟨s, s1, s2, -⟩ := zs_ev_ok (ask := ask) (tw := tw) (N := N) e2
      simp only [zs_ev, s1]
      unfold zp_st at e
      split at e
      · rename_i h9
        rw [if_pos h9]
        split at e
        · cases e
          match s, s2 with
          | x :: s, s2 => exact ⟨_, rfl, s2, fun _ => by simp⟩
          | [], s2 => simp only [List.length_nil] at s2; omega
        · cases e
      · rename_i h9
        rw [if_neg h9]
        split at e
        · rename_i h8
          rw [if_pos h8]
          split at e
          · cases e
            exact ⟨_, rfl, by simp only [List.length_cons, s2], fun _ => by simp⟩
          · cases e
        · rename_i h8
          rw [if_neg h8]
          split at e
          · cases e
            match s, s2 with
            | b :: a :: s, s2 => exact ⟨_, rfl, by simp only [List.length_cons] at s2 ⊢; omega, fun _ => by simp⟩
            | [_], s2 => simp only [List.length_cons, List.length_nil] at s2; omega
            | [], s2 => simp only [List.length_nil] at s2; omega
          · cases e
/-! places that may be read -/
theorem zs_r11 : zz_cov (zt_ww 7) 38 11 := zp_cov (a := 11) (b := 11) 8 rfl (by decide) (by decide)
theorem zs_r16 : zz_cov (zt_ww 7) 38 16 := zp_cov (a := 16) (b := 16) 9 rfl (by decide) (by decide)
theorem zs_r18 : zz_cov (zt_ww 7) 38 18 := zp_cov (a := 18) (b := 18) 10 rfl (by decide) (by decide)
theorem zs_r21 : zz_cov (zt_ww 7) 38 21 := zp_cov (a := 21) (b := 21) 11 rfl (by decide) (by decide)
theorem zs_r22 : zz_cov (zt_ww 7) 38 22 := zp_cov (a := 22) (b := 22) 12 rfl (by decide) (by decide)
theorem zs_r24 : zz_cov (zt_ww 7) 38 24 := zp_cov (a := 24) (b := 24) 13 rfl (by decide) (by decide)
theorem zs_r25 : zz_cov (zt_ww 7) 38 25 := zp_cov (a := 25) (b := 25) 14 rfl (by decide) (by decide)
theorem zs_r28 : zz_cov (zt_ww 7) 38 28 := zp_cov (a := 28) (b := 28) 15 rfl (by decide) (by decide)
theorem zs_r29 : zz_cov (zt_ww 7) 38 29 := zp_cov (a := 29) (b := 29) 16 rfl (by decide) (by decide)
theorem zs_r35 : zz_cov (zt_ww 7) 38 35 := zp_cov (a := 35) (b := 35) 17 rfl (by decide) (by decide)
theorem zs_qp {j : Nat} (h : j ≤ 59) : zz_cov (zt_ww 7) 18 j := zp_cov (a := 0) (b := 59) 0 rfl (by omega) (by omega)
theorem zs_qn {j : Nat} (h : j ≤ 1119) : zz_cov (zt_ww 7) 21 j := zp_cov (a := 0) (b := 1119) 1 rfl (by omega) (by omega)
theorem zs_qc {j : Nat} (h : j ≤ 1119) : zz_cov (zt_ww 7) 22 j := zp_cov (a := 0) (b := 1119) 2 rfl (by omega) (by omega)
theorem zs_qt {j : Nat} (h : j ≤ 1) : zz_cov (zt_ww 7) 24 j := zp_cov (a := 0) (b := 1) 3 rfl (by omega) (by omega)
theorem zs_qf {j : Nat} (h : j ≤ 1) : zz_cov (zt_ww 7) 25 j := zp_cov (a := 0) (b := 1) 4 rfl (by omega) (by omega)
theorem zs_qd {j : Nat} (h : j ≤ 1) : zz_cov (zt_ww 7) 30 j := zp_cov (a := 0) (b := 1) 6 rfl (by omega) (by omega)
/-- isLetter -/
theorem zs_letter {kee : Nat → Int64} {d : Nat} {ω : yy_O} {c : Int32} {Q : Option yy_U → yy_O → Prop} {R : Nat → Nat → Prop} (h : Q (some (.inl (if 97 ≤ c.toInt ∧ c.toInt ≤ 122 then 1 else 0))) ω) : zz_wp zt_T zt_G kee R none d zm_X7_isLetter 0 (yy_arg 0 [.inl c]) [] ω Q := by
  have t97 : (Int32.ofInt 97).toInt = 97 := by decide
  have t122 : (Int32.ofInt 122).toInt = 122 := by decide
  refine zz_wp_next ⟨rfl, trivial⟩ rfl ?_
  refine zz_wp_next ⟨rfl, trivial⟩ rfl ?_
  by_cases e1 : c.toInt < 97
  · rw [if_neg (by omega)] at h
    refine zz_wp_next ⟨rfl, trivial⟩ (zs_ct (t := 16) (decide_eq_true (show c.toInt < (Int32.ofInt 97).toInt by omega)) rfl) ?_
    refine zz_wp_next ⟨rfl, trivial⟩ rfl ?_
    exact zz_wp_ret ⟨rfl, trivial⟩ rfl h
  · refine zz_wp_next ⟨rfl, trivial⟩ (zs_cf (decide_eq_false (show ¬ c.toInt < (Int32.ofInt 97).toInt by omega))) ?_
    refine zz_wp_next ⟨rfl, trivial⟩ rfl ?_
    refine zz_wp_next ⟨rfl, trivial⟩ rfl ?_
    by_cases e2 : 122 < c.toInt
    · rw [if_neg (by omega)] at h
      refine zz_wp_next ⟨rfl, trivial⟩ (zs_ct (t := 16) (decide_eq_true (show (Int32.ofInt 122).toInt < c.toInt by omega)) rfl) ?_
      refine zz_wp_next ⟨rfl, trivial⟩ rfl ?_
      exact zz_wp_ret ⟨rfl, trivial⟩ rfl h
    · rw [if_pos (by omega)] at h
      refine zz_wp_next ⟨rfl, trivial⟩ (zs_cf (decide_eq_false (show ¬ (Int32.ofInt 122).toInt < c.toInt by omega))) ?_
      refine zz_wp_next ⟨rfl, trivial⟩ rfl ?_
      refine zz_wp_next ⟨rfl, trivial⟩ rfl ?_
      exact zz_wp_ret ⟨rfl, trivial⟩ rfl h
theorem zs_run60 {C : Nat → Int32} {fr : Nat} : ∀ {l h : Nat}, zp_run C fr l = some h → h ≤ 60
  | 0, h, e => by cases e; omega
  | l + 1, h, e => by
    have e : (match zp_run C fr l with
      | none => none
      | some h => zp_st h (C (fr + l))) = some h := e
    cases e2 : zp_run C fr l with
    | none => rw [e2] at e; cases e
    | some h2 =>
      rw [e2] at e
      have e : zp_st h2 (C (fr + l)) = some h := e
      have ih := zs_run60 e2
      unfold zp_st at e
      split at e
      · split at e
        · cases e; omega
        · cases e
      · split at e
        · split at e
          · cases e; omega
          · cases e
        · split at e
          · cases e; omega
          · cases e
theorem zs_ar1 {n : Int32} {k : Nat} (hn : n.toInt = ((k + 1 : Nat) : Int)) (hk : k + 1 ≤ 60) : (n - Int32.ofInt 1).toNatClampNeg = k ∧ yy_ix (n - Int32.ofInt 1) 60 = true := by
  have h1 := zh_sub (x := n) (y := 1) (by omega) (by omega) (by decide) (by decide)
  have h2 : (n - Int32.ofInt 1).toInt = (k : Int) := by
    show (n - 1).toInt = _
    rw [h1, show (1 : Int32).toInt = 1 by decide]
    omega
  have h3 := zz_natc (j := n - Int32.ofInt 1) (by omega)
  exact ⟨by omega, zs_ix (by omega) (by omega)⟩
theorem zs_ar2 {n : Int32} {k : Nat} (hn : n.toInt = ((k + 2 : Nat) : Int)) (hk : k + 2 ≤ 60) : (n + Int32.ofInt (-1)).toInt = ((k + 1 : Nat) : Int) ∧ (n + Int32.ofInt (-1)).toNatClampNeg = k + 1 ∧ yy_ix (n + Int32.ofInt (-1)) 60 = true := by
  have h1 : (n + Int32.ofInt (-1)).toInt = ((k + 1 : Nat) : Int) := by
    rw [zh_add (by unfold xx_lo; omega) (by unfold xx_hi; omega)]
    omega
  have h3 := zz_natc (j := n + Int32.ofInt (-1)) (by omega)
  exact ⟨h1, by omega, zs_ix (by omega) (by omega)⟩
theorem zs_ar0 {n : Int32} {k : Nat} (hn : n.toInt = (k : Int)) (hk : k ≤ 59) : n.toNatClampNeg = k ∧ yy_ix n 60 = true ∧ (n + 1).toInt = ((k + 1 : Nat) : Int) := by
  have h3 := zz_natc (j := n) (by omega)
  have h1 := zh_one (x := n) (by omega) (by omega)
  exact ⟨by omega, zs_ix (by omega) (by omega), by omega⟩
