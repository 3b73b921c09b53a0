/-! keepAct -/
def zs_off (l : List (Nat × Nat)) (ω0 ω : yy_O) : Prop := (∀ k j, (∀ q ∈ l, q.1 = k → q.2 ≤ j) → ω.1 k j = ω0.1 k j) ∧ ω.2 = ω0.2
theorem zs_off_uI {l : List (Nat × Nat)} {ω0 ω : yy_O} {k j b : Nat} {x : Int32} (h : zs_off l ω0 ω) (hk : (k, b) ∈ l) (hj : j < b) : zs_off l ω0 (yy_uI ω k j x) := by
  refine ⟨fun a i ha => ?_, h.2⟩
  by_cases e : a = k
  · subst e
    have := ha _ hk rfl
    rw [zh_o2 (by omega)]
    exact h.1 a i ha
  · rw [zh_o1 e]
    exact h.1 a i ha
theorem zs_o1 {k b : Nat} {ω0 ω : yy_O} (h : zs_off [(k, b)] ω0 ω) {a i : Nat} (ha : a ≠ k) : ω.1 a i = ω0.1 a i := h.1 a i (fun q hq e => by rw [List.mem_singleton.mp hq] at e; exact absurd e.symm ha)
theorem zs_o2 {k b k' b' : Nat} {ω0 ω : yy_O} (h : zs_off [(k, b), (k', b')] ω0 ω) {a i : Nat} (ha : a ≠ k) (ha' : a ≠ k') : ω.1 a i = ω0.1 a i := h.1 a i (fun q hq e => by
  rcases List.mem_cons.mp hq with e9 | e9
  · rw [e9] at e
    exact absurd e.symm ha
  · rw [List.mem_singleton.mp e9] at e
    exact absurd e.symm ha')
theorem zh_mul73 {a : Int32} (h0 : 0 ≤ a.toInt) (h1 : a.toInt ≤ 1000) : (Int32.ofInt 73 * a).toInt = 73 * a.toInt := by
  have e1 : Int32.ofInt a.toInt = a := Int32.ofInt_toInt a
  rw [← e1, ← Int32.ofInt_mul, e1]
  exact xx_ofInt (by unfold xx_lo; omega) (by unfold xx_hi; omega)
theorem zh_ix73 {a i : Int32} {c k : Nat} (ha : a.toInt = (c : Int)) (hc : c ≤ 40) (hi : i.toInt = (k : Int)) (hk : k ≤ 73) : (Int32.ofInt 73 * a + i).toInt = ((73 * c + k : Nat) : Int) ∧ (Int32.ofInt 73 * a + i).toNatClampNeg = 73 * c + k := by
  have h1 := zh_mul73 (a := a) (by omega) (by omega)
  have h2 := zh_plus (x := Int32.ofInt 73 * a) (y := i) (by omega) (by omega) (by omega) (by omega)
  have h3 := zz_natc (j := Int32.ofInt 73 * a + i) (by omega)
  constructor <;> omega
theorem zs_ka2 {kee : Nat → Int64} {R : Nat → Nat → Prop} (hR : ∀ k j, R k j) {d A c : Nat} {ω0 : yy_O} {Q : Option yy_U → yy_O → Prop} (hA : A ≤ 63) (hc : c ≤ 39) (hall : ω0.1 17 A = 1) (hac : (ω0.1 38 46).toInt = (c : Int)) (hQ : ∀ ω i, zs_off [(10, 2993)] ω0 ω → (∀ j, j ≤ c → ω.1 10 (73 * j + A) = 1) → zz_wp zt_T zt_G kee R none d zm_X7_keepAct 83 [(1, .inl i), (0, .inr (.inr 38))] [] ω Q) : ∀ (m k : Nat) (i : Int32) (ω : yy_O), k + m = 73 → i.toInt = (k : Int) → zs_off [(10, 2993)] ω0 ω → (∀ j, j < c → ω.1 10 (73 * j + A) = 1) → (A < k → ω.1 10 (73 * c + A) = 1) → zz_wp zt_T zt_G kee R none d zm_X7_keepAct 51 [(1, .inl i), (0, .inr (.inr 38))] [] ω Q := by
  intro m
  induction m with
  | zero =>
    intro k i ω hm hi ho h1 h2
    refine zz_wp_next ⟨rfl, trivial⟩ rfl ?_
    refine zz_wp_next ⟨rfl, trivial⟩ rfl ?_
    refine zz_wp_next ⟨rfl, trivial⟩ (zs_ct (t := 83) (decide_eq_true (show (Int32.ofInt 73).toInt ≤ i.toInt by rw [hi, show (Int32.ofInt 73).toInt = 73 by decide]; omega)) rfl) ?_
    refine hQ ω i ho (fun j hj => ?_)
    rcases Nat.lt_or_ge j c with h | h
    · exact h1 j h
    · rw [show j = c by omega]
      exact h2 (by omega)
  | succ m ih =>
    intro k i ω hm hi ho h1 h2
    have hac' : (ω.1 38 46).toInt = (c : Int) := by rw [zs_o1 ho (by decide)]; exact hac
    obtain ⟨e1, e2⟩ := zh_ix73 hac' (by omega) hi (by omega)
    have hin := zz_natc (j := i) (by omega)
    refine zz_wp_next ⟨rfl, trivial⟩ rfl ?_
    refine zz_wp_next ⟨rfl, trivial⟩ rfl ?_
    refine zz_wp_next ⟨rfl, trivial⟩ (zs_cf (decide_eq_false (show ¬ (Int32.ofInt 73).toInt ≤ i.toInt by rw [hi, show (Int32.ofInt 73).toInt = 73 by decide]; omega))) ?_
    refine zz_wp_next ⟨rfl, trivial⟩ rfl ?_
    refine zz_wp_next ⟨rfl, hR _ _⟩ rfl ?_
    refine zz_wp_next ⟨rfl, trivial⟩ rfl ?_
    refine zz_wp_next ⟨rfl, trivial⟩ rfl ?_
    refine zz_wp_next ⟨rfl, hR _ _⟩ rfl ?_
    refine zz_wp_next ⟨rfl, trivial⟩ rfl ?_
    refine zz_wp_next ⟨rfl, trivial⟩ rfl ?_
    refine zz_wp_next ⟨rfl, trivial⟩ rfl ?_
    refine zz_wp_next ⟨rfl, trivial⟩ rfl ?_
    refine zz_wp_next ⟨rfl, hR _ _⟩ rfl ?_
    refine zz_wp_next ⟨rfl, trivial⟩ rfl ?_
    refine zz_wp_next ⟨rfl, fun _ => hR _ _⟩ (zs_iald (n := 73) rfl rfl (zs_ix (by omega) (show i.toInt < ((73 : Nat) : Int) by omega))) ?_
    refine zz_wp_next ⟨rfl, trivial⟩ (zs_iast (n := 2993) rfl (zs_ix (show 0 ≤ (Int32.ofInt 73 * ω.1 38 46 + i).toInt by omega) (show (Int32.ofInt 73 * ω.1 38 46 + i).toInt < ((2993 : Nat) : Int) by omega))) ?_
    refine zz_wp_next ⟨rfl, trivial⟩ rfl ?_
    refine zz_wp_next ⟨rfl, trivial⟩ rfl ?_
    have hi1 := zh_one (x := i) (by omega) (by omega)
    refine ih (k + 1) _ _ (by omega) (show (i + 1).toInt = ((k + 1 : Nat) : Int) by omega) (zs_off_uI ho List.mem_cons_self (show (Int32.ofInt 73 * ω.1 38 46 + i).toNatClampNeg < 2993 by omega)) ?_ ?_
    · intro j hj
      show (yy_uI ω 10 (Int32.ofInt 73 * ω.1 38 46 + i).toNatClampNeg _).1 10 (73 * j + A) = 1
      rw [e2, zh_o2 (by omega)]
      exact h1 j hj
    · intro hk
      show (yy_uI ω 10 (Int32.ofInt 73 * ω.1 38 46 + i).toNatClampNeg (ω.1 17 i.toNatClampNeg)).1 10 (73 * c + A) = 1
      rw [e2]
      by_cases e : A = k
      · rw [e, zh_same, show i.toNatClampNeg = A by omega, zs_o1 ho (by decide)]
        exact hall
      · rw [zh_o2 (by omega)]
        exact h2 (by omega)
theorem zs_ka1 {kee : Nat → Int64} {R : Nat → Nat → Prop} (hR : ∀ k j, R k j) {d A : Nat} {ω0 : yy_O} {Q : Option yy_U → yy_O → Prop} (hA : A ≤ 63) (hQ : ∀ ω i, zs_off [(10, 2993)] ω0 ω → (∀ j, j < 39 → ω.1 10 (73 * j + A) = 1) → zz_wp zt_T zt_G kee R none d zm_X7_keepAct 39 [(1, .inl i), (0, .inr (.inr 38))] [] ω Q) : ∀ (m k : Nat) (i : Int32) (ω : yy_O), k + m = 2920 → i.toInt = (k : Int) → zs_off [(10, 2993)] ω0 ω → (∀ j, j < 39 → ω.1 10 (73 * j + A) = 1) → (k ≤ 73 * 39 + A → ω.1 10 (73 * 39 + A) = 1) → zz_wp zt_T zt_G kee R none d zm_X7_keepAct 11 [(1, .inl i), (0, .inr (.inr 38))] [] ω Q := by
  intro m
  induction m with
  | zero =>
    intro k i ω hm hi ho h1 h2
    refine zz_wp_next ⟨rfl, trivial⟩ rfl ?_
    refine zz_wp_next ⟨rfl, trivial⟩ rfl ?_
    refine zz_wp_next ⟨rfl, trivial⟩ (zs_ct (t := 39) (decide_eq_true (show (Int32.ofInt 2920).toInt ≤ i.toInt by rw [hi, show (Int32.ofInt 2920).toInt = 2920 by decide]; omega)) rfl) ?_
    exact hQ ω i ho h1
  | succ m ih =>
    intro k i ω hm hi ho h1 h2
    have hin := zz_natc (j := i) (by omega)
    have t73 : (Int32.ofInt 73).toInt = 73 := by decide
    have e1 := zh_plus (x := i) (y := Int32.ofInt 73) (by omega) (by omega) (by omega) (by omega)
    have e2 := zz_natc (j := i + Int32.ofInt 73) (by omega)
    refine zz_wp_next ⟨rfl, trivial⟩ rfl ?_
    refine zz_wp_next ⟨rfl, trivial⟩ rfl ?_
    refine zz_wp_next ⟨rfl, trivial⟩ (zs_cf (decide_eq_false (show ¬ (Int32.ofInt 2920).toInt ≤ i.toInt by rw [hi, show (Int32.ofInt 2920).toInt = 2920 by decide]; omega))) ?_
    refine zz_wp_next ⟨rfl, trivial⟩ rfl ?_
    refine zz_wp_next ⟨rfl, hR _ _⟩ rfl ?_
    refine zz_wp_next ⟨rfl, trivial⟩ rfl ?_
    refine zz_wp_next ⟨rfl, trivial⟩ rfl ?_
    refine zz_wp_next ⟨rfl, hR _ _⟩ rfl ?_
    refine zz_wp_next ⟨rfl, trivial⟩ rfl ?_
    refine zz_wp_next ⟨rfl, trivial⟩ rfl ?_
    refine zz_wp_next ⟨rfl, trivial⟩ rfl ?_
    refine zz_wp_next ⟨rfl, fun _ => hR _ _⟩ (zs_iald (n := 2993) rfl rfl (zs_ix (show 0 ≤ (i + Int32.ofInt 73).toInt by omega) (show (i + Int32.ofInt 73).toInt < ((2993 : Nat) : Int) by omega))) ?_
    refine zz_wp_next ⟨rfl, trivial⟩ (zs_iast (n := 2993) rfl (zs_ix (by omega) (show i.toInt < ((2993 : Nat) : Int) by omega))) ?_
    refine zz_wp_next ⟨rfl, trivial⟩ rfl ?_
    refine zz_wp_next ⟨rfl, trivial⟩ rfl ?_
    have hi1 := zh_one (x := i) (by omega) (by omega)
    refine ih (k + 1) _ _ (by omega) (show (i + 1).toInt = ((k + 1 : Nat) : Int) by omega) (zs_off_uI ho List.mem_cons_self (by omega)) ?_ ?_
    · intro j hj
      show (yy_uI ω 10 i.toNatClampNeg (ω.1 10 (i + Int32.ofInt 73).toNatClampNeg)).1 10 (73 * j + A) = 1
      by_cases e : 73 * j + A = k
      · rw [show i.toNatClampNeg = 73 * j + A by omega, zh_same, show (i + Int32.ofInt 73).toNatClampNeg = 73 * (j + 1) + A by omega]
        rcases Nat.lt_or_ge (j + 1) 39 with h | h
        · exact h1 _ h
        · rw [show j + 1 = 39 by omega]
          exact h2 (by omega)
      · rw [zh_o2 (by omega)]
        exact h1 j hj
    · intro hk
      show (yy_uI ω 10 i.toNatClampNeg _).1 10 (73 * 39 + A) = 1
      rw [zh_o2 (by omega)]
      exact h2 (by omega)
/-- keepAct: behind it one more is kept -/
theorem zs_keepAct {kee : Nat → Int64} {R : Nat → Nat → Prop} (hR : ∀ k j, R k j) {d A c : Nat} {ω0 : yy_O} {Q : Option yy_U → yy_O → Prop} (hA : A ≤ 63) (hc : c ≤ 40) (hall : ω0.1 17 A = 1) (hac : (ω0.1 38 46).toInt = (c : Int)) (hw : ∀ j, j < c → ω0.1 10 (73 * j + A) = 1) (hQ : ∀ (ω : yy_O) (c' : Nat), c' ≤ 39 → (∀ k j, (k = 10 → 2993 ≤ j) → (k = 38 → j ≠ 46 ∧ j ≠ 47) → ω.1 k j = ω0.1 k j) → ω.2 = ω0.2 → (∀ j, j ≤ c' → ω.1 10 (73 * j + A) = 1) → (ω.1 38 46).toInt = (c' : Int) + 1 → ω.1 38 47 = 0 → Q none ω) : zz_wp zt_T zt_G kee R none d zm_X7_keepAct 0 (yy_arg 0 [.inr (.inr 38)]) [] ω0 Q := by
  have z0 : (Int32.ofInt 0).toInt = ((0 : Nat) : Int) := by decide
  have fin : ∀ {ω1 : yy_O} {c' : Nat} {ls : yy_L}, (ls = [(0, .inr (.inr 38))] ∨ ∃ i, ls = [(1, .inl i), (0, .inr (.inr 38))]) → c' ≤ 39 → (∀ k j, (k = 10 → 2993 ≤ j) → (k = 38 → j ≠ 46) → ω1.1 k j = ω0.1 k j) → ω1.2 = ω0.2 → (ω1.1 38 46).toInt = (c' : Int) → (∀ j, j < c' → ω1.1 10 (73 * j + A) = 1) → zz_wp zt_T zt_G kee R none d zm_X7_keepAct 49 ls [] ω1 Q := by
    intro ω1 c' ls hls hc' ho1 ho2 hac' hw'
    have go : ∀ i : Int32, i.toInt = ((0 : Nat) : Int) → zz_wp zt_T zt_G kee R none d zm_X7_keepAct 51 [(1, .inl i), (0, .inr (.inr 38))] [] ω1 Q := by
      intro i hi
      refine zs_ka2 hR (ω0 := ω1) hA hc' (by rw [ho1 _ _ (by intro h; cases h) (by intro h; cases h)]; exact hall) hac' ?_ 73 0 i ω1 (by omega) hi ⟨fun _ _ _ => rfl, rfl⟩ hw' (fun h => absurd h (Nat.not_lt_zero _))
      intro ω2 i2 ho3 hw2
      have h46 : (ω2.1 38 46).toInt = (c' : Int) := by rw [zs_o1 ho3 (by decide)]; exact hac'
      have hp := zh_one (x := ω2.1 38 46) (by omega) (by omega)
      refine zz_wp_next ⟨rfl, trivial⟩ rfl ?_
      refine zz_wp_next ⟨rfl, trivial⟩ rfl ?_
      refine zz_wp_next ⟨rfl, hR _ _⟩ rfl ?_
      refine zz_wp_next ⟨rfl, trivial⟩ rfl ?_
      refine zz_wp_next ⟨rfl, trivial⟩ rfl ?_
      refine zz_wp_next ⟨rfl, trivial⟩ rfl ?_
      refine zz_wp_next ⟨rfl, trivial⟩ rfl ?_
      refine zz_wp_next ⟨rfl, trivial⟩ rfl ?_
      refine zz_wp_next ⟨rfl, trivial⟩ rfl ?_
      refine zz_wp_ret ⟨rfl, trivial⟩ rfl ?_
      refine hQ _ c' hc' ?_ (by show ω2.2 = _; rw [ho3.2]; exact ho2) ?_ ?_ ?_
      · intro k j hk hj
        show (yy_uI (yy_uI ω2 38 46 _) 38 47 _).1 k j = _
        by_cases e : k = 38
        · obtain ⟨j1, j2⟩ := hj e
          rw [zh_o2 j2, zh_o2 j1, zs_o1 ho3 (by rw [e]; decide)]
          exact ho1 k j hk (fun _ => j1)
        · rw [zh_o1 e, zh_o1 e, ho3.1 _ _ (fun q hq e8 => by rw [List.mem_singleton.mp hq] at e8 ⊢; exact hk e8.symm)]
          exact ho1 k j hk (fun h => absurd h e)
      · intro j hj
        show (yy_uI (yy_uI ω2 38 46 _) 38 47 _).1 10 _ = 1
        rw [zh_o1 (by decide), zh_o1 (by decide)]
        exact hw2 j hj
      · show ((yy_uI (yy_uI ω2 38 46 _) 38 47 _).1 38 46).toInt = _
        rw [zh_o2 (by decide), zh_same]
        show (ω2.1 38 46 + 1).toInt = _
        omega
      · show (yy_uI (yy_uI ω2 38 46 _) 38 47 _).1 38 47 = 0
        rw [zh_same]
        rfl
    rcases hls with e | ⟨i, e⟩
    · subst e
      refine zz_wp_next ⟨rfl, trivial⟩ rfl ?_
      refine zz_wp_next ⟨rfl, trivial⟩ rfl ?_
      exact go _ z0
    · subst e
      refine zz_wp_next ⟨rfl, trivial⟩ rfl ?_
      refine zz_wp_next ⟨rfl, trivial⟩ rfl ?_
      exact go _ z0
  refine zz_wp_next ⟨rfl, trivial⟩ rfl ?_
  refine zz_wp_next ⟨rfl, hR _ _⟩ rfl ?_
  refine zz_wp_next ⟨rfl, trivial⟩ rfl ?_
  by_cases e : (ω0.1 38 46).toInt = 40
  · refine zz_wp_next ⟨rfl, trivial⟩ (zs_cf (decide_eq_false (show ¬ (ω0.1 38 46).toInt ≠ (Int32.ofInt 40).toInt by rw [show (Int32.ofInt 40).toInt = 40 by decide]; exact fun h => h e))) ?_
    refine zz_wp_next ⟨rfl, trivial⟩ rfl ?_
    refine zz_wp_next ⟨rfl, trivial⟩ rfl ?_
    refine zs_ka1 hR (ω0 := ω0) hA ?_ 2920 0 _ ω0 (by omega) z0 ⟨fun _ _ _ => rfl, rfl⟩ (fun j hj => hw j (by omega)) (fun _ => hw 39 (by omega))
    intro ω i ho hw1
    have h46 : (ω.1 38 46).toInt = 40 := by rw [zs_o1 ho (by decide)]; exact e
    have hs : (ω.1 38 46 - 1).toInt = 39 := by
      have := zh_sub (x := ω.1 38 46) (y := 1) (by omega) (by omega) (by decide) (by decide)
      rw [this, h46]
      decide
    refine zz_wp_next ⟨rfl, trivial⟩ rfl ?_
    refine zz_wp_next ⟨rfl, trivial⟩ rfl ?_
    refine zz_wp_next ⟨rfl, hR _ _⟩ rfl ?_
    refine zz_wp_next ⟨rfl, trivial⟩ rfl ?_
    refine zz_wp_next ⟨rfl, trivial⟩ rfl ?_
    refine zz_wp_next ⟨rfl, trivial⟩ rfl ?_
    refine fin (Or.inr ⟨i, rfl⟩) (c' := 39) (by omega) ?_ ho.2 ?_ ?_
    · intro k j hk hj
      show (yy_uI ω 38 46 _).1 k j = _
      by_cases e9 : k = 38
      · rw [zh_o2 (hj e9), zs_o1 ho (by rw [e9]; decide)]
      · rw [zh_o1 e9, ho.1 _ _ (fun q hq e8 => by rw [List.mem_singleton.mp hq] at e8 ⊢; exact hk e8.symm)]
    · show ((yy_uI ω 38 46 _).1 38 46).toInt = _
      rw [zh_same]
      exact hs
    · intro j hj
      show (yy_uI ω 38 46 _).1 10 _ = 1
      rw [zh_o1 (by decide)]
      exact hw1 j hj
  · refine zz_wp_next ⟨rfl, trivial⟩ (zs_ct (t := 49) (decide_eq_true (show (ω0.1 38 46).toInt ≠ (Int32.ofInt 40).toInt by rw [show (Int32.ofInt 40).toInt = 40 by decide]; exact e)) rfl) ?_
    exact fin (Or.inl rfl) (c' := c) (by omega) (fun _ _ _ _ => rfl) rfl hac hw
/-! swapAll -/
theorem zs_swap {kee : Nat → Int64} {R : Nat → Nat → Prop} (hR : ∀ k j, R k j) {d A c n : Nat} {ω0 : yy_O} {Q : Option yy_U → yy_O → Prop} (hA : A ≤ 63) (hc : c < n) (hn : n ≤ 40) (hac : (ω0.1 38 46).toInt = (c : Int)) (hQ : ∀ ω, zs_off [(10, 2993), (17, 73)] ω0 ω → (∀ j, j < n → ω.1 10 (73 * j + A) = 1) → ω.1 17 A = 1 → Q none ω) : ∀ (m k : Nat) (i : Int32) (ω : yy_O) (ls : yy_L), k + m = 73 → i.toInt = (k : Int) → (ls = [(1, .inl i), (0, .inr (.inr 38))] ∨ ∃ v, ls = [(1, .inl i), (2, .inl v), (0, .inr (.inr 38))]) → zs_off [(10, 2993), (17, 73)] ω0 ω → (∀ j, j < n → ω.1 10 (73 * j + A) = 1) → ω.1 17 A = 1 → zz_wp zt_T zt_G kee R none d zm_X7_swapAll 2 ls [] ω Q := by
  intro m
  induction m with
  | zero =>
    intro k i ω ls hm hi hls ho h1 h2
    have hh : (Int32.ofInt 73).toInt ≤ i.toInt := by rw [hi, show (Int32.ofInt 73).toInt = 73 by decide]; omega
    rcases hls with e | ⟨v, e⟩ <;> subst e
    · refine zz_wp_next ⟨rfl, trivial⟩ rfl ?_
      refine zz_wp_next ⟨rfl, trivial⟩ rfl ?_
      refine zz_wp_next ⟨rfl, trivial⟩ (zs_ct (t := 56) (decide_eq_true hh) rfl) ?_
      exact zz_wp_ret ⟨rfl, trivial⟩ rfl (hQ ω ho h1 h2)
    · refine zz_wp_next ⟨rfl, trivial⟩ rfl ?_
      refine zz_wp_next ⟨rfl, trivial⟩ rfl ?_
      refine zz_wp_next ⟨rfl, trivial⟩ (zs_ct (t := 56) (decide_eq_true hh) rfl) ?_
      exact zz_wp_ret ⟨rfl, trivial⟩ rfl (hQ ω ho h1 h2)
  | succ m ih =>
    intro k i ω ls hm hi hls ho h1 h2
    have hac' : (ω.1 38 46).toInt = (c : Int) := by rw [zs_o2 ho (by decide) (by decide)]; exact hac
    obtain ⟨e1, e2⟩ := zh_ix73 hac' (by omega) hi (by omega)
    have hin := zz_natc (j := i) (by omega)
    have hi1 := zh_one (x := i) (by omega) (by omega)
    have bi : yy_ix i 73 = true := zs_ix (by omega) (by omega)
    have bx : yy_ix (Int32.ofInt 73 * ω.1 38 46 + i) 2993 = true := zs_ix (by omega) (by omega)
    have next : ∀ x : Unit, zz_wp zt_T zt_G kee R none d zm_X7_swapAll 2 [(1, .inl (i + 1)), (2, .inl (ω.1 10 (Int32.ofInt 73 * ω.1 38 46 + i).toNatClampNeg)), (0, .inr (.inr 38))] [] (yy_uI (yy_uI ω 10 (Int32.ofInt 73 * ω.1 38 46 + i).toNatClampNeg (ω.1 17 i.toNatClampNeg)) 17 i.toNatClampNeg (ω.1 10 (Int32.ofInt 73 * ω.1 38 46 + i).toNatClampNeg)) Q := by
      intro _
      refine ih (k + 1) _ _ _ (by omega) (by omega) (Or.inr ⟨_, rfl⟩) (zs_off_uI (zs_off_uI ho List.mem_cons_self (by omega)) (List.mem_cons_of_mem _ List.mem_cons_self) (by omega)) ?_ ?_
      · intro j hj
        rw [zh_o1 (by decide), e2]
        by_cases e : 73 * j + A = 73 * c + k
        · rw [e, zh_same, show i.toNatClampNeg = A by omega]
          exact h2
        · rw [zh_o2 e]
          exact h1 j hj
      · by_cases e : A = k
        · rw [show i.toNatClampNeg = A by omega, zh_same, e2, show 73 * c + k = 73 * c + A by omega]
          exact h1 c hc
        · rw [zh_o2 (by omega), zh_o1 (by decide)]
          exact h2
    rcases hls with e | ⟨v, e⟩ <;> subst e
    · skip
      refine zz_wp_next ⟨rfl, trivial⟩ rfl ?_
      refine zz_wp_next ⟨rfl, trivial⟩ rfl ?_
      refine zz_wp_next ⟨rfl, trivial⟩ (zs_cf (decide_eq_false (show ¬ (Int32.ofInt 73).toInt ≤ i.toInt by rw [hi, show (Int32.ofInt 73).toInt = 73 by decide]; omega))) ?_
      refine zz_wp_next ⟨rfl, trivial⟩ rfl ?_
      refine zz_wp_next ⟨rfl, hR _ _⟩ rfl ?_
      refine zz_wp_next ⟨rfl, trivial⟩ rfl ?_
      refine zz_wp_next ⟨rfl, trivial⟩ rfl ?_
      refine zz_wp_next ⟨rfl, hR _ _⟩ rfl ?_
      refine zz_wp_next ⟨rfl, trivial⟩ rfl ?_
      refine zz_wp_next ⟨rfl, trivial⟩ rfl ?_
      refine zz_wp_next ⟨rfl, trivial⟩ rfl ?_
      refine zz_wp_next ⟨rfl, fun _ => hR _ _⟩ (zs_iald (n := 2993) rfl rfl bx) ?_
      refine zz_wp_next ⟨rfl, trivial⟩ rfl ?_
      refine zz_wp_next ⟨rfl, trivial⟩ rfl ?_
      refine zz_wp_next ⟨rfl, hR _ _⟩ rfl ?_
      refine zz_wp_next ⟨rfl, trivial⟩ rfl ?_
      refine zz_wp_next ⟨rfl, trivial⟩ rfl ?_
      refine zz_wp_next ⟨rfl, hR _ _⟩ rfl ?_
      refine zz_wp_next ⟨rfl, trivial⟩ rfl ?_
      refine zz_wp_next ⟨rfl, trivial⟩ rfl ?_
      refine zz_wp_next ⟨rfl, trivial⟩ rfl ?_
      refine zz_wp_next ⟨rfl, trivial⟩ rfl ?_
      refine zz_wp_next ⟨rfl, hR _ _⟩ rfl ?_
      refine zz_wp_next ⟨rfl, trivial⟩ rfl ?_
      refine zz_wp_next ⟨rfl, fun _ => hR _ _⟩ (zs_iald (n := 73) rfl rfl bi) ?_
      refine zz_wp_next ⟨rfl, trivial⟩ (zs_iast (n := 2993) rfl bx) ?_
      refine zz_wp_next ⟨rfl, trivial⟩ rfl ?_
      refine zz_wp_next ⟨rfl, hR _ _⟩ rfl ?_
      refine zz_wp_next ⟨rfl, trivial⟩ rfl ?_
      refine zz_wp_next ⟨rfl, trivial⟩ rfl ?_
      refine zz_wp_next ⟨rfl, trivial⟩ (zs_iast (n := 73) rfl bi) ?_
      refine zz_wp_next ⟨rfl, trivial⟩ rfl ?_
      refine zz_wp_next ⟨rfl, trivial⟩ rfl ?_
      exact next ()
    · skip
      refine zz_wp_next ⟨rfl, trivial⟩ rfl ?_
      refine zz_wp_next ⟨rfl, trivial⟩ rfl ?_
      refine zz_wp_next ⟨rfl, trivial⟩ (zs_cf (decide_eq_false (show ¬ (Int32.ofInt 73).toInt ≤ i.toInt by rw [hi, show (Int32.ofInt 73).toInt = 73 by decide]; omega))) ?_
      refine zz_wp_next ⟨rfl, trivial⟩ rfl ?_
      refine zz_wp_next ⟨rfl, hR _ _⟩ rfl ?_
      refine zz_wp_next ⟨rfl, trivial⟩ rfl ?_
      refine zz_wp_next ⟨rfl, trivial⟩ rfl ?_
      refine zz_wp_next ⟨rfl, hR _ _⟩ rfl ?_
      refine zz_wp_next ⟨rfl, trivial⟩ rfl ?_
      refine zz_wp_next ⟨rfl, trivial⟩ rfl ?_
      refine zz_wp_next ⟨rfl, trivial⟩ rfl ?_
      refine zz_wp_next ⟨rfl, fun _ => hR _ _⟩ (zs_iald (n := 2993) rfl rfl bx) ?_
      refine zz_wp_next ⟨rfl, trivial⟩ rfl ?_
      refine zz_wp_next ⟨rfl, trivial⟩ rfl ?_
      refine zz_wp_next ⟨rfl, hR _ _⟩ rfl ?_
      refine zz_wp_next ⟨rfl, trivial⟩ rfl ?_
      refine zz_wp_next ⟨rfl, trivial⟩ rfl ?_
      refine zz_wp_next ⟨rfl, hR _ _⟩ rfl ?_
      refine zz_wp_next ⟨rfl, trivial⟩ rfl ?_
      refine zz_wp_next ⟨rfl, trivial⟩ rfl ?_
      refine zz_wp_next ⟨rfl, trivial⟩ rfl ?_
      refine zz_wp_next ⟨rfl, trivial⟩ rfl ?_
      refine zz_wp_next ⟨rfl, hR _ _⟩ rfl ?_
      refine zz_wp_next ⟨rfl, trivial⟩ rfl ?_
      refine zz_wp_next ⟨rfl, fun _ => hR _ _⟩ (zs_iald (n := 73) rfl rfl bi) ?_
      refine zz_wp_next ⟨rfl, trivial⟩ (zs_iast (n := 2993) rfl bx) ?_
      refine zz_wp_next ⟨rfl, trivial⟩ rfl ?_
      refine zz_wp_next ⟨rfl, hR _ _⟩ rfl ?_
      refine zz_wp_next ⟨rfl, trivial⟩ rfl ?_
      refine zz_wp_next ⟨rfl, trivial⟩ rfl ?_
      refine zz_wp_next ⟨rfl, trivial⟩ (zs_iast (n := 73) rfl bi) ?_
      refine zz_wp_next ⟨rfl, trivial⟩ rfl ?_
      refine zz_wp_next ⟨rfl, trivial⟩ rfl ?_
      exact next ()
