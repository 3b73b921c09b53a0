/-! pure methods' contracts -/
theorem zh_pure {kee : Nat → Int64} {t d N : Nat} {cs : zz_C} {vs : List zz_V} {lo hi : Int} {D : zz_D} (hN : cs.length = N) (run : ∀ (ρ : zz_P) (ω : yy_O) (as : List yy_U), zz_ok zt_tau (zp_phi kee) ρ ω cs 0 [] [] [] vs [] as → ∃ M, zt_T[t]? = some M ∧ zz_wp zt_T zt_G kee (zz_rd D) none d M 0 (yy_arg 0 as) [] ω (fun v ω' => ∃ r : Int32, v = some (.inl r) ∧ ω' = ω ∧ lo ≤ r.toInt ∧ r.toInt ≤ hi)) :
    zz_KOK zt_E (zp_phi kee) kee (t, (d, ((cs, (0, ([], ([], ([], vs))))), ([(cs ++ [(lo, (hi, (none, none)))], (0, ([], ([], ([], [.inr (.inl (N, 0))])))))], D)))) := by
  intro ρ ω as d' hd hok
  have hok : zz_ok zt_tau (zp_phi kee) ρ ω cs 0 [] [] [] vs [] as := hok
  obtain ⟨M, hM, hwp⟩ := run ρ ω as hok
  refine ⟨M, hM, zz_wp_d hd (zz_wp_imp hwp ?_)⟩
  rintro v ω' ⟨r, rfl, rfl, h1, h2⟩
  obtain ⟨e1, e2, e3⟩ := zz_csm_new (y := (lo, (hi, (none, none)))) (x := r) hok.1 ⟨h1, h2, (fun t c h => by cases h), fun f h => by cases h⟩
  rw [hN] at e3
  exact ⟨_, List.mem_cons_self, _, e1, ⟨e2, hok.2.1, hok.2.2.1, (fun q h => by cases h), (fun f h => by cases h), (fun i v h => by cases h), zz_stm_cons e3 rfl⟩, fun _ _ _ => ⟨rfl, rfl⟩⟩
theorem zh_int1 {ρ : zz_P} {cs : zz_C} {v : zz_V} {vs : List zz_V} {as : List yy_U} (hc : zz_csm ρ cs) (h : zz_stm ρ (v :: vs) as) (hv : zz_has cs v = true) : ∃ x as', as = .inl x :: as' ∧ zz_val ρ v = some (.inl x) ∧ zz_stm ρ vs as' := by
  obtain ⟨u, s, rfl, e1, e2⟩ := zz_stm_inv h
  obtain ⟨x, hx⟩ := zz_has_val hc hv
  rw [hx] at e1
  cases e1
  exact ⟨x, s, rfl, hx, e2⟩
theorem zh_ref1 {ρ : zz_P} {k : Nat} {vs : List zz_V} {as : List yy_U} (h : zz_stm ρ (.inr (.inr (.inl k)) :: vs) as) : ∃ as', as = .inr (.inr k) :: as' ∧ zz_stm ρ vs as' := by
  obtain ⟨u, s, rfl, e1, e2⟩ := zz_stm_inv h
  cases e1
  exact ⟨s, rfl, e2⟩
theorem zh_full (x : Int32) : (.negSucc 2147483647 : Int) ≤ x.toInt ∧ x.toInt ≤ .ofNat 2147483647 := xx_rng x
theorem zh_bits (kee : Nat → Int64) {t : Nat} (ht : zt_T[t]? = some zm_X7_bitsOf) : zz_KOK zt_E (zp_phi kee) kee (t, (0, (([(.negSucc 2147483647, (.ofNat 2147483647, (none, none)))], (0, ([], ([], ([], [.inr (.inl (0, .ofNat 0))]))))), ([([(.negSucc 2147483647, (.ofNat 2147483647, (none, none))), (.negSucc 2147483647, (.ofNat 2147483647, (none, none)))], (0, ([], ([], ([], [.inr (.inl (1, .ofNat 0))])))))], [])))) := by
  refine zh_pure (cs := [(.negSucc 2147483647, (.ofNat 2147483647, (none, none)))]) (N := 1) rfl ?_
  intro ρ ω as ho
  obtain ⟨x, as', rfl, h1, h2⟩ := zh_int1 ho.1 ho.2.2.2.2.2.2 rfl
  have := zz_stm_nil h2
  subst this
  refine ⟨_, ht, ?_⟩
  refine zz_wp_next ⟨rfl, trivial⟩ rfl ?_
  refine zz_wp_next ⟨rfl, trivial⟩ rfl ?_
  refine zz_wp_next ⟨rfl, trivial⟩ rfl ?_
  refine zz_wp_next ⟨rfl, trivial⟩ rfl ?_
  exact zs_bits (s := x) (fun r => ⟨r, rfl, rfl, zh_full r⟩) (x.toBitVec.toNat + 1) x 0 (Nat.lt_succ_self _)
theorem zh_div (kee : Nat → Int64) {t : Nat} {D : zz_D} (ht : zt_T[t]? = some zm_X7_divisor) : zz_KOK zt_E (zp_phi kee) kee (t, (0, (([(.ofNat 1, (.ofNat 2147483647, (none, none))), (.negSucc 2147483647, (.ofNat 2147483647, (none, none)))], (0, ([], ([], ([], [.inr (.inl (0, .ofNat 0)), .inr (.inl (1, .ofNat 0))]))))), ([([(.ofNat 1, (.ofNat 2147483647, (none, none))), (.negSucc 2147483647, (.ofNat 2147483647, (none, none))), (.ofNat 1, (.ofNat 2147483647, (none, none)))], (0, ([], ([], ([], [.inr (.inl (2, .ofNat 0))])))))], D)))) := by
  refine zh_pure (cs := [(.ofNat 1, (.ofNat 2147483647, (none, none))), (.negSucc 2147483647, (.ofNat 2147483647, (none, none)))]) (N := 2) rfl ?_
  intro ρ ω as ho
  obtain ⟨x, as', rfl, h1, h2⟩ := zh_int1 ho.1 ho.2.2.2.2.2.2 rfl
  obtain ⟨y, as', rfl, h3, h4⟩ := zh_int1 ho.1 h2 rfl
  have := zz_stm_nil h4
  subst this
  have hx : 1 ≤ x.toInt := (ho.1.2 0 _ x rfl (zl_s0 h1)).1
  have hq : ∀ r : Int32, 1 ≤ r.toInt → ∃ r' : Int32, (some (.inl r) : Option yy_U) = some (.inl r') ∧ ω = ω ∧ (.ofNat 1 : Int) ≤ r'.toInt ∧ r'.toInt ≤ .ofNat 2147483647 := fun r hr => ⟨r, rfl, rfl, hr, (xx_rng r).2⟩
  refine ⟨_, ht, ?_⟩
  refine zz_wp_next ⟨rfl, trivial⟩ rfl ?_
  refine zz_wp_next ⟨rfl, trivial⟩ rfl ?_
  refine zz_wp_next ⟨rfl, trivial⟩ rfl ?_
  refine zz_wp_next ⟨rfl, trivial⟩ rfl ?_
  refine zz_wp_next ⟨rfl, trivial⟩ rfl ?_
  by_cases e : y.toInt ≤ 0
  · refine zz_wp_next ⟨rfl, trivial⟩ (zs_ift (t := 21) (decide_eq_true e) rfl) ?_
    refine zz_wp_next ⟨rfl, trivial⟩ rfl ?_
    exact zz_wp_ret ⟨rfl, trivial⟩ rfl (hq _ hx)
  · refine zz_wp_next ⟨rfl, trivial⟩ (zs_iff (decide_eq_false e)) ?_
    refine zz_wp_next ⟨rfl, trivial⟩ rfl ?_
    refine zz_wp_next ⟨rfl, trivial⟩ rfl ?_
    refine zz_wp_next ⟨rfl, trivial⟩ (zs_irem (fun h => e (by rw [h]; decide))) ?_
    refine zz_wp_next ⟨rfl, trivial⟩ rfl ?_
    refine zz_wp_next ⟨rfl, trivial⟩ rfl ?_
    refine zz_wp_next ⟨rfl, trivial⟩ rfl ?_
    refine zz_wp_next ⟨rfl, trivial⟩ rfl ?_
    refine zz_wp_next ⟨rfl, trivial⟩ rfl ?_
    refine zz_wp_next ⟨rfl, trivial⟩ rfl ?_
    exact zs_div hq ((x - x / y * y).toInt.toNat + 1) _ _ _ (by omega) (by omega)
/-! the class's sameText -/
theorem zh_sub {x y : Int32} (h0 : 0 ≤ x.toInt) (h1 : x.toInt ≤ 100000) (h2 : 0 ≤ y.toInt) (h3 : y.toInt ≤ 100000) : (x - y).toInt = x.toInt - y.toInt := by
  have e1 : Int32.ofInt x.toInt = x := Int32.ofInt_toInt x
  have e2 : Int32.ofInt y.toInt = y := Int32.ofInt_toInt y
  rw [← e1, ← e2, ← Int32.ofInt_sub, e1, e2]
  exact xx_ofInt (by unfold xx_lo; omega) (by unfold xx_hi; omega)
theorem zh_plus {x y : Int32} (h0 : 0 ≤ x.toInt) (h1 : x.toInt ≤ 100000) (h2 : 0 ≤ y.toInt) (h3 : y.toInt ≤ 100000) : (x + y).toInt = x.toInt + y.toInt := by
  have e1 : Int32.ofInt x.toInt = x := Int32.ofInt_toInt x
  have e2 : Int32.ofInt y.toInt = y := Int32.ofInt_toInt y
  rw [← e1, ← e2, ← Int32.ofInt_add, e1, e2]
  exact xx_ofInt (by unfold xx_lo; omega) (by unfold xx_hi; omega)
theorem zs_same {kee : Nat → Int64} {R : Nat → Nat → Prop} (hR : ∀ k j, R k j) {d : Nat} {ω : yy_O} {f t : Int32} {Q : Option yy_U → yy_O → Prop} (f0 : 0 ≤ f.toInt) (t1 : t.toInt ≤ 1600) (F0 : 0 ≤ (ω.1 155 6).toInt) (F1 : (ω.1 155 6).toInt ≤ 1600) (T0 : 0 ≤ (ω.1 155 7).toInt) (T1 : (ω.1 155 7).toInt ≤ 1600) (he : t.toInt - f.toInt = (ω.1 155 7).toInt - (ω.1 155 6).toInt) (hQ0 : Q (some (.inl 0)) ω) (hQ1 : Q (some (.inl 1)) ω) : ∀ (m : Nat) (i : Int32), 0 ≤ i.toInt → (ω.1 155 7).toInt - (ω.1 155 6).toInt - i.toInt < (m : Int) → i.toInt ≤ 1600 → zz_wp zt_T zt_G kee R none d zm_X3_sameText 19 [(3, .inl i), (0, .inr (.inr 155)), (1, .inl f), (2, .inl t)] [] ω Q := by
  have hs := zh_sub T0 (by omega) F0 (by omega)
  intro m
  induction m with
  | zero =>
    intro i i0 hm i1
    refine zz_wp_next ⟨rfl, trivial⟩ rfl ?_
    refine zz_wp_next ⟨rfl, trivial⟩ rfl ?_
    refine zz_wp_next ⟨rfl, hR _ _⟩ rfl ?_
    refine zz_wp_next ⟨rfl, trivial⟩ rfl ?_
    refine zz_wp_next ⟨rfl, hR _ _⟩ rfl ?_
    refine zz_wp_next ⟨rfl, trivial⟩ rfl ?_
    refine zz_wp_next ⟨rfl, trivial⟩ (zs_ct (t := 62) (decide_eq_true (show (ω.1 155 7 - ω.1 155 6).toInt ≤ i.toInt by omega)) rfl) ?_
    refine zz_wp_next ⟨rfl, trivial⟩ rfl ?_
    exact zz_wp_ret ⟨rfl, trivial⟩ rfl hQ1
  | succ m ih =>
    intro i i0 hm i1
    refine zz_wp_next ⟨rfl, trivial⟩ rfl ?_
    refine zz_wp_next ⟨rfl, trivial⟩ rfl ?_
    refine zz_wp_next ⟨rfl, hR _ _⟩ rfl ?_
    refine zz_wp_next ⟨rfl, trivial⟩ rfl ?_
    refine zz_wp_next ⟨rfl, hR _ _⟩ rfl ?_
    refine zz_wp_next ⟨rfl, trivial⟩ rfl ?_
    by_cases e : (ω.1 155 7 - ω.1 155 6).toInt ≤ i.toInt
    · refine zz_wp_next ⟨rfl, trivial⟩ (zs_ct (t := 62) (decide_eq_true e) rfl) ?_
      refine zz_wp_next ⟨rfl, trivial⟩ rfl ?_
      exact zz_wp_ret ⟨rfl, trivial⟩ rfl hQ1
    · have g1 := zh_plus f0 (by omega) i0 (by omega)
      have g2 := zh_plus F0 (by omega) i0 (by omega)
      refine zz_wp_next ⟨rfl, trivial⟩ (zs_cf (decide_eq_false e)) ?_
      refine zz_wp_next ⟨rfl, trivial⟩ rfl ?_
      refine zz_wp_next ⟨rfl, hR _ _⟩ rfl ?_
      refine zz_wp_next ⟨rfl, trivial⟩ rfl ?_
      refine zz_wp_next ⟨rfl, trivial⟩ rfl ?_
      refine zz_wp_next ⟨rfl, trivial⟩ rfl ?_
      refine zz_wp_next ⟨rfl, fun _ => hR _ _⟩ (zs_bald (n := 1600) rfl rfl rfl (zs_ix (show 0 ≤ (f + i).toInt by omega) (show (f + i).toInt < ((1600 : Nat) : Int) by omega))) ?_
      refine zz_wp_next ⟨rfl, trivial⟩ rfl ?_
      refine zz_wp_next ⟨rfl, hR _ _⟩ rfl ?_
      refine zz_wp_next ⟨rfl, trivial⟩ rfl ?_
      refine zz_wp_next ⟨rfl, hR _ _⟩ rfl ?_
      refine zz_wp_next ⟨rfl, trivial⟩ rfl ?_
      refine zz_wp_next ⟨rfl, trivial⟩ rfl ?_
      refine zz_wp_next ⟨rfl, fun _ => hR _ _⟩ (zs_bald (n := 1600) rfl rfl rfl (zs_ix (show 0 ≤ (ω.1 155 6 + i).toInt by omega) (show (ω.1 155 6 + i).toInt < ((1600 : Nat) : Int) by omega))) ?_
      by_cases e2 : (ω.1 154 (f + i).toNatClampNeg).toInt = (ω.1 154 (ω.1 155 6 + i).toNatClampNeg).toInt
      · refine zz_wp_next ⟨rfl, trivial⟩ (zs_ct (t := 56) (decide_eq_true e2) rfl) ?_
        refine zz_wp_next ⟨rfl, trivial⟩ rfl ?_
        refine zz_wp_next ⟨rfl, trivial⟩ rfl ?_
        have g3 := zh_one (x := i) i0 (by omega)
        exact ih _ (show 0 ≤ (i + 1).toInt by omega) (show _ - (i + 1).toInt < (m : Int) by omega) (show (i + 1).toInt ≤ 1600 by omega)
      · refine zz_wp_next ⟨rfl, trivial⟩ (zs_cf (decide_eq_false e2)) ?_
        refine zz_wp_next ⟨rfl, trivial⟩ rfl ?_
        exact zz_wp_ret ⟨rfl, trivial⟩ rfl hQ0
theorem zh_same3 (kee : Nat → Int64) {t : Nat} {D : zz_D} (ht : zt_T[t]? = some zm_X3_sameText) (hD : ∀ k j, zz_rd D k j) : zz_KOK zt_E (zp_phi kee) kee (t, (1, (([(.ofNat 0, (.ofNat 1600, (none, none))), (.ofNat 0, (.ofNat 1600, (none, none)))], (0, ([], ([], ([], [.inr (.inr (.inl 155)), .inr (.inl (0, .ofNat 0)), .inr (.inl (1, .ofNat 0))]))))), ([([(.ofNat 0, (.ofNat 1600, (none, none))), (.ofNat 0, (.ofNat 1600, (none, none))), (.ofNat 0, (.ofNat 1, (none, none)))], (0, ([], ([], ([], [.inr (.inl (2, .ofNat 0))])))))], D)))) := by
  refine zh_pure (cs := [(.ofNat 0, (.ofNat 1600, (none, none))), (.ofNat 0, (.ofNat 1600, (none, none)))]) (N := 2) rfl ?_
  intro ρ ω as ho
  obtain ⟨as', rfl, h0⟩ := zh_ref1 ho.2.2.2.2.2.2
  obtain ⟨x, as', rfl, h1, h2⟩ := zh_int1 ho.1 h0 rfl
  obtain ⟨y, as', rfl, h3, h4⟩ := zh_int1 ho.1 h2 rfl
  have := zz_stm_nil h4
  subst this
  have x0 : 0 ≤ x.toInt := (ho.1.2 0 _ x rfl (zl_s0 h1)).1
  have x1 : x.toInt ≤ 1600 := (ho.1.2 0 _ x rfl (zl_s0 h1)).2.1
  have y0 : 0 ≤ y.toInt := (ho.1.2 1 _ y rfl (zl_s0 h3)).1
  have y1 : y.toInt ≤ 1600 := (ho.1.2 1 _ y rfl (zl_s0 h3)).2.1
  have F := ho.2.2.1 155 6
  have T := ho.2.2.1 155 7
  have F0 : 0 ≤ (ω.1 155 6).toInt := F.1
  have F1 : (ω.1 155 6).toInt ≤ 1600 := F.2
  have T0 : 0 ≤ (ω.1 155 7).toInt := T.1
  have T1 : (ω.1 155 7).toInt ≤ 1600 := T.2
  have s1 := zh_sub y0 (by omega) x0 (by omega)
  have s2 := zh_sub T0 (by omega) F0 (by omega)
  have hq0 : ∃ r : Int32, (some (.inl 0) : Option yy_U) = some (.inl r) ∧ ω = ω ∧ (.ofNat 0 : Int) ≤ r.toInt ∧ r.toInt ≤ .ofNat 1 := ⟨0, rfl, rfl, by decide, by decide⟩
  have hq1 : ∃ r : Int32, (some (.inl 1) : Option yy_U) = some (.inl r) ∧ ω = ω ∧ (.ofNat 0 : Int) ≤ r.toInt ∧ r.toInt ≤ .ofNat 1 := ⟨1, rfl, rfl, by decide, by decide⟩
  refine ⟨_, ht, ?_⟩
  refine zz_wp_next ⟨rfl, trivial⟩ rfl ?_
  refine zz_wp_next ⟨rfl, trivial⟩ rfl ?_
  refine zz_wp_next ⟨rfl, trivial⟩ rfl ?_
  refine zz_wp_next ⟨rfl, trivial⟩ rfl ?_
  refine zz_wp_next ⟨rfl, hD _ _⟩ rfl ?_
  refine zz_wp_next ⟨rfl, trivial⟩ rfl ?_
  refine zz_wp_next ⟨rfl, hD _ _⟩ rfl ?_
  refine zz_wp_next ⟨rfl, trivial⟩ rfl ?_
  by_cases e : (y - x).toInt = (ω.1 155 7 - ω.1 155 6).toInt
  · refine zz_wp_next ⟨rfl, trivial⟩ (zs_ct (t := 17) (decide_eq_true e) rfl) ?_
    refine zz_wp_next ⟨rfl, trivial⟩ rfl ?_
    refine zz_wp_next ⟨rfl, trivial⟩ rfl ?_
    have z0 : (Int32.ofInt 0).toInt = 0 := by decide
    exact zs_same hD x0 y1 F0 F1 T0 T1 (by omega) hq0 hq1 1601 _ (by rw [z0]; omega) (by rw [z0]; omega) (by rw [z0]; omega)
  · refine zz_wp_next ⟨rfl, trivial⟩ (zs_cf (decide_eq_false e)) ?_
    refine zz_wp_next ⟨rfl, trivial⟩ rfl ?_
    exact zz_wp_ret ⟨rfl, trivial⟩ rfl hq0
