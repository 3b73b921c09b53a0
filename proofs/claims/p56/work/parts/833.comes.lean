/-! a pure method's answer at all memories alike -/
theorem zs_pure {kee : Nat → Int64} {t d0 : Nat} {cs cs' : zz_C} {vs : List zz_V} {vr : zz_V} {D : zz_D} {as : List yy_U} (hK : zz_KOK zt_E (zp_phi kee) kee (t, (d0, ((cs, (0, ([], ([], ([], vs))))), ([(cs', (0, ([], ([], ([], [vr])))))], D))))) (hr : zz_has cs' vr = true) (hp : ∃ ρ : zz_P, zz_csm ρ cs ∧ ρ.2.length = 0 ∧ zz_stm ρ vs as) {ω0 : yy_O} (h0 : zz_tyd zt_tau ω0) : ∃ r : Int32, ∀ (ω : yy_O) (d : Nat), d0 ≤ d → zz_tyd zt_tau ω → yy_ag (zz_rd D) ω0 ω → ∃ M, zt_T[t]? = some M ∧ zz_wp zt_T zt_G kee (zz_rd D) none d M 0 (yy_arg 0 as) [] ω (fun v ω' => v = some (.inl r) ∧ zz_tyd zt_tau ω' ∧ zz_fr D ω ω') := by
  obtain ⟨ρ, p1, p2, p3⟩ := hp
  have mk : ∀ ω, zz_tyd zt_tau ω → zz_ok zt_tau (zp_phi kee) ρ ω cs 0 [] [] [] vs [] as := fun ω hω => ⟨p1, p2, hω, (fun q h => by cases h), (fun f h => by cases h), (fun i v h => by cases h), p3⟩
  have one : ∀ ω, zz_tyd zt_tau ω → ∃ M n r ω', zt_T[t]? = some M ∧ yy_tr zt_T zt_G kee (zz_rd D) n none d0 M 0 (yy_arg 0 as) [] ω (some (.inl r)) ω' ∧ zz_tyd zt_tau ω' ∧ zz_fr D ω ω' := by
    intro ω hω
    obtain ⟨M, hM, n, v, ω', h1, o, ho, ρ', hex, hok, hfr⟩ := hK ρ ω as d0 (Nat.le_refl _) (mk ω hω)
    have ho := List.mem_singleton.mp ho
    subst ho
    have hok : zz_ok zt_tau (zp_phi kee) ρ' ω' cs' 0 [] [] [] [vr] [] v.toList := hok
    obtain ⟨r, hrv⟩ := zz_has_val hok.1 hr
    obtain ⟨u, s, e4, e5, e6⟩ := zz_stm_inv hok.2.2.2.2.2.2
    rw [hrv] at e5
    cases e5
    have := zz_stm_nil e6
    subst this
    have hvr : v = some (.inl r) := by
      cases v with
      | none => cases e4
      | some w => cases e4; rfl
    subst hvr
    exact ⟨M, n, r, ω', hM, h1, hok.2.2.1, hfr⟩
  obtain ⟨M, n, r, ω', hM, h1, -, -⟩ := one ω0 h0
  refine ⟨r, fun ω d hd hω hag => ?_⟩
  obtain ⟨M2, n2, r2, ω2, hM2, g1, g2, g3⟩ := one ω hω
  rw [hM] at hM2
  cases hM2
  obtain ⟨ω3, k1, -⟩ := yy_tr_lock h1 hag
  have := (yy_tr_fun k1 g1).1
  cases this
  exact ⟨M, hM, n2, some (.inl r), ω2, yy_tr_mono (fun _ _ h => h) (Nat.le_refl _) hd g1, rfl, g2, g3⟩
theorem zs_csmF : ∀ xs : List Int32, zz_csm (xs, []) (xs.map (fun _ => (.negSucc 2147483647, (.ofNat 2147483647, (none, none))))) := by
  intro xs
  refine ⟨by rw [List.length_map], ?_⟩
  intro k y x hk hx
  rw [List.getElem?_map] at hk
  have hx : xs[k]? = some x := hx
  rw [hx] at hk
  cases hk
  exact ⟨(xx_rng x).1, (xx_rng x).2, (fun t c h => by cases h), fun f h => by cases h⟩
theorem zs_v0 {xs : List Int32} {k : Nat} {x : Int32} (h : xs[k]? = some x) : zz_val (xs, []) (.inr (.inl (k, 0))) = some (.inl x) := by
  simp only [zz_val, h]
  show some (Sum.inl (x + Int32.ofInt 0)) = _
  congr 2
  exact Int32.add_zero x
theorem zs_nocov {D : zz_D} (hD : ∀ q ∈ D, 2000000 ≤ q.1) {k j : Nat} (hk : k < 2000000) : ¬ zz_cov D k j := by
  rintro ⟨q, hq, h⟩
  have := hD q hq
  rcases h with ⟨h1, -, -⟩ | ⟨-, h2⟩
  · omega
  · omega
theorem zs_fr_eq {D : zz_D} (hD : ∀ q ∈ D, 2000000 ≤ q.1) {ω ω' : yy_O} (h : zz_fr D ω ω') : zs_eq ω ω' := fun k j hk => h k j (zs_nocov hD hk)
/-- what asked reads -/
theorem zs_askR {k j : Nat} (h : zz_rd zk_4.2.2.2.2 k j) : zz_cov (zt_ww 7) k j ∧ k < 2000000 ∧ k ≠ 18 := by
  obtain ⟨q, hq, h⟩ := h
  have hq : q ∈ [((2000028 : Nat), ((0 : Int), (11 : Int))), (2000035, (0, 1)), (2000038, (11, 11)), (2000038, (18, 18)), (2000038, (29, 29)), (2000038, (35, 35))] := hq
  have cov : ∀ (i : Nat) (k0 : Nat) (a b : Int), (zt_ww 7)[i]? = some (k0, (a, b)) → q = (2000000 + k0, (a, b)) → k0 ≠ 18 → k0 < 1000000 → zz_cov (zt_ww 7) k j ∧ k < 2000000 ∧ k ≠ 18 := by
    intro i k0 a b hi e h18 hk
    subst e
    rcases h with ⟨h1, h2, h3⟩ | ⟨h1, h2⟩
    · have h1 : 2000000 + k0 = 2000000 + k := h1
      have : k0 = k := by omega
      subst this
      exact ⟨zp_cov i hi h2 h3, by omega, h18⟩
    · have h1 : 2000000 + k0 = 3000000 := h1
      omega
  simp only [List.mem_cons, List.not_mem_nil, or_false] at hq
  rcases hq with e | e | e | e | e | e
  · exact cov 5 28 0 11 rfl e (by decide) (by decide)
  · exact cov 7 35 0 1 rfl e (by decide) (by decide)
  · exact cov 8 38 11 11 rfl e (by decide) (by decide)
  · exact cov 10 38 18 18 rfl e (by decide) (by decide)
  · exact cov 16 38 29 29 rfl e (by decide) (by decide)
  · exact cov 17 38 35 35 rfl e (by decide) (by decide)
theorem zs_mkask {kee : Nat → Int64} (hK : zz_KOK zt_E (zp_phi kee) kee zk_4) {ω0 : yy_O} (h0 : zz_tyd zt_tau ω0) : ∃ ask, zs_hask kee 3 ω0 ask := by
  have one : ∀ c n : Int32, ∃ r : Int32, ∀ (ω : yy_O) (d : Nat), 2 ≤ d → zz_tyd zt_tau ω → yy_ag (zz_rd zk_4.2.2.2.2) ω0 ω → ∃ M, zt_T[zk_4.1]? = some M ∧ zz_wp zt_T zt_G kee (zz_rd zk_4.2.2.2.2) none d M 0 (yy_arg 0 [.inr (.inr 38), .inl c, .inl n]) [] ω (fun v ω' => v = some (.inl r) ∧ zz_tyd zt_tau ω' ∧ zz_fr zk_4.2.2.2.2 ω ω') := by
    intro c n
    refine zs_pure (vr := .inr (.inl (2, 0))) hK rfl ⟨([c, n], []), zs_csmF [c, n], rfl, ?_⟩ h0
    exact zz_stm_cons rfl (zz_stm_cons (zs_v0 (k := 0) rfl) (zz_stm_cons (zs_v0 (k := 1) rfl) rfl))
  refine ⟨fun c n => Classical.choose (one c n), ?_⟩
  intro c n ω hty hpl
  obtain ⟨M, hM, h⟩ := Classical.choose_spec (one c n) ω 3 (by decide) hty (fun k j hr => by
    obtain ⟨-, h2, h3⟩ := zs_askR hr
    have := hpl k j h2 (fun e => absurd e h3)
    exact ⟨this.1.symm, this.2.symm⟩)
  have hM : some zm_X7_asked = some M := hM
  cases hM
  refine zz_wp_R (fun k j hr => (zs_askR hr).1) (zz_wp_imp h ?_)
  rintro v ω' ⟨h1, h2, h3⟩
  refine ⟨h1, h2, zs_fr_eq ?_ h3⟩
  intro q hq
  have hq : q ∈ [((2000028 : Nat), ((0 : Int), (11 : Int))), (2000035, (0, 1)), (2000038, (11, 11)), (2000038, (18, 18)), (2000038, (29, 29)), (2000038, (35, 35))] := hq
  simp only [List.mem_cons, List.not_mem_nil, or_false] at hq
  rcases hq with e | e | e | e | e | e <;> rw [e] <;> decide
theorem zs_mktw {kee : Nat → Int64} (hK : zz_KOK zt_E (zp_phi kee) kee zk_5) {ω0 : yy_O} (h0 : zz_tyd zt_tau ω0) : ∃ tw, zs_htw kee 3 tw := by
  have one : ∀ c a b : Int32, ∃ r : Int32, ∀ (ω : yy_O) (d : Nat), 0 ≤ d → zz_tyd zt_tau ω → yy_ag (zz_rd []) ω0 ω → ∃ M, zt_T[zk_5.1]? = some M ∧ zz_wp zt_T zt_G kee (zz_rd []) none d M 0 (yy_arg 0 [.inl c, .inl a, .inl b]) [] ω (fun v ω' => v = some (.inl r) ∧ zz_tyd zt_tau ω' ∧ zz_fr [] ω ω') := by
    intro c a b
    refine zs_pure (vr := .inr (.inl (3, 0))) hK rfl ⟨([c, a, b], []), zs_csmF [c, a, b], rfl, ?_⟩ h0
    exact zz_stm_cons (zs_v0 (k := 0) rfl) (zz_stm_cons (zs_v0 (k := 1) rfl) (zz_stm_cons (zs_v0 (k := 2) rfl) rfl))
  have no : ∀ {k j : Nat}, ¬ zz_rd [] k j := fun ⟨_, h, _⟩ => by cases h
  refine ⟨fun c a b => Classical.choose (one c a b), ?_⟩
  intro c a b ω hty
  obtain ⟨M, hM, h⟩ := Classical.choose_spec (one c a b) ω 3 (by decide) hty (fun k j hr => absurd hr no)
  have hM : some zm_X7_two = some M := hM
  cases hM
  refine zz_wp_R (fun k j hr => absurd hr no) (zz_wp_imp h ?_)
  rintro v ω' ⟨h1, h2, h3⟩
  exact ⟨h1, h2, zs_fr_eq (fun q hq => by cases hq) h3⟩
theorem zs_mkbits {kee : Nat → Int64} (hK : zz_KOK zt_E (zp_phi kee) kee zk_2) {ω0 : yy_O} (h0 : zz_tyd zt_tau ω0) (w : Int32) : ∃ r : Int32, ∀ ω, zz_tyd zt_tau ω → zz_wp zt_T zt_G kee (zz_cov (zt_ww 7)) none 4 zm_X7_bitsOf 0 (yy_arg 0 [.inl w]) [] ω (fun v ω' => v = some (.inl r) ∧ zz_tyd zt_tau ω' ∧ zs_eq ω ω') := by
  obtain ⟨r, h⟩ := zs_pure (as := [.inl w]) (vr := .inr (.inl (1, 0))) hK rfl ⟨([w], []), zs_csmF [w], rfl, zz_stm_cons (zs_v0 (k := 0) rfl) rfl⟩ h0
  have no : ∀ {k j : Nat}, ¬ zz_rd [] k j := fun ⟨_, h, _⟩ => by cases h
  refine ⟨r, fun ω hty => ?_⟩
  obtain ⟨M, hM, h⟩ := h ω 4 (by decide) hty (fun k j hr => absurd hr no)
  have hM : some zm_X7_bitsOf = some M := hM
  cases hM
  refine zz_wp_R (fun k j hr => absurd hr no) (zz_wp_imp h ?_)
  rintro v ω' ⟨h1, h2, h3⟩
  exact ⟨h1, h2, zs_fr_eq (fun q hq => by cases hq) h3⟩
/-! comes -/
theorem zs_comes {kee : Nat → Int64} {ω0 : yy_O} {b : Nat} {ask : Int32 → Int32 → Int32} {tw : Int32 → Int32 → Int32 → Int32} (hask : zs_hask kee 3 ω0 ask) (htw : zs_htw kee 3 tw) (hb : (ω0.1 38 29).toInt = (b : Int)) (hb1 : b ≤ 1) (hs : zp_safe b ω0) (h0 : 0 ≤ (ω0.1 25 b).toInt) : ((ω0.1 24 b).toInt ≤ (ω0.1 25 b).toInt ∧ ∀ (ω : yy_O) (Q : Option yy_U → yy_O → Prop), zs_pl ω0 ω → zz_tyd zt_tau ω → Q (some (.inl (ω.1 18 0))) ω → zz_wp zt_T zt_G kee (zz_cov (zt_ww 7)) none 4 zm_X7_comes 0 (yy_arg 0 [.inr (.inr 38)]) [] ω Q) ∨ (¬ (ω0.1 24 b).toInt ≤ (ω0.1 25 b).toInt ∧ ∃ r : Int32, ∀ (ω : yy_O) (Q : Option yy_U → yy_O → Prop), zs_pl ω0 ω → zz_tyd zt_tau ω → (∀ ω', zs_pl ω0 ω' → zz_tyd zt_tau ω' → Q (some (.inl r)) ω') → zz_wp zt_T zt_G kee (zz_cov (zt_ww 7)) none 4 zm_X7_comes 0 (yy_arg 0 [.inr (.inr 38)]) [] ω Q) := by
  have start : ∀ {ω : yy_O} {Q : Option yy_U → yy_O → Prop}, zs_pl ω0 ω → zz_wp zt_T zt_G kee (zz_cov (zt_ww 7)) none 4 zm_X7_comes 12 [(2, .inl (ω0.1 25 b)), (1, .inl 0), (0, .inr (.inr 38))] [] ω Q → zz_wp zt_T zt_G kee (zz_cov (zt_ww 7)) none 4 zm_X7_comes 0 (yy_arg 0 [.inr (.inr 38)]) [] ω Q := by
    intro ω Q hpl h
    obtain ⟨bx, bn⟩ := zs_bank hb hb1 hpl
    have ef : ω.1 25 (ω.1 38 29).toNatClampNeg = ω0.1 25 b := by rw [bn]; exact (hpl 25 b (by decide) (fun h => absurd h (by decide))).1
    refine zz_wp_next ⟨rfl, trivial⟩ rfl ?_
    refine zz_wp_next ⟨rfl, trivial⟩ rfl ?_
    refine zz_wp_next ⟨rfl, trivial⟩ rfl ?_
    refine zz_wp_next ⟨rfl, zs_r21⟩ rfl ?_
    refine zz_wp_next ⟨rfl, trivial⟩ rfl ?_
    refine zz_wp_next ⟨rfl, zs_r29⟩ rfl ?_
    refine zz_wp_next ⟨rfl, fun _ => zs_qf (by omega)⟩ (zs_iald (k := 25) (n := 2) rfl rfl bx) ?_
    rw [ef]
    refine zz_wp_next ⟨rfl, trivial⟩ rfl ?_
    exact h
  by_cases e : (ω0.1 24 b).toInt ≤ (ω0.1 25 b).toInt
  · refine Or.inl ⟨e, fun ω Q hpl hty hq => start hpl ?_⟩
    obtain ⟨bx, bn⟩ := zs_bank hb hb1 hpl
    have et : ω.1 24 (ω.1 38 29).toNatClampNeg = ω0.1 24 b := by rw [bn]; exact (hpl 24 b (by decide) (fun h => absurd h (by decide))).1
    exact zs_headX (d := 3) bx (by omega) (by rw [et]; exact e) hq (Or.inl rfl)
  · rcases hs with hs | ⟨h, fr, l, a1, a2, a3, a4, a5⟩
    · exact absurd hs e
    · obtain ⟨s, s1, s2, s3⟩ := zs_ev_ok (ask := ask) (tw := tw) (N := ω0.1 21) a5
      have hne := s3 (by omega)
      refine Or.inr ⟨e, s.getLast hne, fun ω Q hpl hty hq => start hpl ?_⟩
      refine zs_loop (d := 3) hask htw hb hb1 a2 (by omega) a5 ?_ l 0 _ _ [] ω _ (by omega) (by omega) (by decide) rfl rfl trivial hpl hty (Or.inl rfl)
      intro ω' s' e1 e2 e3 e4
      rw [s1] at e1
      cases e1
      rw [zs_pm_0 hne e2]
      exact hq ω' e3 e4
