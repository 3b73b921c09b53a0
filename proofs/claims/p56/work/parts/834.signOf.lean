/-! signOf -/
theorem zs_bit {kee : Nat → Int64} {d : Nat} {ω : yy_O} {x k : Int32} {Q : Option yy_U → yy_O → Prop} {R : Nat → Nat → Prop} (h : Q (some (.inl (if (x >>> (k &&& 31) &&& Int32.ofInt 1).toInt = (Int32.ofInt 1).toInt then 1 else 0))) ω) : zz_wp zt_T zt_G kee R none d zm_X7_bit 0 (yy_arg 0 [.inl x, .inl k]) [] ω Q := by
  refine zz_wp_next ⟨rfl, trivial⟩ rfl ?_
  refine zz_wp_next ⟨rfl, trivial⟩ rfl ?_
  refine zz_wp_next ⟨rfl, trivial⟩ rfl ?_
  refine zz_wp_next ⟨rfl, trivial⟩ rfl ?_
  refine zz_wp_next ⟨rfl, trivial⟩ rfl ?_
  refine zz_wp_next ⟨rfl, trivial⟩ rfl ?_
  by_cases e : (x >>> (k &&& 31) &&& Int32.ofInt 1).toInt = (Int32.ofInt 1).toInt
  · rw [if_pos e] at h
    refine zz_wp_next ⟨rfl, trivial⟩ (zs_cf (decide_eq_false (show ¬ (x >>> (k &&& 31) &&& Int32.ofInt 1).toInt ≠ (Int32.ofInt 1).toInt from fun h9 => h9 e))) ?_
    refine zz_wp_next ⟨rfl, trivial⟩ rfl ?_
    refine zz_wp_next ⟨rfl, trivial⟩ rfl ?_
    exact zz_wp_ret ⟨rfl, trivial⟩ rfl h
  · rw [if_neg e] at h
    refine zz_wp_next ⟨rfl, trivial⟩ (zs_ct (t := 13) (decide_eq_true (show (x >>> (k &&& 31) &&& Int32.ofInt 1).toInt ≠ (Int32.ofInt 1).toInt from e)) rfl) ?_
    refine zz_wp_next ⟨rfl, trivial⟩ rfl ?_
    exact zz_wp_ret ⟨rfl, trivial⟩ rfl h
/-- alike but for the pile and askWorld -/
def zs_sg (ω0 ω : yy_O) : Prop := (∀ k j, k < 2000000 → (k = 18 → 60 ≤ j) → (k = 38 → j ≠ 35) → ω.1 k j = ω0.1 k j) ∧ ∀ k j, k < 2000000 → (k = 18 → 60 ≤ j) → ω.2 k j = ω0.2 k j
theorem zs_sg_rf (ω : yy_O) : zs_sg ω ω := ⟨fun _ _ _ _ _ => rfl, fun _ _ _ _ => rfl⟩
theorem zs_sg_tr {a b c : yy_O} (h : zs_sg a b) (g : zs_sg b c) : zs_sg a c := ⟨fun k j h1 h2 h3 => (g.1 k j h1 h2 h3).trans (h.1 k j h1 h2 h3), fun k j h1 h2 => (g.2 k j h1 h2).trans (h.2 k j h1 h2)⟩
theorem zs_sg_pl {ω ω1 : yy_O} {w : Int32} (h : zs_sg ω ω1) : zs_pl (yy_uI ω 38 35 w) (yy_uI ω1 38 35 w) := by
  intro k j hk hp
  refine ⟨?_, h.2 k j hk hp⟩
  by_cases e : k = 38
  · subst e
    by_cases e2 : j = 35
    · subst e2
      rw [zh_same, zh_same]
    · rw [zh_o2 e2, zh_o2 e2]
      exact h.1 38 j hk hp (fun _ => e2)
  · rw [zh_o1 e, zh_o1 e]
    exact h.1 k j hk hp (fun h => absurd h e)
theorem zs_pl_sg {ω ω' : yy_O} {w : Int32} (h : zs_pl (yy_uI ω 38 35 w) ω') : zs_sg ω ω' := by
  refine ⟨fun k j hk hp h3 => ?_, fun k j hk hp => (h k j hk hp).2⟩
  rw [(h k j hk hp).1]
  by_cases e : k = 38
  · subst e
    exact zh_o2 (h3 rfl)
  · exact zh_o1 e
theorem zs_safe_uI {b : Nat} {ω : yy_O} {w : Int32} (h : zp_safe b ω) : zp_safe b (yy_uI ω 38 35 w) := zp_safe_kept h (fun i _ _ => zh_o1 (by decide)) (zh_o1 (by decide)) (zh_o1 (by decide))
theorem zs_sgn {kee : Nat → Int64} (hA : zz_KOK zt_E (zp_phi kee) kee zk_4) (hT : zz_KOK zt_E (zp_phi kee) kee zk_5) (hB : zz_KOK zt_E (zp_phi kee) kee zk_2) {ω : yy_O} (hty : zz_tyd zt_tau ω) (s0 : zp_safe 0 ω) (s1 : zp_safe 1 ω) : ∃ E : Prop, ∀ w : Int32, ∃ (mode : Bool) (c : Int32), (mode = false → E) ∧ ∀ (ω1 : yy_O) (Q : Option yy_U → yy_O → Prop), zs_sg ω ω1 → zz_tyd zt_tau ω1 → (∀ ω', zs_sg ω ω' → zz_tyd zt_tau ω' → (E → ∀ j, ω'.1 18 j = ω1.1 18 j) → Q (some (.inl (if mode = true then c else ω1.1 18 0))) ω') → zz_wp zt_T zt_G kee (zz_cov (zt_ww 7)) none 5 zm_X7_signOf 0 (yy_arg 0 [.inr (.inr 38), .inl w]) [] ω1 Q := by
  have tb := hty 38 29
  have b0 : 0 ≤ (ω.1 38 29).toInt := tb.1
  have b1 : (ω.1 38 29).toInt ≤ 1 := tb.2
  obtain ⟨b, hb⟩ : ∃ b : Nat, (ω.1 38 29).toInt = (b : Int) := ⟨(ω.1 38 29).toInt.toNat, by omega⟩
  have hb1 : b ≤ 1 := by omega
  have sb : zp_safe b ω := by
    rcases Nat.lt_or_ge b 1 with h | h
    · rw [show b = 0 by omega]; exact s0
    · rw [show b = 1 by omega]; exact s1
  have t25 : 0 ≤ (ω.1 25 b).toInt := (hty 25 b).1
  -- the start of signOf
  have start : ∀ {w : Int32} {ω1 : yy_O} {Q : Option yy_U → yy_O → Prop}, zs_sg ω ω1 → zz_wp zt_T zt_G kee (zz_cov (zt_ww 7)) none 5 zm_X7_signOf 18 [(0, .inr (.inr 38)), (1, .inl w)] [.inl (if (ω.1 30 b >>> (Int32.ofInt 0 &&& 31) &&& Int32.ofInt 1).toInt = (Int32.ofInt 1).toInt then 1 else 0)] (yy_uI ω1 38 35 w) Q → zz_wp zt_T zt_G kee (zz_cov (zt_ww 7)) none 5 zm_X7_signOf 0 (yy_arg 0 [.inr (.inr 38), .inl w]) [] ω1 Q := by
    intro w ω1 Q hsg h
    have eb : (yy_uI ω1 38 35 w).1 38 29 = ω.1 38 29 := by rw [zh_o2 (by decide)]; exact hsg.1 38 29 (by decide) (fun h => absurd h (by decide)) (fun _ => by decide)
    have bn : (ω.1 38 29).toNatClampNeg = b := by have := zz_natc b0; omega
    have bx : yy_ix (ω.1 38 29) 2 = true := zs_ix b0 (by omega)
    have et : (yy_uI ω1 38 35 w).1 30 b = ω.1 30 b := by rw [zh_o1 (by decide)]; exact hsg.1 30 b (by decide) (fun h => absurd h (by decide)) (fun h => absurd h (by decide))
    refine zz_wp_next ⟨rfl, trivial⟩ rfl ?_
    refine zz_wp_next ⟨rfl, trivial⟩ rfl ?_
    refine zz_wp_next ⟨rfl, trivial⟩ rfl ?_
    refine zz_wp_next ⟨rfl, trivial⟩ rfl ?_
    refine zz_wp_next ⟨rfl, zs_r16⟩ rfl ?_
    refine zz_wp_next ⟨rfl, trivial⟩ rfl ?_
    refine zz_wp_next ⟨rfl, zs_r29⟩ rfl ?_
    generalize hω : yy_uI ω1 38 35 w = ω2 at eb et h ⊢
    rw [← eb] at bn bx
    refine zz_wp_next ⟨rfl, fun _ => zs_qd (show (ω2.1 38 29).toNatClampNeg ≤ 1 by omega)⟩ (zs_iald (k := 30) (n := 2) (x := ω2.1 38 29) rfl rfl bx) ?_
    rw [bn, et]
    refine zz_wp_next ⟨rfl, trivial⟩ rfl ?_
    refine zz_wp_call (M' := zm_X7_bit) ⟨rfl, trivial⟩ rfl rfl rfl (zs_bit (Q := fun v ω' => v = some (.inl (if (ω.1 30 b >>> (Int32.ofInt 0 &&& 31) &&& Int32.ofInt 1).toInt = (Int32.ofInt 1).toInt then 1 else 0)) ∧ ω' = ω2) ⟨rfl, rfl⟩) ?_
    intro v ω' h9
    rw [h9.1, h9.2]
    exact h
  have tyA : ∀ {ω1 : yy_O} {w : Int32}, zz_tyd zt_tau ω1 → zz_tyd zt_tau (yy_uI ω1 38 35 w) := fun h => zh_tyd h (xx_rng _).1 (xx_rng _).2
  by_cases eT : (ω.1 30 b >>> (Int32.ofInt 0 &&& 31) &&& Int32.ofInt 1).toInt = (Int32.ofInt 1).toInt
  · -- by the rule
    refine ⟨(ω.1 24 b).toInt ≤ (ω.1 25 b).toInt, fun w => ?_⟩
    obtain ⟨ask, hask⟩ := zs_mkask hA (tyA (w := w) hty)
    obtain ⟨tw, htw⟩ := zs_mktw hT hty
    have u24 : (yy_uI ω 38 35 w).1 24 b = ω.1 24 b := zh_o1 (by decide)
    have u25 : (yy_uI ω 38 35 w).1 25 b = ω.1 25 b := zh_o1 (by decide)
    have u29 : (yy_uI ω 38 35 w).1 38 29 = ω.1 38 29 := zh_o2 (by decide)
    have go : ∀ {ω1 : yy_O} {Q : Option yy_U → yy_O → Prop}, zs_sg ω ω1 → zz_wp zt_T zt_G kee (zz_cov (zt_ww 7)) none 4 zm_X7_comes 0 (yy_arg 0 [.inr (.inr 38)]) [] (yy_uI ω1 38 35 w) (fun v ω' => (∃ x, v = some (.inl x)) ∧ Q v ω') → zz_wp zt_T zt_G kee (zz_cov (zt_ww 7)) none 5 zm_X7_signOf 0 (yy_arg 0 [.inr (.inr 38), .inl w]) [] ω1 Q := by
      intro ω1 Q hsg h
      refine start hsg ?_
      rw [if_pos eT]
      generalize yy_uI ω1 38 35 w = ω2 at h ⊢
      refine zz_wp_next ⟨rfl, trivial⟩ (zs_iff (show yy_rel .eq (1 : Int32).toInt 0 = false by decide)) ?_
      refine zz_wp_next ⟨rfl, trivial⟩ rfl ?_
      refine zz_wp_call (M' := zm_X7_comes) ⟨rfl, trivial⟩ rfl rfl rfl h ?_
      rintro v ω' ⟨⟨x, rfl⟩, hq⟩
      refine zz_wp_next ⟨rfl, trivial⟩ rfl ?_
      exact zz_wp_ret ⟨rfl, trivial⟩ rfl hq
    rcases zs_comes hask htw (by rw [u29]; exact hb) hb1 (zs_safe_uI sb) (by rw [u25]; exact t25) with ⟨e, h⟩ | ⟨e, r, h⟩
    · rw [u24, u25] at e
      refine ⟨false, 0, fun _ => e, fun ω1 Q hsg ty1 hq => go hsg (h _ _ (zs_sg_pl hsg) (tyA ty1) ⟨⟨_, rfl⟩, ?_⟩)⟩
      rw [show (yy_uI ω1 38 35 w).1 18 0 = ω1.1 18 0 from zh_o1 (by decide)]
      exact hq _ (zs_pl_sg (zs_sg_pl hsg)) (tyA ty1) (fun _ j => zh_o1 (by decide))
    · rw [u24, u25] at e
      refine ⟨true, r, (fun h9 => by cases h9), fun ω1 Q hsg ty1 hq => go hsg (h _ _ (zs_sg_pl hsg) (tyA ty1) (fun ω' p1 p2 => ⟨⟨_, rfl⟩, ?_⟩))⟩
      exact hq ω' (zs_pl_sg p1) p2 (fun h9 => absurd h9 e)
  · refine ⟨True, fun w => ?_⟩
    obtain ⟨r, h⟩ := zs_mkbits hB hty w
    refine ⟨true, r, fun _ => trivial, fun ω1 Q hsg ty1 hq => start hsg ?_⟩
    rw [if_neg eT]
    have h := h (yy_uI ω1 38 35 w) (tyA ty1)
    have fin : ∀ ω', zz_tyd zt_tau ω' → zs_eq (yy_uI ω1 38 35 w) ω' → Q (some (.inl r)) ω' := by
      intro ω' q1 q2
      exact hq ω' (zs_pl_sg (zs_pl_tr (zs_sg_pl hsg) (zs_eq_pl q2))) q1 (fun _ j => by rw [(q2 18 j (by decide)).1]; exact zh_o1 (by decide))
    generalize yy_uI ω1 38 35 w = ω2 at h fin ⊢
    refine zz_wp_next ⟨rfl, trivial⟩ (zs_ift (t := 28) (show yy_rel .eq (0 : Int32).toInt 0 = true by decide) rfl) ?_
    refine zz_wp_next ⟨rfl, trivial⟩ rfl ?_
    refine zz_wp_call (M' := zm_X7_bitsOf) ⟨rfl, trivial⟩ rfl rfl rfl h ?_
    rintro v ω' ⟨rfl, q1, q2⟩
    exact zz_wp_ret ⟨rfl, trivial⟩ rfl (fin ω' q1 q2)
theorem zs_sg_fr {D : zz_D} {ω ω' : yy_O} (h : zs_sg ω ω') (h1 : ∀ j : Nat, j ≤ 59 → zz_cov D 18 j) (h2 : zz_cov D 38 35) (h3 : ∀ k j, 2000000 ≤ k → zz_cov D k j) : zz_fr D ω ω' := by
  intro k j hn
  have hk : k < 2000000 := by
    apply Classical.byContradiction
    intro h9
    exact hn (h3 k j (by omega))
  have hp : k = 18 → 60 ≤ j := by
    intro e
    subst e
    apply Classical.byContradiction
    intro h9
    exact hn (h1 j (by omega))
  exact ⟨h.1 k j hk hp (fun e e2 => hn (by rw [e, e2]; exact h2)), h.2 k j hk hp⟩
theorem zs_sfn {kee : Nat → Int64} {w r : Int32} {ω : yy_O} (h : zz_wp zt_T zt_G kee (zz_cov (zt_ww 7)) none 5 zm_X7_signOf 0 (yy_arg 0 [.inr (.inr 38), .inl w]) [] ω (fun v _ => v = some (.inl r))) : zp_fn kee (zt_ww 7) zt_iSgn zt_dSgn [.inr (.inr 38), .inl w] r ω := by
  obtain ⟨n, v, ω', h1, h2⟩ := h
  subst h2
  exact ⟨zm_X7_signOf, n, ω', rfl, h1⟩
theorem zj_168 (kee : Nat → Int64) (hA : zz_KOK zt_E (zp_phi kee) kee zk_4) (hT : zz_KOK zt_E (zp_phi kee) kee zk_5) (hB : zz_KOK zt_E (zp_phi kee) kee zk_2) : zz_KOK zt_E (zp_phi kee) kee zk_168 := by
  intro ρ ω as d hd ho
  obtain ⟨as', rfl, h0⟩ := zh_ref1 ho.2.2.2.2.2.2
  obtain ⟨w, as', rfl, h1, h2⟩ := zh_int1 ho.1 h0 rfl
  have := zz_stm_nil h2
  subst this
  have s0 : zp_safe 0 ω := by
    obtain ⟨as, a1, a2⟩ := ho.2.2.2.2.1 _ (List.mem_of_getElem? (i := 0) rfl)
    cases as with
    | nil => exact a2
    | cons => cases a1
  have s1 : zp_safe 1 ω := by
    obtain ⟨as, a1, a2⟩ := ho.2.2.2.2.1 _ (List.mem_of_getElem? (i := 1) rfl)
    cases as with
    | nil => exact a2
    | cons => cases a1
  obtain ⟨E, hE⟩ := zs_sgn hA hT hB ho.2.2.1 s0 s1
  obtain ⟨mode, c, m1, m2⟩ := hE w
  refine ⟨zm_X7_signOf, rfl, zz_wp_d hd (zz_wp_R (fun k j _ => zh_rd3 k j) (m2 ω _ (zs_sg_rf ω) ho.2.2.1 ?_))⟩
  intro ω' g1 g2 g3
  generalize hr : (if mode = true then c else ω.1 18 0) = r
  have same : (if mode = true then c else ω'.1 18 0) = r := by
    cases mode with
    | true => exact hr
    | false =>
      have hr : ω.1 18 0 = r := hr
      show ω'.1 18 0 = r
      rw [g3 (m1 rfl) 0]
      exact hr
  obtain ⟨f1, f2, f3⟩ := zz_csm_new (y := (.negSucc 2147483647, (.ofNat 2147483647, (none, none)))) (x := r) ho.1 ⟨(xx_rng r).1, (xx_rng r).2, (fun t c h => by cases h), fun f h => by cases h⟩
  refine ⟨_, List.mem_cons_self, _, f1, ⟨f2, ho.2.1, g2, (fun q h => by cases h), ?_, (fun i v h => by cases h), zz_stm_cons f3 rfl⟩, zs_sg_fr g1 (fun j hj => zp_cov (a := 0) (b := 59) 1 rfl (by omega) (by omega)) (zp_cov (a := 35) (b := 35) 2 rfl (by decide) (by decide)) (fun k j hk => ⟨_, List.mem_cons_self, Or.inr ⟨rfl, hk⟩⟩)⟩
  intro f hf
  rw [List.mem_singleton.mp hf]
  refine ⟨[w, r], ?_, ?_⟩
  · have e1 : zz_val (ρ.1 ++ [r], ρ.2) (.inr (.inl (0, 0))) = some (.inl w) := zz_val_ex f1 h1
    have e2 : zz_val (ρ.1 ++ [r], ρ.2) (.inr (.inl (1, 0))) = some (.inl r) := f3
    show [zz_val (ρ.1 ++ [r], ρ.2) (.inr (.inl (0, 0))), zz_val (ρ.1 ++ [r], ρ.2) (.inr (.inl (1, 0)))] = _
    rw [e1, e2]
    rfl
  · exact zs_sfn (m2 ω' _ g1 g2 (fun _ _ _ _ => by rw [same]))
theorem zj_170 (kee : Nat → Int64) (hA : zz_KOK zt_E (zp_phi kee) kee zk_4) (hT : zz_KOK zt_E (zp_phi kee) kee zk_5) (hB : zz_KOK zt_E (zp_phi kee) kee zk_2) : zz_KOK zt_E (zp_phi kee) kee zk_170 := by
  intro ρ ω as d hd ho
  obtain ⟨as', rfl, h0⟩ := zh_ref1 ho.2.2.2.2.2.2
  obtain ⟨w, as', rfl, h1, h2⟩ := zh_int1 ho.1 h0 rfl
  have := zz_stm_nil h2
  subst this
  have s0 : zp_safe 0 ω := by
    obtain ⟨as, a1, a2⟩ := ho.2.2.2.2.1 _ (List.mem_of_getElem? (i := 0) rfl)
    cases as with
    | nil => exact a2
    | cons => cases a1
  have s1 : zp_safe 1 ω := by
    obtain ⟨as, a1, a2⟩ := ho.2.2.2.2.1 _ (List.mem_of_getElem? (i := 1) rfl)
    cases as with
    | nil => exact a2
    | cons => cases a1
  obtain ⟨t, r0, k1, k2, k3⟩ := zl_2 (ho.2.2.2.2.1 _ (List.mem_of_getElem? (i := 2) rfl))
  obtain ⟨M9, n9, ω9, hM9, h9⟩ := (show zp_fn kee (zt_ww 7) zt_iSgn zt_dSgn [.inr (.inr 38), .inl t] r0 ω from k3)
  have hM9 : some zm_X7_signOf = some M9 := hM9
  cases hM9
  obtain ⟨E, hE⟩ := zs_sgn hA hT hB ho.2.2.1 s0 s1
  obtain ⟨mode, c, m1, m2⟩ := hE w
  obtain ⟨mode2, c2, n1, n2⟩ := hE t
  have r0e : (if mode2 = true then c2 else ω.1 18 0) = r0 := by
    obtain ⟨n, v, ω', q1, q2⟩ := n2 ω (fun v _ => v = some (.inl (if mode2 = true then c2 else ω.1 18 0))) (zs_sg_rf ω) ho.2.2.1 (fun _ _ _ _ => rfl)
    have := (yy_tr_fun q1 h9).1
    rw [q2] at this
    cases this
    rfl
  refine ⟨zm_X7_signOf, rfl, zz_wp_d hd (zz_wp_R (fun k j _ => zh_rd3 k j) (m2 ω _ (zs_sg_rf ω) ho.2.2.1 ?_))⟩
  intro ω' g1 g2 g3
  generalize hr : (if mode = true then c else ω.1 18 0) = r
  have same : (if mode = true then c else ω'.1 18 0) = r := by
    cases mode with
    | true => exact hr
    | false =>
      have hr : ω.1 18 0 = r := hr
      show ω'.1 18 0 = r
      rw [g3 (m1 rfl) 0]
      exact hr
  have same2 : (if mode2 = true then c2 else ω'.1 18 0) = r0 := by
    cases mode2 with
    | true => exact r0e
    | false =>
      have r0e : ω.1 18 0 = r0 := r0e
      show ω'.1 18 0 = r0
      rw [g3 (n1 rfl) 0]
      exact r0e
  obtain ⟨f1, f2, f3⟩ := zz_csm_new (y := (.negSucc 2147483647, (.ofNat 2147483647, (none, none)))) (x := r) ho.1 ⟨(xx_rng r).1, (xx_rng r).2, (fun t c h => by cases h), fun f h => by cases h⟩
  refine ⟨_, List.mem_cons_self, _, f1, ⟨f2, ho.2.1, g2, (fun q h => by cases h), ?_, (fun i v h => by cases h), zz_stm_cons f3 rfl⟩, zs_sg_fr g1 (fun j hj => zp_cov (a := 0) (b := 59) 1 rfl (by omega) (by omega)) (zp_cov (a := 35) (b := 35) 2 rfl (by decide) (by decide)) (fun k j hk => ⟨_, List.mem_cons_self, Or.inr ⟨rfl, hk⟩⟩)⟩
  have e1 : zz_val (ρ.1 ++ [r], ρ.2) (.inr (.inl (0, 0))) = some (.inl w) := zz_val_ex f1 h1
  have e2 : zz_val (ρ.1 ++ [r], ρ.2) (.inr (.inl (3, 0))) = some (.inl r) := f3
  have e3 : zz_val (ρ.1 ++ [r], ρ.2) (.inr (.inl (1, 0))) = some (.inl t) := zz_val_ex f1 k1
  have e4 : zz_val (ρ.1 ++ [r], ρ.2) (.inr (.inl (2, 0))) = some (.inl r0) := zz_val_ex f1 k2
  intro f hf
  rcases List.mem_cons.mp hf with e | e
  · rw [e]
    refine ⟨[w, r], ?_, zs_sfn (m2 ω' _ g1 g2 (fun _ _ _ _ => by rw [same]))⟩
    show [zz_val (ρ.1 ++ [r], ρ.2) (.inr (.inl (0, 0))), zz_val (ρ.1 ++ [r], ρ.2) (.inr (.inl (3, 0)))] = _
    rw [e1, e2]
    rfl
  · rw [List.mem_singleton.mp e]
    refine ⟨[t, r0], ?_, zs_sfn (n2 ω' _ g1 g2 (fun _ _ _ _ => by rw [same2]))⟩
    show [zz_val (ρ.1 ++ [r], ρ.2) (.inr (.inl (1, 0))), zz_val (ρ.1 ++ [r], ρ.2) (.inr (.inl (2, 0)))] = _
    rw [e3, e4]
    rfl
