/-! entailments of the reference's own -/
theorem zl_toN {x : Int32} (h : 0 ≤ x.toInt) : (x.toInt.toNat : Int) = x.toInt := by omega
theorem zl_c {c : Int} {x : Int32} {σ : zz_P} (h : zz_val σ (.inl c) = some (.inl x)) (h1 : xx_lo ≤ c) (h2 : c ≤ xx_hi) : x.toInt = c := by
  cases h
  exact xx_ofInt h1 h2
theorem zl_eqx {x : Int32} {c : Int} {y : Int32} (h : x.toInt = c) (hy : y.toInt = c) : x = y := by
  apply Int32.toInt_inj.mp
  omega
section ZQ
variable {kee : Nat → Int64} {tau : Nat → Nat → Int × Int} {Z : zz_Z}
def zl_b (b : Nat) : Prop := b = 0 ∨ b = 1
theorem zl_ee {b : Nat} (hb : zl_b b) {σ : zz_P} {ω : yy_O} {lsC : yy_L} {stC : List yy_U} {i : Nat} {p c n u w : zz_V} (ho : zz_ok tau (zp_phi kee) σ ω Z.1 Z.2.1 Z.2.2.1 Z.2.2.2.1 Z.2.2.2.2.1 Z.2.2.2.2.2 lsC stC) (h : Z.2.2.2.1[i]? = some (12 + b, [p, c, n, u, w])) : ∃ p' c' n' u' w', zz_val σ p = some (.inl p') ∧ zz_val σ c = some (.inl c') ∧ zz_val σ n = some (.inl n') ∧ zz_val σ u = some (.inl u') ∧ zz_val σ w = some (.inl w') ∧ zp_ee b p' c' n' u' w' ω := by
  obtain ⟨p', c', n', u', w', h1, h2, h3, h4, h5, h6⟩ := zl_5 (zl_at ho h)
  rcases hb with e | e <;> subst e
  · exact ⟨p', c', n', u', w', h1, h2, h3, h4, h5, h6⟩
  · exact ⟨p', c', n', u', w', h1, h2, h3, h4, h5, h6⟩
theorem zl_mkee {b : Nat} (hb : zl_b b) {σ : zz_P} {ω : yy_O} {p c n u w : zz_V} {p' c' n' u' w' : Int32} (h1 : zz_val σ p = some (.inl p')) (h2 : zz_val σ c = some (.inl c')) (h3 : zz_val σ n = some (.inl n')) (h4 : zz_val σ u = some (.inl u')) (h5 : zz_val σ w = some (.inl w')) (h : zp_ee b p' c' n' u' w' ω) : zz_fm (zp_phi kee) σ ω (12 + b, [p, c, n, u, w]) := by
  refine ⟨[p', c', n', u', w'], by simp only [List.map_cons, List.map_nil, h1, h2, h3, h4, h5], ?_⟩
  rcases hb with e | e <;> subst e <;> exact h
theorem zl_mkdn {b : Nat} (hb : zl_b b) {σ : zz_P} {ω : yy_O} {c : zz_V} {c' : Int32} (h2 : zz_val σ c = some (.inl c')) (h : zp_dn b c' ω) : zz_fm (zp_phi kee) σ ω (14 + b, [c]) := by
  refine ⟨[c'], by simp only [List.map_cons, List.map_nil, h2], ?_⟩
  rcases hb with e | e <;> subst e <;> exact h
theorem zl_mksafe {b : Nat} (hb : zl_b b) {σ : zz_P} {ω : yy_O} (h : zp_safe b ω) : zz_fm (zp_phi kee) σ ω (8 + b, []) := by
  refine ⟨[], rfl, ?_⟩
  rcases hb with e | e <;> subst e <;> exact h
theorem zp_ee_dn {b : Nat} {p c n u w : Int32} {ω : yy_O} (h : zp_ee b p c n u w ω) : zp_dn b c ω := by
  have hp := zp_ee_p h
  obtain ⟨h, m, k, fr, l, h1, h2, h3, h4, h5, h6, h7, h8, h9, h10⟩ := h
  rcases h10 with ⟨-, q1, -, -⟩ | ⟨-, q1, -, -⟩
  · exact ⟨_, fr, l, h5, h6, h7, by omega, q1⟩
  · exact ⟨_, fr, l, h5, h6, h7, by omega, q1⟩
theorem zl_dn {b i : Nat} {p c n u w : zz_V} (l : List Nat) (hb : zl_b b) (hi : Z.2.2.2.1[i]? = some (12 + b, [p, c, n, u, w])) : zz_ho tau (zp_phi kee) Z [zz_fZ ([(14 + b, [c])] ++ zl_sub l Z.2.2.2.1) Z] := by
  refine zl_new l (fun σ ω lsC stC ho f hf => ?_)
  obtain ⟨p', c', n', u', w', h1, h2, h3, h4, h5, h6⟩ := zl_ee hb ho hi
  rw [List.mem_singleton.mp hf]
  exact zl_mkdn hb h2 (zp_ee_dn h6)
theorem zl_eeu {b i : Nat} {p c n u w v : zz_V} (l : List Nat) (hb : zl_b b) (hi : Z.2.2.2.1[i]? = some (12 + b, [p, c, n, u, w])) (hv : zz_has Z.1 v = true) (hin : zz_in Z.1 v (0, 60) = true) (hg : zz_geV Z.1 v u 0 = true) : zz_ho tau (zp_phi kee) Z [zz_fZ ([(12 + b, [p, c, n, v, w])] ++ zl_sub l Z.2.2.2.1) Z] := by
  refine zl_new l (fun σ ω lsC stC ho f hf => ?_)
  obtain ⟨p', c', n', u', w', h1, h2, h3, h4, h5, h6⟩ := zl_ee hb ho hi
  rw [List.mem_singleton.mp hf]
  obtain ⟨v', e1⟩ := zz_has_val ho.1 hv
  obtain ⟨x, e2, e3, e4⟩ := zz_in_ok ho.1 hin e1
  cases e2
  have g := zz_geV_ok ho.1 hg e1 h4
  refine zl_mkee hb h1 h2 h3 e1 h5 ?_
  obtain ⟨h, m, k, fr, l, q1, q2, q3, q4, q5, q6, q7, q8, q9, q10⟩ := h6
  have e3 : (0 : Int) ≤ v'.toInt := e3
  have e4 : v'.toInt ≤ (60 : Int) := e4
  refine ⟨h, m, k, fr, l, q1, q2, q3, q4, q5, q6, q7, e3, e4, ?_⟩
  rcases q10 with ⟨a1, a2, a3, a4⟩ | ⟨a1, a2, a3, a4⟩
  · exact Or.inl ⟨a1, a2, by omega, by omega⟩
  · exact Or.inr ⟨a1, a2, by omega, by omega⟩
theorem zl_popk {b i j : Nat} {p c n u q n2 : zz_V} (l : List Nat) (hb : zl_b b) (hi : Z.2.2.2.1[i]? = some (12 + b, [p, c, n, u, .inl 0])) (hj : Z.2.2.1[j]? = some (20, (q, .inl 7))) (hq : zz_has Z.1 q = true) (hn : zz_has Z.1 n2 = true) (g1 : zz_geV Z.1 p q 1 = true) (g2 : zz_geV Z.1 q p (-1) = true) (g3 : zz_geV Z.1 n n2 1 = true) (g4 : zz_geV Z.1 n2 n (-1) = true) : zz_ho tau (zp_phi kee) Z [zz_fZ ([(12 + b, [q, c, n2, u, .inl 0])] ++ zl_sub l Z.2.2.2.1) Z] := by
  refine zl_new l (fun σ ω lsC stC ho f hf => ?_)
  obtain ⟨p', c', n', u', w', h1, h2, h3, h4, h5, h6⟩ := zl_ee hb ho hi
  rw [List.mem_singleton.mp hf]
  obtain ⟨q', e1⟩ := zz_has_val ho.1 hq
  obtain ⟨n2', e2⟩ := zz_has_val ho.1 hn
  have r1 := zz_geV_ok ho.1 g1 h1 e1
  have r2 := zz_geV_ok ho.1 g2 e1 h1
  have r3 := zz_geV_ok ho.1 g3 h3 e2
  have r4 := zz_geV_ok ho.1 g4 e2 h3
  obtain ⟨j', d1, d2, d3⟩ := zl_cell ho hj
  have d1 : zz_val σ q = some (.inl j') := d1
  rw [e1] at d1
  cases d1
  have hw7 : ω.1 20 q'.toNatClampNeg = 7 := by
    rcases d3 with d3 | d3
    · have d3 : some (Sum.inl (Int32.ofInt 7)) = some (Sum.inl (ω.1 20 q'.toNatClampNeg)) := d3
      exact (Sum.inl.inj (Option.some.inj d3)).symm
    · cases d3
  have hqn := zz_natc d2
  refine zl_mkee hb e1 h2 e2 h4 h5 ?_
  obtain ⟨h, m, k, fr, l, q1, q2, q3, q4, q5, q6, q7, q8, q9, q10⟩ := h6
  have hz : w' = 0 := by cases h5; rfl
  obtain ⟨pp, hpp⟩ : ∃ pp, p'.toInt.toNat = pp + 1 := ⟨p'.toInt.toNat - 1, by omega⟩
  have hqq : q'.toNatClampNeg = pp := by omega
  rw [hpp] at q1
  rw [hqq] at hw7
  cases pp with
  | zero =>
    simp only [zp_pil] at q1
    rw [q1.1] at hw7
    exact absurd hw7 (by decide)
  | succ pp =>
    simp only [zp_pil] at q1
    rw [hw7] at q1
    have q1 : ∃ k', k = k' + 1 ∧ zp_pil (ω.1 20) (ω.1 19) (pp + 1) h m k' := by
      rcases q1 with ⟨a, -⟩ | ⟨a, -⟩ | ⟨-, a⟩
      · rcases a with ⟨a, -⟩ | ⟨a, -⟩ | ⟨-, a, -⟩
        · exact absurd a (by decide)
        · exact absurd a (by decide)
        · exact absurd a (by decide)
      · exact absurd a (by decide)
      · exact a
    obtain ⟨k', e9, q1⟩ := q1
    have hq9 : q'.toInt.toNat = pp + 1 := by omega
    refine ⟨h, m, k', fr, l, by rw [hq9]; exact q1, by omega, by omega, by omega, q5, q6, q7, q8, q9, ?_⟩
    rcases q10 with ⟨a1, a2, a3, a4⟩ | ⟨a1, a2, a3, a4⟩
    · rw [hz] at a1
      exact absurd a1 (by decide)
    · exact Or.inr ⟨a1, a2, a3, a4⟩
theorem zl_fin {b i : Nat} {p c n u : zz_V} (l : List Nat) (hb : zl_b b) (hi : Z.2.2.2.1[i]? = some (12 + b, [p, c, n, u, .inl 0])) (hp : zz_in Z.1 p (1, 1) = true) : zz_ho tau (zp_phi kee) Z [zz_fZ ([(14 + b, [c]), (11, [c, u, .inl (b : Int)])] ++ zl_sub l Z.2.2.2.1) Z] := by
  refine zl_new l (fun σ ω lsC stC ho f hf => ?_)
  obtain ⟨p', c', n', u', w', h1, h2, h3, h4, h5, h6⟩ := zl_ee hb ho hi
  have hd := zp_ee_dn h6
  have hpp := zp_ee_p h6
  have hz : w' = 0 := by cases h5; rfl
  rcases List.mem_cons.mp hf with e | e
  · rw [e]
    exact zl_mkdn hb h2 hd
  · rw [List.mem_singleton.mp e]
    obtain ⟨h, m, k, fr, l, q1, q2, q3, q4, q5, q6, q7, q8, q9, q10⟩ := h6
    have hbv : zz_val σ (.inl (b : Int)) = some (.inl (Int32.ofInt (b : Int))) := rfl
    have hbi : (Int32.ofInt (b : Int)).toInt = (b : Int) := by rcases hb with e | e <;> subst e <;> decide
    refine ⟨[c', u', Int32.ofInt (b : Int)], by simp only [List.map_cons, List.map_nil, h2, h4, hbv], ?_⟩
    show zp_cu c' u' (Int32.ofInt (b : Int))
    have hb2 : b ≤ 1 := by rcases hb with e | e <;> omega
    rcases q10 with ⟨a1, a2, a3, a4⟩ | ⟨a1, a2, a3, a4⟩
    · rw [hz] at a1
      exact absurd a1 (by decide)
    · exact ⟨q8, q9, by omega, by omega, by omega, by omega⟩
theorem zl_safe {b i j : Nat} {c : zz_V} (l : List Nat) (hb : zl_b b) (hi : Z.2.2.2.1[i]? = some (14 + b, [c])) (hj : Z.2.2.1[j]? = some (24, (.inl (b : Int), c))) : zz_ho tau (zp_phi kee) Z [zz_fZ ([(8 + b, [])] ++ zl_sub l Z.2.2.2.1) Z] := by
  refine zl_new l (fun σ ω lsC stC ho f hf => ?_)
  obtain ⟨c', h1, h2⟩ := zl_1 (zl_at ho hi)
  have h2 : zp_dn b c' ω := by rcases hb with e | e <;> subst e <;> exact h2
  rw [List.mem_singleton.mp hf]
  have e := zl_cc (zl_cell ho hj) (by rcases hb with e | e <;> omega) h1
  refine zl_mksafe hb ?_
  obtain ⟨h, fr, l, a1, a2, a3, a4, a5⟩ := h2
  exact Or.inr ⟨h, fr, l, a1, by rw [e]; exact a2, a3, a4, a5⟩
theorem zl_safe0 {b i j : Nat} {c : zz_V} (l : List Nat) (hb : zl_b b) (hc : zz_has Z.1 c = true) (hi : Z.2.2.1[i]? = some (25, (.inl (b : Int), c))) (hj : Z.2.2.1[j]? = some (24, (.inl (b : Int), c))) : zz_ho tau (zp_phi kee) Z [zz_fZ ([(8 + b, [])] ++ zl_sub l Z.2.2.2.1) Z] := by
  refine zl_new l (fun σ ω lsC stC ho f hf => ?_)
  obtain ⟨c', h1⟩ := zz_has_val ho.1 hc
  rw [List.mem_singleton.mp hf]
  have hb9 : b < 1000000 := by rcases hb with e | e <;> omega
  have e1 := zl_cc (zl_cell ho hi) hb9 h1
  have e2 := zl_cc (zl_cell ho hj) hb9 h1
  refine zl_mksafe hb (Or.inl ?_)
  rw [e1, e2]
  exact Int.le_refl _
theorem zl_eenew {b i j k : Nat} {c u : zz_V} (l : List Nat) (hb : zl_b b) (hi : Z.2.2.2.1[i]? = some (11, [c, u, .inl (b : Int)])) (hj : Z.2.2.1[j]? = some (20, (.inl 0, .inl 8))) (hk : Z.2.2.1[k]? = some (25, (.inl (b : Int), c))) : zz_ho tau (zp_phi kee) Z [zz_fZ ([(12 + b, [.inl 1, c, .inl 0, u, .inl 1])] ++ zl_sub l Z.2.2.2.1) Z] := by
  refine zl_new l (fun σ ω lsC stC ho f hf => ?_)
  obtain ⟨c', u', b', h1, h2, h3, h4⟩ := zl_3 (zl_at ho hi)
  have h4 : zp_cu c' u' b' := h4
  have hbi : b'.toInt = (b : Int) := zl_c h3 (by unfold xx_lo; omega) (by rcases hb with e | e <;> subst e <;> decide)
  rw [List.mem_singleton.mp hf]
  have hb9 : b < 1000000 := by rcases hb with e | e <;> omega
  have e1 : ω.1 20 0 = 8 := zl_cc (j := 0) (zl_cell ho hj) (by decide) rfl
  have e2 := zl_cc (zl_cell ho hk) hb9 h1
  obtain ⟨a1, a2, a3, a4, a5, a6⟩ := h4
  refine zl_mkee hb (p' := 1) (n' := 0) (w' := 1) rfl h1 rfl h2 rfl ?_
  have t1 : (1 : Int32).toInt = 1 := by decide
  have t0 : (0 : Int32).toInt = 0 := by decide
  refine ⟨0, 0, 0, c'.toInt.toNat, 0, ?_, by omega, by omega, by omega, by rw [e2]; omega, by omega, by omega, a1, a2, Or.inl ⟨rfl, rfl, by omega, by omega⟩⟩
  rw [t1]
  exact ⟨e1, rfl, rfl, rfl⟩
theorem zp_pil_0 {W S : Nat → Int32} : ∀ {p h m k : Nat}, zp_pil W S p h m k → W 0 = 8
  | 0, _, _, _, h => h.elim
  | 1, _, _, _, h => h.1
  | p + 2, _, _, _, h => by
    simp only [zp_pil] at h
    rcases h with ⟨h1, h', h2, h3⟩ | ⟨h1, h1', m', h2, h3⟩ | ⟨h1, k', h2, h3⟩
    · exact zp_pil_0 h3
    · exact zp_pil_0 h3
    · exact zp_pil_0 h3
theorem zl_ee0 {b i : Nat} {p c n u w : zz_V} (hb : zl_b b) (hi : Z.2.2.2.1[i]? = some (12 + b, [p, c, n, u, w])) : zz_ho tau (zp_phi kee) Z [zz_cZ ((20, (.inl 0, .inl 8)) :: Z.2.2.1) Z] := by
  refine zl_newc (fun σ ω lsC stC ho => ?_)
  obtain ⟨p', c', n', u', w', h1, h2, h3, h4, h5, h6⟩ := zl_ee hb ho hi
  obtain ⟨h, m, k, fr, l, q1, -⟩ := h6
  have e := zp_pil_0 q1
  refine ⟨0, rfl, by decide, Or.inl ?_⟩
  show some (Sum.inl (Int32.ofInt 8)) = some (Sum.inl (ω.1 20 (0 : Int32).toNatClampNeg))
  have : (0 : Int32).toNatClampNeg = 0 := by decide
  rw [this, e]
  rfl
theorem zl_clear {b : Nat} {c : Int} (l : List Nat) (hb : zl_b b) (hc : c = 560 * (b : Int)) : zz_ho tau (zp_phi kee) Z [zz_fZ ([(0, [.inl 0, .inl 0]), (11, [.inl c, .inl 0, .inl (b : Int)])] ++ zl_sub l Z.2.2.2.1) Z] := by
  refine zl_new l (fun σ ω lsC stC ho f hf => ?_)
  rcases List.mem_cons.mp hf with e | e
  · rw [e]
    exact ⟨[0, 0], rfl, by show zp_tp 0 0; exact ⟨by decide, by decide, by decide, by decide⟩⟩
  · rw [List.mem_singleton.mp e]
    refine ⟨[Int32.ofInt c, 0, Int32.ofInt (b : Int)], rfl, ?_⟩
    show zp_cu (Int32.ofInt c) 0 (Int32.ofInt (b : Int))
    subst hc
    rcases hb with e | e <;> subst e <;> exact ⟨by decide, by decide, by decide, by decide, by decide, by decide⟩
theorem zl_tpup {i : Nat} {t q p : zz_V} (l : List Nat) (hi : Z.2.2.2.1[i]? = some (0, [t, q])) (hp : zz_has Z.1 p = true) (hin : zz_in Z.1 p (0, 6) = true) (hg : zz_geV Z.1 p q 0 = true) : zz_ho tau (zp_phi kee) Z [zz_fZ ([(0, [t, p])] ++ zl_sub l Z.2.2.2.1) Z] := by
  refine zl_new l (fun σ ω lsC stC ho f hf => ?_)
  obtain ⟨t', q', h1, h2, h3⟩ := zl_2 (zl_at ho hi)
  have h3 : zp_tp t' q' := h3
  obtain ⟨p', e1⟩ := zz_has_val ho.1 hp
  obtain ⟨x, e2, e3, e4⟩ := zz_in_ok ho.1 hin e1
  cases e2
  have g := zz_geV_ok ho.1 hg e1 h2
  rw [List.mem_singleton.mp hf]
  refine ⟨[t', p'], by simp only [List.map_cons, List.map_nil, h1, e1], ?_⟩
  obtain ⟨a1, a2, a3, a4⟩ := h3
  refine ⟨a1, e3, e4, Int.lt_of_lt_of_le a4 ?_⟩
  have : (2 : Nat) ^ q'.toInt.toNat ≤ 2 ^ p'.toInt.toNat := Nat.pow_le_pow_right (by decide) (by omega)
  exact_mod_cast this
end ZQ
