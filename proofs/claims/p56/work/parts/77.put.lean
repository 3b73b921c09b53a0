/-! rows and pile entries written: the contracts -/
theorem zh_tyd {tau : Nat → Nat → Int × Int} {ω : yy_O} {k j : Nat} {x : Int32} (h : zz_tyd tau ω) (h1 : (tau k j).1 ≤ x.toInt) (h2 : x.toInt ≤ (tau k j).2) : zz_tyd tau (yy_uI ω k j x) := by
  intro a i
  show (tau a i).1 ≤ ((if a = k then upd (ω.1 a) j x else ω.1 a) i).toInt ∧ ((if a = k then upd (ω.1 a) j x else ω.1 a) i).toInt ≤ (tau a i).2
  split
  · rename_i e
    subst e
    show _ ≤ (if i = j then x else ω.1 a i).toInt ∧ (if i = j then x else ω.1 a i).toInt ≤ _
    split
    · rename_i e
      subst e
      exact ⟨h1, h2⟩
    · exact h a i
  · exact h a i
theorem zh_fr {D : zz_D} {ω0 ω : yy_O} {k j : Nat} {x : Int32} (h : zz_fr D ω0 ω) (hc : zz_cov D k j) : zz_fr D ω0 (yy_uI ω k j x) := by
  intro a i hn
  refine ⟨?_, (h a i hn).2⟩
  show (if a = k then upd (ω.1 a) j x else ω.1 a) i = ω0.1 a i
  split
  · rename_i e
    subst e
    show (if i = j then x else ω.1 a i) = ω0.1 a i
    split
    · rename_i e
      subst e
      exact absurd hc hn
    · exact (h a i hn).1
  · exact (h a i hn).1
theorem zh_same {ω : yy_O} {k j : Nat} {x : Int32} : (yy_uI ω k j x).1 k j = x := by
  show (if k = k then upd (ω.1 k) j x else ω.1 k) j = x
  rw [if_pos rfl]
  show (if j = j then x else ω.1 k j) = x
  rw [if_pos rfl]
theorem zh_o1 {ω : yy_O} {k a i j : Nat} {x : Int32} (h : a ≠ k) : (yy_uI ω k j x).1 a i = ω.1 a i := by
  show (if a = k then upd (ω.1 a) j x else ω.1 a) i = _
  rw [if_neg h]
theorem zh_o2 {ω : yy_O} {k a i j : Nat} {x : Int32} (h : i ≠ j) : (yy_uI ω k j x).1 a i = ω.1 a i := by
  show (if a = k then upd (ω.1 a) j x else ω.1 a) i = _
  split
  · show (if i = j then x else ω.1 a i) = _
    rw [if_neg h]
  · rfl
theorem zh_add {x : Int32} {d : Int} (h1 : xx_lo ≤ x.toInt + d) (h2 : x.toInt + d ≤ xx_hi) : (x + Int32.ofInt d).toInt = x.toInt + d := by
  have h9 : Int32.ofInt x.toInt = x := Int32.ofInt_toInt x
  rw [← h9, ← Int32.ofInt_add, h9]
  exact xx_ofInt h1 h2
theorem zh_one {x : Int32} (h1 : 0 ≤ x.toInt) (h2 : x.toInt ≤ 100000) : (x + 1).toInt = x.toInt + 1 := zh_add (d := 1) (by unfold xx_lo; omega) (by unfold xx_hi; omega)
/-- the args of a contract with three -/
theorem zh_args {ρ : zz_P} {va vn : zz_V} {as : List yy_U} (h : zz_stm ρ [.inr (.inr (.inl 38)), va, vn] as) (h1 : ∃ a, zz_val ρ va = some (.inl a)) (h2 : ∃ n, zz_val ρ vn = some (.inl n)) : ∃ a n, zz_val ρ va = some (.inl a) ∧ zz_val ρ vn = some (.inl n) ∧ as = [.inr (.inr 38), .inl a, .inl n] := by
  obtain ⟨u1, s1, rfl, e1, h⟩ := zz_stm_inv h
  obtain ⟨u2, s2, rfl, e2, h⟩ := zz_stm_inv h
  obtain ⟨u3, s3, rfl, e3, h⟩ := zz_stm_inv h
  have := zz_stm_nil h
  subst this
  obtain ⟨a, ha⟩ := h1
  obtain ⟨n, hn⟩ := h2
  rw [ha] at e2
  rw [hn] at e3
  cases e1
  cases e2
  cases e3
  exact ⟨a, n, ha, hn, rfl⟩
theorem zh_emit {kee : Nat → Int64} {b t N : Nat} {cs : zz_C} {ca : zz_A} {fl : zz_B} {va vn vc : zz_V} {of : List zz_V} {D : zz_D} {lo hi : Int} (hb : zl_b b) (ht : zt_T[t]? = some zm_X7_emit) (hN : cs.length = N) (hlo : lo = 560 * (b : Int)) (hhi : hi = 560 * (b : Int) + 559) (ha : zz_has cs va = true) (hn : zz_has cs vn = true) (i : Nat) (hc : ca[i]? = some (38, (.inl 31, vc))) (hv : zz_has cs vc = true)
    (D1 : ∀ j : Nat, 560 * b ≤ j → j ≤ 560 * b + 559 → zz_cov D 22 j) (D2 : ∀ j : Nat, j ≤ 1119 → zz_cov D 21 j) (D3 : zz_cov D 38 31) (DR : ∀ k j, zz_rd D k j)
    (sem : ∀ (ρ : zz_P) (ω : yy_O) (a n c : Int32) (j : Nat) (ω' : yy_O), zz_ok zt_tau (zp_phi kee) ρ ω cs 0 ca fl [] [.inr (.inr (.inl 38)), va, vn] [] [.inr (.inr 38), .inl a, .inl n] → zz_val ρ va = some (.inl a) → zz_val ρ vc = some (.inl c) → j = c.toNatClampNeg → 560 * (b : Int) ≤ c.toInt → ω'.1 22 = (fun i => if i = j then a else ω.1 22 i) → ω'.1 20 = ω.1 20 → ω'.1 19 = ω.1 19 → ω'.1 25 = ω.1 25 → c.toInt ≤ 560 * (b : Int) + 547 → ∀ ρ', zz_ex ρ ρ' → zz_val ρ' (.inr (.inl (N, 0))) = some (.inl (c + 1)) → zz_fm (zp_phi kee) ρ' ω' (12 + b, of))
    (bd : ∀ (ρ : zz_P) (ω : yy_O) (c : Int32) (st : List zz_V) (stC : List yy_U), zz_ok zt_tau (zp_phi kee) ρ ω cs 0 ca fl [] st [] stC → zz_val ρ vc = some (.inl c) → 560 * (b : Int) ≤ c.toInt ∧ c.toInt ≤ 560 * (b : Int) + 547) :
    zz_KOK zt_E (zp_phi kee) kee (t, (0, ((cs, (0, (ca, (fl, ([], [.inr (.inr (.inl 38)), va, vn]))))), ([(cs ++ [(lo, (hi, (none, none)))], (0, ([(38, (.inl 31, .inr (.inl (N, 0))))], ([(12 + b, of)], ([], [])))))], D)))) := by
  intro ρ ω as d hd hok
  have hok : zz_ok zt_tau (zp_phi kee) ρ ω cs 0 ca fl [] [.inr (.inr (.inl 38)), va, vn] [] as := hok
  obtain ⟨a, n, e1, e2, e3⟩ := zh_args hok.2.2.2.2.2.2 (zz_has_val hok.1 ha) (zz_has_val hok.1 hn)
  subst e3
  obtain ⟨c, ec⟩ := zz_has_val hok.1 hv
  have hcell : ω.1 38 31 = c := zl_cc (j := 31) (hok.2.2.2.1 _ (List.mem_of_getElem? hc)) (by decide) ec
  obtain ⟨b1, b2⟩ := bd ρ ω c _ _ hok ec
  have hb1 : b ≤ 1 := by rcases hb with e | e <;> omega
  have hcn := zz_natc (j := c) (by omega)
  have hc1 := zh_one (x := c) (by omega) (by omega)
  refine ⟨_, ht, zz_wp_R (R := fun _ _ => True) (fun k j _ => DR k j) (zs_emit (fun _ _ => trivial) (by rw [hcell]; omega) (by rw [hcell]; omega) ?_)⟩
  rw [hcell]
  obtain ⟨f1, f2, f3⟩ := zz_csm_new (y := (lo, (hi, (none, none)))) (x := c + 1) hok.1 ⟨by show lo ≤ _; omega, by show _ ≤ hi; omega, (fun t c h => by cases h), fun f h => by cases h⟩
  rw [hN] at f3
  refine ⟨_, List.mem_cons_self, _, f1, ⟨f2, hok.2.1, ?_, ?_, ?_, (fun i v h => by cases h), rfl⟩, ?_⟩
  · refine zh_tyd (zh_tyd (zh_tyd hok.2.2.1 ?_ ?_) ?_ ?_) ?_ ?_
    · exact (xx_rng a).1
    · exact (xx_rng a).2
    · exact (xx_rng n).1
    · exact (xx_rng n).2
    · show (0 : Int) ≤ _
      omega
    · show _ ≤ (1120 : Int)
      omega
  · intro q hq
    rw [List.mem_singleton.mp hq]
    refine ⟨Int32.ofInt 31, rfl, by decide, Or.inl ?_⟩
    show _ = some (Sum.inl ((yy_uI _ 38 31 (c + 1)).1 38 (Int32.ofInt 31).toNatClampNeg))
    have : (Int32.ofInt 31).toNatClampNeg = 31 := by decide
    rw [this, zh_same]
    exact f3
  · intro f hf
    rw [List.mem_singleton.mp hf]
    refine sem ρ ω a n c c.toNatClampNeg (yy_uI (yy_uI (yy_uI ω 22 c.toNatClampNeg a) 21 c.toNatClampNeg n) 38 31 (c + 1)) hok e1 ec rfl b1 ?_ rfl rfl rfl b2 _ f1 f3
    rfl
  · refine zh_fr (zh_fr (zh_fr (fun _ _ _ => ⟨rfl, rfl⟩) (D1 _ (by omega) (by omega))) (D2 _ (by omega))) D3
theorem zh_push {kee : Nat → Int64} {b t N : Nat} {cs : zz_C} {ca : zz_A} {fl : zz_B} {va vn vp : zz_V} {of : List zz_V} {D : zz_D} (ht : zt_T[t]? = some zm_X7_pushE) (hN : cs.length = N) (ha : zz_has cs va = true) (hn : zz_has cs vn = true) (i : Nat) (hc : ca[i]? = some (38, (.inl 33, vp))) (hv : zz_has cs vp = true)
    (D1 : ∀ j : Nat, j ≤ 89 → zz_cov D 20 j) (D2 : ∀ j : Nat, j ≤ 89 → zz_cov D 19 j) (D3 : zz_cov D 38 33) (DR : ∀ k j, zz_rd D k j)
    (sem : ∀ (ρ : zz_P) (ω : yy_O) (a n p : Int32) (j : Nat) (ω' : yy_O), zz_ok zt_tau (zp_phi kee) ρ ω cs 0 ca fl [] [.inr (.inr (.inl 38)), va, vn] [] [.inr (.inr 38), .inl a, .inl n] → zz_val ρ va = some (.inl a) → zz_val ρ vn = some (.inl n) → zz_val ρ vp = some (.inl p) → j = p.toNatClampNeg → 1 ≤ p.toInt → p.toInt ≤ 68 → ω'.1 20 = (fun i => if i = j then a else ω.1 20 i) → ω'.1 19 = (fun i => if i = j then n else ω.1 19 i) → ω'.1 22 = ω.1 22 → ω'.1 25 = ω.1 25 → ∀ ρ', zz_ex ρ ρ' → zz_val ρ' (.inr (.inl (N, 0))) = some (.inl (p + 1)) → zz_fm (zp_phi kee) ρ' ω' (12 + b, of))
    (bd : ∀ (ρ : zz_P) (ω : yy_O) (p : Int32) (st : List zz_V) (stC : List yy_U), zz_ok zt_tau (zp_phi kee) ρ ω cs 0 ca fl [] st [] stC → zz_val ρ vp = some (.inl p) → 1 ≤ p.toInt ∧ p.toInt ≤ 68) :
    zz_KOK zt_E (zp_phi kee) kee (t, (0, ((cs, (0, (ca, (fl, ([], [.inr (.inr (.inl 38)), va, vn]))))), ([(cs ++ [(2, (90, (none, none)))], (0, ([(38, (.inl 33, .inr (.inl (N, 0))))], ([(12 + b, of)], ([], [])))))], D)))) := by
  intro ρ ω as d hd hok
  have hok : zz_ok zt_tau (zp_phi kee) ρ ω cs 0 ca fl [] [.inr (.inr (.inl 38)), va, vn] [] as := hok
  obtain ⟨a, n, e1, e2, e3⟩ := zh_args hok.2.2.2.2.2.2 (zz_has_val hok.1 ha) (zz_has_val hok.1 hn)
  subst e3
  obtain ⟨p, ec⟩ := zz_has_val hok.1 hv
  have hcell : ω.1 38 33 = p := zl_cc (j := 33) (hok.2.2.2.1 _ (List.mem_of_getElem? hc)) (by decide) ec
  obtain ⟨b1, b2⟩ := bd ρ ω p _ _ hok ec
  have hcn := zz_natc (j := p) (by omega)
  have hc1 := zh_one (x := p) (by omega) (by omega)
  refine ⟨_, ht, zz_wp_R (R := fun _ _ => True) (fun k j _ => DR k j) (zs_push (fun _ _ => trivial) (by rw [hcell]; omega) (by rw [hcell]; omega) ?_)⟩
  rw [hcell]
  obtain ⟨f1, f2, f3⟩ := zz_csm_new (y := (2, (90, (none, none)))) (x := p + 1) hok.1 ⟨by show (2 : Int) ≤ _; omega, by show _ ≤ (90 : Int); omega, (fun t c h => by cases h), fun f h => by cases h⟩
  rw [hN] at f3
  refine ⟨_, List.mem_cons_self, _, f1, ⟨f2, hok.2.1, ?_, ?_, ?_, (fun i v h => by cases h), rfl⟩, ?_⟩
  · refine zh_tyd (zh_tyd (zh_tyd hok.2.2.1 ?_ ?_) ?_ ?_) ?_ ?_
    · exact (xx_rng a).1
    · exact (xx_rng a).2
    · exact (xx_rng n).1
    · exact (xx_rng n).2
    · show (0 : Int) ≤ _
      omega
    · show _ ≤ (90 : Int)
      omega
  · intro q hq
    rw [List.mem_singleton.mp hq]
    refine ⟨Int32.ofInt 33, rfl, by decide, Or.inl ?_⟩
    show _ = some (Sum.inl ((yy_uI _ 38 33 (p + 1)).1 38 (Int32.ofInt 33).toNatClampNeg))
    have : (Int32.ofInt 33).toNatClampNeg = 33 := by decide
    rw [this, zh_same]
    exact f3
  · intro f hf
    rw [List.mem_singleton.mp hf]
    refine sem ρ ω a n p p.toNatClampNeg (yy_uI (yy_uI (yy_uI ω 20 p.toNatClampNeg a) 19 p.toNatClampNeg n) 38 33 (p + 1)) hok e1 e2 ec rfl b1 b2 ?_ ?_ rfl rfl _ f1 f3
    · rfl
    · rfl
  · refine zh_fr (zh_fr (zh_fr (fun _ _ _ => ⟨rfl, rfl⟩) (D1 _ (by omega))) (D2 _ (by omega))) D3
/-! what becomes of the reading's fact -/
theorem zp_run_put {C : Nat → Int32} {fr l j : Nat} {a : Int32} (hj : j = fr + l) : zp_run (fun i => if i = j then a else C i) fr (l + 1) = match zp_run C fr l with
    | none => none
    | some h => zp_st h a := by
  simp only [zp_run]
  rw [zp_run_cong (C := C) (fun i h1 h2 => if_neg (by omega)), if_pos hj.symm]
  rfl
theorem zh_sem_o {b : Nat} {p c n u w U a : Int32} {ω ω' : yy_O} {j : Nat} (h : zp_ee b p c n u w ω) (hw : w = 1) (ha : 97 ≤ a.toInt ∧ a.toInt ≤ 122) (hU : U.toInt = u.toInt + 1) (hU2 : U.toInt ≤ 60) (hj : (j : Int) = c.toInt) (hc1 : (c + 1).toInt = c.toInt + 1) (e1 : ω'.1 22 = (fun i => if i = j then a else ω.1 22 i)) (e2 : ω'.1 20 = ω.1 20) (e3 : ω'.1 19 = ω.1 19) (e4 : ω'.1 25 = ω.1 25) : zp_ee b p (c + 1) n U 0 ω' := by
  obtain ⟨h, m, k, fr, l, h1, h2, h3, h4, h5, h6, h7, h8, h9, h10⟩ := h
  rcases h10 with ⟨-, q1, q2, q3⟩ | ⟨q0, -⟩
  · refine ⟨h, m, k, fr, l + 1, by rw [e2, e3]; exact h1, h2, h3, h4, by rw [e4]; exact h5, by omega, h7, by omega, hU2, Or.inr ⟨rfl, ?_, by omega, by omega⟩⟩
    rw [e1, zp_run_put (by omega), q1]
    show zp_st h a = some (h + 1)
    unfold zp_st
    have n126 : ¬ a = 126 := by
      intro e
      rw [e] at ha
      exact absurd ha.2 (by decide)
    rw [if_neg n126, if_pos ha, if_pos (by omega)]
  · rw [hw] at q0
    exact absurd q0 (by decide)
theorem zh_sem_b {b : Nat} {p c n u w q a : Int32} {ω ω' : yy_O} {j : Nat} (h : zp_ee b p c n u w ω) (hw : w = 0) (hq : p.toInt = q.toInt + 1) (hq0 : 0 ≤ q.toInt) (hx : (ω.1 20 q.toNatClampNeg).toInt = 1 ∨ (ω.1 20 q.toNatClampNeg).toInt = 2 ∨ (4 ≤ (ω.1 20 q.toNatClampNeg).toInt ∧ (ω.1 20 q.toNatClampNeg).toInt ≤ 6)) (ha : a ≠ 126 ∧ ¬ (97 ≤ a.toInt ∧ a.toInt ≤ 122)) (hj : (j : Int) = c.toInt) (hc1 : (c + 1).toInt = c.toInt + 1) (e1 : ω'.1 22 = (fun i => if i = j then a else ω.1 22 i)) (e2 : ω'.1 20 = ω.1 20) (e3 : ω'.1 19 = ω.1 19) (e4 : ω'.1 25 = ω.1 25) : zp_ee b q (c + 1) n u 0 ω' := by
  obtain ⟨h, m, k, fr, l, h1, h2, h3, h4, h5, h6, h7, h8, h9, h10⟩ := h
  rcases h10 with ⟨q0, -⟩ | ⟨-, q1, q2, q3⟩
  · rw [hw] at q0
    exact absurd q0 (by decide)
  · have hqn := zz_natc hq0
    have nx : ∀ {z : Int32}, z.toInt = 3 ∨ z.toInt = 7 ∨ z.toInt = 8 → ¬ (z.toInt = 1 ∨ z.toInt = 2 ∨ (4 ≤ z.toInt ∧ z.toInt ≤ 6)) := by
      intro z h9
      omega
    have t3 : (3 : Int32).toInt = 3 := by decide
    have t7 : (7 : Int32).toInt = 7 := by decide
    have t8 : (8 : Int32).toInt = 8 := by decide
    obtain ⟨pp, hpp⟩ : ∃ pp, p.toInt.toNat = pp + 1 := ⟨p.toInt.toNat - 1, by omega⟩
    have hqq : q.toNatClampNeg = pp := by omega
    rw [hpp] at h1
    rw [hqq] at hx
    cases pp with
    | zero =>
      rw [h1.1, t8] at hx
      omega
    | succ pp =>
      simp only [zp_pil] at h1
      have h1 : ∃ h', h = h' + 1 ∧ zp_pil (ω.1 20) (ω.1 19) (pp + 1) h' m k := by
        rcases h1 with ⟨-, z⟩ | ⟨z, -⟩ | ⟨z, -⟩
        · exact z
        · rw [z, t3] at hx
          omega
        · rw [z, t7] at hx
          omega
      obtain ⟨h', e9, h1⟩ := h1
      have hq9 : q.toInt.toNat = pp + 1 := by omega
      refine ⟨h', m, k, fr, l + 1, by rw [e2, e3, hq9]; exact h1, by omega, h3, h4, by rw [e4]; exact h5, by omega, h7, h8, h9, Or.inr ⟨rfl, ?_, by omega, by omega⟩⟩
      rw [e1, zp_run_put (by omega), q1]
      show zp_st (h + 1) a = some (h' + 1)
      unfold zp_st
      rw [if_neg ha.1, if_neg ha.2, if_pos (by omega)]
      congr 1
theorem zh_sem_t {b : Nat} {p c n u w q n2 : Int32} {ω ω' : yy_O} {j : Nat} (h : zp_ee b p c n u w ω) (hw : w = 0) (hq : p.toInt = q.toInt + 1) (hq0 : 0 ≤ q.toInt) (hx : ω.1 20 q.toNatClampNeg = 3) (hn : n2.toInt = n.toInt - 1) (hj : (j : Int) = c.toInt) (hc1 : (c + 1).toInt = c.toInt + 1) (e1 : ω'.1 22 = (fun i => if i = j then 126 else ω.1 22 i)) (e2 : ω'.1 20 = ω.1 20) (e3 : ω'.1 19 = ω.1 19) (e4 : ω'.1 25 = ω.1 25) : zp_ee b q (c + 1) n2 u 0 ω' := by
  obtain ⟨h, m, k, fr, l, h1, h2, h3, h4, h5, h6, h7, h8, h9, h10⟩ := h
  rcases h10 with ⟨q0, -⟩ | ⟨-, q1, q2, q3⟩
  · rw [hw] at q0
    exact absurd q0 (by decide)
  · have hqn := zz_natc hq0
    obtain ⟨pp, hpp⟩ : ∃ pp, p.toInt.toNat = pp + 1 := ⟨p.toInt.toNat - 1, by omega⟩
    have hqq : q.toNatClampNeg = pp := by omega
    rw [hpp] at h1
    rw [hqq] at hx
    cases pp with
    | zero =>
      rw [h1.1] at hx
      exact absurd hx (by decide)
    | succ pp =>
      simp only [zp_pil] at h1
      rw [hx] at h1
      have h1 : ∃ m', m = m' + 1 ∧ zp_pil (ω.1 20) (ω.1 19) (pp + 1) h m' k := by
        rcases h1 with ⟨z, -⟩ | ⟨-, -, z⟩ | ⟨z, -⟩
        · rcases z with ⟨z, -⟩ | ⟨z, -⟩ | ⟨z, -⟩
          · exact absurd z (by decide)
          · exact absurd z (by decide)
          · exact absurd z (by decide)
        · exact z
        · exact absurd z (by decide)
      obtain ⟨m', e9, h1⟩ := h1
      have hq9 : q.toInt.toNat = pp + 1 := by omega
      refine ⟨h, m', k, fr, l + 1, by rw [e2, e3, hq9]; exact h1, by omega, by omega, by omega, by rw [e4]; exact h5, by omega, h7, h8, h9, Or.inr ⟨rfl, ?_, by omega, by omega⟩⟩
      rw [e1, zp_run_put (by omega), q1]
      show zp_st (h + 1) 126 = some (h + 1)
      unfold zp_st
      rw [if_pos rfl, if_pos (by omega)]
theorem zp_pil_put {W S : Nat → Int32} {p j h m k : Nat} {x s : Int32} (hj : j = p) (h1 : zp_pil W S p h m k) : zp_pil (fun i => if i = j then x else W i) (fun i => if i = j then s else S i) p h m k := zp_pil_cong (fun i hi => ⟨if_neg (by omega), if_neg (by omega)⟩) h1
theorem zh_sem_p {b : Nat} {p c n u w n2 x s : Int32} {ω ω' : yy_O} {j : Nat} (h : zp_ee b p c n u w ω) (hj : (j : Int) = p.toInt) (hp1 : (p + 1).toInt = p.toInt + 1) (hk : (w = 1 ∧ n2.toInt = n.toInt + 1 ∧ n.toInt ≤ 6 ∧ ((x = 3 ∧ s = 126) ∨ x = 7)) ∨ (w = 0 ∧ n2 = n ∧ zp_bin x s)) (e1 : ω'.1 20 = (fun i => if i = j then x else ω.1 20 i)) (e2 : ω'.1 19 = (fun i => if i = j then s else ω.1 19 i)) (e3 : ω'.1 22 = ω.1 22) (e4 : ω'.1 25 = ω.1 25) : zp_ee b (p + 1) c n2 u 1 ω' := by
  obtain ⟨h, m, k, fr, l, h1, h2, h3, h4, h5, h6, h7, h8, h9, h10⟩ := h
  obtain ⟨pp, hpp⟩ : ∃ pp, p.toInt.toNat = pp + 1 := ⟨p.toInt.toNat - 1, by omega⟩
  have hp9 : (p + 1).toInt.toNat = pp + 2 := by omega
  have hjp : j = pp + 1 := by omega
  rw [hpp] at h1
  have h1' := zp_pil_put (x := x) (s := s) hjp h1
  have tx : (fun i => if i = j then x else ω.1 20 i) (pp + 1) = x := if_pos hjp.symm
  have ts : (fun i => if i = j then s else ω.1 19 i) (pp + 1) = s := if_pos hjp.symm
  rcases hk with ⟨k1, k2, k3, k4⟩ | ⟨k1, k2, k3⟩
  · rcases h10 with ⟨-, q1, q2, q3⟩ | ⟨q0, -⟩
    · rcases k4 with ⟨k4, k5⟩ | k4
      · refine ⟨h, m + 1, k, fr, l, ?_, by omega, by omega, by omega, by rw [e4]; exact h5, h6, h7, h8, h9, Or.inl ⟨rfl, by rw [e3]; exact q1, q2, by omega⟩⟩
        rw [e1, e2, hp9]
        simp only [zp_pil]
        exact Or.inr (Or.inl ⟨tx.trans k4, ts.trans k5, m, rfl, h1'⟩)
      · refine ⟨h, m, k + 1, fr, l, ?_, by omega, by omega, by omega, by rw [e4]; exact h5, h6, h7, h8, h9, Or.inl ⟨rfl, by rw [e3]; exact q1, q2, by omega⟩⟩
        rw [e1, e2, hp9]
        simp only [zp_pil]
        exact Or.inr (Or.inr ⟨tx.trans k4, k, rfl, h1'⟩)
    · rw [k1] at q0
      exact absurd q0 (by decide)
  · rcases h10 with ⟨q0, -⟩ | ⟨-, q1, q2, q3⟩
    · rw [k1] at q0
      exact absurd q0 (by decide)
    · subst k2
      refine ⟨h + 1, m, k, fr, l, ?_, by omega, h3, h4, by rw [e4]; exact h5, h6, h7, h8, h9, Or.inl ⟨rfl, by rw [e3]; exact q1, by omega, by omega⟩⟩
      rw [e1, e2, hp9]
      simp only [zp_pil]
      refine Or.inl ⟨?_, h, rfl, h1'⟩
      show zp_bin ((fun i => if i = j then x else ω.1 20 i) (pp + 1)) ((fun i => if i = j then s else ω.1 19 i) (pp + 1))
      rw [tx, ts]
      exact k3
