/-! emit and pushE -/
section ZE
variable {kee : Nat → Int64} {b t N : Nat} {cs : zz_C} {ca : zz_A} {fl : zz_B} {va vn vc vp vm vu : zz_V} {D : zz_D}
theorem zh_eev {ρ : zz_P} {ω : yy_O} {st : List zz_V} {stC : List yy_U} {i : Nat} {p c n u w : zz_V} (hb : zl_b b) (ho : zz_ok zt_tau (zp_phi kee) ρ ω cs 0 ca fl [] st [] stC) (hf : fl[i]? = some (12 + b, [p, c, n, u, w])) : ∃ p' c' n' u' w', zz_val ρ p = some (.inl p') ∧ zz_val ρ c = some (.inl c') ∧ zz_val ρ n = some (.inl n') ∧ zz_val ρ u = some (.inl u') ∧ zz_val ρ w = some (.inl w') ∧ zp_ee b p' c' n' u' w' ω := zl_ee (Z := (cs, (0, (ca, (fl, ([], st)))))) hb ho hf
theorem zh_bdc {i : Nat} {w : zz_V} (hb : zl_b b) (hf : fl[i]? = some (12 + b, [vp, vc, vm, vu, w])) (ρ : zz_P) (ω : yy_O) (c : Int32) (st : List zz_V) (stC : List yy_U) (ho : zz_ok zt_tau (zp_phi kee) ρ ω cs 0 ca fl [] st [] stC) (hc : zz_val ρ vc = some (.inl c)) : 560 * (b : Int) ≤ c.toInt ∧ c.toInt ≤ 560 * (b : Int) + 547 := by
  obtain ⟨p', c', n', u', w', h1, h2, h3, h4, h5, h6⟩ := zh_eev hb ho hf
  rw [hc] at h2
  cases h2
  have := zp_ee_p h6
  exact ⟨this.2.2, this.2.1⟩
theorem zh_bdp {i : Nat} {w : zz_V} (hb : zl_b b) (hf : fl[i]? = some (12 + b, [vp, vc, vm, vu, w])) (ρ : zz_P) (ω : yy_O) (p : Int32) (st : List zz_V) (stC : List yy_U) (ho : zz_ok zt_tau (zp_phi kee) ρ ω cs 0 ca fl [] st [] stC) (hc : zz_val ρ vp = some (.inl p)) : 1 ≤ p.toInt ∧ p.toInt ≤ 68 := by
  obtain ⟨p', c', n', u', w', h1, h2, h3, h4, h5, h6⟩ := zh_eev hb ho hf
  rw [hc] at h1
  cases h1
  have := zp_ee_p h6
  obtain ⟨h, m, k, fr, l, q1, q2, -⟩ := h6
  exact ⟨q2, this.1⟩
theorem zh_o {i i2 : Nat} {vU : zz_V} {lo hi : Int} (hb : zl_b b) (ht : zt_T[t]? = some zm_X7_emit) (hN : cs.length = N) (hlo : lo = 560 * (b : Int)) (hhi : hi = 560 * (b : Int) + 559) (ha : zz_has cs va = true) (hn : zz_has cs vn = true) (hc : ca[i]? = some (38, (.inl 31, vc))) (hv : zz_has cs vc = true) (D1 : ∀ j : Nat, 560 * b ≤ j → j ≤ 560 * b + 559 → zz_cov D 22 j) (D2 : ∀ j : Nat, j ≤ 1119 → zz_cov D 21 j) (D3 : zz_cov D 38 31) (DR : ∀ k j, zz_rd D k j)
    (hf : fl[i2]? = some (12 + b, [vp, vc, vm, vu, .inl 1])) (ia : zz_in cs va (97, 122) = true) (hU : zz_has cs vU = true) (iU : zz_in cs vU (0, 60) = true) (g1 : zz_geV cs vU vu 1 = true) (g2 : zz_geV cs vu vU (-1) = true) :
    zz_KOK zt_E (zp_phi kee) kee (t, (0, ((cs, (0, (ca, (fl, ([], [.inr (.inr (.inl 38)), va, vn]))))), ([(cs ++ [(lo, (hi, (none, none)))], (0, ([(38, (.inl 31, .inr (.inl (N, 0))))], ([(12 + b, [vp, .inr (.inl (N, 0)), vm, vU, .inl 0])], ([], [])))))], D)))) := by
  refine zh_emit hb ht hN hlo hhi ha hn i hc hv D1 D2 D3 DR ?_ (zh_bdc hb hf)
  intro ρ ω a n c j ω' ho e1 e2 hj b1 q1 q2 q3 q4 b2 ρ' hex e3
  obtain ⟨p', c', n', u', w', h1, h2, h3, h4, h5, h6⟩ := zh_eev hb ho hf
  rw [e2] at h2
  cases h2
  obtain ⟨x, x1, x2, x3⟩ := zz_in_ok ho.1 ia e1
  cases x1
  obtain ⟨U, y1⟩ := zz_has_val ho.1 hU
  obtain ⟨y, y2, y3, y4⟩ := zz_in_ok ho.1 iU y1
  cases y2
  have r1 := zz_geV_ok ho.1 g1 y1 h4
  have r2 := zz_geV_ok ho.1 g2 h4 y1
  have hcn := zz_natc (j := c) (by omega)
  have hb1 : b ≤ 1 := by rcases hb with e | e <;> omega
  have hc1 := zh_one (x := c) (by omega) (by omega)
  have hw : w' = 1 := by cases h5; rfl
  exact zl_mkee hb (zz_val_ex hex h1) e3 (zz_val_ex hex h3) (zz_val_ex hex y1) (w' := 0) rfl (zh_sem_o h6 hw ⟨x2, x3⟩ (by omega) y4 (by omega) hc1 q1 q2 q3 q4)
theorem zh_b {i i2 i3 : Nat} {vq vx : zz_V} {lo hi : Int} (hb : zl_b b) (ht : zt_T[t]? = some zm_X7_emit) (hN : cs.length = N) (hlo : lo = 560 * (b : Int)) (hhi : hi = 560 * (b : Int) + 559) (ha : zz_has cs va = true) (hn : zz_has cs vn = true) (hc : ca[i]? = some (38, (.inl 31, vc))) (hv : zz_has cs vc = true) (D1 : ∀ j : Nat, 560 * b ≤ j → j ≤ 560 * b + 559 → zz_cov D 22 j) (D2 : ∀ j : Nat, j ≤ 1119 → zz_cov D 21 j) (D3 : zz_cov D 38 31) (DR : ∀ k j, zz_rd D k j)
    (hf : fl[i2]? = some (12 + b, [vp, vc, vm, vu, .inl 0])) (hx : ca[i3]? = some (20, (vq, vx))) (ix : zz_in cs vx (1, 2) = true ∨ zz_in cs vx (4, 6) = true) (hvx : zz_has cs vx = true) (ia : zz_in cs va (37, 62) = true ∨ zz_in cs va (124, 124) = true) (hq : zz_has cs vq = true) (g1 : zz_geV cs vp vq 1 = true) (g2 : zz_geV cs vq vp (-1) = true) :
    zz_KOK zt_E (zp_phi kee) kee (t, (0, ((cs, (0, (ca, (fl, ([], [.inr (.inr (.inl 38)), va, vn]))))), ([(cs ++ [(lo, (hi, (none, none)))], (0, ([(38, (.inl 31, .inr (.inl (N, 0))))], ([(12 + b, [vq, .inr (.inl (N, 0)), vm, vu, .inl 0])], ([], [])))))], D)))) := by
  refine zh_emit hb ht hN hlo hhi ha hn i hc hv D1 D2 D3 DR ?_ (zh_bdc hb hf)
  intro ρ ω a n c j ω' ho e1 e2 hj b1 q1 q2 q3 q4 b2 ρ' hex e3
  obtain ⟨p', c', n', u', w', h1, h2, h3, h4, h5, h6⟩ := zh_eev hb ho hf
  rw [e2] at h2
  cases h2
  obtain ⟨q, y1⟩ := zz_has_val ho.1 hq
  have r1 := zz_geV_ok ho.1 g1 h1 y1
  have r2 := zz_geV_ok ho.1 g2 y1 h1
  obtain ⟨x, x1⟩ := zz_has_val ho.1 hvx
  obtain ⟨jq, d1, d2, d3⟩ := ho.2.2.2.1 _ (List.mem_of_getElem? hx)
  have d1 : zz_val ρ vq = some (.inl jq) := d1
  rw [y1] at d1
  cases d1
  have hxe : ω.1 20 q.toNatClampNeg = x := by
    rcases d3 with d3 | d3
    · have d3 : zz_val ρ vx = some (.inl (ω.1 20 q.toNatClampNeg)) := d3
      rw [x1] at d3
      exact (Sum.inl.inj (Option.some.inj d3)).symm
    · have d3 : zz_val ρ vx = some (.inr (.inl (ω.2 20 q.toNatClampNeg))) := d3
      rw [x1] at d3
      cases d3
  have hcn := zz_natc (j := c) (by omega)
  have hb1 : b ≤ 1 := by rcases hb with e | e <;> omega
  have hc1 := zh_one (x := c) (by omega) (by omega)
  have hw : w' = 0 := by cases h5; rfl
  refine zl_mkee hb (zz_val_ex hex y1) e3 (zz_val_ex hex h3) (zz_val_ex hex h4) (w' := 0) rfl (zh_sem_b h6 hw (by omega) d2 ?_ ?_ (by omega) hc1 q1 q2 q3 q4)
  · rw [hxe]
    rcases ix with ix | ix
    · obtain ⟨z, z1, z2, z3⟩ := zz_in_ok ho.1 ix x1
      cases z1
      have z2 : (1 : Int) ≤ x.toInt := z2
      have z3 : x.toInt ≤ (2 : Int) := z3
      omega
    · obtain ⟨z, z1, z2, z3⟩ := zz_in_ok ho.1 ix x1
      cases z1
      exact Or.inr (Or.inr ⟨z2, z3⟩)
  · have t126 : (126 : Int32).toInt = 126 := by decide
    rcases ia with ia | ia
    · obtain ⟨z, z1, z2, z3⟩ := zz_in_ok ho.1 ia e1
      cases z1
      have z2 : (37 : Int) ≤ a.toInt := z2
      have z3 : a.toInt ≤ (62 : Int) := z3
      refine ⟨fun e => ?_, fun e => by omega⟩
      rw [e, t126] at z3
      omega
    · obtain ⟨z, z1, z2, z3⟩ := zz_in_ok ho.1 ia e1
      cases z1
      have z2 : (124 : Int) ≤ a.toInt := z2
      have z3 : a.toInt ≤ (124 : Int) := z3
      refine ⟨fun e => ?_, fun e => by omega⟩
      rw [e, t126] at z3
      omega
theorem zh_t {i i2 i3 : Nat} {vq vm2 : zz_V} {lo hi : Int} (hb : zl_b b) (ht : zt_T[t]? = some zm_X7_emit) (hN : cs.length = N) (hlo : lo = 560 * (b : Int)) (hhi : hi = 560 * (b : Int) + 559) (hn : zz_has cs vn = true) (hc : ca[i]? = some (38, (.inl 31, vc))) (hv : zz_has cs vc = true) (D1 : ∀ j : Nat, 560 * b ≤ j → j ≤ 560 * b + 559 → zz_cov D 22 j) (D2 : ∀ j : Nat, j ≤ 1119 → zz_cov D 21 j) (D3 : zz_cov D 38 31) (DR : ∀ k j, zz_rd D k j)
    (hf : fl[i2]? = some (12 + b, [vp, vc, vm, vu, .inl 0])) (hx : ca[i3]? = some (20, (vq, .inl 3))) (hq : zz_has cs vq = true) (hm : zz_has cs vm2 = true) (g1 : zz_geV cs vp vq 1 = true) (g2 : zz_geV cs vq vp (-1) = true) (g3 : zz_geV cs vm vm2 1 = true) (g4 : zz_geV cs vm2 vm (-1) = true) :
    zz_KOK zt_E (zp_phi kee) kee (t, (0, ((cs, (0, (ca, (fl, ([], [.inr (.inr (.inl 38)), .inl 126, vn]))))), ([(cs ++ [(lo, (hi, (none, none)))], (0, ([(38, (.inl 31, .inr (.inl (N, 0))))], ([(12 + b, [vq, .inr (.inl (N, 0)), vm2, vu, .inl 0])], ([], [])))))], D)))) := by
  refine zh_emit hb ht hN hlo hhi rfl hn i hc hv D1 D2 D3 DR ?_ (zh_bdc hb hf)
  intro ρ ω a n c j ω' ho e1 e2 hj b1 q1 q2 q3 q4 b2 ρ' hex e3
  obtain ⟨p', c', n', u', w', h1, h2, h3, h4, h5, h6⟩ := zh_eev hb ho hf
  rw [e2] at h2
  cases h2
  obtain ⟨q, y1⟩ := zz_has_val ho.1 hq
  obtain ⟨m2, y2⟩ := zz_has_val ho.1 hm
  have r1 := zz_geV_ok ho.1 g1 h1 y1
  have r2 := zz_geV_ok ho.1 g2 y1 h1
  have r3 := zz_geV_ok ho.1 g3 h3 y2
  have r4 := zz_geV_ok ho.1 g4 y2 h3
  obtain ⟨jq, d1, d2, d3⟩ := ho.2.2.2.1 _ (List.mem_of_getElem? hx)
  have d1 : zz_val ρ vq = some (.inl jq) := d1
  rw [y1] at d1
  cases d1
  have hxe : ω.1 20 q.toNatClampNeg = 3 := by
    rcases d3 with d3 | d3
    · have d3 : some (Sum.inl (Int32.ofInt 3)) = some (Sum.inl (ω.1 20 q.toNatClampNeg)) := d3
      exact (Sum.inl.inj (Option.some.inj d3)).symm
    · cases d3
  have hcn := zz_natc (j := c) (by omega)
  have hb1 : b ≤ 1 := by rcases hb with e | e <;> omega
  have hc1 := zh_one (x := c) (by omega) (by omega)
  have hw : w' = 0 := by cases h5; rfl
  have ha : a = 126 := by cases e1; rfl
  rw [ha] at q1
  exact zl_mkee hb (zz_val_ex hex y1) e3 (zz_val_ex hex y2) (zz_val_ex hex h4) (w' := 0) rfl (zh_sem_t h6 hw (by omega) d2 hxe (by omega) (by omega) hc1 q1 q2 q3 q4)
theorem zh_p {i i2 : Nat} {vw vm2 : zz_V} {ka : Int} (hb : zl_b b) (ht : zt_T[t]? = some zm_X7_pushE) (hN : cs.length = N) (hn : zz_has cs vn = true) (hc : ca[i]? = some (38, (.inl 33, vp))) (hv : zz_has cs vp = true) (D1 : ∀ j : Nat, j ≤ 89 → zz_cov D 20 j) (D2 : ∀ j : Nat, j ≤ 89 → zz_cov D 19 j) (D3 : zz_cov D 38 33) (DR : ∀ k j, zz_rd D k j)
    (hf : fl[i2]? = some (12 + b, [vp, vc, vm, vu, vw])) (hm : zz_has cs vm2 = true) (hk : (vw = .inl 1 ∧ (zz_geV cs vm2 vm 1 = true ∧ zz_geV cs vm vm2 (-1) = true ∧ zz_in cs vm (0, 6) = true) ∧ ((ka = 3 ∧ zz_in cs vn (126, 126) = true) ∨ ka = 7)) ∨ (vw = .inl 0 ∧ vm2 = vm ∧ ((ka = 1 ∧ zz_in cs vn (124, 124) = true) ∨ (ka = 2 ∧ zz_in cs vn (38, 38) = true) ∨ ((ka = 4 ∨ ka = 5 ∨ ka = 6) ∧ zz_in cs vn (37, 62) = true)))) :
    zz_KOK zt_E (zp_phi kee) kee (t, (0, ((cs, (0, (ca, (fl, ([], [.inr (.inr (.inl 38)), .inl ka, vn]))))), ([(cs ++ [(2, (90, (none, none)))], (0, ([(38, (.inl 33, .inr (.inl (N, 0))))], ([(12 + b, [.inr (.inl (N, 0)), vc, vm2, vu, .inl 1])], ([], [])))))], D)))) := by
  refine zh_push (b := b) ht hN rfl hn i hc hv D1 D2 D3 DR ?_ (zh_bdp hb hf)
  intro ρ ω a n p j ω' ho e1 e2 e3 hj b1 b2 q1 q2 q3 q4 ρ' hex e4
  obtain ⟨p', c', n', u', w', h1, h2, h3, h4, h5, h6⟩ := zh_eev hb ho hf
  rw [e3] at h1
  cases h1
  obtain ⟨m2, y2⟩ := zz_has_val ho.1 hm
  have hcn := zz_natc (j := p) (by omega)
  have hc1 := zh_one (x := p) (by omega) (by omega)
  have ha : a = Int32.ofInt ka := by cases e1; rfl
  have one : ∀ {r : Int} {y : Int32}, zz_in cs vn (r, r) = true → y.toInt = r → n = y := by
    intro r y hin hy
    obtain ⟨z, z1, z2, z3⟩ := zz_in_ok ho.1 hin e2
    cases z1
    have z2 : r ≤ n.toInt := z2
    have z3 : n.toInt ≤ r := z3
    exact Int32.toInt_inj.mp (by omega)
  refine zl_mkee hb e4 (zz_val_ex hex h2) (zz_val_ex hex y2) (zz_val_ex hex h4) (w' := 1) rfl (zh_sem_p h6 (by omega) hc1 ?_ q1 q2 q3 q4)
  rcases hk with ⟨k1, ⟨k2, k3, k4⟩, k5⟩ | ⟨k1, k2, k3⟩
  · subst k1
    have r3 := zz_geV_ok ho.1 k2 y2 h3
    have r4 := zz_geV_ok ho.1 k3 h3 y2
    obtain ⟨z, z1, z2, z3⟩ := zz_in_ok ho.1 k4 h3
    cases z1
    refine Or.inl ⟨by cases h5; rfl, by omega, z3, ?_⟩
    rcases k5 with ⟨k5, k6⟩ | k5
    · exact Or.inl ⟨by rw [ha, k5]; rfl, one k6 (by decide)⟩
    · exact Or.inr (by rw [ha, k5]; rfl)
  · subst k1
    subst k2
    rw [h3] at y2
    cases y2
    refine Or.inr ⟨by cases h5; rfl, rfl, ?_⟩
    rcases k3 with ⟨k3, k4⟩ | ⟨k3, k4⟩ | ⟨k3, k4⟩
    · exact Or.inl ⟨by rw [ha, k3]; rfl, one k4 (by decide)⟩
    · exact Or.inr (Or.inl ⟨by rw [ha, k3]; rfl, one k4 (by decide)⟩)
    · obtain ⟨z, z1, z2, z3⟩ := zz_in_ok ho.1 k4 e2
      cases z1
      refine Or.inr (Or.inr ⟨?_, ?_, z2, z3⟩)
      · rcases k3 with e | e | e <;> rw [ha, e] <;> decide
      · rcases k3 with e | e | e <;> rw [ha, e] <;> decide
end ZE
