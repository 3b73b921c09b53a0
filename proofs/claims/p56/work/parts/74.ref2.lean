/-! more entailments of the reference's own -/
section ZR
variable {kee : Nat → Int64} {tau : Nat → Nat → Int × Int} {Z : zz_Z}
theorem zl_pow : ∀ p : Fin 7, ((1 : Int32) <<< (Int32.ofNat p.val &&& 31)).toInt = 2 ^ p.val := by decide +kernel
theorem zl_p7 {p : Int32} (h1 : 0 ≤ p.toInt) (h2 : p.toInt ≤ 6) : p = Int32.ofNat p.toInt.toNat := by
  apply Int32.toInt_inj.mp
  have : (Int32.ofNat p.toInt.toNat) = Int32.ofInt p.toInt := by
    rw [show p.toInt = ((p.toInt.toNat : Nat) : Int) by omega]
    rfl
  rw [this, xx_ofInt (by unfold xx_lo; omega) (by unfold xx_hi; omega)]
theorem zl_shl {p : Int32} (h1 : 0 ≤ p.toInt) (h2 : p.toInt ≤ 6) : ((1 : Int32) <<< (p &&& 31)).toInt = 2 ^ p.toInt.toNat := by
  have := zl_pow ⟨p.toInt.toNat, by omega⟩
  simp only at this
  rw [← zl_p7 h1 h2] at this
  exact this
theorem zl_every {i r t : Nat} {p : zz_V} {lo hi : Int} {lk : Option (Nat × Int)} (hi9 : Z.2.2.2.1[i]? = some (0, [.inr (.inl (t, 0)), p])) (hy : Z.1[r]? = some (lo, (hi, (lk, some (4, (.inl 1, p)))))) : zz_ho tau (zp_phi kee) Z [zz_yZ r lo hi (some (t, 1)) Z] := by
  refine zl_bnd (fun σ ω lsC stC ho x hx => ?_)
  obtain ⟨t', p', h1, h2, h3⟩ := zl_2 (zl_at ho hi9)
  obtain ⟨a1, a2, a3, a4⟩ := (show zp_tp t' p' from h3)
  obtain ⟨b1, b2, b3, b4⟩ := ho.1.2 r _ x hy hx
  obtain ⟨u, v, c1, c2, c3⟩ := b4 _ rfl
  have c1 : zz_val σ (.inl 1) = some (.inl u) := c1
  have c2 : zz_val σ p = some (.inl v) := c2
  rw [h2] at c2
  cases c2
  cases c1
  have c3 : x = (1 : Int32) <<< (p' &&& 31) := c3
  refine ⟨b1, b2, ?_⟩
  intro s c h9
  cases h9
  refine ⟨t', zl_s0 h1, ?_⟩
  rw [c3, zl_shl a2 a3]
  omega
theorem zl_xor {r : Nat} {v : zz_V} {lo hi : Int} {lk : Option (Nat × Int)} (hy : Z.1[r]? = some (lo, (hi, (lk, some (7, (v, v)))))) {Φ : zz_Ph} : zz_ho tau Φ Z [zz_yZ r 0 0 none Z] := by
  refine zl_bnd (fun σ ω lsC stC ho x hx => ?_)
  obtain ⟨b1, b2, b3, b4⟩ := ho.1.2 r _ x hy hx
  obtain ⟨u, w, c1, c2, c3⟩ := b4 _ rfl
  have c1 : zz_val σ v = some (.inl u) := c1
  have c2 : zz_val σ v = some (.inl w) := c2
  rw [c1] at c2
  cases c2
  have c3 : x = u ^^^ u := c3
  have : x.toInt = 0 := by rw [c3, Int32.xor_self]; rfl
  exact ⟨by omega, by omega, fun t c h => by cases h⟩
theorem zl_t64 {t : Int32} (h1 : 0 ≤ t.toInt) : t = Int32.ofNat t.toInt.toNat := by
  apply Int32.toInt_inj.mp
  have : (Int32.ofNat t.toInt.toNat) = Int32.ofInt t.toInt := by
    rw [show t.toInt = ((t.toInt.toNat : Nat) : Int) by omega]
    rfl
  rw [this, xx_ofInt (xx_rng t).1 (xx_rng t).2]
theorem zl_tq {r : Nat} {p : zz_V} {lo hi : Int} {lk : Option (Nat × Int)} (l : List Nat) (hy : Z.1[r]? = some (lo, (hi, (lk, some (4, (.inl 1, p)))))) (hin : zz_in Z.1 p (0, 6) = true) : zz_ho tau (zp_phi kee) Z [zz_fZ ([(10, [.inr (.inl (r, 0)), p])] ++ zl_sub l Z.2.2.2.1) Z] := by
  refine zl_new l (fun σ ω lsC stC ho f hf => ?_)
  have hlr : r < σ.1.length := by rw [ho.1.1]; exact (List.getElem?_eq_some_iff.mp hy).1
  have xr : σ.1[r]? = some (σ.1[r]) := List.getElem?_eq_getElem hlr
  obtain ⟨-, -, -, b4⟩ := ho.1.2 r _ _ hy xr
  obtain ⟨u, v, c1, c2, c3⟩ := b4 _ rfl
  have c1 : zz_val σ (.inl 1) = some (.inl u) := c1
  have c2 : zz_val σ p = some (.inl v) := c2
  cases c1
  obtain ⟨x, e2, e3, e4⟩ := zz_in_ok ho.1 hin c2
  cases e2
  have c3 : σ.1[r] = (1 : Int32) <<< (v &&& 31) := c3
  rw [List.mem_singleton.mp hf]
  have vv : zz_val σ (.inr (.inl (r, 0))) = some (.inl (σ.1[r])) := by
    simp only [zz_val, xr]
    show some (Sum.inl (_ + Int32.ofInt 0)) = _
    congr 2
    exact Int32.add_zero _
  refine ⟨[σ.1[r], v], by simp only [List.map_cons, List.map_nil, vv, c2], ?_⟩
  exact ⟨e3, e4, by rw [c3]; exact zl_shl e3 e4⟩
theorem zl_or : ∀ (p : Fin 6) (t : Fin 64), t.val < 2 ^ p.val → 0 ≤ (Int32.ofNat t.val ||| Int32.ofNat (2 ^ p.val)).toInt ∧ (Int32.ofNat t.val ||| Int32.ofNat (2 ^ p.val)).toInt < 2 ^ (p.val + 1) := by decide +kernel
theorem zl_tpor {i j v s : Nat} {t p q : zz_V} {lo hi : Int} {lk : Option (Nat × Int)} (l : List Nat) (hi9 : Z.2.2.2.1[i]? = some (0, [t, p])) (hj9 : Z.2.2.2.1[j]? = some (10, [.inr (.inl (s, 0)), p])) (hy : Z.1[v]? = some (lo, (hi, (lk, some (5, (t, .inr (.inl (s, 0)))))))) (hp : zz_in Z.1 p (0, 5) = true) (hq : zz_has Z.1 q = true) (g1 : zz_geV Z.1 q p 1 = true) (g2 : zz_geV Z.1 p q (-1) = true) : zz_ho tau (zp_phi kee) Z [zz_fZ ([(0, [.inr (.inl (v, 0)), q])] ++ zl_sub l Z.2.2.2.1) Z] := by
  refine zl_new l (fun σ ω lsC stC ho f hf => ?_)
  obtain ⟨t', p', h1, h2, h3⟩ := zl_2 (zl_at ho hi9)
  obtain ⟨s', p2, k1, k2, k3⟩ := zl_2 (zl_at ho hj9)
  rw [h2] at k2
  cases k2
  obtain ⟨-, -, k3⟩ := (show zp_tq s' p' from k3)
  obtain ⟨a1, a2, a3, a4⟩ := (show zp_tp t' p' from h3)
  obtain ⟨x9, e2, e3, e4⟩ := zz_in_ok ho.1 hp h2
  cases e2
  have e4 : p'.toInt ≤ (5 : Int) := e4
  obtain ⟨q', e1⟩ := zz_has_val ho.1 hq
  have r1 := zz_geV_ok ho.1 g1 e1 h2
  have r2 := zz_geV_ok ho.1 g2 h2 e1
  have hlv : v < σ.1.length := by rw [ho.1.1]; exact (List.getElem?_eq_some_iff.mp hy).1
  have xv : σ.1[v]? = some (σ.1[v]) := List.getElem?_eq_getElem hlv
  obtain ⟨-, -, -, b4⟩ := ho.1.2 v _ _ hy xv
  obtain ⟨u, w, c1, c2, c3⟩ := b4 _ rfl
  have c1 : zz_val σ t = some (.inl u) := c1
  have c2 : zz_val σ (.inr (.inl (s, 0))) = some (.inl w) := c2
  rw [h1] at c1
  cases c1
  rw [k1] at c2
  cases c2
  have c3 : σ.1[v] = t' ||| s' := c3
  rw [List.mem_singleton.mp hf]
  have vv : zz_val σ (.inr (.inl (v, 0))) = some (.inl (σ.1[v])) := by
    simp only [zz_val, xv]
    show some (Sum.inl (_ + Int32.ofInt 0)) = _
    congr 2
    exact Int32.add_zero _
  refine ⟨[σ.1[v], q'], by simp only [List.map_cons, List.map_nil, vv, e1], ?_⟩
  show zp_tp (σ.1[v]) q'
  have h64 : (2 : Int) ^ p'.toInt.toNat ≤ 2 ^ 5 := by
    have : (2 : Nat) ^ p'.toInt.toNat ≤ 2 ^ 5 := Nat.pow_le_pow_right (by decide) (by omega)
    exact_mod_cast this
  have key := zl_or ⟨p'.toInt.toNat, by omega⟩ ⟨t'.toInt.toNat, by omega⟩ (by
    simp only
    have : ((t'.toInt.toNat : Nat) : Int) < ((2 ^ p'.toInt.toNat : Nat) : Int) := by
      rw [zl_toN a1]
      exact_mod_cast a4
    exact_mod_cast this)
  simp only at key
  have es : s' = Int32.ofNat (2 ^ p'.toInt.toNat) := by
    have h0 : 0 ≤ s'.toInt := by
      rw [k3]
      have : (0 : Nat) ≤ 2 ^ p'.toInt.toNat := Nat.zero_le _
      exact_mod_cast this
    rw [zl_t64 h0, k3]
    congr 1
  rw [← zl_t64 a1, ← es, ← c3] at key
  refine ⟨key.1, by omega, by omega, ?_⟩
  rw [show q'.toInt.toNat = p'.toInt.toNat + 1 by omega]
  exact key.2
theorem zl_fw0 {t : zz_V} (l : List Nat) (ht : zz_has Z.1 t = true) (hin : zz_in Z.1 t (0, 63) = true) : zz_ho tau (zp_phi kee) Z [zz_fZ ([(1, [t, .inl 0, .inl 0])] ++ zl_sub l Z.2.2.2.1) Z] := by
  refine zl_new l (fun σ ω lsC stC ho f hf => ?_)
  obtain ⟨t', h1⟩ := zz_has_val ho.1 ht
  obtain ⟨x, e2, e3, e4⟩ := zz_in_ok ho.1 hin h1
  cases e2
  rw [List.mem_singleton.mp hf]
  refine ⟨[t', 0, 0], by simp only [List.map_cons, List.map_nil, h1]; rfl, ?_⟩
  have t0 : (0 : Int32).toInt = 0 := by decide
  exact ⟨e3, e4, by omega, by omega, by omega, fun j hj => by omega⟩
theorem zl_mkfb {x : Nat} (hx : x < 3) {σ : zz_P} {ω : yy_O} {t : zz_V} {t' : Int32} (h1 : zz_val σ t = some (.inl t')) (h : zp_fb x t' ω) : zz_fm (zp_phi kee) σ ω (2 + x, [t]) := by
  refine ⟨[t'], by simp only [List.map_cons, List.map_nil, h1], ?_⟩
  match x, hx, h with
  | 0, _, h => exact h
  | 1, _, h => exact h
  | 2, _, h => exact h
theorem zl_anew {i j k : Nat} {t : zz_V} (l : List Nat) (ht : zz_has Z.1 t = true) (hin : zz_in Z.1 t (0, 63) = true) (h0 : Z.2.2.1[i]? = some (0, (.inl 0, .inl 0))) (h1 : Z.2.2.1[j]? = some (0, (.inl 1, .inl 0))) (h2 : Z.2.2.1[k]? = some (0, (.inl 2, .inl 0))) : zz_ho tau (zp_phi kee) Z [zz_fZ ([(2, [t]), (3, [t]), (4, [t]), (1, [t, .inl 0, .inl 0])] ++ zl_sub l Z.2.2.2.1) Z] := by
  refine zl_new l (fun σ ω lsC stC ho f hf => ?_)
  obtain ⟨t', e1⟩ := zz_has_val ho.1 ht
  obtain ⟨x, e2, e3, e4⟩ := zz_in_ok ho.1 hin e1
  cases e2
  have z : ∀ {a : Int32}, a = 0 → a = 1 → False := by
    intro a ha hb
    rw [ha] at hb
    exact absurd hb (by decide)
  rcases List.mem_cons.mp hf with e | e
  · rw [e]
    exact zl_mkfb (x := 0) (by decide) e1 ⟨e3, e4, fun h => (z (zl_cc (j := 0) (zl_cell ho h0) (by decide) rfl) h).elim⟩
  · rcases List.mem_cons.mp e with e | e
    · rw [e]
      exact zl_mkfb (x := 1) (by decide) e1 ⟨e3, e4, fun h => (z (zl_cc (j := 1) (zl_cell ho h1) (by decide) rfl) h).elim⟩
    · rcases List.mem_cons.mp e with e | e
      · rw [e]
        exact zl_mkfb (x := 2) (by decide) e1 ⟨e3, e4, fun h => (z (zl_cc (j := 2) (zl_cell ho h2) (by decide) rfl) h).elim⟩
      · rw [List.mem_singleton.mp e]
        refine ⟨[t', 0, 0], by simp only [List.map_cons, List.map_nil, e1]; rfl, ?_⟩
        have t0 : (0 : Int32).toInt = 0 := by decide
        exact ⟨e3, e4, by omega, by omega, by omega, fun j hj => by omega⟩
/-- a place a number behind a symbol -/
theorem zl_off {σ : zz_P} {t : Nat} {d : Nat} {x y : Int32} (h : zz_val σ (.inr (.inl (t, 0))) = some (.inl x)) (g : zz_val σ (.inr (.inl (t, (d : Int)))) = some (.inl y)) (h0 : 0 ≤ x.toInt) (h1 : x.toInt ≤ 63) (hd : d ≤ 1000) : y.toNatClampNeg = d + x.toInt.toNat ∧ 0 ≤ y.toInt := by
  have e := zl_symd (zl_s0 h) g
  have e2 : y.toInt = x.toInt + d := by
    rw [e]
    have h9 : Int32.ofInt x.toInt = x := Int32.ofInt_toInt x
    rw [← h9, ← Int32.ofInt_add, h9]
    exact xx_ofInt (by unfold xx_lo; omega) (by unfold xx_hi; omega)
  have := zz_natc (j := y) (by omega)
  constructor <;> omega
theorem zl_fb {x i t : Nat} (l : List Nat) (hx : x < 3) (hin : zz_in Z.1 (.inr (.inl (t, 0))) (0, 63) = true) (ht : zz_has Z.1 (.inr (.inl (t, 0))) = true) (hi : Z.2.2.1[i]? = some (1, (.inr (.inl (t, ((73 * x : Nat) : Int))), .inl 1))) : zz_ho tau (zp_phi kee) Z [zz_fZ ([(2 + x, [.inr (.inl (t, 0))])] ++ zl_sub l Z.2.2.2.1) Z] := by
  refine zl_new l (fun σ ω lsC stC ho f hf => ?_)
  obtain ⟨t', e1⟩ := zz_has_val ho.1 ht
  obtain ⟨x9, e2, e3, e4⟩ := zz_in_ok ho.1 hin e1
  cases e2
  rw [List.mem_singleton.mp hf]
  obtain ⟨j, d1, d2, d3⟩ := zl_cell ho hi
  obtain ⟨q1, q2⟩ := zl_off e1 d1 e3 e4 (by omega)
  refine zl_mkfb hx e1 ⟨e3, e4, fun _ => ?_⟩
  rcases d3 with d3 | d3
  · have d3 : some (Sum.inl (Int32.ofInt 1)) = some (Sum.inl (ω.1 1 j.toNatClampNeg)) := d3
    rw [q1] at d3
    exact (Sum.inl.inj (Option.some.inj d3)).symm
  · cases d3
theorem zl_fbread {x i j t : Nat} (hx : x < 3) (hf : Z.2.2.2.1[i]? = some (2 + x, [.inr (.inl (t, 0))])) (hj : Z.2.2.1[j]? = some (0, (.inl (x : Int), .inl 1))) : zz_ho tau (zp_phi kee) Z [zz_cZ ((1, (.inr (.inl (t, ((73 * x : Nat) : Int))), .inl 1)) :: Z.2.2.1) Z] := by
  refine zl_newc (fun σ ω lsC stC ho => ?_)
  obtain ⟨t', e1, h⟩ := zl_1 (zl_at ho hf)
  have h : zp_fb x t' ω := by
    match x, hx, h with
    | 0, _, h => exact h
    | 1, _, h => exact h
    | 2, _, h => exact h
  obtain ⟨a1, a2, a3⟩ := h
  have e := zl_cc (zl_cell ho hj) (by omega) rfl
  have hv : zz_val σ (.inr (.inl (t, ((73 * x : Nat) : Int)))) = some (.inl (t' + Int32.ofInt ((73 * x : Nat) : Int))) := by
    simp only [zz_val, zl_s0 e1]
  obtain ⟨q1, q2⟩ := zl_off e1 hv a1 a2 (by omega)
  refine ⟨_, hv, q2, Or.inl ?_⟩
  show some (Sum.inl (Int32.ofInt 1)) = some (Sum.inl (ω.1 1 _))
  rw [q1, a3 e]
  rfl
theorem zl_fwub {i s : Nat} {t a u : zz_V} {lo hi : Int} {lk : Option (Nat × Int)} {df : Option zz_F} (hf : Z.2.2.2.1[i]? = some (1, [t, a, u])) (hy : Z.1[s]? = some (lo, (hi, (lk, df)))) (h : (u = .inr (.inl (s, 0)) ∧ zz_in Z.1 a (1, xx_hi) = true) ∨ (a = .inr (.inl (s, 0)) ∧ zz_in Z.1 u (1, xx_hi) = true)) : zz_ho tau (zp_phi kee) Z [zz_yZ s lo 39 lk Z] := by
  refine zl_bnd (fun σ ω lsC stC ho x hx => ?_)
  obtain ⟨t', a', u', h1, h2, h3, h4⟩ := zl_3 (zl_at ho hf)
  obtain ⟨q1, q2, q3, q4, q5, -⟩ := (show zp_fw t' a' u' ω from h4)
  obtain ⟨b1, b2, b3, -⟩ := ho.1.2 s _ x hy hx
  rcases h with ⟨e, hin⟩ | ⟨e, hin⟩
  · subst e
    obtain ⟨y, e2, e3, e4⟩ := zz_in_ok ho.1 hin h2
    cases e2
    have := zl_sym hx h3
    subst this
    have e3 : (1 : Int) ≤ a'.toInt := e3
    exact ⟨b1, by omega, b3⟩
  · subst e
    obtain ⟨y, e2, e3, e4⟩ := zz_in_ok ho.1 hin h3
    cases e2
    have := zl_sym hx h2
    subst this
    have e3 : (1 : Int) ≤ u'.toInt := e3
    exact ⟨b1, by omega, b3⟩
theorem zl_fwsh {i : Nat} {t a u a2 u2 : zz_V} {e : Int} (l : List Nat) (hf : Z.2.2.2.1[i]? = some (1, [t, a, u])) (ha : zz_has Z.1 a2 = true) (hu : zz_has Z.1 u2 = true) (ia : zz_in Z.1 a2 (0, 40) = true) (iu : zz_in Z.1 u2 (0, 40) = true) (g1 : zz_geV Z.1 a2 a e = true) (g2 : zz_geV Z.1 a a2 (-e) = true) (g3 : zz_geV Z.1 u2 u (-e) = true) (g4 : zz_geV Z.1 u u2 e = true) : zz_ho tau (zp_phi kee) Z [zz_fZ ([(1, [t, a2, u2])] ++ zl_sub l Z.2.2.2.1) Z] := by
  refine zl_new l (fun σ ω lsC stC ho f hf9 => ?_)
  obtain ⟨t', a', u', h1, h2, h3, h4⟩ := zl_3 (zl_at ho hf)
  obtain ⟨q1, q2, q3, q4, q5, q6⟩ := (show zp_fw t' a' u' ω from h4)
  obtain ⟨a2', e1⟩ := zz_has_val ho.1 ha
  obtain ⟨u2', e2⟩ := zz_has_val ho.1 hu
  obtain ⟨y, e3, e4, -⟩ := zz_in_ok ho.1 ia e1
  cases e3
  obtain ⟨y, e3, e5, -⟩ := zz_in_ok ho.1 iu e2
  cases e3
  have r1 := zz_geV_ok ho.1 g1 e1 h2
  have r2 := zz_geV_ok ho.1 g2 h2 e1
  have r3 := zz_geV_ok ho.1 g3 e2 h3
  have r4 := zz_geV_ok ho.1 g4 h3 e2
  rw [List.mem_singleton.mp hf9]
  refine ⟨[t', a2', u2'], by simp only [List.map_cons, List.map_nil, h1, e1, e2], ?_⟩
  exact ⟨q1, q2, e4, e5, by omega, fun j hj => q6 j (by omega)⟩
end ZR
