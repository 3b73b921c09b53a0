/-! states held against patterns -/
/-- what the pattern's symbols are -/
def zz_bm (ρ : zz_P) (bI bL : List zz_V) (σ : zz_P) : Prop := bI.map (zz_val ρ) = σ.1.map (fun x => some (.inl x)) ∧ bL.map (zz_val ρ) = σ.2.map (fun x => some (.inr (.inl x)))
theorem zz_map_at {ρ : zz_P} {α : Type} {f : α → yy_U} {l : List zz_V} {m : List α} {k : Nat} {w : zz_V} (h : l.map (zz_val ρ) = m.map (fun x => some (f x))) (hk : l[k]? = some w) : ∃ x, m[k]? = some x ∧ zz_val ρ w = some (f x) := by
  have h1 : (l.map (zz_val ρ))[k]? = (m.map (fun x => some (f x)))[k]? := by rw [h]
  rw [List.getElem?_map, List.getElem?_map, hk] at h1
  cases hm : m[k]? with
  | none =>
    rw [hm] at h1
    cases h1
  | some x =>
    rw [hm] at h1
    exact ⟨x, rfl, Option.some.inj h1⟩
theorem zz_map_at' {ρ : zz_P} {α : Type} {f : α → yy_U} {l : List zz_V} {m : List α} {k : Nat} {x : α} (h : l.map (zz_val ρ) = m.map (fun x => some (f x))) (hk : m[k]? = some x) : ∃ w, l[k]? = some w ∧ zz_val ρ w = some (f x) := by
  have h1 : (l.map (zz_val ρ))[k]? = (m.map (fun x => some (f x)))[k]? := by rw [h]
  rw [List.getElem?_map, List.getElem?_map, hk] at h1
  cases hm : l[k]? with
  | none =>
    rw [hm] at h1
    cases h1
  | some w =>
    rw [hm] at h1
    exact ⟨w, rfl, Option.some.inj h1⟩
theorem zz_sh_val {ρ : zz_P} {w : zz_V} {d : Int} {x : Int32} (h : zz_val ρ w = some (.inl x)) : zz_val ρ (zz_sh w d) = some (.inl (x + Int32.ofInt d)) := by
  rcases w with c | ⟨q, e⟩ | i | c | i
  · cases h
    show some (Sum.inl (Int32.ofInt (c + d))) = _
    rw [Int32.ofInt_add]
  · exact zz_add_val h
  · cases h
  · cases h
  · obtain ⟨y, hy⟩ := zz_isL_val h rfl
    cases hy
theorem zz_sb_val {ρ σ : zz_P} {bI bL : List zz_V} {v w : zz_V} (hb : zz_bm ρ bI bL σ) (h : zz_sb bI bL v = some w) : ∃ u, zz_val ρ w = some u ∧ zz_val σ v = some u := by
  rcases v with c | ⟨k, d⟩ | i | c | k
  · cases h
    exact ⟨_, rfl, rfl⟩
  · simp only [zz_sb] at h
    split at h
    · rename_i b hk
      cases h
      obtain ⟨x, h1, h2⟩ := zz_map_at hb.1 hk
      exact ⟨_, zz_sh_val h2, by simp only [zz_val, h1]⟩
    · cases h
  · cases h
    exact ⟨_, rfl, rfl⟩
  · cases h
    exact ⟨_, rfl, rfl⟩
  · obtain ⟨x, h1, h2⟩ := zz_map_at hb.2 h
    exact ⟨_, h2, by simp only [zz_val, h1]⟩
theorem zz_sbq_ok {ρ σ : zz_P} {cs : zz_C} {bI bL : List zz_V} {v a : zz_V} {u : yy_U} (hc : zz_csm ρ cs) (hb : zz_bm ρ bI bL σ) (h : zz_sbq cs bI bL v a = true) (ha : zz_val ρ a = some u) : zz_val σ v = some u := by
  unfold zz_sbq at h
  split at h
  · rename_i w hw
    obtain ⟨u', h1, h2⟩ := zz_sb_val hb hw
    rw [zz_sm_ok hc h h1 ha] at h2
    exact h2
  · cases h
theorem zz_sbs_ok {ρ σ : zz_P} {cs : zz_C} {bI bL : List zz_V} (hc : zz_csm ρ cs) (hb : zz_bm ρ bI bL σ) {α : Type} (f : α → yy_U) : ∀ {vs as : List zz_V} {us : List α}, zz_sbs cs bI bL vs as = true → as.map (zz_val ρ) = us.map (fun x => some (f x)) → vs.map (zz_val σ) = us.map (fun x => some (f x))
  | [], [], us, _, ha => ha
  | [], _ :: _, _, h, _ => by cases h
  | _ :: _, [], _, h, _ => by cases h
  | v :: vs, a :: as, us, h, ha => by
    simp only [zz_sbs, Bool.and_eq_true] at h
    cases us with
    | nil => cases ha
    | cons u us =>
      rw [List.map_cons, List.map_cons, List.cons.injEq] at ha ⊢
      exact ⟨zz_sbq_ok hc hb h.1 ha.1, zz_sbs_ok hc hb f h.2 ha.2⟩
theorem zz_cls_ok {cs : zz_C} {ls : zz_L} {bI bL : List zz_V} : ∀ {l : zz_L} {i : Nat} {v : zz_V}, zz_cls cs ls bI bL l = true → zz_get l i = some v → ∃ a, zz_get ls i = some a ∧ zz_sbq cs bI bL v a = true
  | [], _, _, _, hg => by cases hg
  | (j, w) :: r, i, v, h, hg => by
    simp only [zz_cls, Bool.and_eq_true] at h
    simp only [zz_get] at hg
    split at hg
    · rename_i hb
      cases hg
      have e := Nat.eq_of_beq_eq_true hb
      subst e
      have h1 := h.1
      split at h1
      · rename_i a ha
        exact ⟨a, ha, h1⟩
      · cases h1
    · exact zz_cls_ok h.2 hg
theorem zz_cca_ok {cs : zz_C} {ca : zz_A} {bI bL : List zz_V} : ∀ {l : zz_A} {q : Nat × (zz_V × zz_V)}, zz_cca cs ca bI bL l = true → q ∈ l → ∃ jx a i, zz_sb bI bL q.2.1 = some jx ∧ (q.1, (i, a)) ∈ ca ∧ zz_sbq cs bI bL q.2.2 a = true ∧ zz_sm cs i (zz_nrm cs jx) = true
  | [], _, _, hq => by cases hq
  | (key, (ix, v)) :: r, q, h, hq => by
    simp only [zz_cca, Bool.and_eq_true] at h
    rcases List.mem_cons.mp hq with e | e
    · subst e
      have h1 := h.1
      split at h1
      · rename_i jx hjx
        split at h1
        · rename_i a ha
          obtain ⟨i9, hm9, hs9⟩ := zz_fnd_ok ha
          exact ⟨jx, a, i9, hjx, hm9, h1, hs9⟩
        · cases h1
      · cases h1
    · exact zz_cca_ok h.2 e
theorem zz_cfl1_ok {cs : zz_C} {bI bL : List zz_V} {i : Nat} {vs : List zz_V} : ∀ {fl : zz_B}, zz_cfl1 cs bI bL i vs fl = true → ∃ f ∈ fl, f.1 = i ∧ zz_sbs cs bI bL vs f.2 = true
  | [], h => by cases h
  | f :: r, h => by
    simp only [zz_cfl1, Bool.or_eq_true, Bool.and_eq_true] at h
    rcases h with h | h
    · exact ⟨f, List.mem_cons_self, Nat.eq_of_beq_eq_true h.1, h.2⟩
    · obtain ⟨g, hg, a⟩ := zz_cfl1_ok h
      exact ⟨g, List.mem_cons_of_mem _ hg, a⟩
theorem zz_cfl_ok {cs : zz_C} {fl : zz_B} {bI bL : List zz_V} : ∀ {l : zz_B} {q : Nat × List zz_V}, zz_cfl cs fl bI bL l = true → q ∈ l → ∃ f ∈ fl, f.1 = q.1 ∧ zz_sbs cs bI bL q.2 f.2 = true
  | [], _, _, hq => by cases hq
  | (i, vs) :: r, q, h, hq => by
    simp only [zz_cfl, Bool.and_eq_true] at h
    rcases List.mem_cons.mp hq with e | e
    · subst e
      exact zz_cfl1_ok h.1
    · exact zz_cfl_ok h.2 e
theorem zz_ccs_ok {cs : zz_C} {bI bL : List zz_V} : ∀ {Z : zz_C} {bs : List zz_V}, zz_ccs cs bI bL Z bs = true → bs.length = Z.length ∧ ∀ (k : Nat) (y : zz_Y) (b : zz_V), Z[k]? = some y → bs[k]? = some b → zz_in cs b (y.1, y.2.1) = true ∧ zz_clk cs bI y.2.2.1 b = true ∧ zz_cdf cs bI bL y.2.2.2 b = true
  | [], [], _ => ⟨rfl, fun k y b h => by cases h⟩
  | [], _ :: _, h => by cases h
  | _ :: _, [], h => by cases h
  | (lo, (hi, (lk, df))) :: r, b :: bs, h => by
    simp only [zz_ccs, Bool.and_eq_true] at h
    obtain ⟨h1, h2⟩ := zz_ccs_ok h.2.2.2
    refine ⟨by rw [List.length_cons, List.length_cons, h1], fun k y b' hk hb => ?_⟩
    cases k with
    | zero =>
      cases hk
      cases hb
      exact ⟨h.1, h.2.1, h.2.2.1⟩
    | succ k => exact h2 k y b' hk hb
theorem zz_cnt_ok {nL : Nat} {ρ : zz_P} (hL : ρ.2.length = nL) : ∀ {n : Nat} {l : List zz_V}, zz_cnt nL n l = true → ∃ m : List Int64, m.length = n ∧ l.map (zz_val ρ) = m.map (fun x => some (.inr (.inl x)))
  | 0, [], _ => ⟨[], rfl, rfl⟩
  | n + 1, [], h => by
    simp only [zz_cnt] at h
    cases h
  | 0, _ :: _, h => by cases h
  | n + 1, v :: r, h => by
    simp only [zz_cnt, Bool.and_eq_true] at h
    obtain ⟨m, h1, h2⟩ := zz_cnt_ok hL h.2
    have : ∃ x, zz_val ρ v = some (.inr (.inl x)) := by
      have h9 := h.1
      rcases v with c | ⟨k, d⟩ | i | c | k
      · cases h9
      · cases h9
      · cases h9
      · exact ⟨_, rfl⟩
      · have hlt : k < ρ.2.length := by rw [hL]; exact xx_blt h9
        exact ⟨ρ.2[k], by simp only [zz_val, List.getElem?_eq_getElem hlt]⟩
    obtain ⟨x, hx⟩ := this
    exact ⟨x :: m, by rw [List.length_cons, h1], by rw [List.map_cons, List.map_cons, hx, h2]⟩
theorem zz_ints {ρ : zz_P} {cs : zz_C} (hc : zz_csm ρ cs) : ∀ {bs : List zz_V}, (∀ (k : Nat) (b : zz_V), bs[k]? = some b → ∃ r, zz_in cs b r = true) → ∃ m : List Int32, bs.map (zz_val ρ) = m.map (fun x => some (.inl x))
  | [], _ => ⟨[], rfl⟩
  | b :: bs, h => by
    obtain ⟨m, hm⟩ := zz_ints hc (bs := bs) (fun k b' hb => h (k + 1) b' hb)
    obtain ⟨r, hr⟩ := h 0 b rfl
    obtain ⟨x, hx, -, -⟩ := zz_in_val hc hr
    exact ⟨x :: m, by rw [List.map_cons, List.map_cons, hx, hm]⟩
/-- the pattern holds, with what its symbols are -/
theorem zz_ent_ok {tau : Nat → Nat → Int × Int} {Φ : zz_Ph} {ρ : zz_P} {ω : yy_O} {cs : zz_C} {nL : Nat} {ca : zz_A} {fl : zz_B} {ls : zz_L} {st : List zz_V} {lsC : yy_L} {stC : List yy_U} {bI bL : List zz_V} {Z : zz_Z} (ho : zz_ok tau Φ ρ ω cs nL ca fl ls st lsC stC) (h : zz_ent cs nL ca fl ls st bI bL Z = true) : ∃ σ, zz_bm ρ bI bL σ ∧ zz_ok tau Φ σ ω Z.1 Z.2.1 Z.2.2.1 Z.2.2.2.1 Z.2.2.2.2.1 Z.2.2.2.2.2 lsC stC := by
  unfold zz_ent at h
  simp only [Bool.and_eq_true] at h
  obtain ⟨h1, h2, h3, h4, h5, h6⟩ := h
  obtain ⟨hc, hL, hty, hca, hfl, hls, hst⟩ := ho
  obtain ⟨l1, l2⟩ := zz_ccs_ok h1
  obtain ⟨mL, e1, e2⟩ := zz_cnt_ok hL h2
  obtain ⟨mI, e3⟩ := zz_ints hc (bs := bI) (fun k b hb => by
    have hlt : k < Z.1.length := by rw [← l1]; exact (List.getElem?_eq_some_iff.mp hb).1
    exact ⟨_, (l2 k _ b (List.getElem?_eq_getElem hlt) hb).1⟩)
  have hlen : mI.length = Z.1.length := by
    have : (bI.map (zz_val ρ)).length = (mI.map (fun x => (some (.inl x) : Option yy_U))).length := by rw [e3]
    rw [List.length_map, List.length_map] at this
    rw [← this]
    exact l1
  have hb : zz_bm ρ bI bL (mI, mL) := ⟨e3, e2⟩
  refine ⟨(mI, mL), hb, ⟨hlen, fun k y x hk hx => ?_⟩, e1, hty, fun q hq => ?_, fun f hf => ?_, fun i v hi => ?_, ?_⟩
  · obtain ⟨b, hbk, hbv⟩ := zz_map_at' e3 hx
    obtain ⟨g1, g2, g3⟩ := l2 k y b hk hbk
    obtain ⟨x', ex, b1, b2⟩ := zz_in_ok hc g1 hbv
    cases ex
    refine ⟨b1, b2, fun t c ht => ?_, fun f hf => ?_⟩
    · rw [ht] at g2
      simp only [zz_clk] at g2
      split at g2
      · rename_i w hw
        obtain ⟨z, hz1, hz2⟩ := zz_map_at e3 hw
        have := zz_geV_ok hc g2 hbv hz2
        exact ⟨z, hz1, this⟩
      · cases g2
    · rw [hf] at g3
      obtain ⟨o, fx, fy⟩ := f
      simp only [zz_cdf] at g3
      split at g3
      · rename_i s
        split at g3
        · rename_i lo hi lk o' x' y' hs
          simp only [Bool.and_eq_true] at g3
          have eo := Nat.eq_of_beq_eq_true g3.1
          subst eo
          obtain ⟨z, hz⟩ := zz_sym_z hbv
          have hzx : z = x := by
            simp only [zz_val, hz] at hbv
            have : z + Int32.ofInt 0 = x := by
              cases hbv
              rfl
            rw [← this]
            exact (Int32.add_zero z).symm
          subst hzx
          have hd := (hc.2 s _ z hs hz).2.2.2 _ rfl
          unfold zz_dfm at hd ⊢
          simp only at hd ⊢
          split at hd
          all_goals first
            | (obtain ⟨p, q, d1, d2, d3⟩ := hd; exact ⟨p, q, zz_sbq_ok hc hb g3.2.1 d1, zz_sbq_ok hc hb g3.2.2 d2, d3⟩)
            | exact hd.elim
        · cases g3
      · cases g3
  · obtain ⟨jx, a, i9, c1, c2, c3, c4⟩ := zz_cca_ok h5 hq
    obtain ⟨j, d1, d2, d3⟩ := hca _ c2
    obtain ⟨u, u1, u2⟩ := zz_sb_val hb c1
    have d1 : zz_val ρ i9 = some (.inl j) := d1
    have d0 := zz_sm_ok hc c4 d1 (zz_nrm_ok hc u1)
    cases d0
    exact ⟨j, u2, d2, d3.imp (zz_sbq_ok hc hb c3) (zz_sbq_ok hc hb c3)⟩
  · obtain ⟨g, g1, g2, g3⟩ := zz_cfl_ok h6 hf
    obtain ⟨as, a1, a2⟩ := hfl g g1
    exact ⟨as, zz_sbs_ok hc hb (fun x => .inl x) g3 a1, by rw [← g2]; exact a2⟩
  · obtain ⟨a, a1, a2⟩ := zz_cls_ok h3 hi
    obtain ⟨u, u1, u2⟩ := hls i a a1
    exact ⟨u, zz_sbq_ok hc hb a2 u1, u2⟩
  · exact zz_sbs_ok hc hb (fun x => x) h4 hst
/-! finding what the symbols are -/
theorem zz_bd_ok {bI bL : List zz_V} {v a : zz_V} {k : List zz_V → List zz_V → Bool} (h : zz_bd bI bL v a k = true) : ∃ bI' bL', bI <+: bI' ∧ bL <+: bL' ∧ k bI' bL' = true := by
  have same : k bI bL = true → ∃ bI' bL', bI <+: bI' ∧ bL <+: bL' ∧ k bI' bL' = true := fun h => ⟨bI, bL, List.prefix_rfl, List.prefix_rfl, h⟩
  rcases v with c | ⟨s, d⟩ | i | c | s
  · exact same h
  · simp only [zz_bd, xx_len_eq, Nat.zero_add] at h
    split at h
    · rw [xx_app_eq] at h
      exact ⟨_, bL, List.prefix_append _ _, List.prefix_rfl, h⟩
    · exact same h
  · exact same h
  · exact same h
  · simp only [zz_bd, xx_len_eq, Nat.zero_add] at h
    split at h
    · rw [xx_app_eq] at h
      exact ⟨bI, _, List.prefix_rfl, List.prefix_append _ _, h⟩
    · exact same h
theorem zz_bds_ok : ∀ {vs as : List zz_V} {bI bL : List zz_V} {k : List zz_V → List zz_V → Bool}, zz_bds bI bL vs as k = true → ∃ bI' bL', bI <+: bI' ∧ bL <+: bL' ∧ k bI' bL' = true
  | v :: vs, a :: as, bI, bL, k, h => by
    simp only [zz_bds] at h
    obtain ⟨b1, b2, p1, p2, h1⟩ := zz_bd_ok h
    obtain ⟨c1, c2, q1, q2, h2⟩ := zz_bds_ok h1
    exact ⟨c1, c2, p1.trans q1, p2.trans q2, h2⟩
  | [], as, bI, bL, k, h => ⟨bI, bL, List.prefix_rfl, List.prefix_rfl, h⟩
  | v :: vs, [], bI, bL, k, h => ⟨bI, bL, List.prefix_rfl, List.prefix_rfl, h⟩
theorem zz_bls_ok {ls : zz_L} : ∀ {l : zz_L} {bI bL : List zz_V} {k : List zz_V → List zz_V → Bool}, zz_bls ls bI bL l k = true → ∃ bI' bL', bI <+: bI' ∧ bL <+: bL' ∧ k bI' bL' = true
  | [], bI, bL, k, h => ⟨bI, bL, List.prefix_rfl, List.prefix_rfl, h⟩
  | (i, v) :: r, bI, bL, k, h => by
    simp only [zz_bls] at h
    split at h
    · obtain ⟨b1, b2, p1, p2, h1⟩ := zz_bd_ok h
      obtain ⟨c1, c2, q1, q2, h2⟩ := zz_bls_ok h1
      exact ⟨c1, c2, p1.trans q1, p2.trans q2, h2⟩
    · exact zz_bls_ok h
theorem zz_bfl_ok {cs : zz_C} {fl : zz_B} : ∀ {l : zz_B} {bI bL : List zz_V} {k : List zz_V → List zz_V → Bool}, zz_bfl cs fl bI bL l k = true → ∃ bI' bL', bI <+: bI' ∧ bL <+: bL' ∧ k bI' bL' = true
  | [], bI, bL, k, h => ⟨bI, bL, List.prefix_rfl, List.prefix_rfl, h⟩
  | (i, v) :: r, bI, bL, k, h => by
    simp only [zz_bfl] at h
    split at h
    · obtain ⟨b1, b2, p1, p2, h1⟩ := zz_bds_ok h
      obtain ⟨c1, c2, q1, q2, h2⟩ := zz_bfl_ok h1
      exact ⟨c1, c2, p1.trans q1, p2.trans q2, h2⟩
    · exact zz_bfl_ok h
section ZM
variable {E : zz_E} {Φ : zz_Ph} {ω : yy_O} {fl : zz_B} {ls : zz_L} {st : List zz_V} {lsC : yy_L} {stC : List yy_U}
theorem zz_tyv_ok {key : Nat} {ix : zz_V} {ρ : zz_P} {cs : zz_C} {j : Int32} (hE : zz_env E Φ) (hty : zz_tyd E.2.2.1 ω) (hc : zz_csm ρ cs) (hin : zz_in cs ix (0, xx_hi) = true) (hj : zz_val ρ ix = some (.inl j)) : (zz_tyv E key ix).1 ≤ (ω.1 key j.toNatClampNeg).toInt ∧ (ω.1 key j.toNatClampNeg).toInt ≤ (zz_tyv E key ix).2 := by
  have gen : (match E.2.1[key]? with
    | some (.inl _) => E.2.2.1 key 0
    | _ => xx_full).1 ≤ (ω.1 key j.toNatClampNeg).toInt ∧ (ω.1 key j.toNatClampNeg).toInt ≤ (match E.2.1[key]? with
    | some (.inl _) => E.2.2.1 key 0
    | _ => xx_full).2 := by
    split
    · rename_i dd hG
      rw [← hE.1 key _ j.toNatClampNeg hG]
      exact hty key _
    · exact xx_rng _
  rcases ix with c | q
  · cases c with
    | ofNat n =>
      have e : j.toNatClampNeg = n := by
        cases hj
        obtain ⟨x, e9, b1, b2⟩ := zz_in_ok hc hin (show zz_val ρ (.inl (Int.ofNat n)) = some (.inl (Int32.ofInt (Int.ofNat n))) from rfl)
        cases e9
        simp only [zz_in, zz_iv] at hin
        split at hin
        · rename_i q hq
          split at hq
          · rename_i hr
            rw [Bool.and_eq_true, xx_le_iff, xx_le_iff] at hr
            show (Int32.ofInt (Int.ofNat n)).toInt.toNat = n
            rw [xx_ofInt hr.1 hr.2]
            rfl
          · cases hq
        · rw [Bool.and_eq_true, xx_le_iff] at hin
          have := hin.1
          unfold xx_lo at this
          have : (0 : Int) ≤ -2147483648 := this
          omega
      show (E.2.2.1 key n).1 ≤ _ ∧ _ ≤ (E.2.2.1 key n).2
      rw [e]
      exact hty key n
    | negSucc n => exact gen
  · exact gen
theorem zz_bca_ok (hE : zz_env E Φ) : ∀ {l : zz_A} {cs : zz_C} {nL : Nat} {ca : zz_A} {bI bL : List zz_V} {k : zz_C → Nat → zz_A → List zz_V → List zz_V → Bool} {ρ : zz_P}, zz_ok E.2.2.1 Φ ρ ω cs nL ca fl ls st lsC stC → zz_bca E cs nL ca bI bL l k = true → ∃ ρ' cs' nL' ca' bI' bL', zz_ex ρ ρ' ∧ zz_ok E.2.2.1 Φ ρ' ω cs' nL' ca' fl ls st lsC stC ∧ bI <+: bI' ∧ bL <+: bL' ∧ k cs' nL' ca' bI' bL' = true
  | [], cs, nL, ca, bI, bL, k, ρ, ho, h => ⟨ρ, cs, nL, ca, bI, bL, zz_ex_rf ρ, ho, List.prefix_rfl, List.prefix_rfl, h⟩
  | (key, (ix, v)) :: r, cs, nL, ca, bI, bL, k, ρ, ho, h => by
    simp only [zz_bca] at h
    split at h
    · rename_i jx0 hjx
      rw [zz_fV_eq] at h
      generalize zz_nrm cs jx0 = jx at h
      split at h
      · obtain ⟨b1, b2, p1, p2, h1⟩ := zz_bd_ok h
        obtain ⟨ρ', cs', nL', ca', bI', bL', q1, q2, q3, q4, q5⟩ := zz_bca_ok hE ho h1
        exact ⟨ρ', cs', nL', ca', bI', bL', q1, q2, p1.trans q3, p2.trans q4, q5⟩
      · split at h
        · exact zz_bca_ok hE ho h
        · rename_i hin
          obtain ⟨j, hj, j1, j2⟩ := zz_in_val ho.1 hin
          split at h
          · rw [zz_lng_eq] at h
            obtain ⟨b1, b2, p1, p2, h1⟩ := zz_bd_ok h
            obtain ⟨e1, e2, e3⟩ := zz_lng_ok ho.2.1 (ω.2 key j.toNatClampNeg)
            have ho2 := ho.ex e1 (zz_csm_ex ho.1 e1) e2
            have ho3 : zz_ok E.2.2.1 Φ (ρ.1, ρ.2 ++ [ω.2 key j.toNatClampNeg]) ω cs (nL + 1) ((key, (jx, .inr (.inr (.inr (.inr nL))))) :: ca) fl ls st lsC stC := ⟨ho2.1, ho2.2.1, ho2.2.2.1, fun q hq9 => by
              rcases List.mem_cons.mp hq9 with e | e
              · subst e
                exact ⟨j, zz_val_ex e1 hj, j1, Or.inr e3⟩
              · exact ho2.2.2.2.1 q e, ho2.2.2.2.2⟩
            obtain ⟨ρ', cs', nL', ca', bI', bL', q1, q2, q3, q4, q5⟩ := zz_bca_ok hE ho3 h1
            exact ⟨ρ', cs', nL', ca', bI', bL', zz_ex_tr e1 q1, q2, p1.trans q3, p2.trans q4, q5⟩
          · have hb := zz_tyv_ok (key := key) hE ho.2.2.1 ho.1 hin hj
            rw [zz_yy_eq, zz_new_eq] at h
            obtain ⟨b1, b2, p1, p2, h1⟩ := zz_bd_ok h
            obtain ⟨e1, e2, e3⟩ := zz_csm_new (y := ((zz_tyv E key jx).1, ((zz_tyv E key jx).2, (none, none)))) (x := ω.1 key j.toNatClampNeg) ho.1 ⟨hb.1, hb.2, (fun t c ht => by cases ht), fun f hf => by cases hf⟩
            have ho2 := ho.ex e1 e2 ho.2.1
            have ho3 : zz_ok E.2.2.1 Φ (ρ.1 ++ [ω.1 key j.toNatClampNeg], ρ.2) ω (cs ++ [((zz_tyv E key jx).1, ((zz_tyv E key jx).2, (none, none)))]) nL ((key, (jx, .inr (.inl (cs.length, 0)))) :: ca) fl ls st lsC stC := ⟨ho2.1, ho2.2.1, ho2.2.2.1, fun q hq9 => by
              rcases List.mem_cons.mp hq9 with e | e
              · subst e
                exact ⟨j, zz_val_ex e1 hj, j1, Or.inl e3⟩
              · exact ho2.2.2.2.1 q e, ho2.2.2.2.2⟩
            obtain ⟨ρ', cs', nL', ca', bI', bL', q1, q2, q3, q4, q5⟩ := zz_bca_ok hE ho3 h1
            exact ⟨ρ', cs', nL', ca', bI', bL', zz_ex_tr e1 q1, q2, p1.trans q3, p2.trans q4, q5⟩
    · exact zz_bca_ok hE ho h
/-- a state held against a pattern -/
theorem zz_mt_ok {i0 l0 : List zz_V} {cs : zz_C} {nL : Nat} {ca : zz_A} {Z : zz_Z} {ok : zz_C → Nat → zz_A → List zz_V → List zz_V → Bool} {no : Bool} {ρ : zz_P} (hE : zz_env E Φ) (ho : zz_ok E.2.2.1 Φ ρ ω cs nL ca fl ls st lsC stC) (h : zz_mt E i0 l0 cs nL ca fl ls st Z ok no = true) :
    no = true ∨ ∃ ρ' cs' nL' ca' bI bL σ, zz_ex ρ ρ' ∧ zz_ok E.2.2.1 Φ ρ' ω cs' nL' ca' fl ls st lsC stC ∧ i0 <+: bI ∧ l0 <+: bL ∧ zz_bm ρ' bI bL σ ∧ zz_ok E.2.2.1 Φ σ ω Z.1 Z.2.1 Z.2.2.1 Z.2.2.2.1 Z.2.2.2.2.1 Z.2.2.2.2.2 lsC stC ∧ ok cs' nL' ca' bI bL = true := by
  unfold zz_mt at h
  obtain ⟨b1, b2, p1, p2, h⟩ := zz_bls_ok h
  obtain ⟨b3, b4, p3, p4, h⟩ := zz_bds_ok h
  obtain ⟨ρ', cs', nL', ca', b5, b6, q1, q2, p5, p6, h⟩ := zz_bca_ok hE ho h
  obtain ⟨b7, b8, p7, p8, h⟩ := zz_bfl_ok h
  split at h
  · rename_i he
    obtain ⟨σ, s1, s2⟩ := zz_ent_ok q2 he
    exact Or.inr ⟨ρ', cs', nL', ca', b7, b8, σ, q1, q2, ((p1.trans p3).trans p5).trans p7, ((p2.trans p4).trans p6).trans p8, s1, s2, h⟩
  · exact Or.inl h
end ZM
