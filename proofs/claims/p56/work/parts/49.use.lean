/-! contracts used -/
def zz_KOK (E : zz_E) (Φ : zz_Ph) (kee : Nat → Int64) (K : zz_K) : Prop := ∀ (ρ : zz_P) (ω : yy_O) (as : List yy_U) (d : Nat), K.2.1 ≤ d → zz_ok E.2.2.1 Φ ρ ω K.2.2.1.1 K.2.2.1.2.1 K.2.2.1.2.2.1 K.2.2.1.2.2.2.1 K.2.2.1.2.2.2.2.1 K.2.2.1.2.2.2.2.2 [] as → ∃ M, E.1[K.1]? = some M ∧ zz_wp E.1 E.2.1 kee (zz_rd K.2.2.2.2) none d M 0 (yy_arg 0 as) [] ω (fun v ω' => ∃ o ∈ K.2.2.2.1, ∃ ρ', zz_ex ρ ρ' ∧ zz_ok E.2.2.1 Φ ρ' ω' o.1 o.2.1 o.2.2.1 o.2.2.2.1 o.2.2.2.2.1 o.2.2.2.2.2 [] v.toList ∧ zz_fr K.2.2.2.2 ω ω')
theorem zz_subD_ok {D : zz_D} {k j : Nat} : ∀ {D' : zz_D}, zz_subD D D' = true → zz_cov D' k j → zz_cov D k j
  | [], _, hc => by
    obtain ⟨_, hq, _⟩ := hc
    cases hq
  | (q, r) :: t, h, hc => by
    simp only [zz_subD, Bool.and_eq_true] at h
    obtain ⟨z, hz, g⟩ := hc
    rcases List.mem_cons.mp hz with e | e
    · subst e
      rcases g with ⟨g1, g2, g3⟩ | ⟨g1, g2⟩
      · have g1 : q = k := g1
        subst g1
        exact zz_may_ok g2 g3 h.1
      · have g1 : q = 3000000 := g1
        rw [g1] at h
        exact zz_may_all g2 h.1
    · exact zz_subD_ok h.2 ⟨z, e, g⟩
theorem zz_lk2_ok {ρ : zz_P} {cs : zz_C} {bI : List zz_V} {lk : Option (Nat × Int)} {q : Nat} {c' : Int} {s : List Int32} (hc : zz_csm ρ cs) (hb : bI.map (zz_val ρ) = s.map (fun x => some (.inl x))) (h : zz_lk2 cs bI lk = some (q, c')) : ∃ t c z zq, lk = some (t, c) ∧ s[t]? = some z ∧ ρ.1[q]? = some zq ∧ zq.toInt + c' = z.toInt + c := by
  unfold zz_lk2 at h
  split at h
  · cases h
  · rename_i t c
    split at h
    · rename_i q0 e hk
      split at h
      · rename_i r hr
        cases h
        obtain ⟨z, h1, h2⟩ := zz_map_at hb hk
        obtain ⟨zq, hzq⟩ := zz_sym_z h2
        have := zz_iv_sym hc hr hzq h2
        exact ⟨t, c, z, zq, rfl, h1, hzq, by omega⟩
      · cases h
    · cases h
theorem zz_addc_ok {cs0 : zz_C} {s2 : List Int64} : ∀ {news : zz_C} {cs : zz_C} {bI : List zz_V} {k : zz_C → List zz_V → Bool} {ρ : zz_P} {s τ : List Int32}, zz_csm ρ cs → bI.map (zz_val ρ) = s.map (fun x => some (.inl x)) → τ.length = news.length → (∀ (j : Nat) (y : zz_Y) (x : Int32), news[j]? = some y → τ[j]? = some x → zz_ym (s ++ τ, s2) y x) → zz_addc cs0 cs bI news k = true → ∃ ρ' cs' bI', zz_ex ρ ρ' ∧ ρ'.2 = ρ.2 ∧ zz_csm ρ' cs' ∧ bI'.map (zz_val ρ') = (s ++ τ).map (fun x => some (.inl x)) ∧ k cs' bI' = true
  | [], cs, bI, k, ρ, s, τ, hc, hb, hl, _, h => by
    have : τ = [] := List.length_eq_zero_iff.mp hl
    subst this
    exact ⟨ρ, cs, bI, zz_ex_rf ρ, rfl, hc, by rw [List.append_nil]; exact hb, h⟩
  | (lo, (hi, (lk, df))) :: r, cs, bI, k, ρ, s, τ, hc, hb, hl, hy, h => by
    cases τ with
    | nil => cases hl
    | cons x τ =>
      have hl : τ.length = r.length := Nat.succ.inj hl
      have hx := hy 0 _ x rfl rfl
      have go : ∀ (lk' : Option (Nat × Int)), (∀ t c, lk' = some (t, c) → ∃ z, ρ.1[t]? = some z ∧ z.toInt + c ≤ x.toInt) → zz_addc cs0 (cs ++ [(lo, (hi, (lk', none)))]) (bI ++ [.inr (.inl (cs.length, 0))]) r k = true → ∃ ρ' cs' bI', zz_ex ρ ρ' ∧ ρ'.2 = ρ.2 ∧ zz_csm ρ' cs' ∧ bI'.map (zz_val ρ') = (s ++ x :: τ).map (fun x => some (.inl x)) ∧ k cs' bI' = true := by
        intro lk' hlk hh
        obtain ⟨e1, e2, e3⟩ := zz_csm_new (y := (lo, (hi, (lk', none)))) (x := x) hc ⟨hx.1, hx.2.1, hlk, fun f hf => by cases hf⟩
        have hb2 : (bI ++ ([.inr (.inl (cs.length, 0))] : List zz_V)).map (zz_val (ρ.1 ++ [x], ρ.2)) = (s ++ [x]).map (fun x => some (.inl x)) := by
          rw [List.map_append, List.map_append, zz_map_ex e1 (fun x => .inl x) hb, List.map_cons, e3]
          rfl
        have hcat : (s ++ [x]) ++ τ = s ++ x :: τ := by rw [List.append_assoc]; rfl
        obtain ⟨ρ', cs', bI', g1, g2, g3, g4, g5⟩ := zz_addc_ok e2 hb2 hl (fun j y x' hj hx' => by
          have := hy (j + 1) y x' hj hx'
          rw [← hcat] at this
          exact this) hh
        rw [hcat] at g4
        exact ⟨ρ', cs', bI', zz_ex_tr e1 g1, g2, g3, g4, g5⟩
      simp only [zz_addc] at h
      split at h
      · rename_i q c hlk
        simp only [xx_fN_eq, xx_fI_eq, zz_new_eq, xx_app_eq] at h
        refine go (some (q, c)) (fun t c9 ht => ?_) h
        cases ht
        obtain ⟨t0, c0, z, zq, a1, a2, a3, a4⟩ := zz_lk2_ok hc hb hlk
        obtain ⟨z', b1, b2⟩ := hx.2.2.1 t0 c0 a1
        have b1 : (s ++ x :: τ)[t0]? = some z' := b1
        rw [List.getElem?_append_left (List.getElem?_eq_some_iff.mp a2).1, a2] at b1
        cases b1
        exact ⟨zq, a3, by omega⟩
      · simp only [zz_new_eq, xx_app_eq] at h
        exact go none (fun t c ht => by cases ht) h
theorem zz_addl_ok : ∀ {n nL : Nat} {bL : List zz_V} {k : Nat → List zz_V → Bool} {ρ : zz_P} {cs : zz_C} {s τ : List Int64}, zz_csm ρ cs → ρ.2.length = nL → bL.map (zz_val ρ) = s.map (fun x => some (.inr (.inl x))) → τ.length = n → zz_addl n nL bL k = true → ∃ ρ' nL' bL', zz_ex ρ ρ' ∧ zz_csm ρ' cs ∧ ρ'.2.length = nL' ∧ bL'.map (zz_val ρ') = (s ++ τ).map (fun x => some (.inr (.inl x))) ∧ k nL' bL' = true
  | 0, nL, bL, k, ρ, cs, s, τ, hc, hL, hb, hl, h => by
    have : τ = [] := List.length_eq_zero_iff.mp hl
    subst this
    exact ⟨ρ, nL, bL, zz_ex_rf ρ, hc, hL, by rw [List.append_nil]; exact hb, h⟩
  | n + 1, nL, bL, k, ρ, cs, s, τ, hc, hL, hb, hl, h => by
    cases τ with
    | nil => cases hl
    | cons x τ =>
      simp only [zz_addl, zz_lng_eq, xx_app_eq] at h
      obtain ⟨e1, e2, e3⟩ := zz_lng_ok hL x
      have hb2 : (bL ++ ([.inr (.inr (.inr (.inr nL)))] : List zz_V)).map (zz_val (ρ.1, ρ.2 ++ [x])) = (s ++ [x]).map (fun x => some (.inr (.inl x))) := by
        rw [List.map_append, List.map_append, zz_map_ex e1 (fun x => .inr (.inl x)) hb, List.map_cons, e3]
        rfl
      have hcat : (s ++ [x]) ++ τ = s ++ x :: τ := by rw [List.append_assoc]; rfl
      obtain ⟨ρ', nL', bL', g1, g2, g3, g4, g5⟩ := zz_addl_ok (zz_csm_ex hc e1) e2 hb2 (Nat.succ.inj hl) h
      rw [hcat] at g4
      exact ⟨ρ', nL', bL', zz_ex_tr e1 g1, g2, g3, g4, g5⟩
theorem zz_sbl_ok {ρ σ : zz_P} {bI bL : List zz_V} (hb : zz_bm ρ bI bL σ) : ∀ {vs : List zz_V} {k : List zz_V → Bool}, zz_sbl bI bL vs k = true → ∃ ws, k ws = true ∧ ∀ {α : Type} {f : α → yy_U} {us : List α}, vs.map (zz_val σ) = us.map (fun x => some (f x)) → ws.map (zz_val ρ) = us.map (fun x => some (f x))
  | [], k, h => ⟨[], h, fun g => g⟩
  | v :: vs, k, h => by
    simp only [zz_sbl] at h
    split at h
    · rename_i w hw
      rw [zz_fV_eq] at h
      obtain ⟨ws, h1, h2⟩ := zz_sbl_ok hb h
      refine ⟨w :: ws, h1, fun {α f us} g => ?_⟩
      cases us with
      | nil => cases g
      | cons u us =>
        rw [List.map_cons, List.map_cons, List.cons.injEq] at g ⊢
        obtain ⟨u', u1, u2⟩ := zz_sb_val hb hw
        rw [g.1] at u2
        cases u2
        exact ⟨u1, h2 g.2⟩
    · cases h
theorem zz_sba_ok {ρ σ : zz_P} {cs : zz_C} {ω : yy_O} {bI bL : List zz_V} (hc : zz_csm ρ cs) (hb : zz_bm ρ bI bL σ) : ∀ {l ca : zz_A} {k : zz_A → Bool}, zz_cam ρ ω ca → zz_cam σ ω l → zz_sba cs bI bL ca l k = true → ∃ ca', zz_cam ρ ω ca' ∧ k ca' = true
  | [], ca, k, h1, _, h => ⟨ca, h1, h⟩
  | (key, (ix, v)) :: r, ca, k, h1, h2, h => by
    simp only [zz_sba] at h
    split at h
    · rename_i jx hjx
      split at h
      · rename_i w hw
        simp only [zz_fV_eq] at h
        refine zz_sba_ok hc hb (fun q hq => ?_) (fun q hq => h2 q (List.mem_cons_of_mem _ hq)) h
        rcases List.mem_cons.mp hq with e | e
        · subst e
          obtain ⟨j, c1, c2, c3⟩ := h2 _ List.mem_cons_self
          obtain ⟨u, u1, u2⟩ := zz_sb_val hb hjx
          obtain ⟨u', u3, u4⟩ := zz_sb_val hb hw
          have c1 : zz_val σ ix = some (.inl j) := c1
          rw [c1] at u2
          cases u2
          refine ⟨j, zz_nrm_ok hc u1, c2, ?_⟩
          rcases c3 with c3 | c3
          · have c3 : zz_val σ v = some (.inl (ω.1 key j.toNatClampNeg)) := c3
            rw [c3] at u4
            cases u4
            exact Or.inl u3
          · have c3 : zz_val σ v = some (.inr (.inl (ω.2 key j.toNatClampNeg))) := c3
            rw [c3] at u4
            cases u4
            exact Or.inr u3
        · exact h1 q e
      · cases h
    · cases h
theorem zz_sbf_ok {Φ : zz_Ph} {ρ σ : zz_P} {ω : yy_O} {bI bL : List zz_V} (hb : zz_bm ρ bI bL σ) : ∀ {l fl : zz_B} {k : zz_B → Bool}, zz_flm Φ ρ ω fl → zz_flm Φ σ ω l → zz_sbf bI bL fl l k = true → ∃ fl', zz_flm Φ ρ ω fl' ∧ k fl' = true
  | [], fl, k, h1, _, h => ⟨fl, h1, h⟩
  | (i, vs) :: r, fl, k, h1, h2, h => by
    simp only [zz_sbf] at h
    obtain ⟨ws, g1, g2⟩ := zz_sbl_ok hb h
    refine zz_sbf_ok hb (fun f hf => ?_) (fun f hf => h2 f (List.mem_cons_of_mem _ hf)) g1
    rcases List.mem_cons.mp hf with e | e
    · subst e
      obtain ⟨as, a1, a2⟩ := h2 _ List.mem_cons_self
      exact ⟨as, g2 (f := fun x => .inl x) a1, a2⟩
    · exact h1 f e
theorem zz_ex_split {σ σ' : zz_P} (h : zz_ex σ σ') : ∃ τ1 τ2, σ'.1 = σ.1 ++ τ1 ∧ σ'.2 = σ.2 ++ τ2 := by
  obtain ⟨⟨a, ha⟩, ⟨b, hb⟩⟩ := h
  exact ⟨a, b, ha.symm, hb.symm⟩
section ZU
variable {E : zz_E} {Φ : zz_Ph} {kee : Nat → Int64} {ω0 ω : yy_O} {D : zz_D} {ρ : zz_P} {cs : zz_C} {nL : Nat} {ca : zz_A} {fl : zz_B} {ls : zz_L} {st : List zz_V} {lsC : yy_L} {stC : List yy_U}
/-- behind a call: one of its ends -/
theorem zz_outs_ok {σ σ' : zz_P} {D' : zz_D} {ω' : yy_O} {bI bL : List zz_V} {k : zz_C → Nat → zz_A → zz_B → List zz_V → Bool} {N NL : Nat} {o : zz_Z} {rv : List yy_U} (hE : zz_env E Φ) (ho : zz_ok E.2.2.1 Φ ρ ω cs nL ca fl ls st lsC stC) (hb : zz_bm ρ bI bL σ) (hN : σ.1.length = N) (hNL : σ.2.length = NL) (hex : zz_ex σ σ') (hfr : zz_fr D' ω ω') (hok : zz_ok E.2.2.1 Φ σ' ω' o.1 o.2.1 o.2.2.1 o.2.2.2.1 o.2.2.2.2.1 o.2.2.2.2.2 [] rv) : ∀ {os : List zz_Z}, o ∈ os → zz_outs E N NL D' cs nL ca fl bI bL k os = true → ∃ ρ' cs' nL' ca' fl' rs, zz_ex ρ ρ' ∧ zz_ok E.2.2.1 Φ ρ' ω' cs' nL' ca' fl' ls rs lsC rv ∧ k cs' nL' ca' fl' rs = true
  | [], hm, _ => by cases hm
  | q :: r, hm, h => by
    simp only [zz_outs, Bool.and_eq_true] at h
    rcases List.mem_cons.mp hm with e | e
    · subst e
      have h := h.1
      obtain ⟨τ1, τ2, t1, t2⟩ := zz_ex_split hex
      obtain ⟨oc, onL, oty, oca, ofl, ols, ost⟩ := hok
      have hlen : τ1.length = (o.1.drop N).length := by
        have := oc.1
        rw [t1, List.length_append, hN] at this
        rw [List.length_drop]
        omega
      obtain ⟨ρ1, cs1, bI1, a1, a2, a3, a4, h⟩ := zz_addc_ok (s := σ.1) (s2 := σ'.2) (τ := τ1) ho.1 hb.1 hlen (fun j y x hj hx => by
        rw [List.getElem?_drop] at hj
        have hx2 : σ'.1[N + j]? = some x := by
          rw [t1, List.getElem?_append_right (by omega), hN, Nat.add_sub_cancel_left]
          exact hx
        have := oc.2 (N + j) y x hj hx2
        rw [← t1]
        exact this) h
      have hL1 : ρ1.2.length = nL := by rw [a2]; exact ho.2.1
      have hlen2 : τ2.length = o.2.1 - NL := by
        rw [t2, List.length_append, hNL] at onL
        omega
      obtain ⟨ρ2, nL2, bL2, c1, c2, c3, c4, h⟩ := zz_addl_ok (s := σ.2) (τ := τ2) a3 hL1 (zz_map_ex a1 (fun x => .inr (.inl x)) hb.2) hlen2 h
      have he : zz_ex ρ ρ2 := zz_ex_tr a1 c1
      have hb2 : zz_bm ρ2 bI1 bL2 σ' := ⟨by rw [t1]; exact zz_map_ex c1 (fun x => .inl x) a4, by rw [t2]; exact c4⟩
      rw [zz_dropD_eq, zz_keepD_eq] at h
      have hca2 : zz_cam ρ2 ω' (ca.filter (fun q => !(zz_hit D' q.1 (zz_ivf cs q.2.1)))) := by
        intro q hq
        obtain ⟨e1, e2⟩ := List.mem_filter.mp hq
        obtain ⟨j, d1, d2, d3⟩ := ho.2.2.2.1 q e1
        rw [Bool.not_eq_true'] at e2
        obtain ⟨b1, b2⟩ := zz_ivf_ok ho.1 d1
        have hn := zz_natc d2
        have := hfr q.1 j.toNatClampNeg (zz_hit_no (by omega) (by omega) e2)
        refine ⟨j, zz_val_ex he d1, d2, ?_⟩
        rw [this.1, this.2]
        exact d3.imp (zz_val_ex he) (zz_val_ex he)
      have hfl2 : zz_flm Φ ρ2 ω' (fl.filter (fun f => !(zz_hits (E.2.2.2.1 f.1) D'))) := by
        intro f hf
        obtain ⟨e1, e2⟩ := List.mem_filter.mp hf
        obtain ⟨as, d1, d2⟩ := ho.2.2.2.2.1 f e1
        rw [Bool.not_eq_true'] at e2
        exact ⟨as, zz_map_ex he (fun x => .inl x) d1, hE.2 f.1 as ω ω' (fun q i hc => hfr q i (zz_hits_no e2 hc)) d2⟩
      obtain ⟨ca3, g1, h⟩ := zz_sba_ok c2 hb2 hca2 oca h
      obtain ⟨fl3, g2, h⟩ := zz_sbf_ok hb2 hfl2 ofl h
      obtain ⟨rs, h, g3⟩ := zz_sbl_ok hb2 h
      exact ⟨ρ2, cs1, nL2, ca3, fl3, rs, he, ⟨c2, c3, oty, g1, g2, zz_lsm_ex he ho.2.2.2.2.2.1, g3 (f := fun x => x) ost⟩, h⟩
    · exact zz_outs_ok hE ho hb hN hNL hex hfr hok e h.2
/-- the first contract that fits -/
theorem zz_use_ok {lim d t : Nat} {args : List zz_V} {as : List yy_U} {k : zz_C → Nat → zz_A → zz_B → List zz_V → Bool} (hE : zz_env E Φ) (hK : ∀ i K, i < lim → E.2.2.2.2.1[i]? = some K → zz_KOK E Φ kee K) (ho : zz_ok E.2.2.1 Φ ρ ω cs nL ca fl ls st lsC stC) (hf : zz_fr D ω0 ω) (has : zz_stm ρ args as) : ∀ {is : List Nat}, zz_use E lim d t D cs nL ca fl args k is = true → ∃ M, E.1[t]? = some M ∧ zz_wp E.1 E.2.1 kee (zz_rd D) none d M 0 (yy_arg 0 as) [] ω (fun v ω' => ∃ ρ' cs' nL' ca' fl' rs, zz_ex ρ ρ' ∧ zz_ok E.2.2.1 Φ ρ' ω' cs' nL' ca' fl' ls rs lsC v.toList ∧ zz_fr D ω0 ω' ∧ k cs' nL' ca' fl' rs = true)
  | [], h => by cases h
  | i :: r, h => by
    simp only [zz_use] at h
    split at h
    · rename_i t' d' Z os D' hi
      split at h
      · rename_i hq
        simp only [Bool.and_eq_true] at hq
        have hlt := xx_blt hq.1
        have ht := Nat.eq_of_beq_eq_true hq.2.1
        subst ht
        have hd := Nat.le_of_ble_eq_true hq.2.2.1
        have hsub := hq.2.2.2
        have ho1 : zz_ok E.2.2.1 Φ ρ ω cs nL ca fl [] args [] as := ho.via (fun i v hi => by cases hi) has
        rcases zz_mt_ok hE ho1 h with h9 | ⟨ρ1, cs1, nL1, ca1, bI, bL, σ, e1, e2, -, -, e5, e6, e7⟩
        · exact zz_use_ok hE hK ho hf has h9
        · obtain ⟨M, hM, hwp⟩ := hK i _ hlt hi σ ω as d hd e6
          refine ⟨M, hM, zz_wp_R (fun k j hr => zz_subD_ok hsub hr) (zz_wp_imp hwp (fun v ω' hv => ?_))⟩
          obtain ⟨o, ho9, σ', g1, g2, g3⟩ := hv
          have ho2 : zz_ok E.2.2.1 Φ ρ1 ω cs1 nL1 ca1 fl ls st lsC stC := ⟨e2.1, e2.2.1, e2.2.2.1, e2.2.2.2.1, e2.2.2.2.2.1, zz_lsm_ex e1 ho.2.2.2.2.2.1, zz_stm_ex e1 ho.2.2.2.2.2.2⟩
          obtain ⟨ρ', cs', nL', ca', fl', rs, q1, q2, q3⟩ := zz_outs_ok hE ho2 e5 e6.1.1 e6.2.1 g1 g3 g2 ho9 e7
          refine ⟨ρ', cs', nL', ca', fl', rs, zz_ex_tr e1 q1, q2, fun q j hc => ?_, q3⟩
          obtain ⟨f1, f2⟩ := g3 q j (fun hc' => hc (zz_subD_ok hsub hc'))
          rw [f1, f2]
          exact hf q j hc
      · exact zz_use_ok hE hK ho hf has h
    · cases h
end ZU
