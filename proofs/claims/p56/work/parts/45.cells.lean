/-! cells read and written -/
def zz_env (E : zz_E) (Φ : zz_Ph) : Prop := (∀ k d j, E.2.1[k]? = some (.inl d) → E.2.2.1 k j = E.2.2.1 k 0) ∧ ∀ f as (ω ω' : yy_O), (∀ k j, zz_cov (E.2.2.2.1 f) k j → ω'.1 k j = ω.1 k j ∧ ω'.2 k j = ω.2 k j) → Φ f as ω → Φ f as ω'
theorem zz_fnd_ok {cs : zz_C} {key : Nat} {ix v : zz_V} : ∀ {ca : zz_A}, zz_fnd cs ca key ix = some v → ∃ i, (key, (i, v)) ∈ ca ∧ zz_sm cs i ix = true
  | [], h => by cases h
  | (q, (i, w)) :: r, h => by
    simp only [zz_fnd] at h
    split at h
    · rename_i hb
      rw [Bool.and_eq_true] at hb
      cases h
      rw [Nat.eq_of_beq_eq_true hb.1]
      exact ⟨i, List.mem_cons_self, hb.2⟩
    · obtain ⟨i9, h1, h2⟩ := zz_fnd_ok h
      exact ⟨i9, List.mem_cons_of_mem _ h1, h2⟩
theorem zz_drop_eq {β : Type} (cs : zz_C) (ca : zz_A) (key : Nat) (ix : zz_V) : ∀ k : zz_A → β, zz_drop cs ca key ix k = k (ca.filter (fun q => !(Nat.beq q.1 key && !(zz_apart cs q.2.1 ix)))) := by
  induction ca with
  | nil => intro k; rfl
  | cons q r ih =>
    intro k
    obtain ⟨a, i, v⟩ := q
    rw [List.filter_cons]
    simp only [zz_drop]
    cases (Nat.beq a key && !(zz_apart cs i ix)) with
    | true => simp only [ih, Bool.not_true, Bool.false_eq_true, if_false]
    | false => simp only [ih, Bool.not_false, if_true]
theorem zz_dropD_eq {β : Type} (cs : zz_C) (D : zz_D) (ca : zz_A) : ∀ k : zz_A → β, zz_dropD cs D ca k = k (ca.filter (fun q => !(zz_hit D q.1 (zz_ivf cs q.2.1)))) := by
  induction ca with
  | nil => intro k; rfl
  | cons q r ih =>
    intro k
    obtain ⟨a, i, v⟩ := q
    rw [List.filter_cons]
    simp only [zz_dropD]
    cases (zz_hit D a (zz_ivf cs i)) with
    | true => simp only [ih, Bool.not_true, Bool.false_eq_true, if_false]
    | false => simp only [ih, Bool.not_false, if_true]
theorem zz_keep_eq {β : Type} (E : zz_E) (fl : zz_B) (key : Nat) (r : Int × Int) : ∀ k : zz_B → β, zz_keep E fl key r k = k (fl.filter (fun f => !(zz_hit (E.2.2.2.1 f.1) key r))) := by
  induction fl with
  | nil => intro k; rfl
  | cons q t ih =>
    intro k
    rw [List.filter_cons]
    simp only [zz_keep]
    cases (zz_hit (E.2.2.2.1 q.1) key r) with
    | true => simp only [ih, Bool.not_true, Bool.false_eq_true, if_false]
    | false => simp only [ih, Bool.not_false, if_true]
theorem zz_keepD_eq {β : Type} (E : zz_E) (D : zz_D) (fl : zz_B) : ∀ k : zz_B → β, zz_keepD E D fl k = k (fl.filter (fun f => !(zz_hits (E.2.2.2.1 f.1) D))) := by
  induction fl with
  | nil => intro k; rfl
  | cons q t ih =>
    intro k
    rw [List.filter_cons]
    simp only [zz_keepD]
    cases (zz_hits (E.2.2.2.1 q.1) D) with
    | true => simp only [ih, Bool.not_true, Bool.false_eq_true, if_false]
    | false => simp only [ih, Bool.not_false, if_true]
theorem zz_may_ok {key j : Nat} {r : Int × Int} (h1 : r.1 ≤ (j : Int)) (h2 : (j : Int) ≤ r.2) : ∀ {D : zz_D}, zz_may D key r = true → zz_cov D key j
  | [], h => by cases h
  | (q, (a, b)) :: t, h => by
    simp only [zz_may, Bool.or_eq_true, Bool.and_eq_true, xx_le_iff] at h
    rcases h with h | h | h
    · exact ⟨_, List.mem_cons_self, Or.inl ⟨Nat.eq_of_beq_eq_true h.1, by show a ≤ _; omega, by show _ ≤ b; omega⟩⟩
    · exact ⟨_, List.mem_cons_self, Or.inr ⟨Nat.eq_of_beq_eq_true h.1, Nat.le_of_ble_eq_true h.2⟩⟩
    · obtain ⟨z, hz, g⟩ := zz_may_ok h1 h2 h
      exact ⟨z, List.mem_cons_of_mem _ hz, g⟩
theorem zz_may_all {k j : Nat} {r : Int × Int} (g : 2000000 ≤ k) : ∀ {D : zz_D}, zz_may D 3000000 r = true → zz_cov D k j
  | [], h => by cases h
  | (q, (a, b)) :: t, h => by
    simp only [zz_may, Bool.or_eq_true, Bool.and_eq_true] at h
    rcases h with h | h | h
    · exact ⟨_, List.mem_cons_self, Or.inr ⟨Nat.eq_of_beq_eq_true h.1, g⟩⟩
    · exact ⟨_, List.mem_cons_self, Or.inr ⟨Nat.eq_of_beq_eq_true h.1, g⟩⟩
    · obtain ⟨z, hz, g9⟩ := zz_may_all g h
      exact ⟨z, List.mem_cons_of_mem _ hz, g9⟩
theorem zz_hit_no {key j : Nat} {r : Int × Int} (h1 : r.1 ≤ (j : Int)) (h2 : (j : Int) ≤ r.2) : ∀ {D : zz_D}, zz_hit D key r = false → ¬ zz_cov D key j
  | [], _ => fun ⟨_, hq, _⟩ => by cases hq
  | (q, (a, b)) :: t, h => by
    simp only [zz_hit, Bool.or_eq_false_iff] at h
    rintro ⟨z, hz, g⟩
    rcases List.mem_cons.mp hz with e | e
    · subst e
      rcases g with ⟨g1, g2, g3⟩ | ⟨g1, g2⟩
      · have g1 : q = key := g1
        have g2 : a ≤ (j : Int) := g2
        have g3 : (j : Int) ≤ b := g3
        subst g1
        have : (Nat.beq q q && (xx_le a r.2 && xx_le r.1 b)) = true := by
          rw [Bool.and_eq_true, Bool.and_eq_true, xx_le_iff, xx_le_iff]
          exact ⟨Nat.beq_refl q, by omega, by omega⟩
        rw [this] at h
        cases h.1
      · have g1 : q = 3000000 := g1
        have : (Nat.beq q 3000000 && Nat.ble 2000000 key) = true := by
          rw [Bool.and_eq_true, g1]
          exact ⟨Nat.beq_refl _, Nat.ble_eq_true_of_le g2⟩
        rw [this] at h
        cases h.2.1
    · exact zz_hit_no h1 h2 h.2.2 ⟨z, e, g⟩
theorem zz_hits_no {k j : Nat} : ∀ {W D : zz_D}, zz_hits W D = false → zz_cov W k j → ¬ zz_cov D k j
  | [], _, _, hc => by
    obtain ⟨_, hq, _⟩ := hc
    cases hq
  | (q, r) :: t, D, h, hc => by
    simp only [zz_hits, Bool.or_eq_false_iff] at h
    obtain ⟨z, hz, g⟩ := hc
    rcases List.mem_cons.mp hz with e | e
    · subst e
      rcases g with ⟨g1, g2, g3⟩ | ⟨g1, g2⟩
      · have g1 : q = k := g1
        subst g1
        exact zz_hit_no g2 g3 h.2.1
      · have g1 : q = 3000000 := g1
        rw [g1] at h
        cases h.1
    · exact zz_hits_no h.2.2 ⟨z, e, g⟩
theorem zz_natc {j : Int32} (h : 0 ≤ j.toInt) : (j.toNatClampNeg : Int) = j.toInt := by
  show ((j.toInt.toNat : Nat) : Int) = j.toInt
  omega
theorem zz_ofN (f : Nat) (hf : f < 1000000) : (Int32.ofInt (f : Int)).toInt = (f : Int) ∧ (Int32.ofInt (f : Int)).toNatClampNeg = f := by
  have e : (Int32.ofInt (f : Int)).toInt = (f : Int) := xx_ofInt (by unfold xx_lo; omega) (by unfold xx_hi; omega)
  refine ⟨e, ?_⟩
  show (Int32.ofInt (f : Int)).toInt.toNat = f
  rw [e]
  rfl
section ZC
variable {E : zz_E} {Φ : zz_Ph} {P : yy_P} {M : xx_M} {d pc len : Nat} {ops : List Nat} {D : zz_D} {sc : Bool} {ω0 ω : yy_O} {ρ : zz_P} {cs : zz_C} {nL : Nat} {ca : zz_A} {fl : zz_B} {ls : zz_L} {st : List zz_V} {lsC : yy_L} {stC : List yy_U} {k : zz_G} {o : Option yy_R} {pc' : Nat}
/-- a place written: what stays -/
theorem zz_wr_ok {ω' : yy_O} {key : Nat} {ix v : zz_V} {j : Int32} {rest : List zz_V} {restC : List yy_U} (hE : zz_env E Φ) (ho : zz_ok E.2.2.1 Φ ρ ω cs nL ca fl ls st lsC stC) (hf : zz_fr D ω0 ω) (hj : zz_val ρ ix = some (.inl j)) (h0 : 0 ≤ j.toInt) (hch : ∀ q i, ¬ (q = key ∧ i = j.toNatClampNeg) → ω'.1 q i = ω.1 q i ∧ ω'.2 q i = ω.2 q i) (hty : (E.2.2.1 key j.toNatClampNeg).1 ≤ (ω'.1 key j.toNatClampNeg).toInt ∧ (ω'.1 key j.toNatClampNeg).toInt ≤ (E.2.2.1 key j.toNatClampNeg).2)
    (hv : zz_val ρ v = some (.inl (ω'.1 key j.toNatClampNeg)) ∨ zz_val ρ v = some (.inr (.inl (ω'.2 key j.toNatClampNeg)))) (hs : zz_stm ρ rest restC) (h : zz_wr E D cs ca fl key ix v (fun ca fl => k cs nL ca fl ls rest) = true) (hq : o = some (.inl (pc', (lsC, (restC, ω'))))) : zz_Nx E.2.2.1 Φ D ω0 k ρ o pc' := by
  simp only [zz_wr] at h
  split at h
  · rename_i r hr
    obtain ⟨b1, b2, -, -⟩ := zz_iv_ok ho.1 hr hj
    have hn := zz_natc h0
    split at h
    · rename_i hmay
      have hcov : zz_cov D key j.toNatClampNeg := zz_may_ok (by omega) (by omega) hmay
      rw [zz_keep_eq, zz_drop_eq] at h
      refine ⟨lsC, restC, ω', ρ, cs, nL, _, _, ls, rest, hq, h, zz_ex_rf ρ, ⟨ho.1, ho.2.1, ?_, ?_, ?_, ho.2.2.2.2.2.1, hs⟩, ?_⟩
      · intro q i
        by_cases hqi : q = key ∧ i = j.toNatClampNeg
        · obtain ⟨rfl, rfl⟩ := hqi
          exact hty
        · rw [(hch q i hqi).1]
          exact ho.2.2.1 q i
      · intro q hq9
        rcases List.mem_cons.mp hq9 with e | e
        · subst e
          exact ⟨j, hj, h0, hv⟩
        · obtain ⟨e1, e2⟩ := List.mem_filter.mp e
          obtain ⟨j', c1, c2, c3⟩ := ho.2.2.2.1 q e1
          have hne : ¬ (q.1 = key ∧ j'.toNatClampNeg = j.toNatClampNeg) := by
            rintro ⟨g1, g2⟩
            have hb : Nat.beq q.1 key = true := by rw [g1]; exact Nat.beq_refl key
            rw [hb, Bool.true_and, Bool.not_not] at e2
            unfold zz_apart at e2
            rw [Bool.or_eq_true] at e2
            have hn' := zz_natc c2
            rcases e2 with e2 | e2
            · have := zz_geV_ok ho.1 e2 c1 hj
              omega
            · have := zz_geV_ok ho.1 e2 hj c1
              omega
          refine ⟨j', c1, c2, ?_⟩
          rw [(hch _ _ hne).1, (hch _ _ hne).2]
          exact c3
      · intro f hf9
        obtain ⟨e1, e2⟩ := List.mem_filter.mp hf9
        obtain ⟨as, c1, c2⟩ := ho.2.2.2.2.1 f e1
        refine ⟨as, c1, hE.2 f.1 as ω ω' (fun q i hc => hch q i ?_) c2⟩
        rintro ⟨rfl, rfl⟩
        rw [Bool.not_eq_true'] at e2
        exact zz_hit_no (by omega) (by omega) e2 hc
      · intro q i hc
        have hne : ¬ (q = key ∧ i = j.toNatClampNeg) := by
          rintro ⟨rfl, rfl⟩
          exact hc hcov
        rw [(hch q i hne).1, (hch q i hne).2]
        exact hf q i hc
    · cases h
  · cases h
theorem zz_uI_ch {key j : Nat} {x : Int32} : ∀ q i, ¬ (q = key ∧ i = j) → (yy_uI ω key j x).1 q i = ω.1 q i ∧ (yy_uI ω key j x).2 q i = ω.2 q i := by
  intro q i h
  refine ⟨?_, rfl⟩
  by_cases hq : q = key
  · subst hq
    rw [yy_uI_at]
    exact pk_un (fun h9 => h ⟨rfl, h9⟩)
  · show (if q = key then upd (ω.1 q) j x else ω.1 q) i = _
    rw [if_neg hq]
theorem zz_uL_ch {key j : Nat} {x : Int64} : ∀ q i, ¬ (q = key ∧ i = j) → (yy_uL ω key j x).1 q i = ω.1 q i ∧ (yy_uL ω key j x).2 q i = ω.2 q i := by
  intro q i h
  refine ⟨rfl, ?_⟩
  by_cases hq : q = key
  · subst hq
    rw [yy_uL_at]
    exact pk_uLn (fun h9 => h ⟨rfl, h9⟩)
  · show (if q = key then vp_updL (ω.2 q) j x else ω.2 q) i = _
    rw [if_neg hq]
/-- a place read -/
theorem zz_rdI_ok {key : Nat} {ix : zz_V} {j : Int32} {r : Int × Int} {rest : List zz_V} {restC : List yy_U} (ho : zz_ok E.2.2.1 Φ ρ ω cs nL ca fl ls st lsC stC) (hf : zz_fr D ω0 ω) (hj : zz_val ρ ix = some (.inl j)) (h0 : 0 ≤ j.toInt) (hr : r.1 ≤ (ω.1 key j.toNatClampNeg).toInt ∧ (ω.1 key j.toNatClampNeg).toInt ≤ r.2) (hs : zz_stm ρ rest restC)
    (h : zz_rdI E cs ca key ix r (fun cs ca v => k cs nL ca fl ls (v :: rest)) = true) (hq : o = some (.inl (pc', (lsC, (.inl (ω.1 key j.toNatClampNeg) :: restC, ω))))) : zz_Nx E.2.2.1 Φ D ω0 k ρ o pc' := by
  simp only [zz_rdI] at h
  split at h
  · rename_i v hv
    split at h
    · rename_i hI
      obtain ⟨i9, hm9, hs9⟩ := zz_fnd_ok hv
      obtain ⟨j', c1, c2, c3⟩ := ho.2.2.2.1 _ hm9
      have c1 : zz_val ρ i9 = some (.inl j') := c1
      have c0 := zz_sm_ok ho.1 hs9 c1 hj
      cases c0
      have hvv : zz_val ρ v = some (.inl (ω.1 key j.toNatClampNeg)) := by
        rcases c3 with c3 | c3
        · exact c3
        · obtain ⟨x, hx⟩ := zz_isI_val c3 hI
          cases hx
      exact zz_Nx_st ho hf h (zz_stm_cons hvv hs) hq
    · cases h
  · rw [zz_yy_eq, zz_new_eq] at h
    obtain ⟨e1, e2, e3⟩ := zz_csm_new (y := (r.1, (r.2, (none, none)))) (x := ω.1 key j.toNatClampNeg) ho.1 ⟨hr.1, hr.2, (fun t c ht => by cases ht), fun f hf => by cases hf⟩
    have ho2 := ho.ex e1 e2 ho.2.1
    refine ⟨lsC, _, ω, _, _, nL, _, fl, ls, _, hq, h, e1, ⟨ho2.1, ho2.2.1, ho2.2.2.1, fun q hq9 => ?_, ho2.2.2.2.2.1, ho2.2.2.2.2.2.1, zz_stm_cons e3 (zz_stm_ex e1 hs)⟩, hf⟩
    rcases List.mem_cons.mp hq9 with e | e
    · subst e
      exact ⟨j, zz_val_ex e1 hj, h0, Or.inl e3⟩
    · exact ho2.2.2.2.1 q e
theorem zz_rdL_ok {key : Nat} {ix : zz_V} {j : Int32} {rest : List zz_V} {restC : List yy_U} (ho : zz_ok E.2.2.1 Φ ρ ω cs nL ca fl ls st lsC stC) (hf : zz_fr D ω0 ω) (hj : zz_val ρ ix = some (.inl j)) (h0 : 0 ≤ j.toInt) (hs : zz_stm ρ rest restC)
    (h : zz_rdL cs nL ca key ix (fun nL ca v => k cs nL ca fl ls (v :: rest)) = true) (hq : o = some (.inl (pc', (lsC, (.inr (.inl (ω.2 key j.toNatClampNeg)) :: restC, ω))))) : zz_Nx E.2.2.1 Φ D ω0 k ρ o pc' := by
  simp only [zz_rdL] at h
  split at h
  · rename_i v hv
    split at h
    · rename_i hI
      obtain ⟨i9, hm9, hs9⟩ := zz_fnd_ok hv
      obtain ⟨j', c1, c2, c3⟩ := ho.2.2.2.1 _ hm9
      have c1 : zz_val ρ i9 = some (.inl j') := c1
      have c0 := zz_sm_ok ho.1 hs9 c1 hj
      cases c0
      have hvv : zz_val ρ v = some (.inr (.inl (ω.2 key j.toNatClampNeg))) := by
        rcases c3 with c3 | c3
        · obtain ⟨x, hx⟩ := zz_isL_val c3 hI
          cases hx
        · exact c3
      exact zz_Nx_st ho hf h (zz_stm_cons hvv hs) hq
    · cases h
  · rw [zz_lng_eq] at h
    obtain ⟨e1, e2, e3⟩ := zz_lng_ok ho.2.1 (ω.2 key j.toNatClampNeg)
    have ho2 := ho.ex e1 (zz_csm_ex ho.1 e1) e2
    refine ⟨lsC, _, ω, _, cs, _, _, fl, ls, _, hq, h, e1, ⟨ho2.1, ho2.2.1, ho2.2.2.1, fun q hq9 => ?_, ho2.2.2.2.2.1, ho2.2.2.2.2.2.1, zz_stm_cons e3 (zz_stm_ex e1 hs)⟩, hf⟩
    rcases List.mem_cons.mp hq9 with e | e
    · subst e
      exact ⟨j, zz_val_ex e1 hj, h0, Or.inr e3⟩
    · exact ho2.2.2.2.1 q e
theorem zz_hgetf_ok (hfb : ∀ ci f q m, ops = [ci, f, q, m] → f < 1000000) (hP : P.1 = E.2.1) (ho : zz_ok E.2.2.1 Φ ρ ω cs nL ca fl ls st lsC stC) (hf : zz_fr D ω0 ω) (h : zz_hgetf E M ops D sc cs nL ca fl ls st k = true) : zz_Nx E.2.2.1 Φ D ω0 k ρ (yy_hgetf P M d pc len ops lsC stC ω) (pc + len) := by
  simp only [zz_hgetf] at h
  split at h
  · rename_i key rest
    obtain ⟨u, s1, rfl, hu, hs1⟩ := zz_stm_inv ho.2.2.2.2.2.2
    cases hu
    split at h
    · rename_i ci f q mode
      obtain ⟨n1, n2⟩ := zz_ofN f (hfb ci f q mode rfl)
      split at h
      · rename_i cj rs hG
        split at h
        · rename_i hcj
          have hstep : yy_hgetf P M d pc len [ci, f, q, mode] lsC (.inr (.inr key) :: s1) ω = yy_nx (pc + len) lsC (yy_fu ω key rs f (xx_ty ci f) :: s1) ω := by
            simp only [yy_hgetf, hP, hG, hcj]
          rw [hstep]
          split at h
          · rename_i ht
            refine zz_rdL_ok ho hf (ix := .inl (f : Int)) rfl (by omega) hs1 h ?_
            rw [ht, n2]
            rfl
          · rename_i ht
            rw [xx_fN_eq] at h
            refine zz_Nx_st ho hf h (zz_stm_cons rfl hs1) ?_
            rw [ht]
            rfl
          · rename_i ht
            rw [xx_fN_eq] at h
            refine zz_Nx_st ho hf h (zz_stm_cons rfl hs1) ?_
            rw [ht]
            rfl
          · rename_i h1 h2 h3
            refine zz_rdI_ok ho hf (ix := .inl (f : Int)) rfl (by omega) (by rw [n2]; exact ho.2.2.1 key f) hs1 h ?_
            rw [n2]
            have e : yy_fu ω key rs f (xx_ty ci f) = .inl (ω.1 key f) := by
              unfold yy_fu
              split
              · exact absurd ‹_› h1
              · exact absurd ‹_› (h2 _)
              · exact absurd ‹_› (h3 _)
              · rfl
            rw [e]
            rfl
        · cases h
      · cases h
    · rename_i w q
      split at h
      · rename_i hk
        split at h
        · refine zz_Nx_st ho hf h (zz_stm_cons rfl hs1) ?_
          simp only [yy_hgetf, hk]
          rfl
        · refine zz_Nx_st ho hf h (zz_stm_cons rfl hs1) ?_
          simp only [yy_hgetf, hk]
          rfl
        · cases h
      · cases h
    · cases h
  · cases h
theorem zz_hputf_ok (hE : zz_env E Φ) (hfb : ∀ ci f q m, ops = [ci, f, q, m] → f < 1000000) (hP : P.1 = E.2.1) (ho : zz_ok E.2.2.1 Φ ρ ω cs nL ca fl ls st lsC stC) (hf : zz_fr D ω0 ω) (h : zz_hputf E M ops D sc cs nL ca fl ls st k = true) : zz_Nx E.2.2.1 Φ D ω0 k ρ (yy_hputf P M d pc len ops lsC stC ω) (pc + len) := by
  simp only [zz_hputf] at h
  split at h
  · rename_i v key rest
    obtain ⟨u, s0, rfl, hu, hs0⟩ := zz_stm_inv ho.2.2.2.2.2.2
    obtain ⟨u2, s1, rfl, hu2, hs1⟩ := zz_stm_inv hs0
    cases hu2
    split at h
    · rename_i ci f q mode
      obtain ⟨n1, n2⟩ := zz_ofN f (hfb ci f q mode rfl)
      split at h
      · rename_i cj rs hG
        split at h
        · rename_i hcj
          split at h
          · rename_i ht
            split at h
            · rename_i hL
              obtain ⟨x, rfl⟩ := zz_isL_val hu hL
              refine zz_wr_ok (ω' := yy_uL ω key f x) (j := Int32.ofInt (f : Int)) hE ho hf rfl (by omega) (by rw [n2]; exact zz_uL_ch) (by rw [n2]; exact ho.2.2.1 key f) (Or.inr (by rw [n2, yy_uL_at, pk_uLs]; exact hu)) hs1 h ?_
              simp only [yy_hputf, hP, hG, hcj, ht, yy_put]
              rfl
            · cases h
          · rename_i ht
            split at h
            · rename_i hI
              obtain ⟨x, rfl, b1, b2⟩ := zz_in_ok ho.1 hI hu
              refine zz_wr_ok (ω' := yy_uI ω key f x) (j := Int32.ofInt (f : Int)) hE ho hf rfl (by omega) (by rw [n2]; exact zz_uI_ch) (by rw [n2, yy_uI_at, pk_us]; exact ⟨b1, b2⟩) (Or.inl (by rw [n2, yy_uI_at, pk_us]; exact hu)) hs1 h ?_
              simp only [yy_hputf, hP, hG, hcj, ht, yy_put]
              rfl
            · cases h
          · rename_i ht
            split at h
            · rename_i hI
              rw [Bool.and_eq_true] at hI
              obtain ⟨x, rfl, b1, b2⟩ := zz_in_ok ho.1 hI.2 hu
              obtain ⟨x', e9, c1, c2⟩ := zz_in_ok ho.1 hI.1 hu
              cases e9
              have hx01 : x = 0 ∨ x = 1 := by
                have : x.toInt = 0 ∨ x.toInt = 1 := by
                  have c1 : (0 : Int) ≤ x.toInt := c1
                  have c2 : x.toInt ≤ 1 := c2
                  omega
                rcases this with h9 | h9
                · exact Or.inl (Int32.toInt_inj.mp h9)
                · exact Or.inr (Int32.toInt_inj.mp h9)
              refine zz_wr_ok (ω' := yy_uI ω key f x) (j := Int32.ofInt (f : Int)) hE ho hf rfl (by omega) (by rw [n2]; exact zz_uI_ch) (by rw [n2, yy_uI_at, pk_us]; exact ⟨b1, b2⟩) (Or.inl (by rw [n2, yy_uI_at, pk_us]; exact hu)) hs1 h ?_
              simp only [yy_hputf, hP, hG, hcj, ht, yy_put, decide_eq_true hx01]
              rfl
            · cases h
          · cases h
        · cases h
      · cases h
    · cases h
  · cases h
theorem zz_hgets_ok (ho : zz_ok E.2.2.1 Φ ρ ω cs nL ca fl ls st lsC stC) (hf : zz_fr D ω0 ω) (h : zz_hgets E M ops D sc cs nL ca fl ls st k = true) : zz_Nx E.2.2.1 Φ D ω0 k ρ (yy_hgets P M d pc len ops lsC stC ω) (pc + len) := by
  simp only [zz_hgets] at h
  split at h
  · exact zz_Nx_st ho hf h (zz_stm_cons rfl ho.2.2.2.2.2.2) rfl
  · exact zz_Nx_st ho hf h (zz_stm_cons rfl ho.2.2.2.2.2.2) rfl
  · cases h
theorem zz_idx_ok {v : zz_V} {n : Nat} {u : yy_U} (hc : zz_csm ρ cs) (h : zz_idx cs v n = true) (hv : zz_val ρ v = some u) : ∃ x : Int32, u = .inl x ∧ 0 ≤ x.toInt ∧ x.toInt < n ∧ yy_ix x n = true := by
  unfold zz_idx at h
  rw [Bool.and_eq_true] at h
  obtain ⟨x, rfl, b1, b2⟩ := zz_in_ok hc h.1 hv
  have b1 : (0 : Int) ≤ x.toInt := b1
  have b2 : x.toInt ≤ (n : Int) - 1 := b2
  exact ⟨x, rfl, b1, by omega, decide_eq_true ⟨b1, by omega⟩⟩
theorem zz_nrm_num {ix : zz_V} {n : Nat} {c : Int} {x : Int32} (hc : zz_csm ρ cs) (h : zz_idx cs ix n = true) (hn : zz_nrm cs ix = .inl c) (hx : zz_val ρ ix = some (.inl x)) : x.toInt = c := by
  unfold zz_idx at h
  rw [Bool.and_eq_true] at h
  have h1 := h.1
  unfold zz_in at h1
  split at h1
  · rename_i q hq
    obtain ⟨b1, b2, b3, b4⟩ := zz_iv_ok hc hq hx
    rcases ix with c' | ⟨k, d⟩ | y
    · cases hn
      simp only [zz_iv] at hq
      split at hq
      · cases hq
        have b1 : c ≤ x.toInt := b1
        have b2 : x.toInt ≤ c := b2
        omega
      · cases hq
    · simp only [zz_nrm, hq] at hn
      split at hn
      · rename_i he
        rw [xx_eqI_iff] at he
        cases hn
        omega
      · cases hn
    · cases hq
  · rw [Bool.and_eq_true, Bool.and_eq_true, xx_le_iff, xx_le_iff] at h1
    have := h1.1
    unfold xx_lo at this
    have : (0 : Int) ≤ -2147483648 := this
    omega
theorem zz_Nx_ex {tau : Nat → Nat → Int × Int} {ρ' : zz_P} (h : zz_ex ρ ρ') (g : zz_Nx tau Φ D ω0 k ρ' o pc') : zz_Nx tau Φ D ω0 k ρ o pc' := by
  obtain ⟨lsC9, stC9, ω9, ρ9, cs9, nL9, ca9, fl9, ls9, st9, z1, z2, z3, z4, z5⟩ := g
  exact ⟨lsC9, stC9, ω9, ρ9, cs9, nL9, ca9, fl9, ls9, st9, z1, z2, zz_ex_tr h z3, z4, z5⟩
/-- the script: its length is the first symbol, its ints stand at a cell that nothing writes -/
def zz_scm (sc : Bool) (scr : Option (Nat × (Nat → Int32))) (ρ : zz_P) (D : zz_D) (ω0 : yy_O) : Prop := sc = true → ∃ L xs, scr = some (L, xs) ∧ L < 2 ^ 31 ∧ ρ.1[0]? = some (Int32.ofNat L) ∧ ∀ j, ω0.1 xx_scr j = xs j ∧ ¬ zz_cov D xx_scr j
theorem zz_hiald_ok (hE : zz_env E Φ) (hP : P.1 = E.2.1) (hsc : zz_scm sc P.2.1 ρ D ω0) (ho : zz_ok E.2.2.1 Φ ρ ω cs nL ca fl ls st lsC stC) (hf : zz_fr D ω0 ω) (h : zz_hiald E M ops D sc cs nL ca fl ls st k = true) : zz_Nx E.2.2.1 Φ D ω0 k ρ (yy_hiald P M d pc len ops lsC stC ω) (pc + len) := by
  simp only [zz_hiald] at h
  split at h
  · rename_i ix key rest
    obtain ⟨u, s0, rfl, hu, hs0⟩ := zz_stm_inv ho.2.2.2.2.2.2
    obtain ⟨u2, s1, rfl, hu2, hs1⟩ := zz_stm_inv hs0
    cases hu2
    split at h
    · rename_i hk
      split at h
      · rename_i hq
        rw [Bool.and_eq_true, Bool.and_eq_true] at hq
        obtain ⟨L, xs, g1, g2, g3, g4⟩ := hsc hq.1
        obtain ⟨x, rfl, b1, b2⟩ := zz_in_ok ho.1 hq.2.1 hu
        have hv0 : zz_val ρ (.inr (.inl (0, 0))) = some (.inl (Int32.ofNat L)) := by
          simp only [zz_val, g3]
          congr 2
          exact Int32.add_zero _
        have := zz_geV_ok ho.1 hq.2.2 hv0 hu
        have e1 : (Int32.ofNat L).toInt = (L : Int) := nI_toInt (by omega)
        have b1 : (0 : Int) ≤ x.toInt := b1
        have ek := Nat.eq_of_beq_eq_true hk
        have hev : ω.1 key x.toNatClampNeg = xs x.toNatClampNeg := by
          rw [ek]
          exact (hf xx_scr _ (g4 _).2).1.trans (g4 _).1
        refine zz_rdI_ok ho hf (zz_nrm_ok ho.1 hu) b1 (xx_rng _) hs1 h ?_
        have hix : yy_ix x L = true := decide_eq_true ⟨b1, by omega⟩
        simp only [yy_hiald, hk, g1, hix, hev]
        rfl
      · cases h
    · rename_i hk
      split at h
      · rename_i n rs hG
        split at h
        · rename_i hix
          obtain ⟨x, rfl, b1, b2, b3⟩ := zz_idx_ok ho.1 hix hu
          refine zz_rdI_ok ho hf (zz_nrm_ok ho.1 hu) b1 ?_ hs1 h ?_
          · rw [← hE.1 key _ x.toNatClampNeg hG]
            exact ho.2.2.1 key x.toNatClampNeg
          · simp only [yy_hiald, hk, hP, hG, b3]
            rfl
        · cases h
      · cases h
  · cases h
theorem zz_txt_ok : yy_txt.all (fun x => decide (32 ≤ x.toInt ∧ x.toInt ≤ 122)) = true ∧ yy_txt.length = 79 := by decide +kernel
theorem zz_hbald_ok (hE : zz_env E Φ) (hP : P.1 = E.2.1) (ho : zz_ok E.2.2.1 Φ ρ ω cs nL ca fl ls st lsC stC) (hf : zz_fr D ω0 ω) (h : zz_hbald E M ops D sc cs nL ca fl ls st k = true) : zz_Nx E.2.2.1 Φ D ω0 k ρ (yy_hbald P M d pc len ops lsC stC ω) (pc + len) := by
  simp only [zz_hbald] at h
  split at h
  · rename_i ix key rest
    obtain ⟨u, s0, rfl, hu, hs0⟩ := zz_stm_inv ho.2.2.2.2.2.2
    obtain ⟨u2, s1, rfl, hu2, hs1⟩ := zz_stm_inv hs0
    cases hu2
    split at h
    · rename_i hk
      split at h
      · rename_i hix
        obtain ⟨x, rfl, b1, b2, b3⟩ := zz_idx_ok ho.1 hix hu
        have hlen := zz_txt_ok.2
        have hlt : x.toNatClampNeg < yy_txt.length := by
          have := zz_natc b1
          rw [hlen]
          omega
        have hmem : yy_txt.getD x.toNatClampNeg 0 ∈ yy_txt := by
          rw [List.getD_eq_getElem?_getD, List.getElem?_eq_getElem hlt]
          exact List.getElem_mem hlt
        have := of_decide_eq_true (List.all_eq_true.mp zz_txt_ok.1 _ hmem)
        refine zz_res_ok (r := .inr (32, (122, none))) (x := yy_txt.getD x.toNatClampNeg 0) ho hf ⟨this.1, this.2, fun f hf => by cases hf⟩ hs1 h ?_
        simp only [yy_hbald, hk, hlen, b3]
        rfl
      · cases h
    · rename_i hk
      split at h
      · rename_i kd n rs hG
        split at h
        · rename_i o9
          split at h
          · rename_i hq
            rw [Bool.and_eq_true, Bool.and_eq_true, Bool.or_eq_true] at hq
            obtain ⟨x, rfl, b1, b2, b3⟩ := zz_idx_ok ho.1 hq.2.2 hu
            refine zz_rdI_ok ho hf (zz_nrm_ok ho.1 hu) b1 ?_ hs1 h ?_
            · rw [← hE.1 key _ x.toNatClampNeg hG]
              exact ho.2.2.1 key x.toNatClampNeg
            · have hkd := hq.2.1
              rcases hq.1 with h9 | h9
              · have e9 := Nat.eq_of_beq_eq_true h9
                subst e9
                simp only [yy_hbald, hk, hP, hG, b3, hkd]
                rfl
              · have e9 := Nat.eq_of_beq_eq_true h9
                subst e9
                simp only [yy_hbald, hk, hP, hG, b3, hkd]
                rfl
          · cases h
        · cases h
      · cases h
  · cases h
theorem zz_hlald_ok (hP : P.1 = E.2.1) (ho : zz_ok E.2.2.1 Φ ρ ω cs nL ca fl ls st lsC stC) (hf : zz_fr D ω0 ω) (h : zz_hlald E M ops D sc cs nL ca fl ls st k = true) : zz_Nx E.2.2.1 Φ D ω0 k ρ (yy_hlald P M d pc len ops lsC stC ω) (pc + len) := by
  simp only [zz_hlald] at h
  split at h
  · rename_i ix key rest
    obtain ⟨u, s0, rfl, hu, hs0⟩ := zz_stm_inv ho.2.2.2.2.2.2
    obtain ⟨u2, s1, rfl, hu2, hs1⟩ := zz_stm_inv hs0
    cases hu2
    split at h
    · rename_i hk
      split at h
      · rename_i hix
        obtain ⟨x, rfl, b1, b2, b3⟩ := zz_idx_ok ho.1 hix hu
        refine zz_lng_st (x := P.2.2 x.toNatClampNeg) ho hf hs1 h ?_
        simp only [yy_hlald, hk, b3]
        rfl
      · cases h
    · rename_i hk
      split at h
      · rename_i n rs hG
        split at h
        · rename_i hix
          obtain ⟨x, rfl, b1, b2, b3⟩ := zz_idx_ok ho.1 hix hu
          refine zz_lng_st (x := ω.2 key x.toNatClampNeg) ho hf hs1 h ?_
          simp only [yy_hlald, hk, hP, hG, b3]
          rfl
        · cases h
      · cases h
  · cases h
theorem zz_haald_ok (hP : P.1 = E.2.1) (ho : zz_ok E.2.2.1 Φ ρ ω cs nL ca fl ls st lsC stC) (hf : zz_fr D ω0 ω) (h : zz_haald E M ops D sc cs nL ca fl ls st k = true) : zz_Nx E.2.2.1 Φ D ω0 k ρ (yy_haald P M d pc len ops lsC stC ω) (pc + len) := by
  simp only [zz_haald] at h
  split at h
  · rename_i ix key rest
    obtain ⟨u, s0, rfl, hu, hs0⟩ := zz_stm_inv ho.2.2.2.2.2.2
    obtain ⟨u2, s1, rfl, hu2, hs1⟩ := zz_stm_inv hs0
    cases hu2
    split at h
    · rename_i n rs hG
      split at h
      · rename_i hix
        obtain ⟨x, rfl, b1, b2, b3⟩ := zz_idx_ok ho.1 hix hu
        split at h
        · rename_i c hc
          have hn := zz_nrm_ok ho.1 hu
          rw [hc] at hn
          rw [xx_fN_eq] at h
          refine zz_Nx_st ho hf h (zz_stm_cons (u := .inr (.inr (rs.getD x.toNatClampNeg 0))) ?_ hs1) ?_
          · have e : x.toNatClampNeg = c := by
              have := zz_nrm_num ho.1 hix hc hu
              have := zz_natc b1
              have : Int.ofNat c = (c : Int) := rfl
              omega
            rw [e]
            rfl
          · simp only [yy_haald, hP, hG, b3]
            rfl
        · cases h
      · cases h
    · cases h
  · cases h
theorem zz_hiast_ok (hE : zz_env E Φ) (hP : P.1 = E.2.1) (ho : zz_ok E.2.2.1 Φ ρ ω cs nL ca fl ls st lsC stC) (hf : zz_fr D ω0 ω) (h : zz_hiast E M ops D sc cs nL ca fl ls st k = true) : zz_Nx E.2.2.1 Φ D ω0 k ρ (yy_hiast P M d pc len ops lsC stC ω) (pc + len) := by
  simp only [zz_hiast] at h
  split at h
  · rename_i v ix key rest
    obtain ⟨w, s, rfl, hw, hs⟩ := zz_stm_inv ho.2.2.2.2.2.2
    obtain ⟨u, s0, rfl, hu, hs0⟩ := zz_stm_inv hs
    obtain ⟨u2, s1, rfl, hu2, hs1⟩ := zz_stm_inv hs0
    cases hu2
    split at h
    · rename_i n rs hG
      split at h
      · rename_i hix
        rw [Bool.and_eq_true] at hix
        obtain ⟨x, rfl, b1, b2, b3⟩ := zz_idx_ok ho.1 hix.1 hu
        obtain ⟨y, rfl, c1, c2⟩ := zz_in_ok ho.1 hix.2 hw
        refine zz_wr_ok (ω' := yy_uI ω key x.toNatClampNeg y) (j := x) hE ho hf (zz_nrm_ok ho.1 hu) b1 zz_uI_ch (by rw [yy_uI_at, pk_us, hE.1 key _ x.toNatClampNeg hG]; exact ⟨c1, c2⟩) (Or.inl (by rw [yy_uI_at, pk_us]; exact hw)) hs1 h ?_
        simp only [yy_hiast, hP, hG, b3]
        rfl
      · cases h
    · cases h
  · cases h
theorem zz_hlast_ok (hE : zz_env E Φ) (hP : P.1 = E.2.1) (ho : zz_ok E.2.2.1 Φ ρ ω cs nL ca fl ls st lsC stC) (hf : zz_fr D ω0 ω) (h : zz_hlast E M ops D sc cs nL ca fl ls st k = true) : zz_Nx E.2.2.1 Φ D ω0 k ρ (yy_hlast P M d pc len ops lsC stC ω) (pc + len) := by
  simp only [zz_hlast] at h
  split at h
  · rename_i v ix key rest
    obtain ⟨w, s, rfl, hw, hs⟩ := zz_stm_inv ho.2.2.2.2.2.2
    obtain ⟨u, s0, rfl, hu, hs0⟩ := zz_stm_inv hs
    obtain ⟨u2, s1, rfl, hu2, hs1⟩ := zz_stm_inv hs0
    cases hu2
    split at h
    · rename_i n rs hG
      split at h
      · rename_i hix
        rw [Bool.and_eq_true] at hix
        obtain ⟨x, rfl, b1, b2, b3⟩ := zz_idx_ok ho.1 hix.1 hu
        obtain ⟨y, rfl⟩ := zz_isL_val hw hix.2
        refine zz_wr_ok (ω' := yy_uL ω key x.toNatClampNeg y) (j := x) hE ho hf (zz_nrm_ok ho.1 hu) b1 zz_uL_ch (ho.2.2.1 key x.toNatClampNeg) (Or.inr (by rw [yy_uL_at, pk_uLs]; exact hw)) hs1 h ?_
        simp only [yy_hlast, hP, hG, b3]
        rfl
      · cases h
    · cases h
  · cases h
theorem zz_b8 (x : Int32) : -128 ≤ x.toInt8.toInt32.toInt ∧ x.toInt8.toInt32.toInt ≤ 127 := by
  have h1 := Int8.le_toInt x.toInt8
  have h2 := Int8.toInt_lt x.toInt8
  rw [Int8.toInt_toInt32]
  omega
theorem zz_hbast_ok (hE : zz_env E Φ) (hP : P.1 = E.2.1) (ho : zz_ok E.2.2.1 Φ ρ ω cs nL ca fl ls st lsC stC) (hf : zz_fr D ω0 ω) (h : zz_hbast E M ops D sc cs nL ca fl ls st k = true) : zz_Nx E.2.2.1 Φ D ω0 k ρ (yy_hbast P M d pc len ops lsC stC ω) (pc + len) := by
  simp only [zz_hbast] at h
  split at h
  · rename_i v ix key rest
    obtain ⟨w, s, rfl, hw, hs⟩ := zz_stm_inv ho.2.2.2.2.2.2
    obtain ⟨u, s0, rfl, hu, hs0⟩ := zz_stm_inv hs
    obtain ⟨u2, s1, rfl, hu2, hs1⟩ := zz_stm_inv hs0
    cases hu2
    split at h
    · rename_i kd n rs hG
      split at h
      · split at h
        · rename_i hq
          simp only [Bool.and_eq_true, xx_le_iff] at hq
          obtain ⟨x, rfl, b1, b2, b3⟩ := zz_idx_ok ho.1 hq.2.1 hu
          obtain ⟨y, rfl⟩ := zz_isI_val hw hq.2.2.1
          rw [zz_yy_eq, zz_new_eq] at h
          have hb8 := zz_b8 y
          obtain ⟨e1, e2, e3⟩ := zz_csm_new (y := (-128, (127, (none, none)))) (x := y.toInt8.toInt32) ho.1 ⟨hb8.1, hb8.2, (fun t c ht => by cases ht), fun f hf => by cases hf⟩
          have ho2 := ho.ex e1 e2 ho.2.1
          refine zz_Nx_ex e1 (zz_wr_ok (ω' := yy_uI ω key x.toNatClampNeg y.toInt8.toInt32) (j := x) hE ho2 hf (zz_nrm_ok ho2.1 (zz_val_ex e1 hu)) b1 zz_uI_ch (by rw [yy_uI_at, pk_us, hE.1 key _ x.toNatClampNeg hG]; omega) (Or.inl (by rw [yy_uI_at, pk_us]; exact e3)) (zz_stm_ex e1 hs1) h ?_)
          have hkd := hq.1
          simp only [yy_hbast, hP, hG, b3, hkd]
          rfl
        · cases h
      · split at h
        · rename_i hq
          simp only [Bool.and_eq_true] at hq
          obtain ⟨x, rfl, b1, b2, b3⟩ := zz_idx_ok ho.1 hq.2.1 hu
          obtain ⟨y, rfl, c1, c2⟩ := zz_in_ok ho.1 hq.2.2.2 hw
          obtain ⟨y', e9, d1, d2⟩ := zz_in_ok ho.1 hq.2.2.1 hw
          cases e9
          have hx01 : y = 0 ∨ y = 1 := by
            have : y.toInt = 0 ∨ y.toInt = 1 := by
              have d1 : (0 : Int) ≤ y.toInt := d1
              have d2 : y.toInt ≤ 1 := d2
              omega
            rcases this with h9 | h9
            · exact Or.inl (Int32.toInt_inj.mp h9)
            · exact Or.inr (Int32.toInt_inj.mp h9)
          refine zz_wr_ok (ω' := yy_uI ω key x.toNatClampNeg y) (j := x) hE ho hf (zz_nrm_ok ho.1 hu) b1 zz_uI_ch (by rw [yy_uI_at, pk_us, hE.1 key _ x.toNatClampNeg hG]; exact ⟨c1, c2⟩) (Or.inl (by rw [yy_uI_at, pk_us]; exact hw)) hs1 h ?_
          have hkd := hq.1
          simp only [yy_hbast, hP, hG, b3, hkd, decide_eq_true hx01]
          rfl
        · cases h
      · cases h
    · cases h
  · cases h
theorem zz_hlen_ok (hP : P.1 = E.2.1) (hsc : zz_scm sc P.2.1 ρ D ω0) (ho : zz_ok E.2.2.1 Φ ρ ω cs nL ca fl ls st lsC stC) (hf : zz_fr D ω0 ω) (h : zz_hlen E M ops D sc cs nL ca fl ls st k = true) : zz_Nx E.2.2.1 Φ D ω0 k ρ (yy_hlen P M d pc len ops lsC stC ω) (pc + len) := by
  simp only [zz_hlen] at h
  split at h
  · rename_i key rest
    obtain ⟨u, s1, rfl, hu, hs1⟩ := zz_stm_inv ho.2.2.2.2.2.2
    cases hu
    split at h
    · rename_i hk
      split at h
      · obtain ⟨L, xs, g1, g2, g3, -⟩ := hsc rfl
        refine zz_Nx_st ho hf h (zz_stm_cons (u := .inl (Int32.ofNat L)) ?_ hs1) ?_
        · simp only [zz_val, g3]
          congr 2
          exact Int32.add_zero _
        · simp only [yy_hlen, hk, g1]
          rfl
      · cases h
    · rename_i hk
      split at h
      · rename_i hk2
        refine zz_Nx_st ho hf h (zz_stm_cons (u := .inl (Int32.ofInt 79)) rfl hs1) ?_
        simp only [yy_hlen, hk, hk2, zz_txt_ok.2]
        rfl
      · rename_i hk2
        split at h
        · rename_i kd n rs hG
          split at h
          · rw [xx_fN_eq] at h
            refine zz_Nx_st ho hf h (zz_stm_cons (u := .inl (Int32.ofNat n)) ?_ hs1) ?_
            · show some (Sum.inl (Int32.ofInt (Int.ofNat n))) = _
              rw [xx_ofN]
            · simp only [yy_hlen, hk, hk2, hP, hG]
              rfl
          · cases h
        · cases h
  · cases h
end ZC
