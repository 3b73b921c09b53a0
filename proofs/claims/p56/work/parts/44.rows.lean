/-! rows of the engine: what they show of the plain machine's step -/
def zz_Nx (tau : Nat → Nat → Int × Int) (Φ : zz_Ph) (D : zz_D) (ω0 : yy_O) (k : zz_G) (ρ : zz_P) (o : Option yy_R) (pc' : Nat) : Prop :=
  ∃ (lsC' : yy_L) (stC' : List yy_U) (ω' : yy_O) (ρ' : zz_P) (cs' : zz_C) (nL' : Nat) (ca' : zz_A) (fl' : zz_B) (ls' : zz_L) (st' : List zz_V), o = some (.inl (pc', (lsC', (stC', ω')))) ∧ k cs' nL' ca' fl' ls' st' = true ∧ zz_ex ρ ρ' ∧ zz_ok tau Φ ρ' ω' cs' nL' ca' fl' ls' st' lsC' stC' ∧ zz_fr D ω0 ω'
section ZR
variable {tau : Nat → Nat → Int × Int} {Φ : zz_Ph} {E : zz_E} {P : yy_P} {M : xx_M} {d pc len : Nat} {ops : List Nat} {D : zz_D} {sc : Bool} {ω0 ω : yy_O} {ρ : zz_P} {cs : zz_C} {nL : Nat} {ca : zz_A} {fl : zz_B} {ls : zz_L} {st : List zz_V} {lsC : yy_L} {stC : List yy_U} {k : zz_G} {o : Option yy_R} {pc' : Nat}
/-- only the stack is another -/
theorem zz_Nx_st {st' : List zz_V} {stC' : List yy_U} (ho : zz_ok tau Φ ρ ω cs nL ca fl ls st lsC stC) (hf : zz_fr D ω0 ω) (hk : k cs nL ca fl ls st' = true) (hs : zz_stm ρ st' stC') (hq : o = some (.inl (pc', (lsC, (stC', ω))))) : zz_Nx tau Φ D ω0 k ρ o pc' :=
  ⟨lsC, stC', ω, ρ, cs, nL, ca, fl, ls, st', hq, hk, zz_ex_rf ρ, ho.via ho.2.2.2.2.2.1 hs, hf⟩
/-- a result on the stack -/
theorem zz_res_ok {r : zz_N} {x : Int32} {rest : List zz_V} {restC : List yy_U} (ho : zz_ok tau Φ ρ ω cs nL ca fl ls st lsC stC) (hf : zz_fr D ω0 ω) (hr : zz_rok ρ r x) (hs : zz_stm ρ rest restC) (h : zz_res cs r (fun cs v => k cs nL ca fl ls (v :: rest)) = true) (hq : o = some (.inl (pc', (lsC, (.inl x :: restC, ω))))) : zz_Nx tau Φ D ω0 k ρ o pc' := by
  have fresh : ∀ (a b : Int) (df : Option zz_F), a ≤ x.toInt → x.toInt ≤ b → (∀ f, df = some f → zz_dfm ρ f x) → k (cs ++ [(a, (b, (none, df)))]) nL ca fl ls (.inr (.inl (cs.length, 0)) :: rest) = true → zz_Nx tau Φ D ω0 k ρ o pc' := by
    intro a b df h1 h2 h3 hk
    obtain ⟨e1, e2, e3⟩ := zz_csm_new (y := (a, (b, (none, df)))) ho.1 ⟨h1, h2, (fun t c ht => by cases ht), h3⟩
    have ho2 := ho.ex e1 e2 ho.2.1
    exact ⟨lsC, _, ω, _, _, nL, ca, fl, ls, _, hq, hk, e1, ho2.via ho2.2.2.2.2.2.1 (zz_stm_cons e3 (zz_stm_ex e1 hs)), hf⟩
  rcases r with v | ⟨a, b, _ | f⟩
  · simp only [zz_res, zz_fV_eq] at h
    exact zz_Nx_st ho hf h (zz_stm_cons hr hs) hq
  · simp only [zz_res, zz_yy_eq, zz_new_eq] at h
    exact fresh a b none hr.1 hr.2.1 hr.2.2 h
  · simp only [zz_res] at h
    split at h
    · rename_i n hn
      rw [xx_fN_eq] at h
      obtain ⟨-, lo, hi, lk, hy⟩ := zz_fd_ok hn
      rw [Nat.sub_zero] at hy
      have hlt : n < ρ.1.length := by rw [ho.1.1]; exact (List.getElem?_eq_some_iff.mp hy).1
      obtain ⟨z, hz⟩ : ∃ z, ρ.1[n]? = some z := ⟨_, List.getElem?_eq_getElem hlt⟩
      have hd := (ho.1.2 n _ z hy hz).2.2.2 f rfl
      have := zz_dfm_one hd (hr.2.2 f rfl)
      subst this
      refine zz_Nx_st ho hf h (zz_stm_cons ?_ hs) hq
      simp only [zz_val, hz]
      show some (Sum.inl (z + Int32.ofInt 0)) = _
      congr 2
      exact Int32.add_zero z
    · rw [zz_yy_eq, zz_new_eq] at h
      exact fresh a b (some f) hr.1 hr.2.1 hr.2.2 h
theorem zz_h2_ok {f : Int32 → Int32 → Int32} {tr : Int × Int → Int × Int → Int × Int} {s : Nat} {e : Bool} {q : Option Nat} (htr : zz_trok f tr) (h1 : s = 1 → f = fun x y => x + y) (h2 : s = 2 → f = fun x y => x - y) (hq : ∀ k, q = some k → ∀ (ρ : zz_P) (va vb : zz_V) (x y : Int32), zz_val ρ va = some (.inl x) → zz_val ρ vb = some (.inl y) → zz_dfm ρ (k, (va, vb)) (f x y))
    (ho : zz_ok tau Φ ρ ω cs nL ca fl ls st lsC stC) (hf : zz_fr D ω0 ω) (h : zz_h2 f tr s e q false E M ops D sc cs nL ca fl ls st k = true) : zz_Nx tau Φ D ω0 k ρ (yy_h2 f P M d pc len ops lsC stC ω) (pc + len) := by
  simp only [zz_h2] at h
  split at h
  · rename_i b a rest
    obtain ⟨u, s1, rfl, hu, hs1⟩ := zz_stm_inv ho.2.2.2.2.2.2
    obtain ⟨w, s2, rfl, hw, hs2⟩ := zz_stm_inv hs1
    split at h
    · split at h
      · rename_i r hr
        obtain ⟨x, y, rfl, rfl, hrok⟩ := zz_b2_ok ho.1 htr h1 h2 (fun k hk => hq k hk ρ) hr (zz_nrm_ok ho.1 hw) (zz_nrm_ok ho.1 hu)
        exact zz_res_ok ho hf hrok hs2 h rfl
      · cases h
    · cases h
  · cases h
theorem zz_hdv_ok {f : Int32 → Int32 → Int32} {tr : Int × Int → Int × Int → Int × Int} {s : Nat} {e : Bool} {q : Option Nat} (htr : zz_trok f tr) (h1 : s = 1 → f = fun x y => x + y) (h2 : s = 2 → f = fun x y => x - y) (hq : ∀ k, q = some k → ∀ (ρ : zz_P) (va vb : zz_V) (x y : Int32), zz_val ρ va = some (.inl x) → zz_val ρ vb = some (.inl y) → zz_dfm ρ (k, (va, vb)) (f x y))
    (ho : zz_ok tau Φ ρ ω cs nL ca fl ls st lsC stC) (hf : zz_fr D ω0 ω) (h : zz_h2 f tr s e q true E M ops D sc cs nL ca fl ls st k = true) : zz_Nx tau Φ D ω0 k ρ (yy_hdv f P M d pc len ops lsC stC ω) (pc + len) := by
  simp only [zz_h2] at h
  split at h
  · rename_i b a rest
    obtain ⟨u, s1, rfl, hu, hs1⟩ := zz_stm_inv ho.2.2.2.2.2.2
    obtain ⟨w, s2, rfl, hw, hs2⟩ := zz_stm_inv hs1
    split at h
    · rename_i hz
      have hz : zz_nz cs b = true := hz
      split at h
      · rename_i r hr
        obtain ⟨x, y, rfl, rfl, hrok⟩ := zz_b2_ok ho.1 htr h1 h2 (fun k hk => hq k hk ρ) hr (zz_nrm_ok ho.1 hw) (zz_nrm_ok ho.1 hu)
        have hne := zz_nz_ok ho.1 hz hu
        refine zz_res_ok ho hf hrok hs2 h ?_
        simp only [yy_hdv]
        rw [decide_eq_false hne]
        rfl
      · cases h
    · cases h
  · cases h
theorem zz_h1_ok {f : Int32 → Int32} {r : Int × Int} (hr : ∀ x, r.1 ≤ (f x).toInt ∧ (f x).toInt ≤ r.2) (ho : zz_ok tau Φ ρ ω cs nL ca fl ls st lsC stC) (hf : zz_fr D ω0 ω) (h : zz_h1 f r E M ops D sc cs nL ca fl ls st k = true) : zz_Nx tau Φ D ω0 k ρ (yy_h1 f P M d pc len ops lsC stC ω) (pc + len) := by
  simp only [zz_h1] at h
  split at h
  · rename_i a rest
    obtain ⟨u, s1, rfl, hu, hs1⟩ := zz_stm_inv ho.2.2.2.2.2.2
    have hn := zz_nrm_ok ho.1 hu
    split at h
    · rename_i c hc
      rw [hc] at hn
      cases hn
      rw [xx_fI_eq] at h
      refine zz_Nx_st ho hf h (zz_stm_cons ?_ hs1) rfl
      show some (Sum.inl (Int32.ofInt _)) = some (Sum.inl _)
      rw [Int32.ofInt_toInt]
    · rename_i q hq
      rw [hq] at hn
      obtain ⟨x, rfl⟩ := zz_isI_val hn rfl
      exact zz_res_ok (r := .inr (r.1, (r.2, none))) (x := f x) ho hf ⟨(hr x).1, (hr x).2, fun f hf => by cases hf⟩ hs1 h rfl
    · cases h
  · cases h
theorem zz_hi2c_ok (ho : zz_ok tau Φ ρ ω cs nL ca fl ls st lsC stC) (hf : zz_fr D ω0 ω) (h : zz_hi2c E M ops D sc cs nL ca fl ls st k = true) : zz_Nx tau Φ D ω0 k ρ (yy_h1 (fun x => (x.toUInt32 % 65536).toInt32) P M d pc len ops lsC stC ω) (pc + len) := by
  simp only [zz_hi2c] at h
  split at h
  · rename_i a rest
    obtain ⟨u, s1, rfl, hu, hs1⟩ := zz_stm_inv ho.2.2.2.2.2.2
    split at h
    · rename_i r hr
      split at h
      · rename_i hq
        rw [Bool.and_eq_true, xx_le_iff, xx_le_iff] at hq
        obtain ⟨x, rfl⟩ := zz_isI_val hu (zz_iv_isI hr)
        obtain ⟨a1, a2, -, -⟩ := zz_iv_ok ho.1 hr hu
        refine zz_Nx_st ho hf h (zz_stm_cons (u := .inl x) hu hs1) ?_
        simp only [yy_h1]
        have e : (x.toUInt32 % 65536).toInt32 = x := by
          rw [pk_char]
          have hn := zz_nat (x := x) (by omega)
          rw [Nat.mod_eq_of_lt (by omega)]
          have := nI_toInt (n := x.toBitVec.toNat) (by omega)
          rw [← Int32.toInt_inj, this]
          omega
        rw [e]
        rfl
      · cases h
    · cases h
  · cases h
theorem zz_hp_ok {v : zz_V} {u : yy_U} (hv : ∀ ρ, zz_val ρ v = some u) (ho : zz_ok tau Φ ρ ω cs nL ca fl ls st lsC stC) (hf : zz_fr D ω0 ω) (h : zz_hp v E M ops D sc cs nL ca fl ls st k = true) : zz_Nx tau Φ D ω0 k ρ (yy_hp u P M d pc len ops lsC stC ω) (pc + len) := by
  simp only [zz_hp, zz_fV_eq] at h
  exact zz_Nx_st ho hf h (zz_stm_cons (hv ρ) ho.2.2.2.2.2.2) rfl
theorem zz_hldc_ok (ho : zz_ok tau Φ ρ ω cs nL ca fl ls st lsC stC) (hf : zz_fr D ω0 ω) (h : zz_hldc E M ops D sc cs nL ca fl ls st k = true) : zz_Nx tau Φ D ω0 k ρ (yy_hldc P M d pc len ops lsC stC ω) (pc + len) := by
  simp only [zz_hldc] at h
  split at h
  · rw [xx_fI_eq] at h
    exact zz_Nx_st ho hf h (zz_stm_cons rfl ho.2.2.2.2.2.2) rfl
  · exact zz_Nx_st ho hf h (zz_stm_cons rfl ho.2.2.2.2.2.2) rfl
  · cases h
theorem zz_hldc2_ok (ho : zz_ok tau Φ ρ ω cs nL ca fl ls st lsC stC) (hf : zz_fr D ω0 ω) (h : zz_hldc2 E M ops D sc cs nL ca fl ls st k = true) : zz_Nx tau Φ D ω0 k ρ (yy_hldc2 P M d pc len ops lsC stC ω) (pc + len) := by
  simp only [zz_hldc2] at h
  split at h
  · rw [xx_fI_eq] at h
    exact zz_Nx_st ho hf h (zz_stm_cons rfl ho.2.2.2.2.2.2) rfl
  · cases h
theorem zz_isR_val {v : zz_V} {u : yy_U} (h : zz_val ρ v = some u) (hi : zz_isR v = true) : ∃ i, v = .inr (.inr (.inl i)) ∧ u = .inr (.inr i) := by
  rcases v with c | ⟨k, d⟩ | i | c | k
  · cases hi
  · cases hi
  · cases h
    exact ⟨i, rfl, rfl⟩
  · cases hi
  · cases hi
theorem zz_hil_ok {i : Nat} (ho : zz_ok tau Φ ρ ω cs nL ca fl ls st lsC stC) (hf : zz_fr D ω0 ω) (h : zz_hload zz_isI i E M ops D sc cs nL ca fl ls st k = true) : zz_Nx tau Φ D ω0 k ρ (yy_hil i P M d pc len ops lsC stC ω) (pc + len) := by
  simp only [zz_hload] at h
  split at h
  · rename_i v hv
    split at h
    · rename_i ht
      obtain ⟨u, h1, h2⟩ := ho.2.2.2.2.2.1 i v hv
      obtain ⟨x, rfl⟩ := zz_isI_val h1 ht
      refine zz_Nx_st ho hf h (zz_stm_cons h1 ho.2.2.2.2.2.2) ?_
      simp only [yy_hil, h2]
      rfl
    · cases h
  · cases h
theorem zz_hll_ok {i : Nat} (ho : zz_ok tau Φ ρ ω cs nL ca fl ls st lsC stC) (hf : zz_fr D ω0 ω) (h : zz_hload zz_isL i E M ops D sc cs nL ca fl ls st k = true) : zz_Nx tau Φ D ω0 k ρ (yy_hll i P M d pc len ops lsC stC ω) (pc + len) := by
  simp only [zz_hload] at h
  split at h
  · rename_i v hv
    split at h
    · rename_i ht
      obtain ⟨u, h1, h2⟩ := ho.2.2.2.2.2.1 i v hv
      obtain ⟨x, rfl⟩ := zz_isL_val h1 ht
      refine zz_Nx_st ho hf h (zz_stm_cons h1 ho.2.2.2.2.2.2) ?_
      simp only [yy_hll, h2]
      rfl
    · cases h
  · cases h
theorem zz_hal_ok {i : Nat} (ho : zz_ok tau Φ ρ ω cs nL ca fl ls st lsC stC) (hf : zz_fr D ω0 ω) (h : zz_hload zz_isR i E M ops D sc cs nL ca fl ls st k = true) : zz_Nx tau Φ D ω0 k ρ (yy_hal i P M d pc len ops lsC stC ω) (pc + len) := by
  simp only [zz_hload] at h
  split at h
  · rename_i v hv
    split at h
    · rename_i ht
      obtain ⟨u, h1, h2⟩ := ho.2.2.2.2.2.1 i v hv
      obtain ⟨x, -, rfl⟩ := zz_isR_val h1 ht
      refine zz_Nx_st ho hf h (zz_stm_cons h1 ho.2.2.2.2.2.2) ?_
      simp only [yy_hal, h2]
      rfl
    · cases h
  · cases h
end ZR
/-! locals -/
theorem zz_wo_eq {β : Type} (ls : zz_L) (i : Nat) : ∀ k : zz_L → β, zz_wo ls i k = k (ls.filter (fun q => !(Nat.beq q.1 i))) := by
  induction ls with
  | nil => intro k; rfl
  | cons q qs ih =>
    intro k
    rw [List.filter_cons]
    simp only [zz_wo]
    cases Nat.beq q.1 i with
    | true => simp only [ih, Bool.not_true, Bool.false_eq_true, if_false]
    | false => simp only [ih, Bool.not_false, if_true]
theorem zz_get_wo {ls : zz_L} {i j : Nat} {v : zz_V} (h : zz_get (ls.filter (fun q => !(Nat.beq q.1 i))) j = some v) : j ≠ i ∧ zz_get ls j = some v := by
  induction ls with
  | nil => cases h
  | cons q qs ih =>
    rw [List.filter_cons] at h
    cases hq : Nat.beq q.1 i with
    | true =>
      rw [hq] at h
      simp only [Bool.not_true, Bool.false_eq_true, if_false] at h
      obtain ⟨a, b⟩ := ih h
      refine ⟨a, ?_⟩
      simp only [zz_get]
      have := Nat.eq_of_beq_eq_true hq
      have hne : Nat.beq q.1 j = false := by
        cases hb : Nat.beq q.1 j with
        | false => rfl
        | true => exact absurd ((Nat.eq_of_beq_eq_true hb).symm.trans this) a
      rw [hne]
      exact b
    | false =>
      rw [hq] at h
      simp only [Bool.not_false, if_true, zz_get] at h ⊢
      split at h
      · rename_i hb
        have e := Nat.eq_of_beq_eq_true hb
        have := Nat.ne_of_beq_eq_false hq
        exact ⟨fun h9 => this (e.trans h9), h⟩
      · exact ih h
/-- what a store leaves -/
theorem zz_wl_eq {β : Type} (ls : zz_L) (i : Nat) (k : zz_L → β) : ∃ ls', zz_wl ls i k = k ls' ∧ ∀ j v, zz_get ls' j = some v → zz_get ls j = some v ∧ ¬ (j + 1 = i ∧ zz_isL v = true) := by
  cases i with
  | zero => exact ⟨ls, rfl, fun j v h => ⟨h, fun q => by omega⟩⟩
  | succ n =>
    simp only [zz_wl]
    cases hg : zz_get ls n with
    | none =>
      refine ⟨ls, rfl, fun j v h => ⟨h, fun q => ?_⟩⟩
      have : j = n := by omega
      subst this
      rw [h] at hg
      cases hg
    | some v0 =>
      simp only
      cases hl : zz_isL v0 with
      | true =>
        simp only
        rw [zz_wo_eq]
        refine ⟨_, rfl, fun j v h => ?_⟩
        obtain ⟨a, b⟩ := zz_get_wo h
        exact ⟨b, fun q => a (by omega)⟩
      | false =>
        refine ⟨ls, rfl, fun j v h => ⟨h, fun q => ?_⟩⟩
        have : j = n := by omega
        subst this
        rw [h] at hg
        cases hg
        rw [hl] at q
        cases q.2
theorem yy_get_fil {ls : yy_L} {f : Nat × yy_U → Bool} {j : Nat} {u : yy_U} (h : yy_get ls j = some u) (hf : f (j, u) = true) : yy_get (ls.filter f) j = some u := by
  induction ls with
  | nil => cases h
  | cons q qs ih =>
    simp only [yy_get] at h
    rw [List.filter_cons]
    split at h
    · rename_i hb
      have e := Nat.eq_of_beq_eq_true hb
      cases h
      have : q = (j, q.2) := by rw [← e]
      rw [← this] at hf
      rw [hf]
      simp only [if_true, yy_get, hb]
    · rename_i hb
      split
      · simp only [yy_get, hb]
        exact ih h
      · exact ih h
theorem zz_cat_val {ρ : zz_P} {v : zz_V} {u : yy_U} (h : zz_val ρ v = some u) : yy_cat u = zz_cat v ∧ (zz_cat v = 2 → zz_isL v = true) := by
  rcases v with c | ⟨k, d⟩ | i | c | k
  · cases h
    exact ⟨rfl, fun q => by cases q⟩
  · obtain ⟨x, rfl⟩ := zz_isI_val h rfl
    exact ⟨rfl, fun q => by cases q⟩
  · cases h
    exact ⟨rfl, fun q => by cases q⟩
  · cases h
    exact ⟨rfl, fun _ => rfl⟩
  · obtain ⟨x, rfl⟩ := zz_isL_val h rfl
    exact ⟨rfl, fun _ => rfl⟩
theorem zz_lsm_st {ρ : zz_P} {ls ls' : zz_L} {lsC : yy_L} {i : Nat} {v : zz_V} {u : yy_U} (hl : zz_lsm ρ ls lsC) (hv : zz_val ρ v = some u) (h : ∀ j v, zz_get ls' j = some v → zz_get ls j = some v ∧ ¬ (j + 1 = i ∧ zz_isL v = true)) : zz_lsm ρ ((i, v) :: ls'.filter (fun q => !(Nat.beq q.1 i))) ((i, u) :: yy_w1 lsC i) := by
  intro j v' hj
  simp only [zz_get] at hj
  split at hj
  · rename_i hb
    cases hj
    refine ⟨u, hv, ?_⟩
    simp only [yy_get]
    rw [hb]
  · rename_i hb
    obtain ⟨a, b⟩ := zz_get_wo hj
    obtain ⟨b1, b2⟩ := h j v' b
    obtain ⟨u', c1, c2⟩ := hl j v' b1
    refine ⟨u', c1, ?_⟩
    simp only [yy_get, hb]
    refine yy_get_fil c2 ?_
    obtain ⟨d1, d2⟩ := zz_cat_val c1
    simp only [Bool.and_eq_true, Bool.not_eq_true', beq_eq_false_iff_ne, Bool.and_eq_false_iff]
    refine ⟨a, ?_⟩
    by_cases hj1 : j + 1 = i
    · right
      intro h9
      rw [d1] at h9
      exact b2 ⟨hj1, d2 h9⟩
    · left
      exact hj1
theorem zz_lsm_st2 {ρ : zz_P} {ls ls' : zz_L} {lsC : yy_L} {i : Nat} {v : zz_V} {u : yy_U} (hl : zz_lsm ρ ls lsC) (hv : zz_val ρ v = some u) (h : ∀ j v, zz_get ls' j = some v → zz_get ls j = some v ∧ ¬ (j + 1 = i ∧ zz_isL v = true)) : zz_lsm ρ ((i, v) :: (ls'.filter (fun q => !(Nat.beq q.1 i))).filter (fun q => !(Nat.beq q.1 (i + 1)))) ((i, u) :: yy_w2 lsC i) := by
  intro j v' hj
  simp only [zz_get] at hj
  split at hj
  · rename_i hb
    cases hj
    refine ⟨u, hv, ?_⟩
    simp only [yy_get]
    rw [hb]
  · rename_i hb
    obtain ⟨a0, b0⟩ := zz_get_wo hj
    obtain ⟨a, b⟩ := zz_get_wo b0
    obtain ⟨b1, b2⟩ := h j v' b
    obtain ⟨u', c1, c2⟩ := hl j v' b1
    refine ⟨u', c1, ?_⟩
    simp only [yy_get, hb]
    refine yy_get_fil c2 ?_
    obtain ⟨d1, d2⟩ := zz_cat_val c1
    simp only [Bool.and_eq_true, Bool.not_eq_true', beq_eq_false_iff_ne, Bool.and_eq_false_iff]
    refine ⟨a, a0, ?_⟩
    by_cases hj1 : j + 1 = i
    · right
      intro h9
      rw [d1] at h9
      exact b2 ⟨hj1, d2 h9⟩
    · left
      exact hj1
section ZS
variable {tau : Nat → Nat → Int × Int} {Φ : zz_Ph} {E : zz_E} {P : yy_P} {M : xx_M} {d pc len : Nat} {ops : List Nat} {D : zz_D} {sc : Bool} {ω0 ω : yy_O} {ρ : zz_P} {cs : zz_C} {nL : Nat} {ca : zz_A} {fl : zz_B} {ls : zz_L} {st : List zz_V} {lsC : yy_L} {stC : List yy_U} {k : zz_G} {o : Option yy_R} {pc' : Nat}
/-- a store into a local -/
theorem zz_stl {i : Nat} {v : zz_V} {u : yy_U} {rest : List zz_V} {restC : List yy_U} (ho : zz_ok tau Φ ρ ω cs nL ca fl ls st lsC stC) (hf : zz_fr D ω0 ω) (hu : zz_val ρ v = some u) (hs : zz_stm ρ rest restC) (h : zz_wl ls i (fun ls => zz_wo ls i (fun ls => k cs nL ca fl ((i, v) :: ls) rest)) = true) (hq : o = some (.inl (pc', ((i, u) :: yy_w1 lsC i, (restC, ω))))) : zz_Nx tau Φ D ω0 k ρ o pc' := by
  obtain ⟨ls', e1, e2⟩ := zz_wl_eq ls i (fun ls => zz_wo ls i (fun ls => k cs nL ca fl ((i, v) :: ls) rest))
  rw [e1, zz_wo_eq] at h
  exact ⟨_, restC, ω, ρ, cs, nL, ca, fl, _, rest, hq, h, zz_ex_rf ρ, ho.via (zz_lsm_st ho.2.2.2.2.2.1 hu e2) hs, hf⟩
theorem zz_his_ok {i : Nat} (ho : zz_ok tau Φ ρ ω cs nL ca fl ls st lsC stC) (hf : zz_fr D ω0 ω) (h : zz_hst1 zz_isI i E M ops D sc cs nL ca fl ls st k = true) : zz_Nx tau Φ D ω0 k ρ (yy_his i P M d pc len ops lsC stC ω) (pc + len) := by
  simp only [zz_hst1] at h
  split at h
  · rename_i v rest
    obtain ⟨u, s1, rfl, hu, hs1⟩ := zz_stm_inv ho.2.2.2.2.2.2
    split at h
    · rename_i ht
      rw [Bool.and_eq_true] at ht
      obtain ⟨x, rfl⟩ := zz_isI_val hu ht.1
      refine zz_stl ho hf hu hs1 h ?_
      simp only [yy_his, ht.2]
      rfl
    · cases h
  · cases h
theorem zz_has_ok {i : Nat} (ho : zz_ok tau Φ ρ ω cs nL ca fl ls st lsC stC) (hf : zz_fr D ω0 ω) (h : zz_hst1 zz_isR i E M ops D sc cs nL ca fl ls st k = true) : zz_Nx tau Φ D ω0 k ρ (yy_has i P M d pc len ops lsC stC ω) (pc + len) := by
  simp only [zz_hst1] at h
  split at h
  · rename_i v rest
    obtain ⟨u, s1, rfl, hu, hs1⟩ := zz_stm_inv ho.2.2.2.2.2.2
    split at h
    · rename_i ht
      rw [Bool.and_eq_true] at ht
      obtain ⟨x, -, rfl⟩ := zz_isR_val hu ht.1
      refine zz_stl ho hf hu hs1 h ?_
      simp only [yy_has, ht.2]
      rfl
    · cases h
  · cases h
theorem zz_hls_ok {i : Nat} (ho : zz_ok tau Φ ρ ω cs nL ca fl ls st lsC stC) (hf : zz_fr D ω0 ω) (h : zz_hst2 i E M ops D sc cs nL ca fl ls st k = true) : zz_Nx tau Φ D ω0 k ρ (yy_hls i P M d pc len ops lsC stC ω) (pc + len) := by
  simp only [zz_hst2] at h
  split at h
  · rename_i v rest
    obtain ⟨u, s1, rfl, hu, hs1⟩ := zz_stm_inv ho.2.2.2.2.2.2
    split at h
    · rename_i ht
      rw [Bool.and_eq_true] at ht
      obtain ⟨x, rfl⟩ := zz_isL_val hu ht.1
      obtain ⟨ls', e1, e2⟩ := zz_wl_eq ls i (fun ls => zz_wo ls i (fun ls => zz_wo ls (i + 1) (fun ls => k cs nL ca fl ((i, v) :: ls) rest)))
      rw [e1, zz_wo_eq, zz_wo_eq] at h
      refine ⟨_, s1, ω, ρ, cs, nL, ca, fl, _, rest, ?_, h, zz_ex_rf ρ, ho.via (zz_lsm_st2 ho.2.2.2.2.2.1 hu e2) hs1, hf⟩
      simp only [yy_hls, ht.2]
      rfl
    · cases h
  · cases h
theorem zz_hinc_ok {j : Nat} {n : Int} (ho : zz_ok tau Φ ρ ω cs nL ca fl ls st lsC stC) (hf : zz_fr D ω0 ω) (h : zz_hinc j n E M ops D sc cs nL ca fl ls st k = true) : zz_Nx tau Φ D ω0 k ρ (yy_hinc j n P M d pc len ops lsC stC ω) (pc + len) := by
  simp only [zz_hinc] at h
  split at h
  · rename_i v hv
    obtain ⟨u, h1, h2⟩ := ho.2.2.2.2.2.1 j v hv
    split at h
    · rename_i hj
      have hn := zz_nrm_ok ho.1 h1
      split at h
      · rename_i c hc
        rw [hc] at hn
        cases hn
        rw [xx_fI_eq] at h
        refine zz_stl (u := .inl (Int32.ofInt c + Int32.ofInt n)) ho hf ?_ ho.2.2.2.2.2.2 h ?_
        · show some (Sum.inl (Int32.ofInt _)) = _
          rw [Int32.ofInt_toInt]
        · simp only [yy_hinc, h2, hj]
          rfl
      · rename_i q e hc
        rw [hc] at hn
        obtain ⟨x, rfl⟩ := zz_isI_val hn rfl
        rw [xx_fI_eq] at h
        refine zz_stl (u := .inl (x + Int32.ofInt n)) ho hf (zz_add_val hn) ho.2.2.2.2.2.2 h ?_
        simp only [yy_hinc, h2, hj]
        rfl
      · cases h
    · cases h
  · cases h
/-- a long that nothing is known of -/
theorem zz_lng_st {x : Int64} {rest : List zz_V} {restC : List yy_U} (ho : zz_ok tau Φ ρ ω cs nL ca fl ls st lsC stC) (hf : zz_fr D ω0 ω) (hs : zz_stm ρ rest restC) (h : zz_lng nL (fun nL v => k cs nL ca fl ls (v :: rest)) = true) (hq : o = some (.inl (pc', (lsC, (.inr (.inl x) :: restC, ω))))) : zz_Nx tau Φ D ω0 k ρ o pc' := by
  rw [zz_lng_eq] at h
  obtain ⟨e1, e2, e3⟩ := zz_lng_ok ho.2.1 x
  have ho2 := ho.ex e1 (zz_csm_ex ho.1 e1) e2
  exact ⟨lsC, _, ω, _, cs, _, ca, fl, ls, _, hq, h, e1, ho2.via ho2.2.2.2.2.2.1 (zz_stm_cons e3 (zz_stm_ex e1 hs)), hf⟩
theorem zz_hl2_ok {f : Int64 → Int64 → Int64} (ho : zz_ok tau Φ ρ ω cs nL ca fl ls st lsC stC) (hf : zz_fr D ω0 ω) (h : zz_hl2 E M ops D sc cs nL ca fl ls st k = true) : zz_Nx tau Φ D ω0 k ρ (yy_hl2 f P M d pc len ops lsC stC ω) (pc + len) := by
  simp only [zz_hl2] at h
  split at h
  · rename_i y x rest
    obtain ⟨u, s1, rfl, hu, hs1⟩ := zz_stm_inv ho.2.2.2.2.2.2
    obtain ⟨w, s2, rfl, hw, hs2⟩ := zz_stm_inv hs1
    split at h
    · rename_i ht
      rw [Bool.and_eq_true] at ht
      obtain ⟨a, rfl⟩ := zz_isL_val hw ht.1
      obtain ⟨b, rfl⟩ := zz_isL_val hu ht.2
      exact zz_lng_st ho hf hs2 h rfl
    · cases h
  · cases h
theorem zz_hlsh_ok {f : Int64 → Int32 → Int64} (ho : zz_ok tau Φ ρ ω cs nL ca fl ls st lsC stC) (hf : zz_fr D ω0 ω) (h : zz_hlsh E M ops D sc cs nL ca fl ls st k = true) : zz_Nx tau Φ D ω0 k ρ (yy_hlsh f P M d pc len ops lsC stC ω) (pc + len) := by
  simp only [zz_hlsh] at h
  split at h
  · rename_i y x rest
    obtain ⟨u, s1, rfl, hu, hs1⟩ := zz_stm_inv ho.2.2.2.2.2.2
    obtain ⟨w, s2, rfl, hw, hs2⟩ := zz_stm_inv hs1
    split at h
    · rename_i ht
      rw [Bool.and_eq_true] at ht
      obtain ⟨a, rfl⟩ := zz_isL_val hw ht.1
      obtain ⟨b, rfl⟩ := zz_isI_val hu ht.2
      exact zz_lng_st ho hf hs2 h rfl
    · cases h
  · cases h
theorem zz_cmp_rng (a b : Int64) : -1 ≤ (lg_cmp a b).toInt ∧ (lg_cmp a b).toInt ≤ 1 := by
  unfold lg_cmp
  repeat' split
  all_goals decide +kernel
theorem zz_hlcmp_ok (ho : zz_ok tau Φ ρ ω cs nL ca fl ls st lsC stC) (hf : zz_fr D ω0 ω) (h : zz_hlcmp E M ops D sc cs nL ca fl ls st k = true) : zz_Nx tau Φ D ω0 k ρ (yy_hlcmp P M d pc len ops lsC stC ω) (pc + len) := by
  simp only [zz_hlcmp] at h
  split at h
  · rename_i y x rest
    obtain ⟨u, s1, rfl, hu, hs1⟩ := zz_stm_inv ho.2.2.2.2.2.2
    obtain ⟨w, s2, rfl, hw, hs2⟩ := zz_stm_inv hs1
    split at h
    · rename_i ht
      rw [Bool.and_eq_true] at ht
      obtain ⟨a, rfl⟩ := zz_isL_val hw ht.1
      obtain ⟨b, rfl⟩ := zz_isL_val hu ht.2
      exact zz_res_ok (r := .inr (-1, (1, some (1, (x, y))))) (x := lg_cmp a b) ho hf ⟨(zz_cmp_rng a b).1, (zz_cmp_rng a b).2, fun f hf => by cases hf; exact ⟨a, b, hw, hu, rfl⟩⟩ hs2 h rfl
    · cases h
  · cases h
theorem zz_hi2l_ok (ho : zz_ok tau Φ ρ ω cs nL ca fl ls st lsC stC) (hf : zz_fr D ω0 ω) (h : zz_hi2l E M ops D sc cs nL ca fl ls st k = true) : zz_Nx tau Φ D ω0 k ρ (yy_hi2l P M d pc len ops lsC stC ω) (pc + len) := by
  simp only [zz_hi2l] at h
  split at h
  · rename_i x rest
    obtain ⟨u, s1, rfl, hu, hs1⟩ := zz_stm_inv ho.2.2.2.2.2.2
    split at h
    · rename_i ht
      obtain ⟨a, rfl⟩ := zz_isI_val hu ht
      exact zz_lng_st ho hf hs1 h rfl
    · cases h
  · cases h
theorem zz_hl2i_ok (ho : zz_ok tau Φ ρ ω cs nL ca fl ls st lsC stC) (hf : zz_fr D ω0 ω) (h : zz_hl2i E M ops D sc cs nL ca fl ls st k = true) : zz_Nx tau Φ D ω0 k ρ (yy_hl2i P M d pc len ops lsC stC ω) (pc + len) := by
  simp only [zz_hl2i] at h
  split at h
  · rename_i x rest
    obtain ⟨u, s1, rfl, hu, hs1⟩ := zz_stm_inv ho.2.2.2.2.2.2
    split at h
    · rename_i ht
      obtain ⟨a, rfl⟩ := zz_isL_val hu ht
      exact zz_res_ok (r := .inr (xx_lo, (xx_hi, none))) (x := a.toInt32) ho hf ⟨(xx_rng _).1, (xx_rng _).2, fun f hf => by cases hf⟩ hs1 h rfl
    · cases h
  · cases h
theorem zz_hdup_ok (ho : zz_ok tau Φ ρ ω cs nL ca fl ls st lsC stC) (hf : zz_fr D ω0 ω) (h : zz_hdup E M ops D sc cs nL ca fl ls st k = true) : zz_Nx tau Φ D ω0 k ρ (yy_hdup P M d pc len ops lsC stC ω) (pc + len) := by
  simp only [zz_hdup] at h
  split at h
  · rename_i v rest
    obtain ⟨u, s1, rfl, hu, hs1⟩ := zz_stm_inv ho.2.2.2.2.2.2
    split at h
    · cases h
    · rename_i ht
      refine zz_Nx_st ho hf h (zz_stm_cons hu (zz_stm_cons hu hs1)) ?_
      simp only [yy_hdup, zz_notL_val hu ht]
      rfl
  · cases h
theorem zz_hpop_ok (ho : zz_ok tau Φ ρ ω cs nL ca fl ls st lsC stC) (hf : zz_fr D ω0 ω) (h : zz_hpop E M ops D sc cs nL ca fl ls st k = true) : zz_Nx tau Φ D ω0 k ρ (yy_hpop P M d pc len ops lsC stC ω) (pc + len) := by
  simp only [zz_hpop] at h
  split at h
  · rename_i v rest
    obtain ⟨u, s1, rfl, hu, hs1⟩ := zz_stm_inv ho.2.2.2.2.2.2
    split at h
    · cases h
    · rename_i ht
      refine zz_Nx_st ho hf h hs1 ?_
      simp only [yy_hpop, zz_notL_val hu ht]
      rfl
  · cases h
theorem zz_hdup2_ok (ho : zz_ok tau Φ ρ ω cs nL ca fl ls st lsC stC) (hf : zz_fr D ω0 ω) (h : zz_hdup2 E M ops D sc cs nL ca fl ls st k = true) : zz_Nx tau Φ D ω0 k ρ (yy_hdup2 P M d pc len ops lsC stC ω) (pc + len) := by
  simp only [zz_hdup2] at h
  split at h
  · rename_i v w rest
    obtain ⟨u, s1, rfl, hu, hs1⟩ := zz_stm_inv ho.2.2.2.2.2.2
    obtain ⟨u2, s2, rfl, hu2, hs2⟩ := zz_stm_inv hs1
    split at h
    · rename_i ht
      obtain ⟨x, rfl⟩ := zz_isL_val hu ht
      exact zz_Nx_st ho hf h (zz_stm_cons hu (zz_stm_cons hu (zz_stm_cons hu2 hs2))) rfl
    · rename_i ht
      split at h
      · cases h
      · rename_i ht2
        refine zz_Nx_st ho hf h (zz_stm_cons hu (zz_stm_cons hu2 (zz_stm_cons hu (zz_stm_cons hu2 hs2)))) ?_
        simp only [yy_hdup2, zz_notL_val hu ht, zz_notL_val hu2 ht2]
        rfl
  · cases h
end ZS
