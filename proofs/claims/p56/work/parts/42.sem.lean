/-! what the engine's states mean -/
abbrev zz_P : Type := List Int32 × List Int64
def zz_val (ρ : zz_P) (v : zz_V) : Option yy_U := match v with
  | .inl c => some (.inl (Int32.ofInt c))
  | .inr (.inl (k, d)) => match ρ.1[k]? with
    | some x => some (.inl (x + Int32.ofInt d))
    | none => none
  | .inr (.inr (.inl i)) => some (.inr (.inr i))
  | .inr (.inr (.inr (.inl c))) => some (.inr (.inl (Int64.ofInt c)))
  | .inr (.inr (.inr (.inr k))) => match ρ.2[k]? with
    | some x => some (.inr (.inl x))
    | none => none
def zz_dfm (ρ : zz_P) (f : zz_F) (x : Int32) : Prop := match f.1 with
  | 0 => ∃ a b : Int32, zz_val ρ f.2.1 = some (.inl a) ∧ zz_val ρ f.2.2 = some (.inl b) ∧ x = a + b
  | 1 => ∃ a b : Int64, zz_val ρ f.2.1 = some (.inr (.inl a)) ∧ zz_val ρ f.2.2 = some (.inr (.inl b)) ∧ x = lg_cmp a b
  | 2 => ∃ a b : Int32, zz_val ρ f.2.1 = some (.inl a) ∧ zz_val ρ f.2.2 = some (.inl b) ∧ x = a - b
  | 3 => ∃ a b : Int32, zz_val ρ f.2.1 = some (.inl a) ∧ zz_val ρ f.2.2 = some (.inl b) ∧ x = a &&& b
  | 4 => ∃ a b : Int32, zz_val ρ f.2.1 = some (.inl a) ∧ zz_val ρ f.2.2 = some (.inl b) ∧ x = a <<< (b &&& 31)
  | 5 => ∃ a b : Int32, zz_val ρ f.2.1 = some (.inl a) ∧ zz_val ρ f.2.2 = some (.inl b) ∧ x = a ||| b
  | 6 => ∃ a b : Int32, zz_val ρ f.2.1 = some (.inl a) ∧ zz_val ρ f.2.2 = some (.inl b) ∧ x = a * b
  | 7 => ∃ a b : Int32, zz_val ρ f.2.1 = some (.inl a) ∧ zz_val ρ f.2.2 = some (.inl b) ∧ x = a ^^^ b
  | _ => False
def zz_ym (ρ : zz_P) (y : zz_Y) (x : Int32) : Prop := y.1 ≤ x.toInt ∧ x.toInt ≤ y.2.1 ∧ (∀ t c, y.2.2.1 = some (t, c) → ∃ z, ρ.1[t]? = some z ∧ z.toInt + c ≤ x.toInt) ∧ ∀ f, y.2.2.2 = some f → zz_dfm ρ f x
def zz_csm (ρ : zz_P) (cs : zz_C) : Prop := ρ.1.length = cs.length ∧ ∀ (k : Nat) (y : zz_Y) (x : Int32), cs[k]? = some y → ρ.1[k]? = some x → zz_ym ρ y x
def zz_cm (ρ : zz_P) (ω : yy_O) (q : Nat × (zz_V × zz_V)) : Prop := ∃ j : Int32, zz_val ρ q.2.1 = some (.inl j) ∧ 0 ≤ j.toInt ∧ (zz_val ρ q.2.2 = some (.inl (ω.1 q.1 j.toNatClampNeg)) ∨ zz_val ρ q.2.2 = some (.inr (.inl (ω.2 q.1 j.toNatClampNeg))))
def zz_cam (ρ : zz_P) (ω : yy_O) (ca : zz_A) : Prop := ∀ q ∈ ca, zz_cm ρ ω q
abbrev zz_Ph : Type := Nat → List Int32 → yy_O → Prop
def zz_fm (Φ : zz_Ph) (ρ : zz_P) (ω : yy_O) (f : Nat × List zz_V) : Prop := ∃ as : List Int32, f.2.map (zz_val ρ) = as.map (fun x => some (.inl x)) ∧ Φ f.1 as ω
def zz_flm (Φ : zz_Ph) (ρ : zz_P) (ω : yy_O) (fl : zz_B) : Prop := ∀ f ∈ fl, zz_fm Φ ρ ω f
def zz_tyd (tau : Nat → Nat → Int × Int) (ω : yy_O) : Prop := ∀ k j, (tau k j).1 ≤ (ω.1 k j).toInt ∧ (ω.1 k j).toInt ≤ (tau k j).2
/-- a place is one of these (read places: 2000000 and the cell; 3000000: all of them) -/
def zz_cov (D : zz_D) (k j : Nat) : Prop := ∃ q ∈ D, (q.1 = k ∧ q.2.1 ≤ (j : Int) ∧ (j : Int) ≤ q.2.2) ∨ (q.1 = 3000000 ∧ 2000000 ≤ k)
def zz_rd (D : zz_D) (k j : Nat) : Prop := zz_cov D (2000000 + k) j
def zz_fr (D : zz_D) (ω0 ω : yy_O) : Prop := ∀ k j, ¬ zz_cov D k j → ω.1 k j = ω0.1 k j ∧ ω.2 k j = ω0.2 k j
def zz_lsm (ρ : zz_P) (ls : zz_L) (lsC : yy_L) : Prop := ∀ i v, zz_get ls i = some v → ∃ u, zz_val ρ v = some u ∧ yy_get lsC i = some u
def zz_stm (ρ : zz_P) (st : List zz_V) (stC : List yy_U) : Prop := st.map (zz_val ρ) = stC.map some
def zz_ok (tau : Nat → Nat → Int × Int) (Φ : zz_Ph) (ρ : zz_P) (ω : yy_O) (cs : zz_C) (nL : Nat) (ca : zz_A) (fl : zz_B) (ls : zz_L) (st : List zz_V) (lsC : yy_L) (stC : List yy_U) : Prop :=
  zz_csm ρ cs ∧ ρ.2.length = nL ∧ zz_tyd tau ω ∧ zz_cam ρ ω ca ∧ zz_flm Φ ρ ω fl ∧ zz_lsm ρ ls lsC ∧ zz_stm ρ st stC
def zz_ex (ρ ρ' : zz_P) : Prop := ρ.1 <+: ρ'.1 ∧ ρ.2 <+: ρ'.2
theorem zz_ex_rf (ρ : zz_P) : zz_ex ρ ρ := ⟨List.prefix_rfl, List.prefix_rfl⟩
theorem zz_ex_tr {a b c : zz_P} (h : zz_ex a b) (g : zz_ex b c) : zz_ex a c := ⟨h.1.trans g.1, h.2.trans g.2⟩
theorem zz_pre {α : Type} {l l' : List α} {i : Nat} {x : α} (h : l <+: l') (g : l[i]? = some x) : l'[i]? = some x := by
  obtain ⟨t, rfl⟩ := h
  rw [List.getElem?_append_left (List.getElem?_eq_some_iff.mp g).1]
  exact g
theorem zz_val_ex {ρ ρ' : zz_P} {v : zz_V} {u : yy_U} (h : zz_ex ρ ρ') (g : zz_val ρ v = some u) : zz_val ρ' v = some u := by
  rcases v with c | ⟨k, d⟩ | i | c | k
  · exact g
  · simp only [zz_val] at g ⊢
    split at g
    · rename_i x hx
      rw [zz_pre h.1 hx]
      exact g
    · cases g
  · exact g
  · exact g
  · simp only [zz_val] at g ⊢
    split at g
    · rename_i x hx
      rw [zz_pre h.2 hx]
      exact g
    · cases g
theorem zz_dfm_ex {ρ ρ' : zz_P} {f : zz_F} {x : Int32} (h : zz_ex ρ ρ') (g : zz_dfm ρ f x) : zz_dfm ρ' f x := by
  unfold zz_dfm at g ⊢
  split at g
  · obtain ⟨a, b, g1, g2, g3⟩ := g
    exact ⟨a, b, zz_val_ex h g1, zz_val_ex h g2, g3⟩
  · obtain ⟨a, b, g1, g2, g3⟩ := g
    exact ⟨a, b, zz_val_ex h g1, zz_val_ex h g2, g3⟩
  · obtain ⟨a, b, g1, g2, g3⟩ := g
    exact ⟨a, b, zz_val_ex h g1, zz_val_ex h g2, g3⟩
  · obtain ⟨a, b, g1, g2, g3⟩ := g
    exact ⟨a, b, zz_val_ex h g1, zz_val_ex h g2, g3⟩
  · obtain ⟨a, b, g1, g2, g3⟩ := g
    exact ⟨a, b, zz_val_ex h g1, zz_val_ex h g2, g3⟩
  · obtain ⟨a, b, g1, g2, g3⟩ := g
    exact ⟨a, b, zz_val_ex h g1, zz_val_ex h g2, g3⟩
  · obtain ⟨a, b, g1, g2, g3⟩ := g
    exact ⟨a, b, zz_val_ex h g1, zz_val_ex h g2, g3⟩
  · obtain ⟨a, b, g1, g2, g3⟩ := g
    exact ⟨a, b, zz_val_ex h g1, zz_val_ex h g2, g3⟩
  · exact g
theorem zz_ym_ex {ρ ρ' : zz_P} {y : zz_Y} {x : Int32} (h : zz_ex ρ ρ') (g : zz_ym ρ y x) : zz_ym ρ' y x :=
  ⟨g.1, g.2.1, fun t c ht => by
    obtain ⟨z, a, b⟩ := g.2.2.1 t c ht
    exact ⟨z, zz_pre h.1 a, b⟩, fun f hf => zz_dfm_ex h (g.2.2.2 f hf)⟩
theorem zz_cm_ex {ρ ρ' : zz_P} {ω : yy_O} {q : Nat × (zz_V × zz_V)} (h : zz_ex ρ ρ') (g : zz_cm ρ ω q) : zz_cm ρ' ω q := by
  obtain ⟨j, a, b, c⟩ := g
  exact ⟨j, zz_val_ex h a, b, c.imp (zz_val_ex h) (zz_val_ex h)⟩
theorem zz_cam_ex {ρ ρ' : zz_P} {ω : yy_O} {ca : zz_A} (h : zz_ex ρ ρ') (g : zz_cam ρ ω ca) : zz_cam ρ' ω ca := fun q hq => zz_cm_ex h (g q hq)
theorem zz_map_ex {ρ ρ' : zz_P} (h : zz_ex ρ ρ') {α : Type} (f : α → yy_U) : ∀ {vs : List zz_V} {as : List α}, vs.map (zz_val ρ) = as.map (fun x => some (f x)) → vs.map (zz_val ρ') = as.map (fun x => some (f x))
  | [], [], _ => rfl
  | [], _ :: _, g => by cases g
  | _ :: _, [], g => by cases g
  | v :: vs, a :: as, g => by
    rw [List.map_cons, List.map_cons, List.cons.injEq] at g ⊢
    exact ⟨zz_val_ex h g.1, zz_map_ex h f g.2⟩
theorem zz_fm_ex {Φ : zz_Ph} {ρ ρ' : zz_P} {ω : yy_O} {f : Nat × List zz_V} (h : zz_ex ρ ρ') (g : zz_fm Φ ρ ω f) : zz_fm Φ ρ' ω f := by
  obtain ⟨as, a, b⟩ := g
  exact ⟨as, zz_map_ex h (fun x => .inl x) a, b⟩
theorem zz_flm_ex {Φ : zz_Ph} {ρ ρ' : zz_P} {ω : yy_O} {fl : zz_B} (h : zz_ex ρ ρ') (g : zz_flm Φ ρ ω fl) : zz_flm Φ ρ' ω fl := fun f hf => zz_fm_ex h (g f hf)
theorem zz_lsm_ex {ρ ρ' : zz_P} {ls : zz_L} {lsC : yy_L} (h : zz_ex ρ ρ') (g : zz_lsm ρ ls lsC) : zz_lsm ρ' ls lsC := fun i v hi => by
  obtain ⟨u, a, b⟩ := g i v hi
  exact ⟨u, zz_val_ex h a, b⟩
theorem zz_stm_ex {ρ ρ' : zz_P} {st : List zz_V} {stC : List yy_U} (h : zz_ex ρ ρ') (g : zz_stm ρ st stC) : zz_stm ρ' st stC := zz_map_ex h (fun x => x) g
theorem zz_stm_cons {ρ : zz_P} {v : zz_V} {u : yy_U} {st : List zz_V} {stC : List yy_U} (h : zz_val ρ v = some u) (g : zz_stm ρ st stC) : zz_stm ρ (v :: st) (u :: stC) := by
  unfold zz_stm at g ⊢
  rw [List.map_cons, List.map_cons, h, g]
theorem zz_stm_inv {ρ : zz_P} {v : zz_V} {st : List zz_V} {stC : List yy_U} (g : zz_stm ρ (v :: st) stC) : ∃ u stC', stC = u :: stC' ∧ zz_val ρ v = some u ∧ zz_stm ρ st stC' := by
  unfold zz_stm at g
  cases stC with
  | nil => cases g
  | cons u us =>
    rw [List.map_cons, List.map_cons, List.cons.injEq] at g
    exact ⟨u, us, rfl, g.1, g.2⟩
theorem zz_stm_nil {ρ : zz_P} {stC : List yy_U} (g : zz_stm ρ [] stC) : stC = [] := by
  cases stC with
  | nil => rfl
  | cons u us => cases g
theorem zz_fV_eq {β : Type} (v : zz_V) (k : zz_V → β) : zz_fV v k = k v := by
  rcases v with c | ⟨n, d⟩ | i | c | i <;> simp only [zz_fV, xx_fI_eq, xx_fN_eq]
/-- all but symbols -/
theorem zz_ok.ex {tau : Nat → Nat → Int × Int} {Φ : zz_Ph} {ρ ρ' : zz_P} {ω : yy_O} {cs cs' : zz_C} {nL nL' : Nat} {ca : zz_A} {fl : zz_B} {ls : zz_L} {st : List zz_V} {lsC : yy_L} {stC : List yy_U} (h : zz_ok tau Φ ρ ω cs nL ca fl ls st lsC stC) (he : zz_ex ρ ρ') (hc : zz_csm ρ' cs') (hl : ρ'.2.length = nL') : zz_ok tau Φ ρ' ω cs' nL' ca fl ls st lsC stC :=
  ⟨hc, hl, h.2.2.1, zz_cam_ex he h.2.2.2.1, zz_flm_ex he h.2.2.2.2.1, zz_lsm_ex he h.2.2.2.2.2.1, zz_stm_ex he h.2.2.2.2.2.2⟩
theorem zz_ok.via {tau : Nat → Nat → Int × Int} {Φ : zz_Ph} {ρ : zz_P} {ω : yy_O} {cs : zz_C} {nL : Nat} {ca : zz_A} {fl : zz_B} {ls ls' : zz_L} {st st' : List zz_V} {lsC lsC' : yy_L} {stC stC' : List yy_U} (h : zz_ok tau Φ ρ ω cs nL ca fl ls st lsC stC) (hl : zz_lsm ρ ls' lsC') (hs : zz_stm ρ st' stC') : zz_ok tau Φ ρ ω cs nL ca fl ls' st' lsC' stC' := ⟨h.1, h.2.1, h.2.2.1, h.2.2.2.1, h.2.2.2.2.1, hl, hs⟩
/-- a new symbol -/
theorem zz_csm_new {ρ : zz_P} {cs : zz_C} {y : zz_Y} {x : Int32} (h : zz_csm ρ cs) (hy : zz_ym ρ y x) : zz_ex ρ (ρ.1 ++ [x], ρ.2) ∧ zz_csm (ρ.1 ++ [x], ρ.2) (cs ++ [y]) ∧ zz_val (ρ.1 ++ [x], ρ.2) (.inr (.inl (cs.length, 0))) = some (.inl x) := by
  have he : zz_ex ρ (ρ.1 ++ [x], ρ.2) := ⟨List.prefix_append _ _, List.prefix_rfl⟩
  refine ⟨he, ⟨by simp only [List.length_append, h.1]; rfl, fun k y' x' hk hx => ?_⟩, ?_⟩
  · by_cases hlt : k < cs.length
    · rw [List.getElem?_append_left hlt] at hk
      have hx : (ρ.1 ++ [x])[k]? = some x' := hx
      rw [List.getElem?_append_left (by rw [h.1]; exact hlt)] at hx
      exact zz_ym_ex he (h.2 k y' x' hk hx)
    · rw [List.getElem?_append_right (by omega)] at hk
      have hz : k - cs.length < 1 := (List.getElem?_eq_some_iff.mp hk).1
      have hkl : k = cs.length := by omega
      have hx : (ρ.1 ++ [x])[k]? = some x' := hx
      rw [List.getElem?_append_right (by rw [h.1]; omega), hkl, h.1, Nat.sub_self] at hx
      rw [hkl, Nat.sub_self] at hk
      cases hk
      cases hx
      exact zz_ym_ex he hy
  · simp only [zz_val]
    have : (ρ.1 ++ [x])[cs.length]? = some x := by rw [← h.1, List.getElem?_append_right (Nat.le_refl _), Nat.sub_self]; rfl
    rw [this]
    show some (Sum.inl (x + Int32.ofInt 0)) = _
    congr 2
    exact Int32.add_zero x
theorem zz_new_eq {β : Type} (cs : zz_C) (r : zz_Y) (k : zz_C → zz_V → β) : zz_new cs r k = k (cs ++ [r]) (.inr (.inl (cs.length, 0))) := by
  unfold zz_new
  rw [xx_len_eq, xx_app_eq, Nat.zero_add]
theorem zz_yy_eq {β : Type} (a b : Int) (d : Option zz_F) (k : zz_Y → β) : zz_yy a b d k = k (a, (b, (none, d))) := by
  unfold zz_yy
  rw [xx_fI_eq, xx_fI_eq]
theorem zz_lng_eq {β : Type} (nL : Nat) (k : Nat → zz_V → β) : zz_lng nL k = k (nL + 1) (.inr (.inr (.inr (.inr nL)))) := by
  unfold zz_lng
  rw [xx_fN_eq, xx_fN_eq]
theorem zz_lng_ok {ρ : zz_P} {nL : Nat} (h : ρ.2.length = nL) (x : Int64) : zz_ex ρ (ρ.1, ρ.2 ++ [x]) ∧ (ρ.1, ρ.2 ++ [x]).2.length = nL + 1 ∧ zz_val (ρ.1, ρ.2 ++ [x]) (.inr (.inr (.inr (.inr nL)))) = some (.inr (.inl x)) := by
  refine ⟨⟨List.prefix_rfl, List.prefix_append _ _⟩, by show (ρ.2 ++ [x]).length = _; rw [List.length_append, h]; rfl, ?_⟩
  simp only [zz_val]
  have : (ρ.2 ++ [x])[nL]? = some x := by rw [← h, List.getElem?_append_right (Nat.le_refl _), Nat.sub_self]; rfl
  rw [this]
theorem zz_csm_ex {ρ : zz_P} {cs : zz_C} {l : List Int64} (h : zz_csm ρ cs) (he : zz_ex ρ (ρ.1, l)) : zz_csm (ρ.1, l) cs := ⟨h.1, fun k y x hk hx => zz_ym_ex he (h.2 k y x hk hx)⟩
/-! bounds -/
theorem zz_isI_val {ρ : zz_P} {v : zz_V} {u : yy_U} (h : zz_val ρ v = some u) (hi : zz_isI v = true) : ∃ x, u = .inl x := by
  rcases v with c | ⟨k, d⟩ | r
  · cases h
    exact ⟨_, rfl⟩
  · simp only [zz_val] at h
    split at h
    · cases h
      exact ⟨_, rfl⟩
    · cases h
  · cases hi
theorem zz_isL_val {ρ : zz_P} {v : zz_V} {u : yy_U} (h : zz_val ρ v = some u) (hi : zz_isL v = true) : ∃ x, u = .inr (.inl x) := by
  rcases v with c | ⟨k, d⟩ | i | c | k
  · cases hi
  · cases hi
  · cases hi
  · cases h
    exact ⟨_, rfl⟩
  · simp only [zz_val] at h
    split at h
    · cases h
      exact ⟨_, rfl⟩
    · cases h
theorem zz_notL_val {ρ : zz_P} {v : zz_V} {u : yy_U} (h : zz_val ρ v = some u) (hi : zz_isL v = false) : yy_cat u = 1 := by
  rcases v with c | ⟨k, d⟩ | i | c | k
  · cases h
    rfl
  · simp only [zz_val] at h
    split at h
    · cases h
      rfl
    · cases h
  · cases h
    rfl
  · cases hi
  · cases hi
theorem zz_iv_ok {ρ : zz_P} {cs : zz_C} {v : zz_V} {r : Int × Int} {x : Int32} (hc : zz_csm ρ cs) (h : zz_iv cs v = some r) (hx : zz_val ρ v = some (.inl x)) : r.1 ≤ x.toInt ∧ x.toInt ≤ r.2 ∧ xx_lo ≤ r.1 ∧ r.2 ≤ xx_hi := by
  rcases v with c | ⟨k, d⟩ | y
  · simp only [zz_iv] at h
    split at h
    · rename_i q
      rw [Bool.and_eq_true, xx_le_iff, xx_le_iff] at q
      cases h
      cases hx
      have := xx_ofInt q.1 q.2
      exact ⟨by show c ≤ _; omega, by show _ ≤ c; omega, q.1, q.2⟩
    · cases h
  · simp only [zz_iv] at h
    split at h
    · rename_i lo hi rest hk
      split at h
      · rename_i q
        rw [Bool.and_eq_true, xx_le_iff, xx_le_iff] at q
        cases h
        simp only [zz_val] at hx
        split at hx
        · rename_i z hz
          cases hx
          obtain ⟨h1, h2, -, -⟩ := hc.2 k _ z hk hz
          have h1 : lo ≤ z.toInt := h1
          have h2 : z.toInt ≤ hi := h2
          have e : z + Int32.ofInt d = Int32.ofInt (z.toInt + d) := by rw [Int32.ofInt_add, Int32.ofInt_toInt]
          have e2 : (z + Int32.ofInt d).toInt = z.toInt + d := by
            rw [e]
            exact xx_ofInt (by omega) (by omega)
          exact ⟨by show lo + d ≤ _; omega, by show _ ≤ hi + d; omega, q.1, q.2⟩
        · cases hx
      · cases h
    · cases h
  · cases h
/-- a symbol's own number, where its bounds stand -/
theorem zz_iv_sym {ρ : zz_P} {cs : zz_C} {k : Nat} {d : Int} {r : Int × Int} {x z : Int32} (hc : zz_csm ρ cs) (h : zz_iv cs (.inr (.inl (k, d))) = some r) (hz : ρ.1[k]? = some z) (hx : zz_val ρ (.inr (.inl (k, d))) = some (.inl x)) : x.toInt = z.toInt + d := by
  simp only [zz_iv] at h
  split at h
  · rename_i lo hi rest hk
    split at h
    · rename_i q
      rw [Bool.and_eq_true, xx_le_iff, xx_le_iff] at q
      simp only [zz_val, hz] at hx
      cases hx
      obtain ⟨h1, h2, -, -⟩ := hc.2 k _ z hk hz
      have h1 : lo ≤ z.toInt := h1
      have h2 : z.toInt ≤ hi := h2
      have e : z + Int32.ofInt d = Int32.ofInt (z.toInt + d) := by rw [Int32.ofInt_add, Int32.ofInt_toInt]
      rw [e]
      exact xx_ofInt (by omega) (by omega)
    · cases h
  · cases h
theorem zz_iv_isI {cs : zz_C} {v : zz_V} {r : Int × Int} (h : zz_iv cs v = some r) : zz_isI v = true := by
  rcases v with c | q | y
  · rfl
  · rfl
  · cases h
theorem zz_ivf_ok {ρ : zz_P} {cs : zz_C} {v : zz_V} {x : Int32} (hc : zz_csm ρ cs) (hx : zz_val ρ v = some (.inl x)) : (zz_ivf cs v).1 ≤ x.toInt ∧ x.toInt ≤ (zz_ivf cs v).2 := by
  unfold zz_ivf
  split
  · rename_i r hr
    obtain ⟨a, b, -, -⟩ := zz_iv_ok hc hr hx
    exact ⟨a, b⟩
  · exact xx_rng x
theorem zz_nrm_ok {ρ : zz_P} {cs : zz_C} {v : zz_V} {u : yy_U} (hc : zz_csm ρ cs) (h : zz_val ρ v = some u) : zz_val ρ (zz_nrm cs v) = some u := by
  rcases v with c | ⟨k, d⟩ | y
  · exact h
  · simp only [zz_nrm]
    split
    · rename_i a b hr
      split
      · rename_i he
        rw [xx_eqI_iff] at he
        obtain ⟨x, rfl⟩ := zz_isI_val h rfl
        obtain ⟨h1, h2, h3, h4⟩ := zz_iv_ok hc hr h
        have h1 : a ≤ x.toInt := h1
        have h2 : x.toInt ≤ b := h2
        have h3 : xx_lo ≤ a := h3
        have h4 : b ≤ xx_hi := h4
        show some (Sum.inl (Int32.ofInt a)) = _
        congr 2
        rw [← Int32.toInt_inj, xx_ofInt h3 (by omega)]
        omega
      · exact h
    · exact h
  · exact h
theorem zz_nrm_isI (cs : zz_C) (v : zz_V) : zz_isI (zz_nrm cs v) = zz_isI v := by
  rcases v with c | ⟨k, d⟩ | y
  · rfl
  · simp only [zz_nrm]
    split
    · split <;> rfl
    · rfl
  · rfl
theorem zz_eqV_ok {a b : zz_V} (h : zz_eqV a b = true) : a = b := by
  rcases a with x | ⟨p, d⟩ | i | x | i <;> rcases b with y | ⟨q, e⟩ | j | y | j <;> simp only [zz_eqV] at h <;> first | (cases h; done) | skip
  · rw [xx_eqI_iff] at h
    rw [h]
  · rw [Bool.and_eq_true, xx_eqI_iff] at h
    rw [Nat.eq_of_beq_eq_true h.1, h.2]
  · rw [Nat.eq_of_beq_eq_true h]
  · rw [xx_eqI_iff] at h
    rw [h]
  · rw [Nat.eq_of_beq_eq_true h]
theorem zz_sm_ok {ρ : zz_P} {cs : zz_C} {a b : zz_V} {u w : yy_U} (hc : zz_csm ρ cs) (h : zz_sm cs a b = true) (ha : zz_val ρ a = some u) (hb : zz_val ρ b = some w) : u = w := by
  unfold zz_sm at h
  rw [Bool.or_eq_true] at h
  rcases h with h | h
  · rw [zz_eqV_ok h, hb] at ha
    cases ha
    rfl
  · have h1 := zz_nrm_ok hc ha
    have h2 := zz_nrm_ok hc hb
    rw [zz_eqV_ok h, h2] at h1
    cases h1
    rfl
theorem zz_ge_ok {ρ : zz_P} {cs : zz_C} (hc : zz_csm ρ cs) : ∀ (f s : Nat) (d : Int) (q : Nat) (e : Int) {x z : Int32}, zz_ge cs f s d q e = true → ρ.1[s]? = some x → ρ.1[q]? = some z → z.toInt + e ≤ x.toInt + d := by
  intro f
  induction f with
  | zero => intro s d q e x z h; cases h
  | succ f ih =>
    intro s d q e x z h hx hz
    simp only [zz_ge] at h
    split at h
    · rename_i hq
      rw [Bool.and_eq_true, xx_le_iff] at hq
      have := Nat.eq_of_beq_eq_true hq.1
      subst this
      rw [hx] at hz
      cases hz
      omega
    · split at h
      · rename_i lo hi lk df hs
        split at h
        · rename_i lo2 hi2 r2 hq2
          obtain ⟨a1, a2, a3, -⟩ := hc.2 s _ x hs hx
          obtain ⟨b1, b2, -, -⟩ := hc.2 q _ z hq2 hz
          have a1 : lo ≤ x.toInt := a1
          have b2 : z.toInt ≤ hi2 := b2
          split at h
          · rename_i hl
            rw [xx_le_iff] at hl
            omega
          · split at h
            · rename_i t c
              obtain ⟨y, g1, g2⟩ := a3 t c rfl
              have := ih t (c + d) q e h g1 hz
              omega
            · cases h
        · cases h
      · cases h
theorem zz_geV_ok {ρ : zz_P} {cs : zz_C} {a b : zz_V} {c : Int} {x y : Int32} (hc : zz_csm ρ cs) (h : zz_geV cs a b c = true) (ha : zz_val ρ a = some (.inl x)) (hb : zz_val ρ b = some (.inl y)) : y.toInt + c ≤ x.toInt := by
  simp only [zz_geV] at h
  split at h
  · rename_i ra hra
    split at h
    · rename_i rb hrb
      obtain ⟨a1, a2, -, -⟩ := zz_iv_ok hc hra ha
      obtain ⟨b1, b2, -, -⟩ := zz_iv_ok hc hrb hb
      split at h
      · rename_i hl
        rw [xx_le_iff] at hl
        omega
      · split at h
        · rename_i s d
          split at h
          · rename_i q e
            have ha0 := ha
            have hb0 := hb
            simp only [zz_val] at ha hb
            split at ha
            · rename_i xs hxs
              split at hb
              · rename_i ys hys
                have e1 := zz_iv_sym hc hra hxs ha0
                have e2 := zz_iv_sym hc hrb hys hb0
                have := zz_ge_ok hc _ _ _ _ _ h hxs hys
                omega
              · cases hb
            · cases ha
          · cases h
        · cases h
    · cases h
  · cases h
theorem zz_has_isI {cs : zz_C} {v : zz_V} (h : zz_has cs v = true) : zz_isI v = true := by
  rcases v with c | q | y
  · rfl
  · rfl
  · cases h
theorem zz_in_ok {ρ : zz_P} {cs : zz_C} {v : zz_V} {r : Int × Int} {u : yy_U} (hc : zz_csm ρ cs) (h : zz_in cs v r = true) (hv : zz_val ρ v = some u) : ∃ x : Int32, u = .inl x ∧ r.1 ≤ x.toInt ∧ x.toInt ≤ r.2 := by
  simp only [zz_in] at h
  split at h
  · rename_i q hq
    rw [Bool.and_eq_true, xx_le_iff, xx_le_iff] at h
    obtain ⟨x, rfl⟩ := zz_isI_val hv (zz_iv_isI hq)
    obtain ⟨a, b, -, -⟩ := zz_iv_ok hc hq hv
    exact ⟨x, rfl, by omega, by omega⟩
  · rw [Bool.and_eq_true, Bool.and_eq_true, xx_le_iff, xx_le_iff] at h
    obtain ⟨x, rfl⟩ := zz_isI_val hv (zz_has_isI h.2.2)
    obtain ⟨a, b⟩ := xx_rng x
    exact ⟨x, rfl, by have := h.1; omega, by have := h.2.1; omega⟩
theorem zz_has_val {ρ : zz_P} {cs : zz_C} {v : zz_V} (hc : zz_csm ρ cs) (h : zz_has cs v = true) : ∃ x, zz_val ρ v = some (.inl x) := by
  rcases v with c | ⟨k, d⟩ | y
  · exact ⟨_, rfl⟩
  · simp only [zz_has] at h
    split at h
    · rename_i y hy
      have hlt : k < ρ.1.length := by rw [hc.1]; exact (List.getElem?_eq_some_iff.mp hy).1
      refine ⟨ρ.1[k] + Int32.ofInt d, ?_⟩
      simp only [zz_val, List.getElem?_eq_getElem hlt]
    · cases h
  · cases h
theorem zz_in_has {cs : zz_C} {v : zz_V} {r : Int × Int} (h : zz_in cs v r = true) : zz_has cs v = true := by
  simp only [zz_in] at h
  split at h
  · rename_i q hq
    rcases v with c | ⟨k, d⟩ | y
    · rfl
    · simp only [zz_iv] at hq
      split at hq
      · rename_i hk
        simp only [zz_has, hk]
      · cases hq
    · cases hq
  · rw [Bool.and_eq_true, Bool.and_eq_true] at h
    exact h.2.2
theorem zz_in_val {ρ : zz_P} {cs : zz_C} {v : zz_V} {r : Int × Int} (hc : zz_csm ρ cs) (h : zz_in cs v r = true) : ∃ x : Int32, zz_val ρ v = some (.inl x) ∧ r.1 ≤ x.toInt ∧ x.toInt ≤ r.2 := by
  obtain ⟨x, hx⟩ := zz_has_val hc (zz_in_has h)
  obtain ⟨y, e, h1, h2⟩ := zz_in_ok hc h hx
  cases e
  exact ⟨x, hx, h1, h2⟩
