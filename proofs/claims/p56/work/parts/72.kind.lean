/-! kinds of entailments -/
section ZK
variable {tau : Nat → Nat → Int × Int} {Φ : zz_Ph} {σ : zz_P} {ω : yy_O} {cs : zz_C} {nL : Nat} {ca ca' : zz_A} {fl fl' : zz_B} {ls : zz_L} {st : List zz_V} {lsC : yy_L} {stC : List yy_U}
theorem zl_fl (ho : zz_ok tau Φ σ ω cs nL ca fl ls st lsC stC) (h : ∀ f ∈ fl', f ∈ fl ∨ zz_fm Φ σ ω f) : zz_ok tau Φ σ ω cs nL ca fl' ls st lsC stC :=
  ⟨ho.1, ho.2.1, ho.2.2.1, ho.2.2.2.1, fun f hf => (h f hf).elim (fun h => ho.2.2.2.2.1 f h) (fun h => h), ho.2.2.2.2.2⟩
theorem zl_ca (ho : zz_ok tau Φ σ ω cs nL ca fl ls st lsC stC) (h : ∀ q ∈ ca', q ∈ ca ∨ zz_cm σ ω q) : zz_ok tau Φ σ ω cs nL ca' fl ls st lsC stC :=
  ⟨ho.1, ho.2.1, ho.2.2.1, fun q hq => (h q hq).elim (fun h => ho.2.2.2.1 q h) (fun h => h), ho.2.2.2.2⟩
theorem zl_1 {f : Nat} {a : zz_V} (h : zz_fm Φ σ ω (f, [a])) : ∃ x, zz_val σ a = some (.inl x) ∧ Φ f [x] ω := by
  obtain ⟨as, h1, h2⟩ := h
  match as, h1, h2 with
  | [x], h1, h2 =>
    simp only [List.map_cons, List.map_nil, List.cons.injEq, and_true] at h1
    exact ⟨x, h1, h2⟩
  | [], h1, _ => cases h1
  | _ :: _ :: _, h1, _ => simp only [List.map_cons, List.map_nil, List.cons.injEq] at h1; cases h1.2
theorem zl_2 {f : Nat} {a b : zz_V} (h : zz_fm Φ σ ω (f, [a, b])) : ∃ x y, zz_val σ a = some (.inl x) ∧ zz_val σ b = some (.inl y) ∧ Φ f [x, y] ω := by
  obtain ⟨as, h1, h2⟩ := h
  match as, h1, h2 with
  | [x, y], h1, h2 =>
    simp only [List.map_cons, List.map_nil, List.cons.injEq, and_true] at h1
    exact ⟨x, y, h1.1, h1.2, h2⟩
  | [], h1, _ => cases h1
  | [_], h1, _ => simp only [List.map_cons, List.map_nil, List.cons.injEq] at h1; cases h1.2
  | _ :: _ :: _ :: _, h1, _ => simp only [List.map_cons, List.map_nil, List.cons.injEq] at h1; cases h1.2.2
theorem zl_3 {f : Nat} {a b c : zz_V} (h : zz_fm Φ σ ω (f, [a, b, c])) : ∃ x y z, zz_val σ a = some (.inl x) ∧ zz_val σ b = some (.inl y) ∧ zz_val σ c = some (.inl z) ∧ Φ f [x, y, z] ω := by
  obtain ⟨as, h1, h2⟩ := h
  match as, h1, h2 with
  | [x, y, z], h1, h2 =>
    simp only [List.map_cons, List.map_nil, List.cons.injEq, and_true] at h1
    exact ⟨x, y, z, h1.1, h1.2.1, h1.2.2, h2⟩
  | [], h1, _ => cases h1
  | [_], h1, _ => simp only [List.map_cons, List.map_nil, List.cons.injEq] at h1; cases h1.2
  | [_, _], h1, _ => simp only [List.map_cons, List.map_nil, List.cons.injEq] at h1; cases h1.2.2
  | _ :: _ :: _ :: _ :: _, h1, _ => simp only [List.map_cons, List.map_nil, List.cons.injEq] at h1; cases h1.2.2.2
theorem zl_5 {f : Nat} {a b c d e : zz_V} (h : zz_fm Φ σ ω (f, [a, b, c, d, e])) : ∃ x y z u v, zz_val σ a = some (.inl x) ∧ zz_val σ b = some (.inl y) ∧ zz_val σ c = some (.inl z) ∧ zz_val σ d = some (.inl u) ∧ zz_val σ e = some (.inl v) ∧ Φ f [x, y, z, u, v] ω := by
  obtain ⟨as, h1, h2⟩ := h
  have hl := congrArg List.length h1
  simp only [List.length_map, List.length_cons, List.length_nil] at hl
  match as, h1, h2, hl with
  | [x, y, z, u, v], h1, h2, _ =>
    simp only [List.map_cons, List.map_nil, List.cons.injEq, and_true] at h1
    exact ⟨x, y, z, u, v, h1.1, h1.2.1, h1.2.2.1, h1.2.2.2.1, h1.2.2.2.2, h2⟩
end ZK
/-- a fact at its place -/
theorem zl_at {tau : Nat → Nat → Int × Int} {Φ : zz_Ph} {σ : zz_P} {ω : yy_O} {Z : zz_Z} {lsC : yy_L} {stC : List yy_U} (ho : zz_ok tau Φ σ ω Z.1 Z.2.1 Z.2.2.1 Z.2.2.2.1 Z.2.2.2.2.1 Z.2.2.2.2.2 lsC stC) {i : Nat} {f : Nat × List zz_V} (h : Z.2.2.2.1[i]? = some f) : zz_fm Φ σ ω f := ho.2.2.2.2.1 f (List.mem_of_getElem? h)
theorem zl_cell {tau : Nat → Nat → Int × Int} {Φ : zz_Ph} {σ : zz_P} {ω : yy_O} {Z : zz_Z} {lsC : yy_L} {stC : List yy_U} (ho : zz_ok tau Φ σ ω Z.1 Z.2.1 Z.2.2.1 Z.2.2.2.1 Z.2.2.2.2.1 Z.2.2.2.2.2 lsC stC) {i : Nat} {q : Nat × (zz_V × zz_V)} (h : Z.2.2.1[i]? = some q) : zz_cm σ ω q := ho.2.2.2.1 q (List.mem_of_getElem? h)
/-- an int's cell at a known place -/
theorem zl_cc {σ : zz_P} {ω : yy_O} {k : Nat} {j : Nat} {v : zz_V} {x : Int32} (h : zz_cm σ ω (k, (.inl (j : Int), v))) (hj : j < 1000000) (hv : zz_val σ v = some (.inl x)) : ω.1 k j = x := by
  obtain ⟨i, h1, -, h3⟩ := h
  have h1 : some (Sum.inl (Int32.ofInt (j : Int))) = some (Sum.inl i) := h1
  cases h1
  have e := (zz_ofN j hj).2
  rcases h3 with h3 | h3
  · have h3 : zz_val σ v = some (.inl (ω.1 k (Int32.ofInt (j : Int)).toNatClampNeg)) := h3
    rw [hv, e] at h3
    cases h3
    rfl
  · have h3 : zz_val σ v = some (.inr (.inl (ω.2 k (Int32.ofInt (j : Int)).toNatClampNeg))) := h3
    rw [hv] at h3
    cases h3
def zz_fZ (fl : zz_B) (Z : zz_Z) : zz_Z := (Z.1, (Z.2.1, (Z.2.2.1, (fl, Z.2.2.2.2))))
def zz_cZ (ca : zz_A) (Z : zz_Z) : zz_Z := (Z.1, (Z.2.1, (ca, Z.2.2.2)))
/-- the facts of one list are among others' -/
def zl_sub (l : List Nat) (fl : zz_B) : zz_B := l.filterMap (fun i => fl[i]?)
theorem zl_sub_mem {l : List Nat} {fl : zz_B} {f : Nat × List zz_V} (h : f ∈ zl_sub l fl) : f ∈ fl := by
  unfold zl_sub at h
  obtain ⟨i, -, h⟩ := List.mem_filterMap.mp h
  exact List.mem_of_getElem? h
/-- new facts before some of the old ones -/
theorem zl_new {tau : Nat → Nat → Int × Int} {Φ : zz_Ph} {Z : zz_Z} {fs : zz_B} (l : List Nat) (h : ∀ (σ : zz_P) (ω : yy_O) (lsC : yy_L) (stC : List yy_U), zz_ok tau Φ σ ω Z.1 Z.2.1 Z.2.2.1 Z.2.2.2.1 Z.2.2.2.2.1 Z.2.2.2.2.2 lsC stC → ∀ f ∈ fs, zz_fm Φ σ ω f) : zz_ho tau Φ Z [zz_fZ (fs ++ zl_sub l Z.2.2.2.1) Z] := by
  intro σ ω lsC stC ho
  refine ⟨_, List.mem_cons_self, σ, zz_ex_rf σ, zl_fl ho (fun f hf => ?_)⟩
  rcases List.mem_append.mp hf with e | e
  · exact Or.inr (h σ ω lsC stC ho f e)
  · exact Or.inl (zl_sub_mem e)
theorem zl_newc {tau : Nat → Nat → Int × Int} {Φ : zz_Ph} {Z : zz_Z} {c : Nat × (zz_V × zz_V)} (h : ∀ (σ : zz_P) (ω : yy_O) (lsC : yy_L) (stC : List yy_U), zz_ok tau Φ σ ω Z.1 Z.2.1 Z.2.2.1 Z.2.2.2.1 Z.2.2.2.2.1 Z.2.2.2.2.2 lsC stC → zz_cm σ ω c) : zz_ho tau Φ Z [zz_cZ (c :: Z.2.2.1) Z] := by
  intro σ ω lsC stC ho
  refine ⟨_, List.mem_cons_self, σ, zz_ex_rf σ, zl_ca ho (fun q hq => ?_)⟩
  rcases List.mem_cons.mp hq with e | e
  · subst e
    exact Or.inr (h σ ω lsC stC ho)
  · exact Or.inl e
/-- a symbol's bounds -/
theorem zl_bnd {tau : Nat → Nat → Int × Int} {Φ : zz_Ph} {Z : zz_Z} {s : Nat} {lo hi : Int} {lk : Option (Nat × Int)} (h : ∀ (σ : zz_P) (ω : yy_O) (lsC : yy_L) (stC : List yy_U), zz_ok tau Φ σ ω Z.1 Z.2.1 Z.2.2.1 Z.2.2.2.1 Z.2.2.2.2.1 Z.2.2.2.2.2 lsC stC → ∀ x, σ.1[s]? = some x → lo ≤ x.toInt ∧ x.toInt ≤ hi ∧ ∀ t c, lk = some (t, c) → ∃ z, σ.1[t]? = some z ∧ z.toInt + c ≤ x.toInt) : zz_ho tau Φ Z [zz_yZ s lo hi lk Z] := by
  intro σ ω lsC stC ho
  exact ⟨_, List.mem_cons_self, σ, zz_ex_rf σ, zz_yZ_ok ho (h σ ω lsC stC ho)⟩
theorem zl_sym {σ : zz_P} {s : Nat} {x y : Int32} (h : σ.1[s]? = some x) (g : zz_val σ (.inr (.inl (s, 0))) = some (.inl y)) : x = y := by
  simp only [zz_val, h] at g
  have : x + Int32.ofInt 0 = x := Int32.add_zero x
  rw [this] at g
  cases g
  rfl
theorem zl_symd {σ : zz_P} {s : Nat} {d : Int} {x y : Int32} (h : σ.1[s]? = some x) (g : zz_val σ (.inr (.inl (s, d))) = some (.inl y)) : y = x + Int32.ofInt d := by
  simp only [zz_val, h] at g
  cases g
  rfl
theorem zl_s0 {σ : zz_P} {s : Nat} {x : Int32} (g : zz_val σ (.inr (.inl (s, 0))) = some (.inl x)) : σ.1[s]? = some x := by
  simp only [zz_val] at g
  split at g
  · rename_i y hy
    have : y + Int32.ofInt 0 = y := Int32.add_zero y
    rw [this] at g
    cases g
    exact hy
  · cases g
/-- answers of one function at the same arguments -/
theorem zl_fn1 {kee : Nat → Int64} {W : zz_D} {t d : Nat} {args : List yy_U} {r s : Int32} {ω : yy_O} (h : zp_fn kee W t d args r ω) (g : zp_fn kee W t d args s ω) : r = s := by
  obtain ⟨M, n, ω', h1, h2⟩ := h
  obtain ⟨M', n', ω'', g1, g2⟩ := g
  rw [h1] at g1
  cases g1
  have := (yy_tr_fun h2 g2).1
  cases this
  rfl
/-- the facts that are functions: arguments, answer -/
theorem zl_det {kee : Nat → Int64} {f : Nat} {as : List Int32} {r s : Int32} {ω : yy_O} (hf : f = 5 ∨ f = 6 ∨ f = 7 ∨ f = 16) (h : zp_phi kee f (as ++ [r]) ω) (g : zp_phi kee f (as ++ [s]) ω) : r = s := by
  rcases hf with e | e | e | e <;> subst e
  · match as, h, g with
    | [w], h, g => exact zl_fn1 h g
    | [], h, g => exact h.elim
    | _ :: _ :: _, h, g => simp only [zp_phi, List.cons_append] at h; split at h <;> simp_all
  · match as, h, g with
    | [w, p, o], h, g => exact zl_fn1 h g
    | [], h, g => exact h.elim
    | [_], h, g => exact h.elim
    | [_, _], h, g => exact h.elim
    | _ :: _ :: _ :: _ :: _, h, g => simp only [zp_phi, List.cons_append] at h; split at h <;> simp_all
  · match as, h, g with
    | [w], h, g => exact zl_fn1 h g
    | [], h, g => exact h.elim
    | _ :: _ :: _, h, g => simp only [zp_phi, List.cons_append] at h; split at h <;> simp_all
  · match as, h, g with
    | [w], h, g => exact zl_fn1 h g
    | [], h, g => exact h.elim
    | _ :: _ :: _, h, g => simp only [zp_phi, List.cons_append] at h; split at h <;> simp_all
theorem zl_app {σ : zz_P} : ∀ {vs : List zz_V} {v : zz_V} {as : List Int32}, (vs ++ [v]).map (zz_val σ) = as.map (fun x => some (.inl x)) → ∃ bs x, as = bs ++ [x] ∧ vs.map (zz_val σ) = bs.map (fun x => some (.inl x)) ∧ zz_val σ v = some (.inl x)
  | [], v, as, h => by
    match as, h with
    | [x], h => exact ⟨[], x, rfl, rfl, by simpa using h⟩
    | [], h => cases h
    | _ :: _ :: _, h => simp at h
  | w :: vs, v, as, h => by
    cases as with
    | nil => cases h
    | cons a as =>
      simp only [List.cons_append, List.map_cons, List.cons.injEq] at h
      obtain ⟨bs, x, h1, h2, h3⟩ := zl_app h.2
      exact ⟨a :: bs, x, by rw [h1]; rfl, by simp only [List.map_cons, List.cons.injEq]; exact ⟨h.1, h2⟩, h3⟩
theorem zl_inj : ∀ {as bs : List Int32}, as.map (fun x => (some (.inl x) : Option yy_U)) = bs.map (fun x => some (.inl x)) → as = bs
  | [], [], _ => rfl
  | [], _ :: _, h => by cases h
  | _ :: _, [], h => by cases h
  | a :: as, b :: bs, h => by
    simp only [List.map_cons, List.cons.injEq, Option.some.injEq, Sum.inl.injEq] at h
    rw [h.1, zl_inj h.2]
theorem zl_eq {kee : Nat → Int64} {Z : zz_Z} {f i j : Nat} {vs : List zz_V} {r s : zz_V} (hf : f = 5 ∨ f = 6 ∨ f = 7 ∨ f = 16) (hi : Z.2.2.2.1[i]? = some (f, vs ++ [r])) (hj : Z.2.2.2.1[j]? = some (f, vs ++ [s])) {tau : Nat → Nat → Int × Int} {σ : zz_P} {ω : yy_O} {lsC : yy_L} {stC : List yy_U} (ho : zz_ok tau (zp_phi kee) σ ω Z.1 Z.2.1 Z.2.2.1 Z.2.2.2.1 Z.2.2.2.2.1 Z.2.2.2.2.2 lsC stC) : ∃ x, zz_val σ r = some (.inl x) ∧ zz_val σ s = some (.inl x) := by
  obtain ⟨as, a1, a2⟩ := zl_at ho hi
  obtain ⟨bs, b1, b2⟩ := zl_at ho hj
  obtain ⟨as', x, e1, c1, c2⟩ := zl_app a1
  obtain ⟨bs', y, e2, d1, d2⟩ := zl_app b1
  rw [c1] at d1
  have e3 := zl_inj d1
  subst e1
  subst e2
  subst e3
  have := zl_det hf a2 b2
  subst this
  exact ⟨x, c2, d2⟩
theorem zl_eqf {kee : Nat → Int64} {tau : Nat → Nat → Int × Int} {Z : zz_Z} {f i j a b : Nat} {vs : List zz_V} (hf : f = 5 ∨ f = 6 ∨ f = 7 ∨ f = 16) (hi : Z.2.2.2.1[i]? = some (f, vs ++ [.inr (.inl (a, 0))])) (hj : Z.2.2.2.1[j]? = some (f, vs ++ [.inr (.inl (b, 0))])) : zz_ho tau (zp_phi kee) Z [zz_sZ a b Z] := by
  intro σ ω lsC stC ho
  obtain ⟨x, h1, h2⟩ := zl_eq hf hi hj ho
  exact ⟨_, List.mem_cons_self, σ, zz_ex_rf σ, zz_sZ_ok (by rw [zl_s0 h1, zl_s0 h2]) ho⟩
theorem zl_eqc {kee : Nat → Int64} {tau : Nat → Nat → Int × Int} {Z : zz_Z} {f i j a : Nat} {c lo hb : Int} {lk : Option (Nat × Int)} {df : Option zz_F} {vs : List zz_V} (hf : f = 5 ∨ f = 6 ∨ f = 7 ∨ f = 16) (hi : Z.2.2.2.1[i]? = some (f, vs ++ [.inr (.inl (a, 0))])) (hj : Z.2.2.2.1[j]? = some (f, vs ++ [.inl c])) (hc : xx_lo ≤ c ∧ c ≤ xx_hi) (hy : Z.1[a]? = some (lo, (hb, (lk, df)))) : zz_ho tau (zp_phi kee) Z [zz_yZ a c c lk Z] := by
  refine zl_bnd (fun σ ω lsC stC ho x hx => ?_)
  obtain ⟨y, h1, h2⟩ := zl_eq hf hi hj ho
  have e := zl_sym hx h1
  subst e
  cases h2
  have e9 := xx_ofInt hc.1 hc.2
  exact ⟨by rw [e9]; exact Int.le_refl _, by rw [e9]; exact Int.le_refl _, (ho.1.2 a _ _ hy hx).2.2.1⟩
/-- zero or more -/
theorem zl_zero {tau : Nat → Nat → Int × Int} {Φ : zz_Ph} {Z : zz_Z} {s : Nat} {z hi : Int} {lk : Option (Nat × Int)} {df : Option zz_F} (hy : Z.1[s]? = some (z, (hi, (lk, df)))) : zz_ho tau Φ Z [zz_yZ s z z lk Z, zz_yZ s (z + 1) hi lk Z] := by
  intro σ ω lsC stC ho
  have hl : s < σ.1.length := by rw [ho.1.1]; exact (List.getElem?_eq_some_iff.mp hy).1
  have xs : σ.1[s]? = some (σ.1[s]) := List.getElem?_eq_getElem hl
  obtain ⟨a1, a2, a3, -⟩ := ho.1.2 s _ _ hy xs
  have a1 : z ≤ (σ.1[s]).toInt := a1
  have a2 : (σ.1[s]).toInt ≤ hi := a2
  by_cases e : (σ.1[s]).toInt = z
  · refine ⟨_, List.mem_cons_self, σ, zz_ex_rf σ, zz_yZ_ok ho ?_⟩
    intro x hx
    rw [xs] at hx
    cases hx
    exact ⟨by omega, by omega, a3⟩
  · refine ⟨_, List.mem_cons_of_mem _ List.mem_cons_self, σ, zz_ex_rf σ, zz_yZ_ok ho ?_⟩
    intro x hx
    rw [xs] at hx
    cases hx
    exact ⟨by omega, by omega, a3⟩
