/-! entailments -/
def zz_ho (tau : Nat → Nat → Int × Int) (Φ : zz_Ph) (Z : zz_Z) (os : List zz_Z) : Prop := ∀ (σ : zz_P) (ω : yy_O) (lsC : yy_L) (stC : List yy_U), zz_ok tau Φ σ ω Z.1 Z.2.1 Z.2.2.1 Z.2.2.2.1 Z.2.2.2.2.1 Z.2.2.2.2.2 lsC stC → ∃ o ∈ os, ∃ σ', zz_ex σ σ' ∧ zz_ok tau Φ σ' ω o.1 o.2.1 o.2.2.1 o.2.2.2.1 o.2.2.2.2.1 o.2.2.2.2.2 lsC stC
/-- a symbol put for another -/
def zz_sv (a b : Nat) (v : zz_V) : zz_V := match v with
  | .inr (.inl (k, d)) => match Nat.beq k a with
    | true => .inr (.inl (b, d))
    | false => .inr (.inl (k, d))
  | v => v
def zz_sZ (a b : Nat) (Z : zz_Z) : zz_Z := (Z.1, (Z.2.1, (Z.2.2.1.map (fun q => (q.1, (zz_sv a b q.2.1, zz_sv a b q.2.2))), (Z.2.2.2.1.map (fun f => (f.1, f.2.map (zz_sv a b))), (Z.2.2.2.2.1.map (fun q => (q.1, zz_sv a b q.2)), Z.2.2.2.2.2.map (zz_sv a b))))))
theorem zz_sv_val {σ : zz_P} {a b : Nat} (h : σ.1[a]? = σ.1[b]?) (v : zz_V) : zz_val σ (zz_sv a b v) = zz_val σ v := by
  rcases v with c | ⟨k, d⟩ | i | c | k <;> try rfl
  simp only [zz_sv]
  split
  · rename_i hk
    have := Nat.eq_of_beq_eq_true hk
    subst this
    simp only [zz_val, h]
  · rfl
theorem zz_sv_get {a b i : Nat} : ∀ {l : zz_L}, zz_get (l.map (fun q => (q.1, zz_sv a b q.2))) i = (zz_get l i).map (zz_sv a b)
  | [] => rfl
  | q :: qs => by
    simp only [List.map_cons, zz_get]
    split
    · rfl
    · exact zz_sv_get
theorem zz_sZ_ok {tau : Nat → Nat → Int × Int} {Φ : zz_Ph} {σ : zz_P} {ω : yy_O} {Z : zz_Z} {lsC : yy_L} {stC : List yy_U} {a b : Nat} (h : σ.1[a]? = σ.1[b]?) (ho : zz_ok tau Φ σ ω Z.1 Z.2.1 Z.2.2.1 Z.2.2.2.1 Z.2.2.2.2.1 Z.2.2.2.2.2 lsC stC) : zz_ok tau Φ σ ω (zz_sZ a b Z).1 (zz_sZ a b Z).2.1 (zz_sZ a b Z).2.2.1 (zz_sZ a b Z).2.2.2.1 (zz_sZ a b Z).2.2.2.2.1 (zz_sZ a b Z).2.2.2.2.2 lsC stC := by
  obtain ⟨h1, h2, h3, h4, h5, h6, h7⟩ := ho
  refine ⟨h1, h2, h3, ?_, ?_, ?_, ?_⟩
  · intro q hq
    obtain ⟨q0, m0, rfl⟩ := List.mem_map.mp hq
    obtain ⟨j, d1, d2, d3⟩ := h4 q0 m0
    exact ⟨j, by show zz_val σ (zz_sv a b q0.2.1) = _; rw [zz_sv_val h]; exact d1, d2, by show zz_val σ (zz_sv a b q0.2.2) = _ ∨ zz_val σ (zz_sv a b q0.2.2) = _; rw [zz_sv_val h]; exact d3⟩
  · intro f hf
    obtain ⟨f0, m0, rfl⟩ := List.mem_map.mp hf
    obtain ⟨as, d1, d2⟩ := h5 f0 m0
    refine ⟨as, ?_, d2⟩
    show (f0.2.map (zz_sv a b)).map (zz_val σ) = _
    rw [List.map_map, ← d1]
    exact List.map_congr_left (fun v _ => zz_sv_val h v)
  · intro i v hi
    have hi : zz_get (Z.2.2.2.2.1.map (fun q => (q.1, zz_sv a b q.2))) i = some v := hi
    rw [zz_sv_get] at hi
    cases hg : zz_get Z.2.2.2.2.1 i with
    | none => rw [hg] at hi; cases hi
    | some w =>
      rw [hg] at hi
      cases hi
      obtain ⟨u, d1, d2⟩ := h6 i w hg
      exact ⟨u, by rw [zz_sv_val h]; exact d1, d2⟩
  · show (Z.2.2.2.2.2.map (zz_sv a b)).map (zz_val σ) = _
    rw [List.map_map]
    have : Z.2.2.2.2.2.map (zz_val σ) = stC.map some := h7
    rw [← this]
    exact List.map_congr_left (fun v _ => zz_sv_val h v)
/-- a symbol's bounds and link anew -/
def zz_yZ (s : Nat) (lo hi : Int) (lk : Option (Nat × Int)) (Z : zz_Z) : zz_Z := match Z.1[s]? with
  | some (_, (_, (_, df))) => (Z.1.set s (lo, (hi, (lk, df))), Z.2)
  | none => Z
theorem zz_yZ_ok {tau : Nat → Nat → Int × Int} {Φ : zz_Ph} {σ : zz_P} {ω : yy_O} {Z : zz_Z} {lsC : yy_L} {stC : List yy_U} {s : Nat} {lo hi : Int} {lk : Option (Nat × Int)} (ho : zz_ok tau Φ σ ω Z.1 Z.2.1 Z.2.2.1 Z.2.2.2.1 Z.2.2.2.2.1 Z.2.2.2.2.2 lsC stC) (hs : ∀ x, σ.1[s]? = some x → lo ≤ x.toInt ∧ x.toInt ≤ hi ∧ ∀ t c, lk = some (t, c) → ∃ z, σ.1[t]? = some z ∧ z.toInt + c ≤ x.toInt) : zz_ok tau Φ σ ω (zz_yZ s lo hi lk Z).1 (zz_yZ s lo hi lk Z).2.1 (zz_yZ s lo hi lk Z).2.2.1 (zz_yZ s lo hi lk Z).2.2.2.1 (zz_yZ s lo hi lk Z).2.2.2.2.1 (zz_yZ s lo hi lk Z).2.2.2.2.2 lsC stC := by
  unfold zz_yZ
  split
  · rename_i l0 h0 k0 df hq
    refine ⟨⟨?_, ?_⟩, ho.2⟩
    · rw [List.length_set]
      exact ho.1.1
    · intro k y x hk hx
      by_cases e : s = k
      · subst e
        rw [List.getElem?_set_self (List.getElem?_eq_some_iff.mp hq).1] at hk
        cases hk
        obtain ⟨a1, a2, a3⟩ := hs x hx
        exact ⟨a1, a2, a3, (ho.1.2 s _ x hq hx).2.2.2⟩
      · rw [List.getElem?_set_ne e] at hk
        exact ho.1.2 k y x hk hx
  · exact ho
/-- two symbols: three ways -/
def zz_sp1 (a b : Nat) (la ha lb hb : Int) (ka : Option (Nat × Int)) (Z : zz_Z) : zz_Z := zz_yZ b (zz_max lb (la + 1)) hb (some (a, 1)) (zz_yZ a la (zz_min ha (hb - 1)) ka Z)
def zz_sp2 (a b : Nat) (la ha lb hb : Int) (kb : Option (Nat × Int)) (Z : zz_Z) : zz_Z := zz_yZ a (zz_max la (lb + 1)) ha (some (b, 1)) (zz_yZ b lb (zz_min hb (ha - 1)) kb Z)
def zz_sp3 (a b : Nat) (la ha lb hb : Int) (Z : zz_Z) : zz_Z := zz_yZ b (zz_max la lb) (zz_min ha hb) (some (a, 0)) (zz_sZ a b Z)
theorem zz_mxle {a b c : Int} (h1 : a ≤ c) (h2 : b ≤ c) : zz_max a b ≤ c := by
  unfold zz_max
  split <;> assumption
theorem zz_le_min {a b c : Int} (h1 : c ≤ a) (h2 : c ≤ b) : c ≤ zz_min a b := by
  unfold zz_min
  split <;> assumption
theorem zz_spl_ok {tau : Nat → Nat → Int × Int} {Φ : zz_Ph} {a b : Nat} {la ha lb hb : Int} {ka kb : Option (Nat × Int)} {da db : Option zz_F} {Z : zz_Z} {os : List zz_Z} (qa : Z.1[a]? = some (la, (ha, (ka, da)))) (qb : Z.1[b]? = some (lb, (hb, (kb, db)))) (h1 : zz_geV Z.1 (.inr (.inl (a, 0))) (.inr (.inl (b, 0))) 0 = true ∨ zz_sp1 a b la ha lb hb ka Z ∈ os) (h2 : zz_geV Z.1 (.inr (.inl (b, 0))) (.inr (.inl (a, 0))) 0 = true ∨ zz_sp2 a b la ha lb hb kb Z ∈ os) (h3 : zz_sp3 a b la ha lb hb Z ∈ os) : zz_ho tau Φ Z os := by
  intro σ ω lsC stC ho
  have hla : a < σ.1.length := by rw [ho.1.1]; exact (List.getElem?_eq_some_iff.mp qa).1
  have hlb : b < σ.1.length := by rw [ho.1.1]; exact (List.getElem?_eq_some_iff.mp qb).1
  have xa : σ.1[a]? = some (σ.1[a]) := List.getElem?_eq_getElem hla
  have xb : σ.1[b]? = some (σ.1[b]) := List.getElem?_eq_getElem hlb
  have va : zz_val σ (.inr (.inl (a, 0))) = some (.inl (σ.1[a])) := by
    simp only [zz_val, xa]
    show some (Sum.inl (_ + Int32.ofInt 0)) = _
    congr 2
    exact Int32.add_zero _
  have vb : zz_val σ (.inr (.inl (b, 0))) = some (.inl (σ.1[b])) := by
    simp only [zz_val, xb]
    show some (Sum.inl (_ + Int32.ofInt 0)) = _
    congr 2
    exact Int32.add_zero _
  obtain ⟨a1, a2, a3, -⟩ := ho.1.2 a _ _ qa xa
  obtain ⟨b1, b2, b3, -⟩ := ho.1.2 b _ _ qb xb
  have a1 : la ≤ (σ.1[a]).toInt := a1
  have a2 : (σ.1[a]).toInt ≤ ha := a2
  have b1 : lb ≤ (σ.1[b]).toInt := b1
  have b2 : (σ.1[b]).toInt ≤ hb := b2
  by_cases h4 : (σ.1[a]).toInt < (σ.1[b]).toInt
  · rcases h1 with h1 | h1
    · have := zz_geV_ok ho.1 h1 va vb
      omega
    refine ⟨_, h1, σ, zz_ex_rf σ, zz_yZ_ok (zz_yZ_ok ho ?_) ?_⟩
    · intro x hx
      rw [xa] at hx
      cases hx
      exact ⟨a1, zz_le_min a2 (by omega), a3⟩
    · intro x hx
      rw [xb] at hx
      cases hx
      refine ⟨zz_mxle b1 (by omega), b2, ?_⟩
      intro t c h9
      cases h9
      exact ⟨_, xa, by omega⟩
  · by_cases h5 : (σ.1[b]).toInt < (σ.1[a]).toInt
    · rcases h2 with h2 | h2
      · have := zz_geV_ok ho.1 h2 vb va
        omega
      refine ⟨_, h2, σ, zz_ex_rf σ, zz_yZ_ok (zz_yZ_ok ho ?_) ?_⟩
      · intro x hx
        rw [xb] at hx
        cases hx
        exact ⟨b1, zz_le_min b2 (by omega), b3⟩
      · intro x hx
        rw [xa] at hx
        cases hx
        refine ⟨zz_mxle a1 (by omega), a2, ?_⟩
        intro t c h9
        cases h9
        exact ⟨_, xb, by omega⟩
    · have he : (σ.1[a]).toInt = (σ.1[b]).toInt := by omega
      have he' : σ.1[a]? = σ.1[b]? := by rw [xa, xb, Int32.toInt_inj.mp he]
      refine ⟨_, h3, σ, zz_ex_rf σ, zz_yZ_ok (zz_sZ_ok he' ho) ?_⟩
      intro x hx
      rw [xb] at hx
      cases hx
      refine ⟨zz_mxle (by omega) b1, zz_le_min (by omega) b2, ?_⟩
      intro t c h9
      cases h9
      exact ⟨_, xa, by omega⟩
/-- a symbol: one way a number -/
def zz_nums (s : Nat) (lk : Option (Nat × Int)) (Z : zz_Z) : Nat → Int → List zz_Z
  | 0, _ => []
  | n + 1, lo => zz_yZ s lo lo lk Z :: zz_nums s lk Z n (lo + 1)
theorem zz_nums_ok {tau : Nat → Nat → Int × Int} {Φ : zz_Ph} {s : Nat} {lo hi : Int} {lk : Option (Nat × Int)} {df : Option zz_F} {Z : zz_Z} {n : Nat} (q : Z.1[s]? = some (lo, (hi, (lk, df)))) (hn : hi < lo + n) : zz_ho tau Φ Z (zz_nums s lk Z n lo) := by
  intro σ ω lsC stC ho
  have hl : s < σ.1.length := by rw [ho.1.1]; exact (List.getElem?_eq_some_iff.mp q).1
  have xs : σ.1[s]? = some (σ.1[s]) := List.getElem?_eq_getElem hl
  obtain ⟨a1, a2, a3, -⟩ := ho.1.2 s _ _ q xs
  have a1 : lo ≤ (σ.1[s]).toInt := a1
  have a2 : (σ.1[s]).toInt ≤ hi := a2
  have gen : ∀ (m : Nat) (l : Int), l ≤ (σ.1[s]).toInt → (σ.1[s]).toInt < l + m → ∃ o ∈ zz_nums s lk Z m l, ∃ σ', zz_ex σ σ' ∧ zz_ok tau Φ σ' ω o.1 o.2.1 o.2.2.1 o.2.2.2.1 o.2.2.2.2.1 o.2.2.2.2.2 lsC stC := by
    intro m
    induction m with
    | zero => intro l h1 h2; omega
    | succ m ih =>
      intro l h1 h2
      by_cases e : (σ.1[s]).toInt = l
      · refine ⟨_, List.mem_cons_self, σ, zz_ex_rf σ, zz_yZ_ok ho ?_⟩
        intro x hx
        rw [xs] at hx
        cases hx
        exact ⟨by omega, by omega, a3⟩
      · obtain ⟨o, m1, m2⟩ := ih (l + 1) (by omega) (by omega)
        exact ⟨o, List.mem_cons_of_mem _ m1, m2⟩
  exact gen n lo a1 (by omega)
