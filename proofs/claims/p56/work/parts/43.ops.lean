/-! operations over bounds -/
theorem zz_rng_ok {a b : Int} {x : Int32} (h : xx_lo ≤ a → b ≤ xx_hi → a ≤ x.toInt ∧ x.toInt ≤ b) : (zz_rng a b).1 ≤ x.toInt ∧ x.toInt ≤ (zz_rng a b).2 := by
  unfold zz_rng
  split
  · rename_i q
    rw [Bool.and_eq_true, xx_le_iff, xx_le_iff] at q
    exact h q.1 q.2
  · exact xx_rng x
def zz_trok (f : Int32 → Int32 → Int32) (tr : Int × Int → Int × Int → Int × Int) : Prop := ∀ (x y : Int32) (a b : Int × Int), a.1 ≤ x.toInt → x.toInt ≤ a.2 → b.1 ≤ y.toInt → y.toInt ≤ b.2 → (tr a b).1 ≤ (f x y).toInt ∧ (f x y).toInt ≤ (tr a b).2
theorem zz_tadd_ok : zz_trok (fun x y => x + y) zz_tadd := by
  intro x y a b h1 h2 h3 h4
  refine zz_rng_ok (fun g1 g2 => ?_)
  have e : x + y = Int32.ofInt (x.toInt + y.toInt) := by rw [Int32.ofInt_add, Int32.ofInt_toInt, Int32.ofInt_toInt]
  have e2 : (x + y).toInt = x.toInt + y.toInt := by rw [e]; exact xx_ofInt (by omega) (by omega)
  show a.1 + b.1 ≤ (x + y).toInt ∧ (x + y).toInt ≤ a.2 + b.2
  omega
theorem zz_tsub_ok : zz_trok (fun x y => x - y) zz_tsub := by
  intro x y a b h1 h2 h3 h4
  refine zz_rng_ok (fun g1 g2 => ?_)
  have e : x - y = Int32.ofInt (x.toInt - y.toInt) := by rw [Int32.ofInt_sub, Int32.ofInt_toInt, Int32.ofInt_toInt]
  have e2 : (x - y).toInt = x.toInt - y.toInt := by rw [e]; exact xx_ofInt (by omega) (by omega)
  show a.1 - b.2 ≤ (x - y).toInt ∧ (x - y).toInt ≤ a.2 - b.1
  omega
theorem zz_tmul_ok : zz_trok (fun x y => x * y) zz_tmul := by
  intro x y a b h1 h2 h3 h4
  unfold zz_tmul
  split
  · rename_i q
    rw [Bool.and_eq_true, xx_le_iff, xx_le_iff] at q
    refine zz_rng_ok (fun g1 g2 => ?_)
    have m1 : a.1 * b.1 ≤ x.toInt * y.toInt := Int.mul_le_mul h1 h3 q.2 (by omega)
    have m2 : x.toInt * y.toInt ≤ a.2 * b.2 := Int.mul_le_mul h2 h4 (by omega) (by omega)
    have e : x * y = Int32.ofInt (x.toInt * y.toInt) := by rw [Int32.ofInt_mul, Int32.ofInt_toInt, Int32.ofInt_toInt]
    have e2 : (x * y).toInt = x.toInt * y.toInt := by rw [e]; exact xx_ofInt (by omega) (by omega)
    show a.1 * b.1 ≤ (x * y).toInt ∧ (x * y).toInt ≤ a.2 * b.2
    omega
  · exact xx_rng _
theorem zz_min_le (a b z : Int) (h1 : z ≤ a) (h2 : z ≤ b) : z ≤ zz_min a b := by
  unfold zz_min
  split
  · exact h1
  · exact h2
theorem zz_max_le (a b z : Int) (h1 : a ≤ z) (h2 : b ≤ z) : zz_max a b ≤ z := by
  unfold zz_max
  split
  · exact h2
  · exact h1
theorem zz_min_l (a b : Int) : zz_min a b ≤ a ∧ zz_min a b ≤ b := by
  unfold zz_min
  split
  · rename_i q
    rw [xx_le_iff] at q
    omega
  · rename_i q
    rw [xx_le_no] at q
    omega
theorem zz_max_l (a b : Int) : a ≤ zz_max a b ∧ b ≤ zz_max a b := by
  unfold zz_max
  split
  · rename_i q
    rw [xx_le_iff] at q
    omega
  · rename_i q
    rw [xx_le_no] at q
    omega
theorem zz_and_r (x y : Int32) (h : 0 ≤ y.toInt) : 0 ≤ (x &&& y).toInt ∧ (x &&& y).toInt ≤ y.toInt := by
  have := xx_and_rng x (n := y.toInt) h (xx_rng y).2
  rw [Int32.ofInt_toInt] at this
  exact this
theorem zz_tand_ok : zz_trok (fun x y => x &&& y) zz_tand := by
  intro x y a b h1 h2 h3 h4
  show (zz_tand a b).1 ≤ (x &&& y).toInt ∧ (x &&& y).toInt ≤ (zz_tand a b).2
  unfold zz_tand
  split
  · rename_i q
    rw [xx_le_iff] at q
    have hx := zz_and_r y x (by omega)
    rw [Int32.and_comm] at hx
    split
    · rename_i q2
      rw [xx_le_iff] at q2
      have hy := zz_and_r x y (by omega)
      exact ⟨hx.1, zz_min_le _ _ _ (by omega) (by omega)⟩
    · exact ⟨hx.1, by show _ ≤ a.2; omega⟩
  · split
    · rename_i q2
      rw [xx_le_iff] at q2
      have hy := zz_and_r x y (by omega)
      exact ⟨hy.1, by show _ ≤ b.2; omega⟩
    · exact xx_rng _
theorem zz_nat {x : Int32} (h : 0 ≤ x.toInt) : (x.toBitVec.toNat : Int) = x.toInt := by
  have e : x.toInt = x.toBitVec.toInt := rfl
  rw [e, BitVec.toInt_eq_toNat_cond] at h ⊢
  split
  · rfl
  · rename_i hc
    rw [if_neg hc] at h
    have := x.toBitVec.isLt
    omega
theorem zz_tor_ok : zz_trok (fun x y => x ||| y) zz_tor := by
  intro x y a b h1 h2 h3 h4
  show (zz_tor a b).1 ≤ (x ||| y).toInt ∧ (x ||| y).toInt ≤ (zz_tor a b).2
  unfold zz_tor
  split
  · rename_i q
    rw [Bool.and_eq_true, Bool.and_eq_true, Bool.and_eq_true, xx_le_iff, xx_le_iff, xx_le_iff, xx_le_iff] at q
    obtain ⟨q1, q2, q3, q4⟩ := q
    have nx := zz_nat (x := x) (by omega)
    have ny := zz_nat (x := y) (by omega)
    have hb : (x ||| y).toBitVec.toNat < 2 ^ 6 := by
      rw [Int32.toBitVec_or, BitVec.toNat_or]
      exact Nat.or_lt_two_pow (by omega) (by omega)
    have e : (x ||| y).toInt = (x ||| y).toBitVec.toInt := rfl
    rw [e, BitVec.toInt_eq_toNat_cond, if_pos (by omega)]
    omega
  · exact xx_rng _
theorem zz_div_val {x y : Int32} (hx : 0 ≤ x.toInt) (hy : 1 ≤ y.toInt) : (x / y).toInt = x.toInt / y.toInt := by
  have hne : y ≠ -1 := by
    intro h
    rw [h] at hy
    have : (-1 : Int32).toInt = -1 := by decide +kernel
    omega
  rw [Int32.toInt_div_of_ne_right _ _ hne]
  exact Int.tdiv_eq_ediv_of_nonneg hx
theorem zz_tdiv_ok : zz_trok (fun x y => x / y) zz_tdiv := by
  intro x y a b h1 h2 h3 h4
  show (zz_tdiv a b).1 ≤ (x / y).toInt ∧ (x / y).toInt ≤ (zz_tdiv a b).2
  unfold zz_tdiv
  split
  · rename_i q
    rw [Bool.and_eq_true, xx_le_iff, xx_le_iff] at q
    rw [zz_div_val (by omega) (by omega)]
    have g1 : 0 ≤ x.toInt / y.toInt := Int.ediv_nonneg (by omega) (by omega)
    have g2 : x.toInt / y.toInt ≤ x.toInt := Int.ediv_le_self _ (by omega)
    exact ⟨g1, by show _ ≤ a.2; omega⟩
  · exact xx_rng _
theorem zz_rem_val {x y : Int32} (hx : 0 ≤ x.toInt) (hy : 1 ≤ y.toInt) : (x - x / y * y).toInt = x.toInt % y.toInt := by
  have e1 : x - x / y * y = Int32.ofInt (x.toInt - x.toInt / y.toInt * y.toInt) := by
    rw [Int32.ofInt_sub, Int32.ofInt_mul, Int32.ofInt_toInt, Int32.ofInt_toInt, ← zz_div_val hx hy, Int32.ofInt_toInt]
  have e2 : x.toInt - x.toInt / y.toInt * y.toInt = x.toInt % y.toInt := by
    have := Int.emod_add_mul_ediv x.toInt y.toInt
    rw [Int.mul_comm] at this
    omega
  have g1 := Int.emod_nonneg x.toInt (show y.toInt ≠ 0 by omega)
  have g2 := Int.emod_lt_of_pos x.toInt (show 0 < y.toInt by omega)
  obtain ⟨r1, r2⟩ := xx_rng y
  rw [e1, e2]
  exact xx_ofInt (by unfold xx_lo; omega) (by omega)
theorem zz_trem_ok : zz_trok (fun x y => x - x / y * y) zz_trem := by
  intro x y a b h1 h2 h3 h4
  show (zz_trem a b).1 ≤ (x - x / y * y).toInt ∧ (x - x / y * y).toInt ≤ (zz_trem a b).2
  unfold zz_trem
  split
  · rename_i q
    rw [Bool.and_eq_true, xx_le_iff, xx_le_iff] at q
    rw [zz_rem_val (by omega) (by omega)]
    have g1 := Int.emod_nonneg x.toInt (show y.toInt ≠ 0 by omega)
    have g2 := Int.emod_lt_of_pos x.toInt (show 0 < y.toInt by omega)
    have g3 : x.toInt % y.toInt ≤ x.toInt := by
      have := Int.emod_add_mul_ediv x.toInt y.toInt
      have g4 : 0 ≤ x.toInt / y.toInt := Int.ediv_nonneg (by omega) (by omega)
      have g5 : 0 ≤ y.toInt * (x.toInt / y.toInt) := Int.mul_nonneg (by omega) g4
      omega
    exact ⟨g1, zz_min_le _ _ _ (by omega) (by omega)⟩
  · exact xx_rng _
theorem zz_tno_ok (f : Int32 → Int32 → Int32) : zz_trok f zz_tno := fun _ _ _ _ _ _ _ _ => xx_rng _
theorem zz_enu_ok (g : Int → Int) : ∀ (n : Nat) (lo a b : Int), (zz_enu g n lo a b).1 ≤ a ∧ b ≤ (zz_enu g n lo a b).2 ∧ ∀ z : Int, lo ≤ z → z < lo + n → (zz_enu g n lo a b).1 ≤ g z ∧ g z ≤ (zz_enu g n lo a b).2 := by
  intro n
  induction n with
  | zero =>
    intro lo a b
    exact ⟨Int.le_refl _, Int.le_refl _, fun z h1 h2 => absurd h2 (by omega)⟩
  | succ n ih =>
    intro lo a b
    simp only [zz_enu, xx_fI_eq]
    obtain ⟨h1, h2, h3⟩ := ih (lo + 1) (zz_min a (g lo)) (zz_max b (g lo))
    have m := zz_min_l a (g lo)
    have x := zz_max_l b (g lo)
    refine ⟨by omega, by omega, fun z g1 g2 => ?_⟩
    by_cases hz : z = lo
    · subst hz
      exact ⟨by omega, by omega⟩
    · exact h3 z (by omega) (by omega)
theorem zz_sml_ok {r : Int × Int} {n : Nat} (h : zz_sml r = some n) : r.2 - r.1 = (n : Int) := by
  unfold zz_sml at h
  split at h
  · rename_i m hm
    split at h
    · cases h
      exact hm
    · cases h
  · cases h
theorem zz_try_ok {ρ : zz_P} {cs : zz_C} {g : Int → Int} {v : zz_V} {u w : Int} {x : Int32} (hc : zz_csm ρ cs) (h : zz_try cs g v = some (u, w)) (hx : zz_val ρ v = some (.inl x)) : u ≤ g x.toInt ∧ g x.toInt ≤ w := by
  simp only [zz_try] at h
  split at h
  · rename_i r hr
    split at h
    · rename_i n hn
      have hn := zz_sml_ok hn
      obtain ⟨a, b, -, -⟩ := zz_iv_ok hc hr hx
      obtain ⟨h1, h2, h3⟩ := zz_enu_ok g n (r.1 + 1) (g r.1) (g r.1)
      have h := Option.some.inj h
      rw [h] at h1 h2 h3
      by_cases hz : x.toInt = r.1
      · rw [hz]
        exact ⟨h1, h2⟩
      · exact h3 x.toInt (by omega) (by omega)
    · cases h
  · cases h
def zz_rok (ρ : zz_P) (r : zz_N) (x : Int32) : Prop := match r with
  | .inl v => zz_val ρ v = some (.inl x)
  | .inr (a, (b, d)) => a ≤ x.toInt ∧ x.toInt ≤ b ∧ ∀ f, d = some f → zz_dfm ρ f x
theorem zz_add_val {ρ : zz_P} {q : Nat} {d n : Int} {x : Int32} (h : zz_val ρ (.inr (.inl (q, d))) = some (.inl x)) : zz_val ρ (.inr (.inl (q, d + n))) = some (.inl (x + Int32.ofInt n)) := by
  simp only [zz_val] at h ⊢
  split at h
  · rename_i z hz
    cases h
    rw [Int32.ofInt_add, ← Int32.add_assoc]
  · cases h
theorem zz_od_ok {ρ : zz_P} {f : Int32 → Int32 → Int32} {o : Option Nat} {a b : zz_V} {r : Int × Int} {q : zz_N} {x y : Int32} (ho : ∀ k, o = some k → ∀ (va vb : zz_V) (x y : Int32), zz_val ρ va = some (.inl x) → zz_val ρ vb = some (.inl y) → zz_dfm ρ (k, (va, vb)) (f x y)) (h : zz_od o r a b = some q) (ha : zz_val ρ a = some (.inl x)) (hb : zz_val ρ b = some (.inl y)) (h1 : r.1 ≤ (f x y).toInt) (h2 : (f x y).toInt ≤ r.2) : zz_rok ρ q (f x y) := by
  unfold zz_od at h
  split at h
  · rename_i k
    cases h
    exact ⟨h1, h2, fun f hf => by cases hf; exact ho k rfl _ _ x y ha hb⟩
  · cases h
    exact ⟨h1, h2, fun f hf => by cases hf⟩
theorem zz_b2_ok {ρ : zz_P} {cs : zz_C} {f : Int32 → Int32 → Int32} {tr : Int × Int → Int × Int → Int × Int} {s : Nat} {e : Bool} {o : Option Nat} {a b : zz_V} {r : zz_N} {u w : yy_U} (hc : zz_csm ρ cs) (htr : zz_trok f tr) (h1 : s = 1 → f = fun x y => x + y) (h2 : s = 2 → f = fun x y => x - y) (ho : ∀ k, o = some k → ∀ (va vb : zz_V) (x y : Int32), zz_val ρ va = some (.inl x) → zz_val ρ vb = some (.inl y) → zz_dfm ρ (k, (va, vb)) (f x y))
    (h : zz_b2 f tr s e o cs a b = some r) (ha : zz_val ρ a = some u) (hb : zz_val ρ b = some w) : ∃ x y, u = .inl x ∧ w = .inl y ∧ zz_rok ρ r (f x y) := by
  rcases a with m | ⟨q, d⟩ | a
  · cases ha
    rcases b with n | ⟨q, d⟩ | b
    · cases hb
      simp only [zz_b2] at h
      cases h
      refine ⟨_, _, rfl, rfl, ?_⟩
      show some (Sum.inl (Int32.ofInt _)) = some (Sum.inl _)
      rw [Int32.ofInt_toInt]
    · obtain ⟨y, rfl⟩ := zz_isI_val hb rfl
      refine ⟨_, y, rfl, rfl, ?_⟩
      have k1 := zz_ivf_ok hc hb
      have k0 := zz_ivf_ok (ρ := ρ) (v := .inl m) hc rfl
      have kt := htr (Int32.ofInt m) y _ _ k0.1 k0.2 k1.1 k1.2
      simp only [zz_b2] at h
      split at h
      · cases h
        rw [h1 rfl]
        show zz_val ρ (.inr (.inl (q, d + m))) = some (.inl (Int32.ofInt m + y))
        rw [Int32.add_comm]
        exact zz_add_val hb
      · split at h
        · split at h
          · rename_i rr ht
            have := zz_try_ok hc ht hb
            simp only [Int32.ofInt_toInt] at this
            exact zz_od_ok ho h rfl hb this.1 this.2
          · exact zz_od_ok ho h rfl hb kt.1 kt.2
        · exact zz_od_ok ho h rfl hb kt.1 kt.2
    · cases h
  · obtain ⟨x, rfl⟩ := zz_isI_val ha rfl
    have k0 := zz_ivf_ok hc ha
    rcases b with n | ⟨q', d'⟩ | b
    · cases hb
      refine ⟨x, _, rfl, rfl, ?_⟩
      have k1 := zz_ivf_ok (ρ := ρ) (v := .inl n) hc rfl
      have kt := htr x (Int32.ofInt n) _ _ k0.1 k0.2 k1.1 k1.2
      simp only [zz_b2] at h
      split at h
      · cases h
        rw [h1 rfl]
        exact zz_add_val ha
      · cases h
        rw [h2 rfl]
        show zz_val ρ (.inr (.inl (q, d - n))) = some (.inl (x - Int32.ofInt n))
        rw [Int.sub_eq_add_neg, Int32.sub_eq_add_neg, ← Int32.ofInt_neg]
        exact zz_add_val ha
      · split at h
        · split at h
          · rename_i rr ht
            have := zz_try_ok hc ht ha
            simp only [Int32.ofInt_toInt] at this
            exact zz_od_ok ho h ha rfl this.1 this.2
          · exact zz_od_ok ho h ha rfl kt.1 kt.2
        · exact zz_od_ok ho h ha rfl kt.1 kt.2
    · obtain ⟨y, rfl⟩ := zz_isI_val hb rfl
      refine ⟨x, y, rfl, rfl, ?_⟩
      have k1 := zz_ivf_ok hc hb
      have kt := htr x y _ _ k0.1 k0.2 k1.1 k1.2
      simp only [zz_b2] at h
      exact zz_od_ok ho h ha hb kt.1 kt.2
    · cases h
  · cases h
theorem zz_nz_ok {ρ : zz_P} {cs : zz_C} {v : zz_V} {y : Int32} (hc : zz_csm ρ cs) (h : zz_nz cs v = true) (hv : zz_val ρ v = some (.inl y)) : ¬ y = 0 := by
  simp only [zz_nz] at h
  split at h
  · rename_i r hr
    rw [Bool.or_eq_true, xx_le_iff, xx_le_iff] at h
    obtain ⟨a, b, -, -⟩ := zz_iv_ok hc hr hv
    intro hy
    rw [hy] at a b
    have z : (0 : Int32).toInt = 0 := by decide +kernel
    omega
  · cases h
theorem zz_dfm_one {ρ : zz_P} {f : zz_F} {x y : Int32} (h : zz_dfm ρ f x) (g : zz_dfm ρ f y) : x = y := by
  unfold zz_dfm at h g
  split at h <;> rename_i hq <;> simp only [hq] at g
  · obtain ⟨a, b, h1, h2, h3⟩ := h
    obtain ⟨c, d, g1, g2, g3⟩ := g
    rw [h1] at g1
    rw [h2] at g2
    cases g1
    cases g2
    rw [h3, g3]
  · obtain ⟨a, b, h1, h2, h3⟩ := h
    obtain ⟨c, d, g1, g2, g3⟩ := g
    rw [h1] at g1
    rw [h2] at g2
    cases g1
    cases g2
    rw [h3, g3]
  · obtain ⟨a, b, h1, h2, h3⟩ := h
    obtain ⟨c, d, g1, g2, g3⟩ := g
    rw [h1] at g1
    rw [h2] at g2
    cases g1
    cases g2
    rw [h3, g3]
  · obtain ⟨a, b, h1, h2, h3⟩ := h
    obtain ⟨c, d, g1, g2, g3⟩ := g
    rw [h1] at g1
    rw [h2] at g2
    cases g1
    cases g2
    rw [h3, g3]
  · obtain ⟨a, b, h1, h2, h3⟩ := h
    obtain ⟨c, d, g1, g2, g3⟩ := g
    rw [h1] at g1
    rw [h2] at g2
    cases g1
    cases g2
    rw [h3, g3]
  · obtain ⟨a, b, h1, h2, h3⟩ := h
    obtain ⟨c, d, g1, g2, g3⟩ := g
    rw [h1] at g1
    rw [h2] at g2
    cases g1
    cases g2
    rw [h3, g3]
  · obtain ⟨a, b, h1, h2, h3⟩ := h
    obtain ⟨c, d, g1, g2, g3⟩ := g
    rw [h1] at g1
    rw [h2] at g2
    cases g1
    cases g2
    rw [h3, g3]
  · obtain ⟨a, b, h1, h2, h3⟩ := h
    obtain ⟨c, d, g1, g2, g3⟩ := g
    rw [h1] at g1
    rw [h2] at g2
    cases g1
    cases g2
    rw [h3, g3]
theorem zz_fd_ok {f : zz_F} : ∀ {cs : zz_C} {n m : Nat}, zz_fd cs f n = some m → n ≤ m ∧ ∃ lo hi lk, cs[m - n]? = some (lo, (hi, (lk, some f))) := by
  intro cs
  induction cs with
  | nil => intro n m h; cases h
  | cons y r ih =>
    intro n m h
    obtain ⟨lo, hi, lk, df⟩ := y
    have go : zz_fd r f (Nat.succ n) = some m → n ≤ m ∧ ∃ lo' hi' lk', ((lo, (hi, (lk, df))) :: r)[m - n]? = some (lo', (hi', (lk', some f))) := by
      intro h
      obtain ⟨a, lo', hi', lk', b⟩ := ih h
      have a : n + 1 ≤ m := a
      refine ⟨by omega, lo', hi', lk', ?_⟩
      rw [show m - n = (m - (n + 1)) + 1 by omega]
      exact b
    cases df with
    | none => exact go h
    | some g =>
      simp only [zz_fd] at h
      split at h
      · rename_i hq
        rw [Bool.and_eq_true, Bool.and_eq_true] at hq
        have e1 := Nat.eq_of_beq_eq_true hq.1
        have e2 := zz_eqV_ok hq.2.1
        have e3 := zz_eqV_ok hq.2.2
        cases h
        refine ⟨Nat.le_refl _, lo, hi, lk, ?_⟩
        rw [Nat.sub_self]
        obtain ⟨g1, g2, g3⟩ := g
        obtain ⟨f1, f2, f3⟩ := f
        cases e1
        cases e2
        cases e3
        rfl
      · exact go h
