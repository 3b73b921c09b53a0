/-! tests, switches: the ways that are open -/
def xx_rel (c : xx_B) (x y : Int) : Prop := match c with
  | .lt => x < y
  | .ge => y ≤ x
  | .gt => y < x
  | .le => x ≤ y
  | .eq => x = y
  | .ne => x ≠ y
theorem xx_rel_neg {c : xx_B} {x y : Int} (h : ¬ xx_rel c x y) : xx_rel (xx_neg c) x y := by
  cases c <;> simp only [xx_rel, xx_neg] at h ⊢ <;> omega
theorem xx_rel_flip {c : xx_B} {x y : Int} (h : xx_rel c x y) : xx_rel (xx_flip c) y x := by
  cases c <;> simp only [xx_rel, xx_flip] at h ⊢ <;> omega
theorem xx_max_ok (a b z : Int) (h1 : a ≤ z) (h2 : b ≤ z) : xx_max a b ≤ z := by
  unfold xx_max
  split
  · exact h2
  · exact h1
theorem xx_min_ok (a b z : Int) (h1 : z ≤ a) (h2 : z ≤ b) : z ≤ xx_min a b := by
  unfold xx_min
  split
  · exact h1
  · exact h2
theorem xx_max_le {a b z : Int} (h : xx_max a b ≤ z) : a ≤ z ∧ b ≤ z := by
  unfold xx_max at h
  split at h
  · rename_i q
    rw [xx_le_iff] at q
    omega
  · rename_i q
    rw [xx_le_no] at q
    omega
def xx_rf1 (cs : xx_C) (c : xx_B) (v : xx_V) (n : Int) : xx_C := match v with
  | .inr (.inl (q, d)) => match cs[q]? with
    | some (a, b) => cs.set q (xx_max a ((xx_alw c n).1 - d), xx_min b ((xx_alw c n).2 - d))
    | none => cs
  | _ => cs
def xx_rf (cs : xx_C) (c : xx_B) (a b : xx_V) : xx_C := match b with
  | .inl n => xx_rf1 cs c a n
  | _ => match a with
    | .inl n => xx_rf1 cs (xx_flip c) b n
    | _ => cs
theorem xx_ref1_eq {β : Type} (cs : xx_C) (c : xx_B) (v : xx_V) (n : Int) (k : xx_C → β) : xx_ref1 cs c v n k = k (xx_rf1 cs c v n) := by
  rcases v with x | ⟨q, d⟩ | x
  · rfl
  · simp only [xx_ref1, xx_rf1]
    split
    · rename_i a b h
      simp only [xx_fI_eq, xx_set_eq]
      rw [h]
    · rename_i h
      rw [h]
  · rfl
theorem xx_ref_eq {β : Type} (cs : xx_C) (c : xx_B) (a b : xx_V) (k : xx_C → β) : xx_ref cs c a b k = k (xx_rf cs c a b) := by
  rcases b with y | y
  · exact xx_ref1_eq _ _ _ _ _
  · rcases a with x | x
    · exact xx_ref1_eq _ _ _ _ _
    · rfl
theorem xx_rf1_len (cs : xx_C) (c : xx_B) (v : xx_V) (n : Int) : (xx_rf1 cs c v n).length = cs.length := by
  rcases v with x | ⟨q, d⟩ | x
  · rfl
  · simp only [xx_rf1]
    split
    · rw [List.length_set]
    · rfl
  · rfl
theorem xx_rf_len (cs : xx_C) (c : xx_B) (a b : xx_V) : (xx_rf cs c a b).length = cs.length := by
  rcases b with y | y
  · exact xx_rf1_len _ _ _ _
  · rcases a with x | x
    · exact xx_rf1_len _ _ _ _
    · rfl
theorem xx_sym_val {ρ : xx_Y} {cs : xx_C} {q : Nat} {d : Int} {r : Int × Int} (hin : xx_in ρ cs) (h : xx_iv cs (.inr (.inl (q, d))) = some r) : (xx_i ρ (.inr (.inl (q, d)))).toInt = (ρ.1 q).toInt + d := by
  simp only [xx_iv] at h
  split at h
  · rename_i r0 h0
    split at h
    · rename_i hc
      rw [Bool.and_eq_true, xx_le_iff, xx_le_iff] at hc
      obtain ⟨h1, h2⟩ := hin q r0 h0
      show (ρ.1 q + Int32.ofInt d).toInt = _
      have e1 : ρ.1 q + Int32.ofInt d = Int32.ofInt ((ρ.1 q).toInt + d) := by
        rw [Int32.ofInt_add, Int32.ofInt_toInt]
      rw [e1]
      have := hc.1
      have := hc.2
      exact xx_ofInt (by omega) (by omega)
    · cases h
  · cases h
theorem xx_alw_ok {c : xx_B} {x n : Int} (h : xx_rel c x n) (h1 : xx_lo ≤ x) (h2 : x ≤ xx_hi) : (xx_alw c n).1 ≤ x ∧ x ≤ (xx_alw c n).2 := by
  cases c <;> simp only [xx_rel, xx_alw] at h ⊢ <;> omega
theorem xx_rf1_ok {ρ : xx_Y} {cs : xx_C} {c : xx_B} {v : xx_V} {n : Int} {r : Int × Int} (hin : xx_in ρ cs) (hr : xx_iv cs v = some r) (h : xx_rel c (xx_i ρ v).toInt n) : xx_in ρ (xx_rf1 cs c v n) := by
  rcases v with x | ⟨q, d⟩ | x
  · exact hin
  · have hv := xx_sym_val hin hr
    obtain ⟨g1, g2⟩ := xx_alw_ok h (xx_rng _).1 (xx_rng _).2
    rw [hv] at g1 g2
    simp only [xx_rf1]
    split
    · rename_i a b hq
      intro k r2 hk
      rw [List.getElem?_set] at hk
      split at hk
      · rename_i hkq
        subst hkq
        split at hk
        · cases hk
          obtain ⟨h1, h2⟩ := hin q (a, b) hq
          have h1 : a ≤ (ρ.1 q).toInt := h1
          have h2 : (ρ.1 q).toInt ≤ b := h2
          exact ⟨xx_max_ok _ _ _ h1 (by omega), xx_min_ok _ _ _ h2 (by omega)⟩
        · cases hk
      · exact hin k r2 hk
    · exact hin
  · exact hin
/-- a known number's meaning -/
theorem xx_num_val {ρ : xx_Y} {cs : xx_C} {n : Int} {r : Int × Int} (h : xx_iv cs (.inl n) = some r) : (xx_i ρ (.inl n)).toInt = n := by
  simp only [xx_iv] at h
  split at h
  · rename_i hc
    rw [Bool.and_eq_true, xx_le_iff, xx_le_iff] at hc
    exact xx_ofInt hc.1 hc.2
  · cases h
theorem xx_rf_ok {ρ : xx_Y} {cs : xx_C} {c : xx_B} {a b : xx_V} {ra rb : Int × Int} (hin : xx_in ρ cs) (ha : xx_iv cs a = some ra) (hb : xx_iv cs b = some rb) (h : xx_rel c (xx_i ρ a).toInt (xx_i ρ b).toInt) : xx_in ρ (xx_rf cs c a b) := by
  rcases b with y | y
  · rw [xx_num_val hb] at h
    exact xx_rf1_ok hin ha h
  · rcases a with x | x
    · have h2 := xx_rel_flip h
      rw [xx_num_val ha] at h2
      exact xx_rf1_ok hin hb h2
    · exact hin
theorem xx_dlt_ok {a b : Int × Int} {x y : Int} (h1 : a.1 ≤ x) (h2 : x ≤ a.2) (h3 : b.1 ≤ y) (h4 : y ≤ b.2) : (xx_dlt a b = some true → x < y) ∧ (xx_dlt a b = some false → y ≤ x) := by
  unfold xx_dlt
  constructor
  · intro h
    split at h
    · rename_i q
      rw [xx_le_iff] at q
      omega
    · split at h <;> cases h
  · intro h
    split at h
    · cases h
    · split at h
      · rename_i q
        rw [xx_le_iff] at q
        omega
      · cases h
theorem xx_deq_ok {a b : Int × Int} {x y : Int} (h1 : a.1 ≤ x) (h2 : x ≤ a.2) (h3 : b.1 ≤ y) (h4 : y ≤ b.2) : (xx_deq a b = some true → x = y) ∧ (xx_deq a b = some false → x ≠ y) := by
  unfold xx_deq
  constructor
  · intro h
    split at h
    · rename_i q
      rw [Bool.and_eq_true, Bool.and_eq_true, xx_eqI_iff, xx_eqI_iff, xx_eqI_iff] at q
      omega
    · split at h <;> cases h
  · intro h
    split at h
    · cases h
    · split at h
      · rename_i q
        rw [Bool.or_eq_true, xx_le_iff, xx_le_iff] at q
        omega
      · cases h
theorem xx_not_t {o : Option Bool} {b : Bool} (h : xx_not o = some b) : o = some (!b) := by
  cases o with
  | none => cases h
  | some q => cases q <;> cases h <;> rfl
theorem xx_dec_ok {c : xx_B} {a b : Int × Int} {x y : Int} {q : Bool} (h1 : a.1 ≤ x) (h2 : x ≤ a.2) (h3 : b.1 ≤ y) (h4 : y ≤ b.2) (h : xx_dec c a b = some q) : (q = true → xx_rel c x y) ∧ (q = false → ¬ xx_rel c x y) := by
  have k1 := xx_dlt_ok h1 h2 h3 h4
  have k2 := xx_dlt_ok h3 h4 h1 h2
  have k3 := xx_deq_ok h1 h2 h3 h4
  cases c <;> simp only [xx_dec] at h <;> simp only [xx_rel] <;> (try replace h := xx_not_t h) <;> refine ⟨fun hq => ?_, fun hq => ?_⟩ <;> subst hq
  all_goals first
    | (have := k1.1 h; omega)
    | (have := k1.2 h; omega)
    | (have := k2.1 h; omega)
    | (have := k2.2 h; omega)
    | (have := k3.1 h; omega)
    | (have := k3.2 h; omega)
theorem xx_cat2_ok {a b : xx_A} {o : List xx_O} (h : xx_cat2 a b = some o) : ∃ x y, a = some x ∧ b = some y ∧ (∀ z ∈ x, z ∈ o) ∧ ∀ z ∈ y, z ∈ o := by
  cases a with
  | none => cases h
  | some x =>
    cases b with
    | none => cases h
    | some y =>
      cases h
      exact ⟨x, y, rfl, rfl, fun z hz => List.mem_append_left _ hz, fun z hz => List.mem_append_right _ hz⟩
/-- a way that is open: walked, with what it says -/
def xx_way (ρ : xx_Y) (cs : xx_C) (f : xx_C → xx_A) (o : List xx_O) : Prop := ∃ (cs' : xx_C) (o' : List xx_O), xx_in ρ cs' ∧ cs'.length = cs.length ∧ f cs' = some o' ∧ ∀ z ∈ o', z ∈ o
theorem xx_way.up {ρ : xx_Y} {cs : xx_C} {f : xx_C → xx_A} {o o2 : List xx_O} (h : xx_way ρ cs f o) (h2 : ∀ z ∈ o, z ∈ o2) : xx_way ρ cs f o2 := by
  obtain ⟨cs', o', a, b, c, d⟩ := h
  exact ⟨cs', o', a, b, c, fun z hz => h2 z (d z hz)⟩
theorem xx_twin_ok {a b : xx_V} (h : xx_twin a b = true) : a = b := by
  rcases a with x | ⟨q, d⟩ | x
  · cases h
  · rcases b with y | ⟨q2, d2⟩ | y
    · cases h
    · simp only [xx_twin, Bool.and_eq_true, xx_eqI_iff] at h
      rw [Nat.eq_of_beq_eq_true h.1, h.2]
    · cases h
  · cases h
theorem xx_both_ok {ρ : xx_Y} {cs : xx_C} {c : xx_B} {a b : xx_V} {ra rb : Int × Int} {t f : xx_C → xx_A} {o : List xx_O} (hin : xx_in ρ cs) (ha : xx_iv cs a = some ra) (hb : xx_iv cs b = some rb) (h : xx_both cs c a b ra rb t f = some o) :
    (xx_rel c (xx_i ρ a).toInt (xx_i ρ b).toInt → xx_way ρ cs t o) ∧ (¬ xx_rel c (xx_i ρ a).toInt (xx_i ρ b).toInt → xx_way ρ cs f o) := by
  obtain ⟨-, a1, a2, -, -⟩ := xx_iv_ok hin ha
  obtain ⟨-, b1, b2, -, -⟩ := xx_iv_ok hin hb
  have way : ∀ {c9 : xx_B} {g : xx_C → xx_A} {x : List xx_O}, xx_rel c9 (xx_i ρ a).toInt (xx_i ρ b).toInt → xx_ref cs c9 a b g = some x → (∀ z ∈ x, z ∈ o) → xx_way ρ cs g o := by
    intro c9 g x hr hx hs
    rw [xx_ref_eq] at hx
    exact ⟨_, _, xx_rf_ok hin ha hb hr, xx_rf_len _ _ _ _, hx, hs⟩
  have k1 := xx_dlt_ok a1 a2 b1 b2
  have k2 := xx_dlt_ok b1 b2 a1 a2
  have unl : ∀ {q : Option Bool} {g : xx_A} {x : List xx_O}, xx_unl q g = some x → q ≠ some false → g = some x := by
    intro q g x hx hq
    match q, hq with
    | none, _ => exact hx
    | some true, _ => exact hx
    | some false, hq => exact absurd rfl hq
  have tri : ∀ {t f : xx_C → xx_A}, xx_cat2 (xx_ref cs .eq a b t) (xx_cat2 (xx_unl (xx_dlt ra rb) (xx_ref cs .lt a b f)) (xx_unl (xx_dlt rb ra) (xx_ref cs .gt a b f))) = some o → ((xx_i ρ a).toInt = (xx_i ρ b).toInt → xx_way ρ cs t o) ∧ (¬ (xx_i ρ a).toInt = (xx_i ρ b).toInt → xx_way ρ cs f o) := by
    intro t f h
    obtain ⟨x, y, hx, hy, sx, sy⟩ := xx_cat2_ok h
    obtain ⟨x2, y2, hx2, hy2, sx2, sy2⟩ := xx_cat2_ok hy
    refine ⟨fun he => way (c9 := .eq) he hx sx, fun hne => ?_⟩
    rcases Int.lt_or_gt_of_ne hne with hl | hl
    · exact way (c9 := .lt) hl (unl hx2 (fun q => by have := k1.2 q; omega)) (fun z hz => sy z (sx2 z hz))
    · exact way (c9 := .gt) hl (unl hy2 (fun q => by have := k2.2 q; omega)) (fun z hz => sy z (sy2 z hz))
  have two : ∀ {c9 : xx_B}, xx_cat2 (xx_ref cs c9 a b t) (xx_ref cs (xx_neg c9) a b f) = some o → (xx_rel c9 (xx_i ρ a).toInt (xx_i ρ b).toInt → xx_way ρ cs t o) ∧ (¬ xx_rel c9 (xx_i ρ a).toInt (xx_i ρ b).toInt → xx_way ρ cs f o) := by
    intro c9 h
    obtain ⟨x, y, hx, hy, sx, sy⟩ := xx_cat2_ok h
    exact ⟨fun hr => way hr hx sx, fun hr => way (xx_rel_neg hr) hy sy⟩
  cases c with
  | eq => exact tri h
  | ne =>
    have := tri h
    exact ⟨fun hr => this.2 hr, fun hr => this.1 (Classical.not_not.mp hr)⟩
  | lt => exact two h
  | ge => exact two h
  | gt => exact two h
  | le => exact two h
theorem xx_br_ok {ρ : xx_Y} {cs : xx_C} {c : xx_B} {a b : xx_V} {t f : xx_C → xx_A} {o : List xx_O} (hin : xx_in ρ cs) (h : xx_br cs c a b t f = some o) :
    xx_isI a = true ∧ xx_isI b = true ∧ (xx_rel c (xx_i ρ a).toInt (xx_i ρ b).toInt → xx_way ρ cs t o) ∧ (¬ xx_rel c (xx_i ρ a).toInt (xx_i ρ b).toInt → xx_way ρ cs f o) := by
  obtain ⟨-, na2, na3⟩ := xx_nrm_ok hin a
  obtain ⟨-, nb2, nb3⟩ := xx_nrm_ok hin b
  have h : xx_br1 cs c (xx_nrm cs a) (xx_nrm cs b) t f = some o := h
  rw [← na2, ← nb2, ← na3, ← nb3]
  generalize xx_nrm cs a = a1 at h ⊢
  generalize xx_nrm cs b = b1 at h ⊢
  simp only [xx_br1] at h
  split at h
  · cases h
  · rename_i ra ha
    split at h
    · cases h
    · rename_i rb hb
      obtain ⟨i1, a1', a2', -, -⟩ := xx_iv_ok hin ha
      obtain ⟨i2, b1', b2', -, -⟩ := xx_iv_ok hin hb
      refine ⟨i1, i2, ?_⟩
      have one : ∀ {g : xx_C → xx_A}, g cs = some o → xx_way ρ cs g o := fun hg => ⟨cs, o, hin, rfl, hg, fun z hz => hz⟩
      split at h
      · rename_i htw
        have e9 := xx_twin_ok htw
        subst e9
        cases c with
        | eq => exact ⟨fun _ => one h, fun hr => absurd rfl hr⟩
        | le => exact ⟨fun _ => one h, fun hr => absurd (Int.le_refl _) hr⟩
        | ge => exact ⟨fun _ => one h, fun hr => absurd (Int.le_refl _) hr⟩
        | lt => exact ⟨fun hr => absurd hr (Int.lt_irrefl _), fun _ => one h⟩
        | gt => exact ⟨fun hr => absurd hr (Int.lt_irrefl _), fun _ => one h⟩
        | ne => exact ⟨fun hr => absurd rfl hr, fun _ => one h⟩
      · split at h
        · rename_i hd
          have := xx_dec_ok a1' a2' b1' b2' hd
          exact ⟨fun _ => one h, fun hr => absurd (this.1 rfl) hr⟩
        · rename_i hd
          have := xx_dec_ok a1' a2' b1' b2' hd
          exact ⟨fun hr => absurd hr (this.2 rfl), fun _ => one h⟩
        · exact xx_both_ok hin ha hb h
theorem xx_iv_rf {cs : xx_C} {c : xx_B} {v : xx_V} {n : Int} {r : Int × Int} (hr : xx_iv cs v = some r) : ∃ r2, xx_iv (xx_rf1 cs c v n) v = some r2 := by
  rcases v with x | ⟨q, d⟩ | x
  · exact ⟨r, hr⟩
  · simp only [xx_iv] at hr
    split at hr
    · rename_i r0 h0
      obtain ⟨a, b⟩ := r0
      split at hr
      · rename_i hc
        rw [Bool.and_eq_true, xx_le_iff, xx_le_iff] at hc
        have hl : q < cs.length := (List.getElem?_eq_some_iff.mp h0).1
        have h1 : (xx_rf1 cs c (.inr (.inl (q, d))) n)[q]? = some (xx_max a ((xx_alw c n).1 - d), xx_min b ((xx_alw c n).2 - d)) := by
          simp only [xx_rf1]
          rw [h0]
          simp only
          rw [List.getElem?_set, if_pos rfl, if_pos hl]
        have g1 := (xx_max_le (Int.le_refl (xx_max a ((xx_alw c n).1 - d)))).1
        have g2 : xx_min b ((xx_alw c n).2 - d) ≤ b := by
          unfold xx_min
          split
          · exact Int.le_refl _
          · rename_i q9
            rw [xx_le_no] at q9
            omega
        refine ⟨(xx_max a ((xx_alw c n).1 - d) + d, xx_min b ((xx_alw c n).2 - d) + d), ?_⟩
        simp only [xx_iv]
        rw [h1]
        simp only
        have c1 : xx_lo ≤ a + d := hc.1
        have c2 : b + d ≤ xx_hi := hc.2
        rw [if_pos (by rw [Bool.and_eq_true, xx_le_iff, xx_le_iff]; exact ⟨by omega, by omega⟩)]
      · cases hr
    · cases hr
  · cases hr
theorem xx_if_ok {b : Bool} {a : xx_A} {x : List xx_O} (h : xx_if b a = some x) (hb : b = true) : a = some x := by
  subst hb
  exact h
theorem xx_sw_ok {ρ : xx_Y} {cs : xx_C} {v : xx_V} {r : Int × Int} {d : Int} {g : xx_C → Int → xx_A} (hin : xx_in ρ cs) (hr : xx_iv cs v = some r) : ∀ (qs : List (Int × Int)) (pr : Int) (o : List xx_O), xx_srt qs pr = true → pr ≤ (xx_i ρ v).toInt → xx_sw cs v r d g qs pr = some o → xx_way ρ cs (fun cs => g cs (Op.lookupswitch.offset qs d (xx_i ρ v).toInt)) o := by
  obtain ⟨-, h1, h2, -, -⟩ := xx_iv_ok hin hr
  intro qs
  induction qs with
  | nil =>
    intro pr o _ hp h
    simp only [xx_sw] at h
    have h := xx_if_ok h (by rw [xx_le_iff]; exact Int.le_trans (xx_max_ok _ _ _ hp h1) h2)
    rw [xx_ref1_eq] at h
    exact ⟨_, _, xx_rf1_ok (c := .ge) hin hr hp, xx_rf1_len _ _ _ _, h, fun z hz => hz⟩
  | cons q qs ih =>
    intro pr o hs hp h
    obtain ⟨m0, t0⟩ := q
    simp only [xx_srt, Bool.and_eq_true, xx_le_iff] at hs
    simp only [xx_sw] at h
    obtain ⟨x, y, hx, hy, sx, sy⟩ := xx_cat2_ok h
    obtain ⟨x2, y2, hx2, hy2, sx2, sy2⟩ := xx_cat2_ok hy
    rcases Int.lt_trichotomy (xx_i ρ v).toInt m0 with hlt | heq | hgt
    · have hx := xx_if_ok hx (by rw [xx_le_iff]; exact Int.le_trans (xx_max_ok _ _ _ hp h1) (xx_min_ok _ _ _ (by omega) h2))
      rw [xx_ref1_eq, xx_ref1_eq] at hx
      have g1 := xx_rf1_ok (c := .ge) hin hr hp
      have hoff : Op.lookupswitch.offset ((m0, t0) :: qs) d (xx_i ρ v).toInt = d := by
        have gen : ∀ (qs : List (Int × Int)) (pr : Int), xx_srt qs pr = true → (xx_i ρ v).toInt < pr → Op.lookupswitch.offset qs d (xx_i ρ v).toInt = d := by
          intro qs
          induction qs with
          | nil => intro _ _ _; rfl
          | cons q qs ih2 =>
            intro pr hs2 hl2
            obtain ⟨m1, t1⟩ := q
            simp only [xx_srt, Bool.and_eq_true, xx_le_iff] at hs2
            rw [Op.lookupswitch.offset_cons, if_neg (by have := hs2.1; omega)]
            exact ih2 _ hs2.2 (by have := hs2.1; omega)
        rw [Op.lookupswitch.offset_cons, if_neg (by omega)]
        exact gen qs _ hs.2 (by omega)
      obtain ⟨r2, hr2⟩ := xx_iv_rf (c := .ge) (n := pr) hr
      have g3 := xx_rf1_ok (c := .le) (n := m0 - 1) g1 hr2 (show (xx_i ρ v).toInt ≤ m0 - 1 by omega)
      exact ⟨_, _, g3, by rw [xx_rf1_len, xx_rf1_len], by rw [hoff]; exact hx, sx⟩
    · have hx2 := xx_if_ok hx2 (by rw [Bool.and_eq_true, xx_le_iff, xx_le_iff]; exact ⟨by show r.1 ≤ m0; omega, by show m0 ≤ r.2; omega⟩)
      rw [xx_ref1_eq] at hx2
      exact ⟨_, _, xx_rf1_ok (c := .eq) hin hr heq, xx_rf1_len _ _ _ _, by rw [Op.lookupswitch.offset_cons, if_pos heq.symm]; exact hx2, fun z hz => sy z (sx2 z hz)⟩
    · have := ih (m0 + 1) y2 hs.2 (by omega) hy2
      rw [Op.lookupswitch.offset_cons, if_neg (by omega)]
      exact this.up (fun z hz => sy z (sy2 z hz))
theorem xx_upto_ok {ρ : xx_Y} {cs : xx_C} {v : xx_V} {r : Int × Int} {g : xx_C → xx_A} (hin : xx_in ρ cs) (hr : xx_iv cs v = some r) : ∀ (n : Nat) (lo : Int) (o : List xx_O), lo ≤ (xx_i ρ v).toInt → (xx_i ρ v).toInt < lo + n → xx_upto cs v g lo n = some o → xx_way ρ cs g o := by
  intro n
  induction n with
  | zero => intro lo o h1 h2 _; exact absurd h2 (by omega)
  | succ n ih =>
    intro lo o h1 h2 h
    simp only [xx_upto] at h
    obtain ⟨x, y, hx, hy, sx, sy⟩ := xx_cat2_ok h
    by_cases he : (xx_i ρ v).toInt = lo
    · rw [xx_ref1_eq] at hx
      exact ⟨_, _, xx_rf1_ok (c := .eq) hin hr he, xx_rf1_len _ _ _ _, hx, sx⟩
    · exact (ih (lo + 1) y (by omega) (by omega) hy).up sy
theorem xx_prs_off {d x : Int} : ∀ (offs : List Int) (lo : Int), (∀ j : Nat, ¬ (x = lo + j ∧ j < offs.length)) → Op.lookupswitch.offset (xx_prs offs lo) d x = d := by
  intro offs
  induction offs with
  | nil => intro _ _; rfl
  | cons o os ih =>
    intro lo h
    simp only [xx_prs]
    have h0 := h 0
    simp only [List.length_cons] at h0
    rw [Op.lookupswitch.offset_cons, if_neg (by omega)]
    refine ih (lo + 1) (fun j hj => h (j + 1) ⟨by have := hj.1; omega, by have := hj.2; simp only [List.length_cons]; omega⟩)
theorem xx_prs_at {d x : Int} : ∀ (offs : List Int) (lo : Int) (j : Nat) (o : Int), offs[j]? = some o → x = lo + j → Op.lookupswitch.offset (xx_prs offs lo) d x = o := by
  intro offs
  induction offs with
  | nil => intro lo j o h _; simp at h
  | cons o1 os ih =>
    intro lo j o h hx
    simp only [xx_prs]
    rw [Op.lookupswitch.offset_cons]
    cases j with
    | zero =>
      rw [if_pos (by omega)]
      simpa using h
    | succ j =>
      rw [if_neg (by omega)]
      exact ih (lo + 1) j o (by simpa using h) (by omega)
