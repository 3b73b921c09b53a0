/-! tests and switches -/
def zz_nar (cs cs' : zz_C) : Prop := ∀ w r, zz_iv cs w = some r → ∃ r', zz_iv cs' w = some r'
theorem zz_nar_rf (cs : zz_C) : zz_nar cs cs := fun _ r h => ⟨r, h⟩
theorem zz_nar_tr {a b c : zz_C} (h : zz_nar a b) (g : zz_nar b c) : zz_nar a c := fun w r hw => by
  obtain ⟨r', h'⟩ := h w r hw
  exact g w r' h'
theorem zz_set_csm {ρ : zz_P} {cs : zz_C} {q : Nat} {y : zz_Y} {z : Int32} (hc : zz_csm ρ cs) (hz : ρ.1[q]? = some z) (hy : zz_ym ρ y z) : zz_csm ρ (cs.set q y) := by
  refine ⟨by rw [List.length_set]; exact hc.1, fun k y' x hk hx => ?_⟩
  rw [List.getElem?_set] at hk
  split at hk
  · rename_i he
    subst he
    split at hk
    · cases hk
      rw [hz] at hx
      cases hx
      exact hy
    · cases hk
  · exact hc.2 k y' x hk hx
theorem zz_set_nar {cs : zz_C} {q : Nat} {lo hi lo' hi' : Int} {r r' : Option (Nat × Int) × Option zz_F} (h : cs[q]? = some (lo, (hi, r))) (h1 : lo ≤ lo') (h2 : hi' ≤ hi) : zz_nar cs (cs.set q (lo', (hi', r'))) := by
  intro w s hw
  rcases w with c | ⟨k, d⟩ | x
  · exact ⟨s, hw⟩
  · simp only [zz_iv] at hw ⊢
    by_cases hk : q = k
    · subst hk
      rw [h] at hw
      simp only at hw
      split at hw
      · rename_i hq
        rw [Bool.and_eq_true, xx_le_iff, xx_le_iff] at hq
        have hlt : q < cs.length := (List.getElem?_eq_some_iff.mp h).1
        rw [List.getElem?_set, if_pos rfl, if_pos hlt]
        simp only
        have : (xx_le xx_lo (lo' + d) && xx_le (hi' + d) xx_hi) = true := by
          rw [Bool.and_eq_true, xx_le_iff, xx_le_iff]
          omega
        rw [this]
        exact ⟨_, rfl⟩
      · cases hw
    · rw [List.getElem?_set, if_neg hk]
      exact ⟨s, hw⟩
  · cases hw
theorem zz_sym_z {ρ : zz_P} {q : Nat} {d : Int} {x : Int32} (h : zz_val ρ (.inr (.inl (q, d))) = some (.inl x)) : ∃ z, ρ.1[q]? = some z := by
  simp only [zz_val] at h
  split at h
  · rename_i z hz
    exact ⟨z, hz⟩
  · cases h
theorem zz_ref1_ok {ρ : zz_P} {cs : zz_C} {c : xx_B} {v : zz_V} {n : Int} {k : zz_C → Bool} {r : Int × Int} {x : Int32} (hc : zz_csm ρ cs) (hi : zz_iv cs v = some r) (hx : zz_val ρ v = some (.inl x)) (hr : xx_rel c x.toInt n) (h : zz_ref1 cs c v n k = true) : ∃ cs', zz_csm ρ cs' ∧ zz_nar cs cs' ∧ k cs' = true := by
  rcases v with m | ⟨q, d⟩ | y
  · exact ⟨cs, hc, zz_nar_rf cs, h⟩
  · obtain ⟨z, hz⟩ := zz_sym_z hx
    have hv := zz_iv_sym hc hi hz hx
    obtain ⟨g1, g2⟩ := xx_alw_ok hr (xx_rng x).1 (xx_rng x).2
    simp only [zz_ref1] at h
    split at h
    · rename_i a b rest hq
      simp only [xx_fI_eq] at h
      obtain ⟨b1, b2, b3, b4⟩ := hc.2 q _ z hq hz
      have b1 : a ≤ z.toInt := b1
      have b2 : z.toInt ≤ b := b2
      have k1 := zz_max_le a ((xx_alw c n).1 - d) z.toInt b1 (by omega)
      have k2 := zz_min_le b ((xx_alw c n).2 - d) z.toInt b2 (by omega)
      have m1 := (zz_max_l a ((xx_alw c n).1 - d)).1
      have m2 := (zz_min_l b ((xx_alw c n).2 - d)).1
      split at h
      · rw [xx_set_eq] at h
        have hc2 := zz_set_csm (y := (zz_max a ((xx_alw c n).1 - d), (zz_min b ((xx_alw c n).2 - d), rest))) hc hz ⟨k1, k2, b3, b4⟩
        have hn2 := zz_set_nar (r' := rest) hq m1 m2
        split at h
        · rename_i t c' hlk
          split at h
          · rename_i a2 b2 r2 ht
            rw [xx_set_eq] at h
            obtain ⟨zt, hzt, hle⟩ := b3 t c' hlk
            obtain ⟨t1, t2, t3, t4⟩ := hc2.2 t _ zt ht hzt
            have t2 : zt.toInt ≤ b2 := t2
            exact ⟨_, zz_set_csm (y := (a2, (zz_min b2 (zz_min b ((xx_alw c n).2 - d) - c'), r2))) hc2 hzt ⟨t1, zz_min_le _ _ _ t2 (by omega), t3, t4⟩, zz_nar_tr hn2 (zz_set_nar (r' := r2) ht (Int.le_refl _) (zz_min_l _ _).1), h⟩
          · exact ⟨_, hc2, hn2, h⟩
        · exact ⟨_, hc2, hn2, h⟩
      · rename_i hl
        rw [xx_le_no] at hl
        omega
    · exact ⟨cs, hc, zz_nar_rf cs, h⟩
  · cases hi
theorem zz_lnk_ok {ρ : zz_P} {cs : zz_C} {v w : zz_V} {c : Int} {k : zz_C → Bool} {rv rw : Int × Int} {x y : Int32} (hc : zz_csm ρ cs) (hv : zz_iv cs v = some rv) (hw : zz_iv cs w = some rw) (hx : zz_val ρ v = some (.inl x)) (hy : zz_val ρ w = some (.inl y)) (hr : y.toInt + c ≤ x.toInt) (h : zz_lnk cs v w c k = true) : ∃ cs', zz_csm ρ cs' ∧ zz_nar cs cs' ∧ k cs' = true := by
  have same : k cs = true → ∃ cs', zz_csm ρ cs' ∧ zz_nar cs cs' ∧ k cs' = true := fun h => ⟨cs, hc, zz_nar_rf cs, h⟩
  rcases v with m | ⟨s, d⟩ | v
  · exact same h
  · rcases w with m | ⟨q, e⟩ | w
    · exact same h
    · obtain ⟨z, hz⟩ := zz_sym_z hx
      obtain ⟨z2, hz2⟩ := zz_sym_z hy
      have e1 := zz_iv_sym hc hv hz hx
      have e2 := zz_iv_sym hc hw hz2 hy
      simp only [zz_lnk] at h
      split at h
      · rename_i lo hi df hs
        split at h
        · exact same h
        · rw [xx_fI_eq, xx_set_eq] at h
          obtain ⟨b1, b2, b3, b4⟩ := hc.2 s _ z hs hz
          refine ⟨cs.set s (lo, (hi, (some (q, c + e - d), df))), zz_set_csm hc hz ⟨b1, b2, fun t c' ht => ?_, b4⟩, zz_set_nar hs (Int.le_refl _) (Int.le_refl _), h⟩
          cases ht
          exact ⟨z2, hz2, by omega⟩
      · exact same h
    · exact same h
  · exact same h
theorem zz_rf_ok {ρ : zz_P} {cs : zz_C} {c : xx_B} {a b : zz_V} {ra rb : Int × Int} {k : zz_C → Bool} {x y : Int32} (hc : zz_csm ρ cs) (ha : zz_iv cs a = some ra) (hb : zz_iv cs b = some rb) (hx : zz_val ρ a = some (.inl x)) (hy : zz_val ρ b = some (.inl y)) (hr : xx_rel c x.toInt y.toInt) (h : zz_rf cs c a b ra rb k = true) : ∃ cs', zz_csm ρ cs' ∧ k cs' = true := by
  obtain ⟨a1, a2, a3, a4⟩ := zz_iv_ok hc ha hx
  obtain ⟨b1, b2, b3, b4⟩ := zz_iv_ok hc hb hy
  have num : ∀ {n : Int} {v : zz_V} {cc : xx_B} {z w : Int32} {rv rn : Int × Int}, zz_iv cs (.inl n) = some rn → zz_iv cs v = some rv → zz_val ρ v = some (.inl z) → zz_val ρ (.inl n) = some (.inl w) → xx_rel cc z.toInt w.toInt → zz_ref1 cs cc v n k = true → ∃ cs', zz_csm ρ cs' ∧ k cs' = true := by
    intro n v cc z w rv rn hn hv hz hw hrr hh
    have e : w.toInt = n := by
      simp only [zz_iv] at hn
      split at hn
      · rename_i hq
        rw [Bool.and_eq_true, xx_le_iff, xx_le_iff] at hq
        cases hw
        exact xx_ofInt hq.1 hq.2
      · cases hn
    rw [e] at hrr
    obtain ⟨cs', g1, -, g2⟩ := zz_ref1_ok hc hv hz hrr hh
    exact ⟨cs', g1, g2⟩
  have r1 : ∀ {ds : zz_C} {v : zz_V} {cc : xx_B} {n : Int} {z : Int32} {rv : Int × Int} {kk : zz_C → Bool}, zz_csm ρ ds → zz_nar cs ds → zz_iv cs v = some rv → zz_val ρ v = some (.inl z) → xx_rel cc z.toInt n → zz_ref1 ds cc v n kk = true → ∃ cs', zz_csm ρ cs' ∧ zz_nar cs cs' ∧ kk cs' = true := by
    intro ds v cc n z rv kk hd hn hv hz hrr hh
    obtain ⟨r', hv'⟩ := hn v rv hv
    obtain ⟨cs', g1, g2, g3⟩ := zz_ref1_ok hd hv' hz hrr hh
    exact ⟨cs', g1, zz_nar_tr hn g2, g3⟩
  have r2 : ∀ {ds : zz_C} {v w : zz_V} {cc : Int} {z u : Int32} {rv rw : Int × Int} {kk : zz_C → Bool}, zz_csm ρ ds → zz_nar cs ds → zz_iv cs v = some rv → zz_iv cs w = some rw → zz_val ρ v = some (.inl z) → zz_val ρ w = some (.inl u) → u.toInt + cc ≤ z.toInt → zz_lnk ds v w cc kk = true → ∃ cs', zz_csm ρ cs' ∧ zz_nar cs cs' ∧ kk cs' = true := by
    intro ds v w cc z u rv rw kk hd hn hv hw hz hu hrr hh
    obtain ⟨r', hv'⟩ := hn v rv hv
    obtain ⟨r'', hw'⟩ := hn w rw hw
    obtain ⟨cs', g1, g2, g3⟩ := zz_lnk_ok hd hv' hw' hz hu hrr hh
    exact ⟨cs', g1, zz_nar_tr hn g2, g3⟩
  unfold zz_rf at h
  split at h
  · exact num hb ha hx hy hr h
  · split at h
    · exact num ha hb hy hx (xx_rel_flip hr) h
    · have n0 := zz_nar_rf cs
      split at h
      · have hr : x.toInt < y.toInt := hr
        obtain ⟨c1, p1, p2, p3⟩ := r1 (cc := .lt) (n := rb.2) hc n0 ha hx (show x.toInt < rb.2 by omega) h
        obtain ⟨c2, p4, p5, p6⟩ := r1 (cc := .gt) (n := ra.1) p1 p2 hb hy (show ra.1 < y.toInt by omega) p3
        obtain ⟨c3, p7, -, p8⟩ := r2 p4 p5 hb ha hy hx (by omega) p6
        exact ⟨c3, p7, p8⟩
      · have hr : y.toInt ≤ x.toInt := hr
        obtain ⟨c1, p1, p2, p3⟩ := r1 (cc := .ge) (n := rb.1) hc n0 ha hx (show rb.1 ≤ x.toInt by omega) h
        obtain ⟨c2, p4, p5, p6⟩ := r1 (cc := .le) (n := ra.2) p1 p2 hb hy (show y.toInt ≤ ra.2 by omega) p3
        obtain ⟨c3, p7, -, p8⟩ := r2 p4 p5 ha hb hx hy (by omega) p6
        exact ⟨c3, p7, p8⟩
      · have hr : y.toInt < x.toInt := hr
        obtain ⟨c1, p1, p2, p3⟩ := r1 (cc := .gt) (n := rb.1) hc n0 ha hx (show rb.1 < x.toInt by omega) h
        obtain ⟨c2, p4, p5, p6⟩ := r1 (cc := .lt) (n := ra.2) p1 p2 hb hy (show y.toInt < ra.2 by omega) p3
        obtain ⟨c3, p7, -, p8⟩ := r2 p4 p5 ha hb hx hy (by omega) p6
        exact ⟨c3, p7, p8⟩
      · have hr : x.toInt ≤ y.toInt := hr
        obtain ⟨c1, p1, p2, p3⟩ := r1 (cc := .le) (n := rb.2) hc n0 ha hx (show x.toInt ≤ rb.2 by omega) h
        obtain ⟨c2, p4, p5, p6⟩ := r1 (cc := .ge) (n := ra.1) p1 p2 hb hy (show ra.1 ≤ y.toInt by omega) p3
        obtain ⟨c3, p7, -, p8⟩ := r2 p4 p5 hb ha hy hx (by omega) p6
        exact ⟨c3, p7, p8⟩
      · have hr : x.toInt = y.toInt := hr
        obtain ⟨c1, p1, p2, p3⟩ := r1 (cc := .ge) (n := rb.1) hc n0 ha hx (show rb.1 ≤ x.toInt by omega) h
        obtain ⟨c2, p4, p5, p6⟩ := r1 (cc := .le) (n := rb.2) p1 p2 ha hx (show x.toInt ≤ rb.2 by omega) p3
        obtain ⟨c3, p7, p8, p9⟩ := r1 (cc := .ge) (n := ra.1) p4 p5 hb hy (show ra.1 ≤ y.toInt by omega) p6
        obtain ⟨c4, q1, q2, q3⟩ := r1 (cc := .le) (n := ra.2) p7 p8 hb hy (show y.toInt ≤ ra.2 by omega) p9
        obtain ⟨c5, q4, q5, q6⟩ := r2 q1 q2 ha hb hx hy (by omega) q3
        obtain ⟨c6, q7, -, q8⟩ := r2 q4 q5 hb ha hy hx (by omega) q6
        exact ⟨c6, q7, q8⟩
      · exact ⟨cs, hc, h⟩
theorem zz_dc_ok {ρ : zz_P} {cs : zz_C} {c : xx_B} {a b : zz_V} {x y : Int32} {q : Bool} (hc : zz_csm ρ cs) (hx : zz_val ρ a = some (.inl x)) (hy : zz_val ρ b = some (.inl y)) (h : zz_dc cs c a b = some q) : (q = true → xx_rel c x.toInt y.toInt) ∧ (q = false → ¬ xx_rel c x.toInt y.toInt) := by
  have lt : ∀ {a b : zz_V} {x y : Int32} {q : Bool}, zz_val ρ a = some (.inl x) → zz_val ρ b = some (.inl y) → zz_lt cs a b = some q → (q = true → x.toInt < y.toInt) ∧ (q = false → y.toInt ≤ x.toInt) := by
    intro a b x y q hx hy h
    unfold zz_lt at h
    split at h
    · rename_i hg
      cases h
      have := zz_geV_ok hc hg hx hy
      exact ⟨(fun h => by cases h), fun _ => by omega⟩
    · split at h
      · rename_i hg
        cases h
        have := zz_geV_ok hc hg hy hx
        exact ⟨fun _ => by omega, fun h => by cases h⟩
      · cases h
  have eq : ∀ {q : Bool}, zz_eq cs a b = some q → (q = true → x.toInt = y.toInt) ∧ (q = false → ¬ x.toInt = y.toInt) := by
    intro q h
    unfold zz_eq at h
    split at h
    · rename_i hg
      rw [Bool.and_eq_true] at hg
      cases h
      have g1 := zz_geV_ok hc hg.1 hx hy
      have g2 := zz_geV_ok hc hg.2 hy hx
      exact ⟨fun _ => by omega, fun h => by cases h⟩
    · split at h
      · rename_i hg
        rw [Bool.or_eq_true] at hg
        cases h
        refine ⟨(fun h => by cases h), fun _ => ?_⟩
        rcases hg with hg | hg
        · have := zz_geV_ok hc hg hx hy
          omega
        · have := zz_geV_ok hc hg hy hx
          omega
      · cases h
  have nt : ∀ {o : Option Bool} {q : Bool}, zz_not o = some q → o = some (!q) := by
    intro o q h
    match o, h with
    | some true, h => cases h; rfl
    | some false, h => cases h; rfl
    | none, h => cases h
  cases c with
  | lt =>
    have := lt hx hy h
    exact ⟨this.1, fun hq hr => by have := this.2 hq; have hr : x.toInt < y.toInt := hr; omega⟩
  | ge =>
    have := lt hx hy (nt h)
    exact ⟨fun hq => this.2 (by rw [hq]; rfl), fun hq hr => by have := this.1 (by rw [hq]; rfl); have hr : y.toInt ≤ x.toInt := hr; omega⟩
  | gt =>
    have := lt hy hx h
    exact ⟨this.1, fun hq hr => by have := this.2 hq; have hr : y.toInt < x.toInt := hr; omega⟩
  | le =>
    have := lt hy hx (nt h)
    exact ⟨fun hq => this.2 (by rw [hq]; rfl), fun hq hr => by have := this.1 (by rw [hq]; rfl); have hr : x.toInt ≤ y.toInt := hr; omega⟩
  | eq => exact eq h
  | ne =>
    have := eq (nt h)
    exact ⟨fun hq => this.2 (by rw [hq]; rfl), fun hq hr => hr (this.1 (by rw [hq]; rfl))⟩
theorem zz_br_ok {ρ : zz_P} {cs : zz_C} {c : xx_B} {a b : zz_V} {t f : zz_C → Bool} {u w : yy_U} (hc : zz_csm ρ cs) (hu : zz_val ρ a = some u) (hw : zz_val ρ b = some w) (h : zz_br cs c a b t f = true) : ∃ x y : Int32, u = .inl x ∧ w = .inl y ∧ (xx_rel c x.toInt y.toInt → ∃ cs', zz_csm ρ cs' ∧ t cs' = true) ∧ (¬ xx_rel c x.toInt y.toInt → ∃ cs', zz_csm ρ cs' ∧ f cs' = true) := by
  unfold zz_br at h
  split at h
  · rename_i ra ha
    obtain ⟨x, rfl⟩ := zz_isI_val hu (zz_iv_isI ha)
    split at h
    · rename_i rb hb
      obtain ⟨y, rfl⟩ := zz_isI_val hw (zz_iv_isI hb)
      refine ⟨x, y, rfl, rfl, ?_⟩
      split at h
      · rename_i hd
        have := zz_dc_ok hc hu hw hd
        exact ⟨fun _ => ⟨cs, hc, h⟩, fun hr => absurd (this.1 rfl) hr⟩
      · rename_i hd
        have := zz_dc_ok hc hu hw hd
        exact ⟨fun hr => absurd hr (this.2 rfl), fun _ => ⟨cs, hc, h⟩⟩
      · have way : ∀ {cc : xx_B} {g : zz_C → Bool}, xx_rel cc x.toInt y.toInt → zz_rf cs cc a b ra rb g = true → ∃ cs', zz_csm ρ cs' ∧ g cs' = true := fun hr hh => zz_rf_ok hc ha hb hu hw hr hh
        split at h
        · rw [Bool.and_eq_true, Bool.and_eq_true] at h
          refine ⟨fun hr => way hr h.1, fun hr => ?_⟩
          have hr : ¬ x.toInt = y.toInt := hr
          rcases Int.lt_or_gt_of_ne hr with g | g
          · exact way (cc := .lt) g h.2.1
          · exact way (cc := .gt) g h.2.2
        · rw [Bool.and_eq_true, Bool.and_eq_true] at h
          refine ⟨fun hr => ?_, fun hr => way (cc := .eq) (Classical.not_not.mp hr) h.1⟩
          have hr : ¬ x.toInt = y.toInt := hr
          rcases Int.lt_or_gt_of_ne hr with g | g
          · exact way (cc := .lt) g h.2.1
          · exact way (cc := .gt) g h.2.2
        · rw [Bool.and_eq_true] at h
          exact ⟨fun hr => way hr h.1, fun hr => way (xx_rel_neg hr) h.2⟩
    · rw [Bool.and_eq_true, Bool.and_eq_true] at h
      obtain ⟨y, rfl⟩ := zz_isI_val hw h.1
      exact ⟨x, y, rfl, rfl, fun _ => ⟨cs, hc, h.2.1⟩, fun _ => ⟨cs, hc, h.2.2⟩⟩
  · rw [Bool.and_eq_true, Bool.and_eq_true, Bool.and_eq_true] at h
    obtain ⟨x, rfl⟩ := zz_isI_val hu h.1
    obtain ⟨y, rfl⟩ := zz_isI_val hw h.2.1
    exact ⟨x, y, rfl, rfl, fun _ => ⟨cs, hc, h.2.2.1⟩, fun _ => ⟨cs, hc, h.2.2.2⟩⟩
theorem zz_sw_ok {ρ : zz_P} {cs : zz_C} {v : zz_V} {r : Int × Int} {d : Int} {g : zz_C → Int → Bool} {x : Int32} (hc : zz_csm ρ cs) (hr : zz_iv cs v = some r) (hx : zz_val ρ v = some (.inl x)) : ∀ (qs : List (Int × Int)) (pr : Int), xx_srt qs pr = true → pr ≤ x.toInt → zz_sw cs v r d g qs pr = true → ∃ cs', zz_csm ρ cs' ∧ g cs' (Op.lookupswitch.offset qs d x.toInt) = true := by
  obtain ⟨h1, h2, -, -⟩ := zz_iv_ok hc hr hx
  have gen : ∀ (qs : List (Int × Int)) (pr : Int), xx_srt qs pr = true → x.toInt < pr → Op.lookupswitch.offset qs d x.toInt = d := by
    intro qs
    induction qs with
    | nil => intro _ _ _; rfl
    | cons q qs ih2 =>
      intro pr hs2 hl2
      obtain ⟨m1, t1⟩ := q
      simp only [xx_srt, Bool.and_eq_true, xx_le_iff] at hs2
      rw [Op.lookupswitch.offset_cons, if_neg (by have := hs2.1; omega)]
      exact ih2 _ hs2.2 (by have := hs2.1; omega)
  intro qs
  induction qs with
  | nil =>
    intro pr _ hp h
    simp only [zz_sw] at h
    have hl : xx_le (zz_max pr r.1) r.2 = true := by rw [xx_le_iff]; exact Int.le_trans (zz_max_le _ _ _ hp h1) h2
    rw [hl] at h
    obtain ⟨cs', g1, -, g2⟩ := zz_ref1_ok (c := .ge) hc hr hx hp h
    exact ⟨cs', g1, g2⟩
  | cons q qs ih =>
    intro pr hs hp h
    obtain ⟨m0, t0⟩ := q
    have hs0 := hs
    simp only [xx_srt, Bool.and_eq_true, xx_le_iff] at hs
    simp only [zz_sw, Bool.and_eq_true, xx_fI_eq] at h
    obtain ⟨ha, hb, hd⟩ := h
    rcases Int.lt_trichotomy x.toInt m0 with hlt | heq | hgt
    · have hl : xx_le (zz_max pr r.1) (zz_min (m0 - 1) r.2) = true := by rw [xx_le_iff]; exact Int.le_trans (zz_max_le _ _ _ hp h1) (zz_min_le _ _ _ (by omega) h2)
      rw [hl] at ha
      obtain ⟨c1, g1, g2, g3⟩ := zz_ref1_ok (c := .ge) hc hr hx hp ha
      obtain ⟨r2, hr2⟩ := g2 v r hr
      obtain ⟨c2, g4, -, g5⟩ := zz_ref1_ok (c := .le) (n := m0 - 1) g1 hr2 hx (show x.toInt ≤ m0 - 1 by omega) g3
      refine ⟨c2, g4, ?_⟩
      rw [Op.lookupswitch.offset_cons, if_neg (by omega), gen qs _ hs.2 (by omega)]
      exact g5
    · have hl : (xx_le r.1 m0 && xx_le m0 r.2) = true := by rw [Bool.and_eq_true, xx_le_iff, xx_le_iff]; exact ⟨by omega, by omega⟩
      rw [hl] at hb
      obtain ⟨c1, g1, -, g3⟩ := zz_ref1_ok (c := .eq) hc hr hx heq hb
      refine ⟨c1, g1, ?_⟩
      rw [Op.lookupswitch.offset_cons, if_pos heq.symm]
      exact g3
    · rw [Op.lookupswitch.offset_cons, if_neg (by omega)]
      exact ih (m0 + 1) hs.2 (by omega) hd
theorem zz_upto_ok {ρ : zz_P} {cs : zz_C} {v : zz_V} {r : Int × Int} {g : zz_C → Bool} {x : Int32} (hc : zz_csm ρ cs) (hr : zz_iv cs v = some r) (hx : zz_val ρ v = some (.inl x)) : ∀ (n : Nat) (lo : Int), lo ≤ x.toInt → x.toInt < lo + n → zz_upto cs v g n lo = true → ∃ cs', zz_csm ρ cs' ∧ g cs' = true := by
  intro n
  induction n with
  | zero => intro lo h1 h2 _; exact absurd h2 (by omega)
  | succ n ih =>
    intro lo h1 h2 h
    simp only [zz_upto, Bool.and_eq_true, xx_fI_eq] at h
    by_cases he : x.toInt = lo
    · obtain ⟨c1, g1, -, g3⟩ := zz_ref1_ok (c := .eq) hc hr hx he h.1
      exact ⟨c1, g1, g3⟩
    · exact ih (lo + 1) (by omega) (by omega) h.2
