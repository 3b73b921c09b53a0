/-! runs put together -/
theorem yy_step_d {P : yy_P} {M : xx_M} {d d' : Nat} {e : xx_I} {ls : yy_L} {st : List yy_U} {ω : yy_O} {r : yy_R} (hd : d ≤ d') (h : yy_step P M d e ls st ω = some r) : yy_step P M d' e ls st ω = some r := by
  unfold yy_step at h ⊢
  by_cases hi : ∃ idx, e.2.1 = .invokestatic idx
  · obtain ⟨idx, hi⟩ := hi
    rw [hi] at h ⊢
    simp only [yy_disp, yy_hstat] at h ⊢
    split at h
    · exact h
    · split at h
      · split at h
        · split at h
          · split at h
            · rename_i hq
              simp only [Bool.and_eq_true] at hq
              obtain ⟨e1, e2, e3, e4, e5, e6, e7⟩ := hq
              have e6 : Nat.ble 1 d' = true := Nat.ble_eq_true_of_le (Nat.le_trans (Nat.le_of_ble_eq_true e6) hd)
              simp only [e1, e2, e3, e4, e5, e6, e7, Bool.and_self]
              exact h
            · cases h
          · cases h
        · cases h
      · cases h
    · split at h
      · split at h
        · rename_i hq
          simp only [Bool.and_eq_true] at hq
          obtain ⟨e1, e6, e7⟩ := hq
          have e6 : Nat.ble 2 d' = true := Nat.ble_eq_true_of_le (Nat.le_trans (Nat.le_of_ble_eq_true e6) hd)
          simp only [e1, e6, e7, Bool.and_self]
          exact h
        · cases h
      · cases h
    · split at h
      · split at h
        · rename_i hq
          simp only [Bool.and_eq_true] at hq
          obtain ⟨e6, e7⟩ := hq
          have e6 : Nat.ble 1 d' = true := Nat.ble_eq_true_of_le (Nat.le_trans (Nat.le_of_ble_eq_true e6) hd)
          simp only [e6, e7, Bool.and_self]
          exact h
        · cases h
      · cases h
    · cases h
  · have : ∀ (P : yy_P) (M : xx_M) (pc len : Nat) (ops : List Nat) (ls : yy_L) (st : List yy_U) (ω : yy_O), yy_disp e.2.1 P M d pc len ops ls st ω = yy_disp e.2.1 P M d' pc len ops ls st ω := by
      intro P M pc len ops ls st ω
      cases hq : e.2.1 <;> first
        | rfl
        | exact absurd ⟨_, hq⟩ hi
    rw [← this]
    exact h
theorem yy_run_mono {T : List xx_M} {G : List yy_D} {kee : Nat → Int64} : ∀ (n n' : Nat) (scr : Option (Nat × (Nat → Int32))) (d d' : Nat) (M : xx_M) (pc : Nat) (ls : yy_L) (st : List yy_U) (ω : yy_O) (r : Option yy_U × yy_O), n ≤ n' → d ≤ d' → yy_run T G kee n scr d M pc ls st ω = some r → yy_run T G kee n' scr d' M pc ls st ω = some r := by
  intro n
  induction n with
  | zero => intro n' scr d d' M pc ls st ω r _ _ h; cases h
  | succ n ih =>
    intro n' scr d d' M pc ls st ω r hn hd h
    obtain ⟨m, rfl⟩ : ∃ m, n' = m + 1 := ⟨n' - 1, by omega⟩
    have hn : n ≤ m := by omega
    simp only [yy_run] at h ⊢
    split at h
    · cases h
    · split at h
      · cases h
      · rename_i pc' ls' st' ω' hs
        rw [yy_step_d hd hs]
        exact ih m scr d d' M pc' ls' st' ω' r hn hd h
      · rename_i v hs
        rw [yy_step_d hd hs]
        exact h
      · rename_i t args rest hs
        rw [yy_step_d hd hs]
        simp only
        split at h
        · cases h
        · rename_i M' hM
          split at h
          · cases h
          · rename_i hf
            split at h
            · cases h
            · rename_i d0
              obtain ⟨d1, rfl⟩ : ∃ d1, d' = d1 + 1 := ⟨d' - 1, by omega⟩
              split at h
              · cases h
              · rename_i v ω' hc
                have hc' := ih m none d0 d1 M' 0 _ [] ω _ hn (by omega) hc
                simp only [hf, hc']
                exact ih m scr (d0 + 1) (d1 + 1) M _ ls _ ω' r hn hd h
def zz_wp (T : List xx_M) (G : List yy_D) (kee : Nat → Int64) (scr : Option (Nat × (Nat → Int32))) (d : Nat) (M : xx_M) (pc : Nat) (ls : yy_L) (st : List yy_U) (ω : yy_O) (Q : Option yy_U → yy_O → Prop) : Prop := ∃ n v ω', yy_run T G kee n scr d M pc ls st ω = some (v, ω') ∧ Q v ω'
section ZW
variable {T : List xx_M} {G : List yy_D} {kee : Nat → Int64} {scr : Option (Nat × (Nat → Int32))} {d : Nat} {M : xx_M} {pc : Nat} {ls : yy_L} {st : List yy_U} {ω : yy_O} {Q : Option yy_U → yy_O → Prop} {e : xx_I}
theorem zz_wp_next {pc' : Nat} {ls' : yy_L} {st' : List yy_U} {ω' : yy_O} (ha : yy_at M.2.2.2.2.2 pc = some e) (hs : yy_step (G, (scr, kee)) M d e ls st ω = some (.inl (pc', (ls', (st', ω'))))) (h : zz_wp T G kee scr d M pc' ls' st' ω' Q) : zz_wp T G kee scr d M pc ls st ω Q := by
  obtain ⟨n, v, ω1, h1, h2⟩ := h
  exact ⟨n + 1, v, ω1, by simp only [yy_run, ha, hs]; exact h1, h2⟩
theorem zz_wp_ret {v : Option yy_U} (ha : yy_at M.2.2.2.2.2 pc = some e) (hs : yy_step (G, (scr, kee)) M d e ls st ω = some (.inr (.inr v))) (h : Q v ω) : zz_wp T G kee scr d M pc ls st ω Q := ⟨1, v, ω, by simp only [yy_run, ha, hs], h⟩
theorem zz_wp_call {t : Nat} {args rest : List yy_U} {M' : xx_M} {d' : Nat} {Q' : Option yy_U → yy_O → Prop} (ha : yy_at M.2.2.2.2.2 pc = some e) (hs : yy_step (G, (scr, kee)) M (d' + 1) e ls st ω = some (.inr (.inl (t, (args, rest))))) (hM : T[t]? = some M') (hf : yy_fit M' args rest = true) (hc : zz_wp T G kee none d' M' 0 (yy_arg 0 args) [] ω Q') (h : ∀ v ω', Q' v ω' → zz_wp T G kee scr (d' + 1) M (pc + 3) ls (v.toList ++ rest) ω' Q) : zz_wp T G kee scr (d' + 1) M pc ls st ω Q := by
  obtain ⟨n, v, ω1, h1, h2⟩ := hc
  obtain ⟨m, w, ω2, h3, h4⟩ := h v ω1 h2
  refine ⟨(n + m) + 1, w, ω2, ?_, h4⟩
  have g1 := yy_run_mono n (n + m) none d' d' M' 0 _ [] ω _ (by omega) (Nat.le_refl _) h1
  have g2 := yy_run_mono m (n + m) scr (d' + 1) (d' + 1) M _ ls _ ω1 _ (by omega) (Nat.le_refl _) h3
  simp only [yy_run, ha, hs, hM, hf, g1]
  exact g2
theorem zz_wp_imp {Q' : Option yy_U → yy_O → Prop} (h : zz_wp T G kee scr d M pc ls st ω Q) (hq : ∀ v ω', Q v ω' → Q' v ω') : zz_wp T G kee scr d M pc ls st ω Q' := by
  obtain ⟨n, v, ω1, h1, h2⟩ := h
  exact ⟨n, v, ω1, h1, hq v ω1 h2⟩
theorem zz_wp_d {d' : Nat} (hd : d ≤ d') (h : zz_wp T G kee scr d M pc ls st ω Q) : zz_wp T G kee scr d' M pc ls st ω Q := by
  obtain ⟨n, v, ω1, h1, h2⟩ := h
  exact ⟨n, v, ω1, yy_run_mono n n scr d d' M pc ls st ω _ (Nat.le_refl _) hd h1, h2⟩
end ZW
/-! rows by their numbers -/
def zz_srt : List xx_I → Bool
  | a :: b :: r => Nat.blt a.1 b.1 && zz_srt (b :: r)
  | _ => true
def zz_rows (M : xx_M) : Bool := zz_srt M.2.2.2.2.2 && M.2.2.2.2.2.all (fun e => match xx_ops e.2.2.2 with
  | [_, f, _, _] => Nat.blt f 1000000
  | _ => true)
theorem zz_srt_lt {e : xx_I} {tl : List xx_I} : ∀ {pre : List xx_I}, zz_srt (pre ++ e :: tl) = true → ∀ q ∈ pre, q.1 < e.1
  | [], _, q, hq => by cases hq
  | a :: [], h, q, hq => by
    simp only [List.cons_append, List.nil_append, zz_srt, Bool.and_eq_true] at h
    rcases List.mem_cons.mp hq with e1 | e1
    · subst e1
      exact xx_blt h.1
    · cases e1
  | a :: b :: r, h, q, hq => by
    simp only [List.cons_append, zz_srt, Bool.and_eq_true] at h
    have ih := zz_srt_lt (pre := b :: r) h.2
    rcases List.mem_cons.mp hq with e1 | e1
    · subst e1
      exact Nat.lt_trans (xx_blt h.1) (ih b List.mem_cons_self)
    · exact ih q e1
theorem zz_at_suf {rows : List xx_I} {e : xx_I} {tl : List xx_I} (hs : zz_srt rows = true) (h : (e :: tl) <:+ rows) : yy_at rows e.1 = some e := by
  obtain ⟨pre, rfl⟩ := h
  have lt := zz_srt_lt hs
  clear hs
  induction pre with
  | nil =>
    simp only [List.nil_append, yy_at]
    rw [Nat.beq_refl]
  | cons q qs ih =>
    simp only [List.cons_append, yy_at]
    have h1 := lt q List.mem_cons_self
    have : Nat.beq q.1 e.1 = false := by
      cases hb : Nat.beq q.1 e.1 with
      | false => rfl
      | true => exact absurd (Nat.eq_of_beq_eq_true hb) (by omega)
    rw [this]
    exact ih (fun z hz => lt z (List.mem_cons_of_mem _ hz))
theorem zz_from_suf (t : Nat) : ∀ (l : List xx_I), xx_from t l <:+ l
  | [] => List.suffix_rfl
  | a :: as => by
    simp only [xx_from]
    split
    · exact List.suffix_rfl
    · exact (zz_from_suf t as).trans (List.suffix_cons _ _)
