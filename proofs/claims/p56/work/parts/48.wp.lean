/-! runs put together -/
theorem yy_step_d {P : yy_P} {M : xx_M} {d d' : Nat} {e : xx_I} {ls : yy_L} {st : List yy_U} {ω : yy_O} {r : yy_R} (hd : d ≤ d') (h : yy_step P M d e ls st ω = some r) : yy_step P M d' e ls st ω = some r := by
  unfold yy_step at h ⊢
  by_cases hi : ∃ idx, e.2.1 = .invokestatic idx
  · obtain ⟨idx, hi⟩ := hi
    rw [hi] at h ⊢
    simp only [yy_disp, yy_hstat] at h ⊢
    split at h
    · exact h
    · split at h
      · split at h
        · split at h
          · split at h
            · rename_i hq
              simp only [Bool.and_eq_true] at hq
              obtain ⟨e1, e2, e3, e4, e5, e6, e7⟩ := hq
              have e6 : Nat.ble 1 d' = true := Nat.ble_eq_true_of_le (Nat.le_trans (Nat.le_of_ble_eq_true e6) hd)
              simp only [e1, e2, e3, e4, e5, e6, e7, Bool.and_self]
              exact h
            · cases h
          · cases h
        · cases h
      · cases h
    · split at h
      · split at h
        · rename_i hq
          simp only [Bool.and_eq_true] at hq
          obtain ⟨e1, e6, e7⟩ := hq
          have e6 : Nat.ble 2 d' = true := Nat.ble_eq_true_of_le (Nat.le_trans (Nat.le_of_ble_eq_true e6) hd)
          simp only [e1, e6, e7, Bool.and_self]
          exact h
        · cases h
      · cases h
    · split at h
      · split at h
        · rename_i hq
          simp only [Bool.and_eq_true] at hq
          obtain ⟨e6, e7⟩ := hq
          have e6 : Nat.ble 1 d' = true := Nat.ble_eq_true_of_le (Nat.le_trans (Nat.le_of_ble_eq_true e6) hd)
          simp only [e6, e7, Bool.and_self]
          exact h
        · cases h
      · cases h
    · cases h
  · have : ∀ (P : yy_P) (M : xx_M) (pc len : Nat) (ops : List Nat) (ls : yy_L) (st : List yy_U) (ω : yy_O), yy_disp e.2.1 P M d pc len ops ls st ω = yy_disp e.2.1 P M d' pc len ops ls st ω := by
      intro P M pc len ops ls st ω
      cases hq : e.2.1 <;> first
        | rfl
        | exact absurd ⟨_, hq⟩ hi
    rw [← this]
    exact h
theorem yy_run_mono {T : List xx_M} {G : List yy_D} {kee : Nat → Int64} : ∀ (n n' : Nat) (scr : Option (Nat × (Nat → Int32))) (d d' : Nat) (M : xx_M) (pc : Nat) (ls : yy_L) (st : List yy_U) (ω : yy_O) (r : Option yy_U × yy_O), n ≤ n' → d ≤ d' → yy_run T G kee n scr d M pc ls st ω = some r → yy_run T G kee n' scr d' M pc ls st ω = some r := by
  intro n
  induction n with
  | zero => intro n' scr d d' M pc ls st ω r _ _ h; cases h
  | succ n ih =>
    intro n' scr d d' M pc ls st ω r hn hd h
    obtain ⟨m, rfl⟩ : ∃ m, n' = m + 1 := ⟨n' - 1, by omega⟩
    have hn : n ≤ m := by omega
    simp only [yy_run] at h ⊢
    split at h
    · cases h
    · split at h
      · cases h
      · rename_i pc' ls' st' ω' hs
        rw [yy_step_d hd hs]
        exact ih m scr d d' M pc' ls' st' ω' r hn hd h
      · rename_i v hs
        rw [yy_step_d hd hs]
        exact h
      · rename_i t args rest hs
        rw [yy_step_d hd hs]
        simp only
        split at h
        · cases h
        · rename_i M' hM
          split at h
          · cases h
          · rename_i hf
            split at h
            · cases h
            · rename_i d0
              obtain ⟨d1, rfl⟩ : ∃ d1, d' = d1 + 1 := ⟨d' - 1, by omega⟩
              split at h
              · cases h
              · rename_i v ω' hc
                have hc' := ih m none d0 d1 M' 0 _ [] ω _ hn (by omega) hc
                simp only [hf, hc']
                exact ih m scr (d0 + 1) (d1 + 1) M _ ls _ ω' r hn hd h
/-! runs that read allowed places alone -/
def yy_rix (R : Nat → Nat → Prop) (st : List yy_U) : Prop := match st with
  | .inl x :: .inr (.inr k) :: _ => 0 ≤ x.toInt → R k x.toNatClampNeg
  | _ => True
def yy_rok (R : Nat → Nat → Prop) (i : Instr) (ops : List Nat) (st : List yy_U) : Prop := match i with
  | .getfield _ => match st with
    | .inr (.inr k) :: _ => match ops with
      | [_, f, _, _] => R k f
      | _ => True
    | _ => True
  | .iaload => yy_rix R st
  | .baload => yy_rix R st
  | .laload => yy_rix R st
  | .invokestatic _ => match ops with
    | 9 :: _ => ∀ k j, R k j
    | _ => True
  | _ => True
def yy_tr (T : List xx_M) (G : List yy_D) (kee : Nat → Int64) (R : Nat → Nat → Prop) : Nat → Option (Nat × (Nat → Int32)) → Nat → xx_M → Nat → yy_L → List yy_U → yy_O → Option yy_U → yy_O → Prop
  | 0, _, _, _, _, _, _, _, _, _ => False
  | n + 1, scr, d, M, pc, ls, st, ω, v, ω' => ∃ e, yy_at M.2.2.2.2.2 pc = some e ∧ yy_rok R e.2.1 (xx_ops e.2.2.2) st ∧ ((∃ pc1 ls1 st1 ω1, yy_step (G, (scr, kee)) M d e ls st ω = some (.inl (pc1, (ls1, (st1, ω1)))) ∧ yy_tr T G kee R n scr d M pc1 ls1 st1 ω1 v ω') ∨ (yy_step (G, (scr, kee)) M d e ls st ω = some (.inr (.inr v)) ∧ ω' = ω) ∨ ∃ t args rest M' d' v1 ω1, d = d' + 1 ∧ yy_step (G, (scr, kee)) M d e ls st ω = some (.inr (.inl (t, (args, rest)))) ∧ T[t]? = some M' ∧ yy_fit M' args rest = true ∧ yy_tr T G kee R n none d' M' 0 (yy_arg 0 args) [] ω v1 ω1 ∧ yy_tr T G kee R n scr d M (pc + 3) ls (v1.toList ++ rest) ω1 v ω')
section ZT
variable {T : List xx_M} {G : List yy_D} {kee : Nat → Int64} {R : Nat → Nat → Prop}
theorem yy_tr_run : ∀ {n : Nat} {scr : Option (Nat × (Nat → Int32))} {d : Nat} {M : xx_M} {pc : Nat} {ls : yy_L} {st : List yy_U} {ω : yy_O} {v : Option yy_U} {ω' : yy_O}, yy_tr T G kee R n scr d M pc ls st ω v ω' → yy_run T G kee n scr d M pc ls st ω = some (v, ω')
  | 0, _, _, _, _, _, _, _, _, _, h => h.elim
  | n + 1, scr, d, M, pc, ls, st, ω, v, ω', h => by
    simp only [yy_tr] at h
    obtain ⟨e, he, -, h⟩ := h
    rcases h with ⟨pc1, ls1, st1, ω1, h1, h2⟩ | ⟨h1, h2⟩ | ⟨t, args, rest, M', d', v1, ω1, h0, h1, h2, h3, h4, h5⟩
    · simp only [yy_run, he, h1]
      exact yy_tr_run h2
    · simp only [yy_run, he, h1, h2]
    · subst h0
      simp only [yy_run, he, h1, h2, h3, yy_tr_run h4]
      exact yy_tr_run h5
theorem yy_rok_mono {R R' : Nat → Nat → Prop} (hR : ∀ k j, R k j → R' k j) {i : Instr} {ops : List Nat} {st : List yy_U} (h : yy_rok R i ops st) : yy_rok R' i ops st := by
  have ix : yy_rix R st → yy_rix R' st := by
    intro h
    unfold yy_rix at h ⊢
    split at h
    · exact fun h0 => hR _ _ (h h0)
    · rename_i hno
      first
        | trivial
        | (split <;> first | trivial | exact (hno _ _ _ rfl).elim)
  cases i
  case getfield idx =>
    simp only [yy_rok] at h ⊢
    split at h
    · split at h
      · exact hR _ _ h
      · rename_i hno
        first
          | trivial
          | (split <;> first | trivial | exact (hno _ _ _ _ rfl).elim)
    · rename_i hno
      first
        | trivial
        | (split <;> first | trivial | exact (hno _ _ rfl).elim)
  case iaload => exact ix h
  case baload => exact ix h
  case laload => exact ix h
  case invokestatic idx =>
    simp only [yy_rok] at h ⊢
    split at h
    · exact fun k j => hR _ _ (h k j)
    · rename_i hno
      first
        | trivial
        | (split <;> first | trivial | exact (hno _ rfl).elim)
  all_goals trivial
theorem yy_tr_mono {R' : Nat → Nat → Prop} (hR : ∀ k j, R k j → R' k j) : ∀ {n n' : Nat} {scr : Option (Nat × (Nat → Int32))} {d d' : Nat} {M : xx_M} {pc : Nat} {ls : yy_L} {st : List yy_U} {ω : yy_O} {v : Option yy_U} {ω' : yy_O}, n ≤ n' → d ≤ d' → yy_tr T G kee R n scr d M pc ls st ω v ω' → yy_tr T G kee R' n' scr d' M pc ls st ω v ω'
  | 0, _, _, _, _, _, _, _, _, _, _, _, _, _, h => h.elim
  | n + 1, n', scr, d, d', M, pc, ls, st, ω, v, ω', hn, hd, h => by
    obtain ⟨m, rfl⟩ : ∃ m, n' = m + 1 := ⟨n' - 1, by omega⟩
    have hn : n ≤ m := by omega
    simp only [yy_tr] at h ⊢
    obtain ⟨e, he, hr, h⟩ := h
    refine ⟨e, he, ?_, ?_⟩
    · exact yy_rok_mono hR hr
    · rcases h with ⟨pc1, ls1, st1, ω1, h1, h2⟩ | ⟨h1, h2⟩ | ⟨t, args, rest, M', d0, v1, ω1, h0, h1, h2, h3, h4, h5⟩
      · exact Or.inl ⟨pc1, ls1, st1, ω1, yy_step_d hd h1, yy_tr_mono hR hn hd h2⟩
      · exact Or.inr (Or.inl ⟨yy_step_d hd h1, h2⟩)
      · obtain ⟨d1, rfl⟩ : ∃ d1, d' = d1 + 1 := ⟨d' - 1, by omega⟩
        exact Or.inr (Or.inr ⟨t, args, rest, M', d1, v1, ω1, rfl, yy_step_d hd h1, h2, h3, yy_tr_mono hR hn (by omega) h4, yy_tr_mono hR hn hd h5⟩)
end ZT
def zz_wp (T : List xx_M) (G : List yy_D) (kee : Nat → Int64) (R : Nat → Nat → Prop) (scr : Option (Nat × (Nat → Int32))) (d : Nat) (M : xx_M) (pc : Nat) (ls : yy_L) (st : List yy_U) (ω : yy_O) (Q : Option yy_U → yy_O → Prop) : Prop := ∃ n v ω', yy_tr T G kee R n scr d M pc ls st ω v ω' ∧ Q v ω'
section ZW
variable {T : List xx_M} {G : List yy_D} {kee : Nat → Int64} {R : Nat → Nat → Prop} {scr : Option (Nat × (Nat → Int32))} {d : Nat} {M : xx_M} {pc : Nat} {ls : yy_L} {st : List yy_U} {ω : yy_O} {Q : Option yy_U → yy_O → Prop} {e : xx_I}
theorem zz_wp_next {pc' : Nat} {ls' : yy_L} {st' : List yy_U} {ω' : yy_O} (ha : yy_at M.2.2.2.2.2 pc = some e ∧ yy_rok R e.2.1 (xx_ops e.2.2.2) st) (hs : yy_step (G, (scr, kee)) M d e ls st ω = some (.inl (pc', (ls', (st', ω'))))) (h : zz_wp T G kee R scr d M pc' ls' st' ω' Q) : zz_wp T G kee R scr d M pc ls st ω Q := by
  obtain ⟨n, v, ω1, h1, h2⟩ := h
  exact ⟨n + 1, v, ω1, by simp only [yy_tr]; exact ⟨e, ha.1, ha.2, Or.inl ⟨pc', ls', st', ω', hs, h1⟩⟩, h2⟩
theorem zz_wp_ret {v : Option yy_U} (ha : yy_at M.2.2.2.2.2 pc = some e ∧ yy_rok R e.2.1 (xx_ops e.2.2.2) st) (hs : yy_step (G, (scr, kee)) M d e ls st ω = some (.inr (.inr v))) (h : Q v ω) : zz_wp T G kee R scr d M pc ls st ω Q := ⟨1, v, ω, by unfold yy_tr; exact ⟨e, ha.1, ha.2, Or.inr (Or.inl ⟨hs, rfl⟩)⟩, h⟩
theorem zz_wp_call {t : Nat} {args rest : List yy_U} {M' : xx_M} {d' : Nat} {Q' : Option yy_U → yy_O → Prop} (ha : yy_at M.2.2.2.2.2 pc = some e ∧ yy_rok R e.2.1 (xx_ops e.2.2.2) st) (hs : yy_step (G, (scr, kee)) M (d' + 1) e ls st ω = some (.inr (.inl (t, (args, rest))))) (hM : T[t]? = some M') (hf : yy_fit M' args rest = true) (hc : zz_wp T G kee R none d' M' 0 (yy_arg 0 args) [] ω Q') (h : ∀ v ω', Q' v ω' → zz_wp T G kee R scr (d' + 1) M (pc + 3) ls (v.toList ++ rest) ω' Q) : zz_wp T G kee R scr (d' + 1) M pc ls st ω Q := by
  obtain ⟨n, v, ω1, h1, h2⟩ := hc
  obtain ⟨m, w, ω2, h3, h4⟩ := h v ω1 h2
  refine ⟨(n + m) + 1, w, ω2, ?_, h4⟩
  have g1 := yy_tr_mono (fun _ _ h => h) (show n ≤ n + m by omega) (Nat.le_refl _) h1
  have g2 := yy_tr_mono (fun _ _ h => h) (show m ≤ n + m by omega) (Nat.le_refl _) h3
  simp only [yy_tr]
  exact ⟨e, ha.1, ha.2, Or.inr (Or.inr ⟨t, args, rest, M', d', v, ω1, rfl, hs, hM, hf, g1, g2⟩)⟩
theorem zz_wp_imp {Q' : Option yy_U → yy_O → Prop} (h : zz_wp T G kee R scr d M pc ls st ω Q) (hq : ∀ v ω', Q v ω' → Q' v ω') : zz_wp T G kee R scr d M pc ls st ω Q' := by
  obtain ⟨n, v, ω1, h1, h2⟩ := h
  exact ⟨n, v, ω1, h1, hq v ω1 h2⟩
theorem zz_wp_d {d' : Nat} (hd : d ≤ d') (h : zz_wp T G kee R scr d M pc ls st ω Q) : zz_wp T G kee R scr d' M pc ls st ω Q := by
  obtain ⟨n, v, ω1, h1, h2⟩ := h
  exact ⟨n, v, ω1, yy_tr_mono (fun _ _ h => h) (Nat.le_refl _) hd h1, h2⟩
theorem zz_wp_R {R' : Nat → Nat → Prop} (hR : ∀ k j, R k j → R' k j) (h : zz_wp T G kee R scr d M pc ls st ω Q) : zz_wp T G kee R' scr d M pc ls st ω Q := by
  obtain ⟨n, v, ω1, h1, h2⟩ := h
  exact ⟨n, v, ω1, yy_tr_mono hR (Nat.le_refl _) (Nat.le_refl _) h1, h2⟩
end ZW
theorem zz_rix_ok {tau : Nat → Nat → Int × Int} {Φ : zz_Ph} {ρ : zz_P} {ω : yy_O} {cs : zz_C} {nL : Nat} {ca : zz_A} {fl : zz_B} {ls : zz_L} {st : List zz_V} {lsC : yy_L} {stC : List yy_U} {D : zz_D} (ho : zz_ok tau Φ ρ ω cs nL ca fl ls st lsC stC) (h : zz_rix D cs st = true) : yy_rix (zz_rd D) stC := by
  unfold zz_rix at h
  split at h
  · rename_i ix key rest
    obtain ⟨u, s1, rfl, hu, hs1⟩ := zz_stm_inv ho.2.2.2.2.2.2
    obtain ⟨w, s2, rfl, hw, hs2⟩ := zz_stm_inv hs1
    cases hw
    split at h
    · rename_i r hr
      rw [xx_fN_eq] at h
      obtain ⟨x, rfl⟩ := zz_isI_val hu (zz_iv_isI hr)
      obtain ⟨b1, b2, -, -⟩ := zz_iv_ok ho.1 hr hu
      intro h0
      have hn := zz_natc h0
      exact zz_may_ok (by omega) (by omega) h
    · cases h
  · cases h
theorem zz_rdk_ok {tau : Nat → Nat → Int × Int} {Φ : zz_Ph} {ρ : zz_P} {ω : yy_O} {cs : zz_C} {nL : Nat} {ca : zz_A} {fl : zz_B} {ls : zz_L} {st : List zz_V} {lsC : yy_L} {stC : List yy_U} {D : zz_D} {i : Instr} {ops : List Nat} (ho : zz_ok tau Φ ρ ω cs nL ca fl ls st lsC stC) (h : zz_rdk D cs i ops st = true) : yy_rok (zz_rd D) i ops stC := by
  cases i
  case getfield idx =>
    simp only [zz_rdk] at h
    split at h
    · rename_i key rest
      obtain ⟨u, s1, rfl, hu, hs1⟩ := zz_stm_inv ho.2.2.2.2.2.2
      cases hu
      split at h
      · rename_i a f b c
        rw [xx_fN_eq] at h
        show zz_rd D key f
        exact zz_may_ok (Int.le_refl _) (Int.le_refl _) h
      · rename_i hno
        simp only [yy_rok]
    · cases h
  case iaload => exact zz_rix_ok ho h
  case baload => exact zz_rix_ok ho h
  case laload => exact zz_rix_ok ho h
  case invokestatic idx =>
    simp only [zz_rdk] at h
    split at h
    · exact fun k j => zz_may_all (by omega) h
    · rename_i hno
      simp only [yy_rok]
  all_goals trivial
/-! rows by their numbers -/
def zz_srt : List xx_I → Bool
  | a :: b :: r => Nat.blt a.1 b.1 && zz_srt (b :: r)
  | _ => true
def zz_rows (M : xx_M) : Bool := zz_srt M.2.2.2.2.2 && M.2.2.2.2.2.all (fun e => match xx_ops e.2.2.2 with
  | [_, f, _, _] => Nat.blt f 1000000
  | _ => true)
theorem zz_srt_lt {e : xx_I} {tl : List xx_I} : ∀ {pre : List xx_I}, zz_srt (pre ++ e :: tl) = true → ∀ q ∈ pre, q.1 < e.1
  | [], _, q, hq => by cases hq
  | a :: [], h, q, hq => by
    simp only [List.cons_append, List.nil_append, zz_srt, Bool.and_eq_true] at h
    rcases List.mem_cons.mp hq with e1 | e1
    · subst e1
      exact xx_blt h.1
    · cases e1
  | a :: b :: r, h, q, hq => by
    simp only [List.cons_append, zz_srt, Bool.and_eq_true] at h
    have ih := zz_srt_lt (pre := b :: r) h.2
    rcases List.mem_cons.mp hq with e1 | e1
    · subst e1
      exact Nat.lt_trans (xx_blt h.1) (ih b List.mem_cons_self)
    · exact ih q e1
theorem zz_at_suf {rows : List xx_I} {e : xx_I} {tl : List xx_I} (hs : zz_srt rows = true) (h : (e :: tl) <:+ rows) : yy_at rows e.1 = some e := by
  obtain ⟨pre, rfl⟩ := h
  have lt := zz_srt_lt hs
  clear hs
  induction pre with
  | nil =>
    simp only [List.nil_append, yy_at]
    rw [Nat.beq_refl]
  | cons q qs ih =>
    simp only [List.cons_append, yy_at]
    have h1 := lt q List.mem_cons_self
    have : Nat.beq q.1 e.1 = false := by
      cases hb : Nat.beq q.1 e.1 with
      | false => rfl
      | true => exact absurd (Nat.eq_of_beq_eq_true hb) (by omega)
    rw [this]
    exact ih (fun z hz => lt z (List.mem_cons_of_mem _ hz))
theorem zz_from_suf (t : Nat) : ∀ (l : List xx_I), xx_from t l <:+ l
  | [] => List.suffix_rfl
  | a :: as => by
    simp only [xx_from]
    split
    · exact List.suffix_rfl
    · exact (zz_from_suf t as).trans (List.suffix_cons _ _)
