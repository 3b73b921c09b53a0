/-! two runs that agree on what is read answer the same -/
def yy_ag (R : Nat → Nat → Prop) (ω ω2 : yy_O) : Prop := ∀ k j, R k j → ω.1 k j = ω2.1 k j ∧ ω.2 k j = ω2.2 k j
def yy_lk (R : Nat → Nat → Prop) (ω2 : yy_O) (r : yy_R) (o : Option yy_R) : Prop := match r with
  | .inl (pc, (ls, (st, ω'))) => ∃ ω2', o = some (.inl (pc, (ls, (st, ω2')))) ∧ yy_ag R ω' ω2'
  | .inr q => o = some (.inr q)
theorem yy_ag_uI {R : Nat → Nat → Prop} {ω ω2 : yy_O} (h : yy_ag R ω ω2) (k j : Nat) (x : Int32) : yy_ag R (yy_uI ω k j x) (yy_uI ω2 k j x) := by
  intro a b hab
  have := h a b hab
  refine ⟨?_, this.2⟩
  show (if a = k then upd (ω.1 a) j x else ω.1 a) b = (if a = k then upd (ω2.1 a) j x else ω2.1 a) b
  split
  · show (if b = j then x else ω.1 a b) = (if b = j then x else ω2.1 a b)
    rw [this.1]
  · exact this.1
theorem yy_ag_uL {R : Nat → Nat → Prop} {ω ω2 : yy_O} (h : yy_ag R ω ω2) (k j : Nat) (x : Int64) : yy_ag R (yy_uL ω k j x) (yy_uL ω2 k j x) := by
  intro a b hab
  have := h a b hab
  refine ⟨this.1, ?_⟩
  show (if a = k then vp_updL (ω.2 a) j x else ω.2 a) b = (if a = k then vp_updL (ω2.2 a) j x else ω2.2 a) b
  split
  · show (if b = j then x else ω.2 a b) = (if b = j then x else ω2.2 a b)
    rw [this.2]
  · exact this.2
theorem yy_put_lk {R : Nat → Nat → Prop} {ω ω2 ω' : yy_O} {k f : Nat} {t : FieldType} {v : yy_U} (hag : yy_ag R ω ω2) (h : yy_put ω k f t v = some ω') : ∃ ω2', yy_put ω2 k f t v = some ω2' ∧ yy_ag R ω' ω2' := by
  unfold yy_put at h ⊢
  split at h
  · split at h
    · cases h
      exact ⟨_, rfl, yy_ag_uI hag _ _ _⟩
    · cases h
  · split at h
    · split at h
      · rename_i hq
        cases h
        try simp only [hq]
        exact ⟨_, rfl, yy_ag_uI hag _ _ _⟩
      · cases h
    · cases h
  · split at h
    · cases h
      exact ⟨_, rfl, yy_ag_uL hag _ _ _⟩
    · cases h
  · cases h
theorem yy_ix_0 {x : Int32} {n : Nat} (h : yy_ix x n = true) : 0 ≤ x.toInt := (of_decide_eq_true h).1
theorem yy_lock {R : Nat → Nat → Prop} {P : yy_P} {M : xx_M} {d : Nat} {e : xx_I} {ls : yy_L} {st : List yy_U} {ω ω2 : yy_O} {r : yy_R} (hag : yy_ag R ω ω2) (hr : yy_rok R e.2.1 (xx_ops e.2.2.2) st) (h : yy_step P M d e ls st ω = some r) : yy_lk R ω2 r (yy_step P M d e ls st ω2) := by
  obtain ⟨epc, i, len, ops0⟩ := e
  have h : yy_disp i P M d epc len (xx_ops ops0) ls st ω = some r := h
  have hr : yy_rok R i (xx_ops ops0) st := hr
  show yy_lk R ω2 r (yy_disp i P M d epc len (xx_ops ops0) ls st ω2)
  generalize xx_ops ops0 = ops at h hr ⊢
  cases i
  case getfield idx =>
    simp only [yy_disp, yy_hgetf] at h ⊢
    split at h
    · split at h
      · split at h
        · split at h
          · cases h
            have hq := hag _ _ hr
            refine ⟨ω2, ?_, hag⟩
            simp only [yy_nx, yy_fu, hq.1, hq.2]
          · cases h
        · cases h
      · split at h
        · rename_i hb
          try simp only [hb]
          split at h
          · cases h
            exact ⟨ω2, rfl, hag⟩
          · cases h
            exact ⟨ω2, rfl, hag⟩
          · cases h
        · cases h
      · cases h
    · cases h
  case putfield idx =>
    simp only [yy_disp, yy_hputf] at h ⊢
    split at h
    · split at h
      · split at h
        · split at h
          · split at h
            · rename_i ω' hp
              cases h
              obtain ⟨ω2', q1, q2⟩ := yy_put_lk hag hp
              try simp only [q1]
              exact ⟨ω2', rfl, q2⟩
            · cases h
          · cases h
        · cases h
      · cases h
    · cases h
  case iaload =>
    simp only [yy_disp, yy_hiald] at h ⊢
    split at h
    · split at h
      · rename_i hb
        split at h
        · rename_i hP
          split at h
          · rename_i hx
            cases h
            try simp only [hb, hP, hx]
            exact ⟨ω2, rfl, hag⟩
          · cases h
        · cases h
      · rename_i hb
        split at h
        · rename_i hG
          split at h
          · rename_i hx
            cases h
            try simp only [hb, hG, hx]
            refine ⟨ω2, ?_, hag⟩
            rw [(hag _ _ (hr (yy_ix_0 hx))).1]
            rfl
          · cases h
        · cases h
    · cases h
  case baload =>
    simp only [yy_disp, yy_hbald] at h ⊢
    split at h
    · split at h
      · rename_i hb
        split at h
        · rename_i hx
          cases h
          try simp only [hb, hx]
          exact ⟨ω2, rfl, hag⟩
        · cases h
      · rename_i hb
        split at h
        · rename_i hG
          split at h
          · split at h
            · rename_i hx
              cases h
              try simp only [hb, hG, hx]
              rw [Bool.and_eq_true] at hx
              refine ⟨ω2, ?_, hag⟩
              rw [(hag _ _ (hr (yy_ix_0 hx.2))).1]
              rfl
            · cases h
          · split at h
            · rename_i hx
              cases h
              try simp only [hb, hG, hx]
              rw [Bool.and_eq_true] at hx
              refine ⟨ω2, ?_, hag⟩
              rw [(hag _ _ (hr (yy_ix_0 hx.2))).1]
              rfl
            · cases h
          · cases h
        · cases h
    · cases h
  case laload =>
    simp only [yy_disp, yy_hlald] at h ⊢
    split at h
    · split at h
      · rename_i hb
        split at h
        · rename_i hx
          cases h
          try simp only [hb, hx]
          exact ⟨ω2, rfl, hag⟩
        · cases h
      · rename_i hb
        split at h
        · rename_i hG
          split at h
          · rename_i hx
            cases h
            try simp only [hb, hG, hx]
            refine ⟨ω2, ?_, hag⟩
            rw [(hag _ _ (hr (yy_ix_0 hx))).2]
            rfl
          · cases h
        · cases h
    · cases h
  case iastore =>
    simp only [yy_disp, yy_hiast] at h ⊢
    split at h
    · split at h
      · rename_i hG
        split at h
        · rename_i hx
          cases h
          try simp only [hG, hx]
          exact ⟨_, rfl, yy_ag_uI hag _ _ _⟩
        · cases h
      · cases h
    · cases h
  case bastore =>
    simp only [yy_disp, yy_hbast] at h ⊢
    split at h
    · split at h
      · rename_i hG
        split at h
        · split at h
          · rename_i hx
            cases h
            try simp only [hG, hx]
            exact ⟨_, rfl, yy_ag_uI hag _ _ _⟩
          · cases h
        · split at h
          · rename_i hx
            cases h
            try simp only [hG, hx]
            exact ⟨_, rfl, yy_ag_uI hag _ _ _⟩
          · cases h
        · cases h
      · cases h
    · cases h
  case lastore =>
    simp only [yy_disp, yy_hlast] at h ⊢
    split at h
    · split at h
      · rename_i hG
        split at h
        · rename_i hx
          cases h
          try simp only [hG, hx]
          exact ⟨_, rfl, yy_ag_uL hag _ _ _⟩
        · cases h
      · cases h
    · cases h
  case invokestatic idx =>
    simp only [yy_disp, yy_hstat] at h ⊢
    split at h
    · split at h
      · rename_i hp
        cases h
        try simp only [hp]
        rfl
      · cases h
    · rename_i tl9
      have hR : ∀ k j, R k j := hr
      have e9 : ω2 = ω := by
        apply Prod.ext
        · funext k j
          exact ((hag k j (hR k j)).1).symm
        · funext k j
          exact ((hag k j (hR k j)).2).symm
      rw [e9]
      rw [h]
      obtain ⟨pc, ls', st', ω'⟩ | q := r
      · exact ⟨ω', rfl, fun _ _ _ => ⟨rfl, rfl⟩⟩
      · rfl
    · split at h
      · split at h
        · rename_i hq
          cases h
          try simp only [hq]
          exact ⟨ω2, rfl, hag⟩
        · cases h
      · cases h
    · split at h
      · split at h
        · rename_i hq
          try simp only [hq]
          split at h
          · cases h
            exact ⟨ω2, rfl, hag⟩
          · cases h
            exact ⟨ω2, rfl, hag⟩
          · cases h
        · cases h
      · cases h
    · cases h
  all_goals
    simp only [yy_disp, yy_none, yy_hp, yy_hldc, yy_hldc2, yy_hil, yy_hll, yy_hal, yy_his, yy_hls, yy_has, yy_hinc, yy_h2, yy_hdv, yy_h1, yy_hl2, yy_hlsh, yy_hlcmp, yy_hi2l, yy_hl2i, yy_hdup, yy_hpop, yy_hdup2, yy_hgets, yy_haald, yy_hlen, yy_hgoto, yy_hif, yy_hicmp, yy_htab, yy_hlook, yy_hiret, yy_hlret, yy_hvret, yy_hvirt, yy_nx, yy_to] at h ⊢
    first
    | (cases h; done)
    | (cases h; exact ⟨ω2, rfl, hag⟩)
    | (repeat' (split at h)
       all_goals first
         | (cases h; done)
         | (cases h; exact ⟨ω2, rfl, hag⟩)
         | (cases h; rfl)
         | (cases h; simp only [*]; exact ⟨ω2, rfl, hag⟩)
         | (cases h; simp only [*]; rfl))
theorem yy_tr_lock {T : List xx_M} {G : List yy_D} {kee : Nat → Int64} {R : Nat → Nat → Prop} : ∀ {n : Nat} {scr : Option (Nat × (Nat → Int32))} {d : Nat} {M : xx_M} {pc : Nat} {ls : yy_L} {st : List yy_U} {ω ω2 : yy_O} {v : Option yy_U} {ω' : yy_O}, yy_tr T G kee R n scr d M pc ls st ω v ω' → yy_ag R ω ω2 → ∃ ω2', yy_tr T G kee R n scr d M pc ls st ω2 v ω2' ∧ yy_ag R ω' ω2'
  | 0, _, _, _, _, _, _, _, _, _, _, h, _ => h.elim
  | n + 1, scr, d, M, pc, ls, st, ω, ω2, v, ω', h, hag => by
    simp only [yy_tr] at h
    obtain ⟨e, he, hr, h⟩ := h
    rcases h with ⟨pc1, ls1, st1, ω1, h1, h2⟩ | ⟨h1, h2⟩ | ⟨t, args, rest, M', d', v1, ω1, h0, h1, h2, h3, h4, h5⟩
    · obtain ⟨ω3, k1, k2⟩ := yy_lock hag hr h1
      obtain ⟨ω4, k3, k4⟩ := yy_tr_lock h2 k2
      exact ⟨ω4, by unfold yy_tr; exact ⟨e, he, hr, Or.inl ⟨pc1, ls1, st1, ω3, k1, k3⟩⟩, k4⟩
    · have k1 := yy_lock hag hr h1
      subst h2
      exact ⟨ω2, by unfold yy_tr; exact ⟨e, he, hr, Or.inr (Or.inl ⟨k1, rfl⟩)⟩, hag⟩
    · have k1 := yy_lock hag hr h1
      obtain ⟨ω3, k2, k3⟩ := yy_tr_lock h4 hag
      obtain ⟨ω4, k4, k5⟩ := yy_tr_lock h5 k3
      exact ⟨ω4, by unfold yy_tr; exact ⟨e, he, hr, Or.inr (Or.inr ⟨t, args, rest, M', d', v1, ω3, h0, k1, h2, h3, k2, k4⟩)⟩, k5⟩
theorem yy_tr_fun {T : List xx_M} {G : List yy_D} {kee : Nat → Int64} {R R' : Nat → Nat → Prop} {n n' : Nat} {scr : Option (Nat × (Nat → Int32))} {d : Nat} {M : xx_M} {pc : Nat} {ls : yy_L} {st : List yy_U} {ω : yy_O} {v v' : Option yy_U} {ω1 ω2 : yy_O} (h : yy_tr T G kee R n scr d M pc ls st ω v ω1) (h' : yy_tr T G kee R' n' scr d M pc ls st ω v' ω2) : v = v' ∧ ω1 = ω2 := by
  have g := yy_run_mono n (n + n') scr d d M pc ls st ω _ (by omega) (Nat.le_refl _) (yy_tr_run h)
  have g' := yy_run_mono n' (n + n') scr d d M pc ls st ω _ (by omega) (Nat.le_refl _) (yy_tr_run h')
  rw [g] at g'
  cases g'
  exact ⟨rfl, rfl⟩
