/-! every walk -/
def zz_HOK (E : zz_E) (Φ : zz_Ph) : Prop := ∀ i Z os, E.2.2.2.2.2.2 i = some (Z, os) → ∀ (σ : zz_P) (ω : yy_O) (lsC : yy_L) (stC : List yy_U), zz_ok E.2.2.1 Φ σ ω Z.1 Z.2.1 Z.2.2.1 Z.2.2.2.1 Z.2.2.2.2.1 Z.2.2.2.2.2 lsC stC → ∃ o ∈ os, ∃ σ', zz_ex σ σ' ∧ zz_ok E.2.2.1 Φ σ' ω o.1 o.2.1 o.2.2.1 o.2.2.2.1 o.2.2.2.2.1 o.2.2.2.2.2 lsC stC
theorem zz_go_inv {rec : zz_R} {E : zz_E} {lim : Nat} {M : xx_M} {X : zz_X} {kr : zz_KR} {ops : List Nat} {pc : Nat} {e : xx_I} {tl : List xx_I} {cs : zz_C} {nL : Nat} {ca : zz_A} {fl : zz_B} {ls : zz_L} {st : List zz_V} (h : zz_go rec E lim M X kr ops pc e tl cs nL ca fl ls st = true) : zz_rdk X.2.2.1 cs e.2.1 ops st = true ∧ (match zz_disp e.2.1 with
    | .inl h => h E M ops X.2.2.1 X.2.1 cs nL ca fl ls st (zz_nx rec M X kr (pc + e.2.2.1) tl)
    | .inr w => w rec E lim M X kr ops pc e tl cs nL ca fl ls st) = true := by
  unfold zz_go at h
  split at h
  · rename_i hr
    exact ⟨hr, h⟩
  · cases h
def zz_Snd (E : zz_E) (Φ : zz_Ph) (kee : Nat → Int64) (lim n : Nat) : Prop := ∀ (M : xx_M) (X : zz_X) (sk : Bool) (kr : zz_KR) (pc : Nat) (cur : List xx_I) (cs : zz_C) (nL : Nat) (ca : zz_A) (fl : zz_B) (ls : zz_L) (st : List zz_V) (ρ ρs ρ0 : zz_P) (ω ω0 : yy_O) (lsC : yy_L) (stC : List yy_U) (scr : Option (Nat × (Nat → Int32))) (Q : Option yy_U → yy_O → Prop),
  zz_exec E lim n M X sk kr pc cur cs nL ca fl ls st = true → zz_rows M = true → cur <:+ M.2.2.2.2.2 → zz_scm X.2.1 scr ρs X.2.2.1 ω0 → zz_ok E.2.2.1 Φ ρ ω cs nL ca fl ls st lsC stC → zz_fr X.2.2.1 ω0 ω → zz_ex ρs ρ →
  (X.2.2.2.1 = [] ∨ zz_bm ρ0 X.2.2.2.2.2.2.1.1 X.2.2.2.2.2.2.1.2 ρ0 ∧ zz_ex ρ0 ρs) → (X.2.2.2.2.1 = [] ∨ zz_bm ρs X.2.2.2.2.2.2.2.1 X.2.2.2.2.2.2.2.2 ρs) → (∀ s, X.2.2.2.2.2.1 = some s → ∀ p ∈ s, ∃ x, zz_val ρs p.2 = some (.inl x)) →
  (∀ (ρ' : zz_P) (cs' : zz_C) (nL' : Nat) (ca' : zz_A) (fl' : zz_B) (rs : List zz_V) (v : Option yy_U) (ω' : yy_O), kr cs' nL' ca' fl' rs = true → zz_ex ρs ρ' → zz_ok E.2.2.1 Φ ρ' ω' cs' nL' ca' fl' [] rs [] v.toList → zz_fr X.2.2.1 ω0 ω' → Q v ω') →
  (∀ (p : Nat) (Z : zz_Z) (q : zz_Q), (p, (Z, q)) ∈ X.2.2.2.1 → ∀ (σ : zz_P) (lsC' : yy_L) (stC' : List yy_U) (ω' : yy_O), zz_ok E.2.2.1 Φ σ ω' Z.1 Z.2.1 Z.2.2.1 Z.2.2.2.1 Z.2.2.2.2.1 Z.2.2.2.2.2 lsC' stC' → zz_ex ρ0 σ → zz_fr X.2.2.1 ω0 ω' → (∀ s, X.2.2.2.2.2.1 = some s → zz_mu σ q < zz_mu ρs s) → zz_wp E.1 E.2.1 kee (zz_rd X.2.2.1) scr X.1 M p lsC' stC' ω' Q) →
  zz_wp E.1 E.2.1 kee (zz_rd X.2.2.1) scr X.1 M pc lsC stC ω Q
theorem zz_args_eq {β : Type} : ∀ (vs : List zz_V) (i : Nat) (k : zz_L → β), zz_args i vs k = k ((zz_args i vs (fun l => l)))
  | [], _, _ => rfl
  | v :: vs, i, k => by
    simp only [zz_args, xx_fN_eq]
    rw [zz_args_eq vs, zz_args_eq vs (i + zz_cat v) (fun l => (i, v) :: l)]
theorem zz_arg_lsm {ρ : zz_P} : ∀ {vs : List zz_V} {as : List yy_U} {i : Nat}, zz_stm ρ vs as → zz_lsm ρ (zz_args i vs (fun l => l)) (yy_arg i as)
  | [], as, i, h => by
    have := zz_stm_nil h
    subst this
    intro j v hj
    cases hj
  | v :: vs, as, i, h => by
    obtain ⟨u, us, rfl, h1, h2⟩ := zz_stm_inv h
    simp only [zz_args, xx_fN_eq]
    rw [zz_args_eq]
    have ih := zz_arg_lsm (i := i + zz_cat v) h2
    have hcat := (zz_cat_val h1).1
    intro j w hj
    simp only [zz_get] at hj
    simp only [yy_arg, yy_get]
    split at hj
    · rename_i hb
      cases hj
      rw [hb]
      exact ⟨u, h1, rfl⟩
    · rename_i hb
      rw [hb, hcat]
      exact ih j w hj
theorem zz_pop_ok {ρ : zz_P} : ∀ {n : Nat} {a st x r : List zz_V} {aC stC : List yy_U}, zz_pop n a st = some (x, r) → zz_stm ρ a aC → zz_stm ρ st stC → ∃ xC rC, yy_pop n aC stC = some (xC, rC) ∧ zz_stm ρ x xC ∧ zz_stm ρ r rC
  | 0, a, st, x, r, aC, stC, h, h1, h2 => by
    cases h
    exact ⟨aC, stC, rfl, h1, h2⟩
  | n + 1, a, v :: st, x, r, aC, stC, h, h1, h2 => by
    obtain ⟨u, us, rfl, g1, g2⟩ := zz_stm_inv h2
    simp only [zz_pop] at h
    simp only [yy_pop]
    exact zz_pop_ok h (zz_stm_cons g1 h1) g2
  | n + 1, a, [], x, r, aC, stC, h, _, _ => by cases h
theorem zz_sum_ok {ρ : zz_P} : ∀ {st : List zz_V} {stC : List yy_U}, zz_stm ρ st stC → yy_sum stC = zz_sum st
  | [], stC, h => by
    have := zz_stm_nil h
    subst this
    rfl
  | v :: st, stC, h => by
    obtain ⟨u, us, rfl, g1, g2⟩ := zz_stm_inv h
    show yy_cat u + yy_sum us = zz_cat v + zz_sum st
    rw [(zz_cat_val g1).1, zz_sum_ok g2]
theorem zz_fit_ok {ρ : zz_P} {M' : xx_M} {args rest : List zz_V} {as rs : List yy_U} (h : zz_fit M' args rest = true) (h1 : zz_stm ρ args as) (h2 : zz_stm ρ rest rs) : yy_fit M' as rs = true := by
  unfold zz_fit at h
  unfold yy_fit
  rw [zz_sum_ok h1, zz_sum_ok h2]
  exact h
theorem zz_stm_app {ρ : zz_P} {a b : List zz_V} {x y : List yy_U} (h1 : zz_stm ρ a x) (h2 : zz_stm ρ b y) : zz_stm ρ (a ++ b) (x ++ y) := by
  unfold zz_stm at *
  rw [List.map_append, List.map_append, h1, h2]
theorem zz_all_ok {f : zz_Z → Bool} : ∀ {os : List zz_Z}, zz_all f os = true → ∀ o ∈ os, f o = true
  | [], _, o, h => by cases h
  | a :: r, h, o, ho => by
    simp only [zz_all, Bool.and_eq_true] at h
    rcases List.mem_cons.mp ho with e | e
    · subst e
      exact h.1
    · exact zz_all_ok h.2 o e
theorem zz_scm_ex {sc : Bool} {scr : Option (Nat × (Nat → Int32))} {ρ ρ' : zz_P} {D : zz_D} {ω0 : yy_O} (h : zz_scm sc scr ρ D ω0) (he : zz_ex ρ ρ') : zz_scm sc scr ρ' D ω0 := fun hs => by
  obtain ⟨L, xs, a, b, c, e⟩ := h hs
  exact ⟨L, xs, a, b, zz_pre he.1 c, e⟩
set_option maxHeartbeats 4000000 in
theorem zz_sound {E : zz_E} {Φ : zz_Ph} {kee : Nat → Int64} {lim : Nat} (hE : zz_env E Φ) (hH : zz_HOK E Φ) (hR : ∀ M ∈ E.1, zz_rows M = true) (hK : ∀ i K, i < lim → E.2.2.2.2.1[i]? = some K → zz_KOK E Φ kee K) : ∀ n, zz_Snd E Φ kee lim n := by
  intro n
  induction n with
  | zero =>
    intro M X sk kr pc cur cs nL ca fl ls st ρ ρs ρ0 ω ω0 lsC stC scr Q h
    cases h
  | succ n IH =>
    intro M X sk kr pc cur cs nL ca fl ls st ρ ρs ρ0 ω ω0 lsC stC scr Q h hM hcur hsc ho hf hex h0 hI hrk KR KC
    simp only [zz_exec, zz_row] at h
    split at h
    · cases h
    · rename_i e tl
      split at h
      · cases h
      · rename_i hpc
        have hpc := Nat.eq_of_beq_eq_true hpc
        subst hpc
        revert h
        have hM2 := hM
        unfold zz_rows at hM2
        rw [Bool.and_eq_true] at hM2
        have hat0 := zz_at_suf hM2.1 hcur
        have hmem : e ∈ M.2.2.2.2.2 := hcur.subset List.mem_cons_self
        have htl : tl <:+ M.2.2.2.2.2 := (List.suffix_cons e tl).trans hcur
        have hfb : ∀ ci f q m, xx_ops e.2.2.2 = [ci, f, q, m] → f < 1000000 := by
          intro ci f q m hq
          have := List.all_eq_true.mp hM2.2 e hmem
          rw [hq] at this
          exact xx_blt this
        have hsc' : zz_scm X.2.1 scr ρ X.2.2.1 ω0 := zz_scm_ex hsc hex
        -- going on
        have go : ∀ {pc' : Nat} {cur' : List xx_I} {sk' : Bool} {cs' : zz_C} {nL' : Nat} {ca' : zz_A} {fl' : zz_B} {ls' : zz_L} {st' : List zz_V} {ρ' : zz_P} {ω' : yy_O} {lsC' : yy_L} {stC' : List yy_U}, zz_exec E lim n M X sk' kr pc' cur' cs' nL' ca' fl' ls' st' = true → cur' <:+ M.2.2.2.2.2 → zz_ok E.2.2.1 Φ ρ' ω' cs' nL' ca' fl' ls' st' lsC' stC' → zz_fr X.2.2.1 ω0 ω' → zz_ex ρs ρ' → zz_wp E.1 E.2.1 kee (zz_rd X.2.2.1) scr X.1 M pc' lsC' stC' ω' Q :=
          fun h1 h2 h3 h4 h5 => IH M X _ kr _ _ _ _ _ _ _ _ _ ρs ρ0 _ ω0 _ _ scr Q h1 hM h2 hsc h3 h4 h5 h0 hI hrk KR KC
        have nx : ∀ {pc' : Nat} {cs' : zz_C} {nL' : Nat} {ca' : zz_A} {fl' : zz_B} {ls' : zz_L} {st' : List zz_V} {ρ' : zz_P} {ω' : yy_O} {lsC' : yy_L} {stC' : List yy_U}, zz_nx (zz_exec E lim n) M X kr pc' tl cs' nL' ca' fl' ls' st' = true → zz_ok E.2.2.1 Φ ρ' ω' cs' nL' ca' fl' ls' st' lsC' stC' → zz_fr X.2.2.1 ω0 ω' → zz_ex ρs ρ' → zz_wp E.1 E.2.1 kee (zz_rd X.2.2.1) scr X.1 M pc' lsC' stC' ω' Q := by
          intro pc' cs' nL' ca' fl' ls' st' ρ' ω' lsC' stC' h1 h3 h4 h5
          simp only [zz_nx, xx_fN_eq] at h1
          exact go h1 htl h3 h4 h5
        have far : ∀ {t : Int} {cs' : zz_C} {st' : List zz_V} {stC' : List yy_U}, zz_to (zz_exec E lim n) M X kr t cs' nL ca fl ls st' = true → zz_csm ρ cs' → zz_stm ρ st' stC' → ∃ tgt : Nat, t = (tgt : Int) ∧ zz_wp E.1 E.2.1 kee (zz_rd X.2.2.1) scr X.1 M tgt lsC stC' ω Q := by
          intro t cs' st' stC' h1 h2 h3
          cases t with
          | ofNat tg =>
            simp only [zz_to, xx_fN_eq] at h1
            exact ⟨tg, rfl, go h1 (zz_from_suf _ _) ⟨h2, ho.2.1, ho.2.2.1, ho.2.2.2.1, ho.2.2.2.2.1, ho.2.2.2.2.2.1, h3⟩ hf hex⟩
          | negSucc tg => cases h1
        have nxt : ∀ {cs' : zz_C} {st' : List zz_V} {stC' : List yy_U} {pc' : Nat}, zz_nx (zz_exec E lim n) M X kr pc' tl cs' nL ca fl ls st' = true → zz_csm ρ cs' → zz_stm ρ st' stC' → zz_wp E.1 E.2.1 kee (zz_rd X.2.2.1) scr X.1 M pc' lsC stC' ω Q :=
          fun h1 h2 h3 => nx h1 ⟨h2, ho.2.1, ho.2.2.1, ho.2.2.2.1, ho.2.2.2.2.1, ho.2.2.2.2.2.1, h3⟩ hf hex
        -- a call
        have call : ∀ {t : Nat} {args rest : List zz_V} {as rs : List yy_U}, (yy_at M.2.2.2.2.2 e.1 = some e ∧ yy_rok (zz_rd X.2.2.1) e.2.1 (xx_ops e.2.2.2) stC) → zz_call (zz_exec E lim n) E lim M X kr t e.1 tl args rest cs nL ca fl ls = true → zz_stm ρ args as → zz_stm ρ rest rs → (∀ d', yy_step (E.2.1, (scr, kee)) M d' e lsC stC ω = some (.inr (.inl (t, (as, rs))))) → zz_wp E.1 E.2.1 kee (zz_rd X.2.2.1) scr X.1 M e.1 lsC stC ω Q := by
          intro t args rest as rs hat h1 h2 h3 hs
          simp only [zz_call] at h1
          split at h1
          · rename_i M' hM'
            split at h1
            · rename_i hfit
              have hfit' := zz_fit_ok hfit h2 h3
              split at h1
              · cases h1
              · rename_i d' hd
                have hd : X.1 = d' + 1 := hd
                rw [hd]
                split at h1
                · -- walked
                  rename_i hcand
                  rw [zz_args_eq] at h1
                  refine zz_wp_call (Q' := fun v ω' => zz_wp E.1 E.2.1 kee (zz_rd X.2.2.1) scr (d' + 1) M (e.1 + 3) lsC (v.toList ++ rs) ω' Q) hat (hs _) hM' hfit' ?_ (fun v ω' hv => hv)
                  refine IH M' _ false _ 0 M'.2.2.2.2.2 cs nL ca fl _ [] ρ ρ ρ0 ω ω0 (yy_arg 0 as) [] none _ h1 (hR M' (List.mem_of_getElem? hM')) List.suffix_rfl (fun h9 => by cases h9) ⟨ho.1, ho.2.1, ho.2.2.1, ho.2.2.2.1, ho.2.2.2.2.1, zz_arg_lsm h2, rfl⟩ hf (zz_ex_rf ρ) (Or.inl rfl) (Or.inl rfl) (fun s h9 => by cases h9) ?_ (fun p Z q h9 => by cases h9)
                  intro ρ' cs' nL' ca' fl' rv v ω' hk hex' hok hfr
                  rw [← hd]
                  exact nx hk ⟨hok.1, hok.2.1, hok.2.2.1, hok.2.2.2.1, hok.2.2.2.2.1, zz_lsm_ex hex' ho.2.2.2.2.2.1, zz_stm_app hok.2.2.2.2.2.2 (zz_stm_ex hex' h3)⟩ hfr (zz_ex_tr hex hex')
                · -- by a contract
                  rename_i i is hcand
                  obtain ⟨M9, hM9, hwp⟩ := zz_use_ok (lsC := lsC) (stC := stC) (ls := ls) (st := st) hE hK ho hf h2 h1
                  rw [hM'] at hM9
                  cases hM9
                  refine zz_wp_call hat (hs _) hM' hfit' hwp (fun v ω' hv => ?_)
                  obtain ⟨ρ', cs', nL', ca', fl', rv, q1, q2, q3, q4⟩ := hv
                  rw [← hd]
                  exact nx q4 ⟨q2.1, q2.2.1, q2.2.2.1, q2.2.2.2.1, q2.2.2.2.2.1, q2.2.2.2.2.2.1, zz_stm_app q2.2.2.2.2.2.2 (zz_stm_ex q1 h3)⟩ q3 (zz_ex_tr hex q1)
            · cases h1
          · cases h1
        have main : zz_go (zz_exec E lim n) E lim M X kr (xx_ops e.2.2.2) e.1 e tl cs nL ca fl ls st = true → zz_wp E.1 E.2.1 kee (zz_rd X.2.2.1) scr X.1 M e.1 lsC stC ω Q := by
          intro h
          replace h := zz_go_inv h
          obtain ⟨hrd9, h⟩ := h
          have hat : yy_at M.2.2.2.2.2 e.1 = some e ∧ yy_rok (zz_rd X.2.2.1) e.2.1 (xx_ops e.2.2.2) stC := ⟨hat0, zz_rdk_ok ho hrd9⟩
          clear hrd9
          obtain ⟨epc, i, len, ops0⟩ := e
          split at h
          · rename_i hd9 hdisp
            obtain ⟨lsC', stC', ω', ρ', cs', nL', ca', fl', ls', st', z1, z2, z3, z4, z5⟩ := zz_inl_ok (P := (E.2.1, (scr, kee))) (d := X.1) (pc := epc) (len := len) hE hfb rfl hsc' ho hf hdisp h
            exact zz_wp_next hat z1 (nx z2 z4 z5 (zz_ex_tr hex z3))
          · rename_i wd hdisp
            cases i
            case goto off =>
              cases hdisp
              obtain ⟨tgt, ht, hgo⟩ := far h ho.1 ho.2.2.2.2.2.2
              refine zz_wp_next hat ?_ hgo
              show yy_to _ lsC stC ω = _
              rw [ht]
              rfl
            case ifCond cnd off =>
              cases hdisp
              simp only [zz_kif] at h
              split at h
              · rename_i a rest
                obtain ⟨u, s1, rfl, hu, hs1⟩ := zz_stm_inv ho.2.2.2.2.2.2
                obtain ⟨x, y, rfl, e2, k1, k2⟩ := zz_br_ok ho.1 (zz_nrm_ok ho.1 hu) (show zz_val ρ (.inl 0) = some (.inl (Int32.ofInt 0)) from rfl) h
                cases e2
                have z0 : (Int32.ofInt 0).toInt = 0 := by decide +kernel
                rw [z0] at k1 k2
                cases hr : yy_rel cnd x.toInt 0 with
                | true =>
                  obtain ⟨cs', g1, g2⟩ := k1 (yy_rel_ok.1 hr)
                  obtain ⟨tgt, ht, hgo⟩ := far g2 g1 hs1
                  refine zz_wp_next hat ?_ hgo
                  show yy_hif cnd off (E.2.1, (scr, kee)) M X.1 epc len (xx_ops ops0) lsC (.inl x :: s1) ω = _
                  simp only [yy_hif, hr]
                  rw [ht]
                  rfl
                | false =>
                  obtain ⟨cs', g1, g2⟩ := k2 (yy_rel_ok.2 hr)
                  refine zz_wp_next hat ?_ (nxt g2 g1 hs1)
                  show yy_hif cnd off (E.2.1, (scr, kee)) M X.1 epc len (xx_ops ops0) lsC (.inl x :: s1) ω = _
                  simp only [yy_hif, hr]
                  rfl
              · cases h
            case if_icmp cnd off =>
              cases hdisp
              simp only [zz_kicmp] at h
              split at h
              · rename_i b a rest
                obtain ⟨u, s0, rfl, hu, hs0⟩ := zz_stm_inv ho.2.2.2.2.2.2
                obtain ⟨w, s1, rfl, hw, hs1⟩ := zz_stm_inv hs0
                obtain ⟨x, y, rfl, rfl, k1, k2⟩ := zz_br_ok ho.1 (zz_nrm_ok ho.1 hw) (zz_nrm_ok ho.1 hu) h
                cases hr : yy_rel cnd x.toInt y.toInt with
                | true =>
                  obtain ⟨cs', g1, g2⟩ := k1 (yy_rel_ok.1 hr)
                  obtain ⟨tgt, ht, hgo⟩ := far g2 g1 hs1
                  refine zz_wp_next hat ?_ hgo
                  show yy_hicmp cnd off (E.2.1, (scr, kee)) M X.1 epc len (xx_ops ops0) lsC (.inl y :: .inl x :: s1) ω = _
                  simp only [yy_hicmp, hr]
                  rw [ht]
                  rfl
                | false =>
                  obtain ⟨cs', g1, g2⟩ := k2 (yy_rel_ok.2 hr)
                  refine zz_wp_next hat ?_ (nxt g2 g1 hs1)
                  show yy_hicmp cnd off (E.2.1, (scr, kee)) M X.1 epc len (xx_ops ops0) lsC (.inl y :: .inl x :: s1) ω = _
                  simp only [yy_hicmp, hr]
                  rfl
              · cases h
            case tableswitch dd lo hi offs =>
              cases hdisp
              simp only [zz_ktab] at h
              split at h
              · rename_i v rest
                obtain ⟨u, s1, rfl, hu, hs1⟩ := zz_stm_inv ho.2.2.2.2.2.2
                split at h
                · rename_i r hr
                  have hn := zz_nrm_ok ho.1 hu
                  obtain ⟨x, rfl⟩ := zz_isI_val hn (zz_iv_isI hr)
                  split at h
                  · rename_i hc
                    rw [Bool.and_eq_true, xx_eqI_iff] at hc
                    obtain ⟨cs', g1, g2⟩ := zz_sw_ok ho.1 hr hn _ _ hc.1 (xx_rng _).1 h
                    obtain ⟨tgt, ht, hgo⟩ := far g2 g1 hs1
                    refine zz_wp_next hat ?_ hgo
                    show yy_htab dd lo hi offs (E.2.1, (scr, kee)) M X.1 epc len (xx_ops ops0) lsC (.inl x :: s1) ω = _
                    simp only [yy_htab]
                    by_cases hlt : x.toInt < lo ∨ hi < x.toInt
                    · rw [decide_eq_true hlt]
                      have hoff := xx_prs_off (d := dd) (x := x.toInt) offs.toList lo (fun j hj => by have := hj.1; have := hj.2; have := hc.2; omega)
                      rw [hoff] at ht
                      rw [ht]
                      rfl
                    · rw [decide_eq_false hlt]
                      have h9 : ¬ x.toInt < lo := fun q => hlt (Or.inl q)
                      have h8 : ¬ hi < x.toInt := fun q => hlt (Or.inr q)
                      have hj : (x.toInt - lo).toNat < offs.toList.length := by have := hc.2; omega
                      have hat9 : offs.toList[(x.toInt - lo).toNat]? = some (offs.toList[(x.toInt - lo).toNat]) := List.getElem?_eq_getElem hj
                      have hoff := xx_prs_at (d := dd) (x := x.toInt) offs.toList lo _ _ hat9 (by omega)
                      rw [hoff] at ht
                      rw [Array.getElem?_toList] at hat9
                      simp only [hat9]
                      rw [ht]
                      rfl
                  · cases h
                · cases h
              · cases h
            case lookupswitch dd ps =>
              cases hdisp
              simp only [zz_klook] at h
              split at h
              · rename_i v rest
                obtain ⟨u, s1, rfl, hu, hs1⟩ := zz_stm_inv ho.2.2.2.2.2.2
                split at h
                · rename_i r hr
                  have hn := zz_nrm_ok ho.1 hu
                  obtain ⟨x, rfl⟩ := zz_isI_val hn (zz_iv_isI hr)
                  split at h
                  · rename_i hc
                    obtain ⟨cs', g1, g2⟩ := zz_sw_ok ho.1 hr hn _ _ hc (xx_rng _).1 h
                    obtain ⟨tgt, ht, hgo⟩ := far g2 g1 hs1
                    refine zz_wp_next hat ?_ hgo
                    show yy_hlook dd ps (E.2.1, (scr, kee)) M X.1 epc len (xx_ops ops0) lsC (.inl x :: s1) ω = _
                    simp only [yy_hlook]
                    rw [ht]
                    rfl
                  · cases h
                · cases h
              · cases h
            case ireturn =>
              cases hdisp
              simp only [zz_kiret] at h
              split at h
              · rename_i v
                obtain ⟨u, s1, rfl, hu, hs1⟩ := zz_stm_inv ho.2.2.2.2.2.2
                have := zz_stm_nil hs1
                subst this
                split at h
                · rename_i hty
                  rw [zz_fV_eq] at h
                  have hn := zz_nrm_ok ho.1 hu
                  have fin : ∀ x : Int32, u = .inl x → yy_step (E.2.1, (scr, kee)) M X.1 (epc, (.ireturn, (len, ops0))) lsC [u] ω = some (.inr (.inr (some u))) → zz_wp E.1 E.2.1 kee (zz_rd X.2.2.1) scr X.1 M epc lsC [u] ω Q := fun x hx hs => zz_wp_ret hat hs (KR ρ cs nL ca fl [zz_nrm cs v] (some u) ω h hex ⟨ho.1, ho.2.1, ho.2.2.1, ho.2.2.2.1, ho.2.2.2.2.1, (fun i v h9 => by cases h9), zz_stm_cons hn rfl⟩ hf)
                  split at hty
                  · rename_i ht
                    obtain ⟨x, rfl⟩ := zz_isI_val hu hty
                    refine fin x rfl ?_
                    show yy_hiret (E.2.1, (scr, kee)) M X.1 epc len (xx_ops ops0) lsC [.inl x] ω = _
                    simp only [yy_hiret, ht]
                  · rename_i ht
                    obtain ⟨x, rfl, b1, b2⟩ := zz_in_ok ho.1 hty hu
                    refine fin x rfl ?_
                    have hx01 : x = 0 ∨ x = 1 := by
                      have b1 : (0 : Int) ≤ x.toInt := b1
                      have b2 : x.toInt ≤ 1 := b2
                      have : x.toInt = 0 ∨ x.toInt = 1 := by omega
                      rcases this with h9 | h9
                      · exact Or.inl (Int32.toInt_inj.mp h9)
                      · exact Or.inr (Int32.toInt_inj.mp h9)
                    show yy_hiret (E.2.1, (scr, kee)) M X.1 epc len (xx_ops ops0) lsC [.inl x] ω = _
                    simp only [yy_hiret, ht, decide_eq_true hx01]
                  · rename_i ht
                    obtain ⟨x, rfl, b1, b2⟩ := zz_in_ok ho.1 hty hu
                    refine fin x rfl ?_
                    have b1 : (0 : Int) ≤ x.toInt := b1
                    have b2 : x.toInt ≤ 255 := b2
                    have hx : x = x &&& 255 := by
                      have hn9 := zz_nat (x := x) b1
                      apply Int32.toBitVec_inj.mp
                      rw [Int32.toBitVec_and]
                      apply BitVec.eq_of_toNat_eq
                      rw [BitVec.toNat_and]
                      have : (255 : Int32).toBitVec.toNat = 2 ^ 8 - 1 := by decide +kernel
                      rw [this, Nat.and_two_pow_sub_one_eq_mod, Nat.mod_eq_of_lt (by omega)]
                    show yy_hiret (E.2.1, (scr, kee)) M X.1 epc len (xx_ops ops0) lsC [.inl x] ω = _
                    simp only [yy_hiret, ht]
                    rw [decide_eq_true hx]
                  · rename_i ht
                    obtain ⟨x, rfl, b1, b2⟩ := zz_in_ok ho.1 hty hu
                    refine fin x rfl ?_
                    have b1 : (-128 : Int) ≤ x.toInt := b1
                    have b2 : x.toInt ≤ 127 := b2
                    have hx : x = x.toInt8.toInt32 := by
                      rw [← Int32.toInt_inj, Int8.toInt_toInt32, Int32.toInt_toInt8]
                      rw [Int.bmod_eq_of_le (by omega) (by omega)]
                    show yy_hiret (E.2.1, (scr, kee)) M X.1 epc len (xx_ops ops0) lsC [.inl x] ω = _
                    simp only [yy_hiret, ht]
                    rw [decide_eq_true hx]
                  · cases hty
                · cases h
              · cases h
            case lreturn =>
              cases hdisp
              simp only [zz_klret] at h
              split at h
              · rename_i v
                obtain ⟨u, s1, rfl, hu, hs1⟩ := zz_stm_inv ho.2.2.2.2.2.2
                have := zz_stm_nil hs1
                subst this
                split at h
                · rename_i ht
                  split at h
                  · rename_i hL
                    obtain ⟨x, rfl⟩ := zz_isL_val hu hL
                    refine zz_wp_ret (v := some (.inr (.inl x))) hat ?_ (KR ρ cs nL ca fl [v] _ ω h hex ⟨ho.1, ho.2.1, ho.2.2.1, ho.2.2.2.1, ho.2.2.2.2.1, (fun i v h9 => by cases h9), zz_stm_cons hu rfl⟩ hf)
                    show yy_hlret (E.2.1, (scr, kee)) M X.1 epc len (xx_ops ops0) lsC [.inr (.inl x)] ω = _
                    simp only [yy_hlret, ht]
                  · cases h
                · cases h
              · cases h
            case return_ =>
              cases hdisp
              simp only [zz_kvret] at h
              split at h
              · have := zz_stm_nil ho.2.2.2.2.2.2
                subst this
                split at h
                · rename_i ht
                  refine zz_wp_ret (v := none) hat ?_ (KR ρ cs nL ca fl [] none ω h hex ⟨ho.1, ho.2.1, ho.2.2.1, ho.2.2.2.1, ho.2.2.2.2.1, (fun i v h9 => by cases h9), rfl⟩ hf)
                  show yy_hvret (E.2.1, (scr, kee)) M X.1 epc len (xx_ops ops0) lsC [] ω = _
                  simp only [yy_hvret, ht]
                · cases h
              · cases h
            case aaload =>
              cases hdisp
              simp only [zz_kaald] at h
              split at h
              · rename_i ix rest
                split at h
                · rename_i q hq
                  split at h
                  · rename_i r hr
                    split at h
                    · rename_i nn hnn
                      have hnn := zz_sml_ok hnn
                      obtain ⟨u, s1, rfl, hu, hs1⟩ := zz_stm_inv ho.2.2.2.2.2.2
                      have hn := zz_nrm_ok ho.1 hu
                      rw [hq] at hn
                      obtain ⟨x, rfl⟩ := zz_isI_val hn rfl
                      obtain ⟨b1, b2, -, -⟩ := zz_iv_ok ho.1 hr hn
                      obtain ⟨cs', g1, g2⟩ := zz_upto_ok ho.1 hr hn (nn + 1) r.1 b1 (by omega) h
                      exact go g2 hcur ⟨g1, ho.2.1, ho.2.2.1, ho.2.2.2.1, ho.2.2.2.2.1, ho.2.2.2.2.2.1, ho.2.2.2.2.2.2⟩ hf hex
                    · cases h
                  · cases h
                · obtain ⟨lsC', stC', ω', ρ', cs', nL', ca', fl', ls', st', z1, z2, z3, z4, z5⟩ := zz_haald_ok (P := (E.2.1, (scr, kee))) (d := X.1) (pc := epc) (len := len) rfl ho hf h
                  exact zz_wp_next hat z1 (nx z2 z4 z5 (zz_ex_tr hex z3))
              · cases h
            case invokevirtual idx =>
              cases hdisp
              simp only [zz_kvirt] at h
              split at h
              · rename_i t nn ci tl9 hops
                split at h
                · rename_i args k rest hpop
                  split at h
                  · rename_i hisC
                    obtain ⟨xC, rC, p1, p2, p3⟩ := zz_pop_ok hpop (show zz_stm ρ [] [] from rfl) ho.2.2.2.2.2.2
                    obtain ⟨u, s1, rfl, hu, hs1⟩ := zz_stm_inv p3
                    cases hu
                    refine call hat h (zz_stm_cons rfl p2) hs1 (fun d' => ?_)
                    show yy_hvirt (E.2.1, (scr, kee)) M d' epc len (xx_ops ops0) lsC stC ω = _
                    have : yy_isC (E.2.1, (scr, kee)) k ci = true := hisC
                    simp only [yy_hvirt, hops, p1, this]
                  · cases h
                · cases h
              · cases h
            case invokestatic idx =>
              cases hdisp
              simp only [zz_kstat] at h
              split at h
              · rename_i t nn tl9 hops
                split at h
                · rename_i args rest hpop
                  obtain ⟨xC, rC, p1, p2, p3⟩ := zz_pop_ok hpop (show zz_stm ρ [] [] from rfl) ho.2.2.2.2.2.2
                  refine call hat h p2 p3 (fun d' => ?_)
                  show yy_hstat (E.2.1, (scr, kee)) M d' epc len (xx_ops ops0) lsC stC ω = _
                  simp only [yy_hstat, hops, p1]
                · cases h
              · rename_i tl9 hops
                split at h
                · rename_i n9 dp k1 sp k0 rest
                  obtain ⟨u1, s1, rfl, hu1, hs1⟩ := zz_stm_inv ho.2.2.2.2.2.2
                  obtain ⟨u2, s2, rfl, hu2, hs2⟩ := zz_stm_inv hs1
                  obtain ⟨u3, s3, rfl, hu3, hs3⟩ := zz_stm_inv hs2
                  obtain ⟨u4, s4, rfl, hu4, hs4⟩ := zz_stm_inv hs3
                  obtain ⟨u5, s5, rfl, hu5, hs5⟩ := zz_stm_inv hs4
                  cases hu3
                  cases hu5
                  split at h
                  · rename_i n0 rs0 hG0
                    split at h
                    · rename_i n1 rs1 hG1
                      split at h
                      · rename_i hq
                        simp only [Bool.and_eq_true, xx_le_iff] at hq
                        obtain ⟨c1, c2, c3, c4, c5, c6, c7, c8, c9, c10⟩ := hq
                        rw [zz_eqV_ok c1] at hu2
                        rw [zz_eqV_ok c2] at hu4
                        rw [zz_eqV_ok c3] at hu1
                        cases hu2
                        cases hu4
                        cases hu1
                        rw [zz_keep_eq, zz_dropD_eq] at h
                        have c5 := xx_blt c5
                        have e4 := Nat.eq_of_beq_eq_true c4
                        have hstep : yy_step (E.2.1, (scr, kee)) M X.1 (epc, (.invokestatic idx, (len, ops0))) lsC (.inl (Int32.ofInt (n0 : Int)) :: .inl (Int32.ofInt 0) :: .inr (.inr k1) :: .inl (Int32.ofInt 0) :: .inr (.inr k0) :: s5) ω = some (.inl (epc + len, (lsC, (s5, yy_uA ω k1 (fun j => if j < n0 then ω.1 k0 j else ω.1 k1 j))))) := by
                          show yy_hstat (E.2.1, (scr, kee)) M X.1 epc len (xx_ops ops0) lsC _ ω = _
                          have z1 : decide (Int32.ofInt 0 = 0) = true := by decide +kernel
                          have z2 : decide ((Int32.ofInt (n0 : Int)).toInt = (n0 : Int)) = true := decide_eq_true (zz_ofN n0 (by omega)).1
                          have z3 : Nat.ble (yy_sum s5) 8 = true := by rw [zz_sum_ok hs5]; exact c7
                          have z4 : Nat.blt n0 1000 = true := Nat.ble_eq_true_of_le c5
                          simp only [yy_hstat, hops, hG0, hG1, z1, z2, z3, z4, c4, c6, Bool.and_self]
                          rfl
                        have hch : ∀ q j, ¬ (q = k1 ∧ j < n0) → (yy_uA ω k1 (fun j => if j < n0 then ω.1 k0 j else ω.1 k1 j)).1 q j = ω.1 q j ∧ (yy_uA ω k1 (fun j => if j < n0 then ω.1 k0 j else ω.1 k1 j)).2 q j = ω.2 q j := by
                          intro q j hqj
                          refine ⟨?_, rfl⟩
                          by_cases hq1 : q = k1
                          · subst hq1
                            rw [yy_uA_at]
                            show (if j < n0 then ω.1 k0 j else ω.1 q j) = _
                            rw [if_neg (fun h9 => hqj ⟨rfl, h9⟩)]
                          · show (if q = k1 then _ else ω.1 q) j = _
                            rw [if_neg hq1]
                        refine zz_wp_next hat hstep (nx (ρ' := ρ) h ⟨ho.1, ho.2.1, ?_, ?_, ?_, ho.2.2.2.2.2.1, hs5⟩ ?_ hex)
                        · intro q j
                          by_cases hqj : q = k1 ∧ j < n0
                          · obtain ⟨rfl, hj⟩ := hqj
                            rw [yy_uA_at]
                            show (E.2.2.1 q j).1 ≤ (if j < n0 then ω.1 k0 j else ω.1 q j).toInt ∧ _
                            rw [if_pos hj, hE.1 q _ j hG1]
                            have := ho.2.2.1 k0 j
                            rw [hE.1 k0 _ j hG0] at this
                            exact ⟨by omega, by omega⟩
                          · rw [(hch q j hqj).1]
                            exact ho.2.2.1 q j
                        · intro q hq9
                          obtain ⟨e1, e2⟩ := List.mem_filter.mp hq9
                          obtain ⟨j, d1, d2, d3⟩ := ho.2.2.2.1 q e1
                          rw [Bool.not_eq_true'] at e2
                          obtain ⟨b1, b2⟩ := zz_ivf_ok ho.1 d1
                          have hn9 := zz_natc d2
                          have hr9 := xx_rng j
                          have hne : ¬ (q.1 = k1 ∧ j.toNatClampNeg < n0) := by
                            rintro ⟨g1, g2⟩
                            exact zz_hit_no (j := j.toNatClampNeg) (by omega) (by omega) e2 ⟨_, List.mem_cons_self, Or.inl ⟨g1.symm, by show xx_lo ≤ _; omega, by show _ ≤ xx_hi; omega⟩⟩
                          refine ⟨j, d1, d2, ?_⟩
                          rw [(hch _ _ hne).1, (hch _ _ hne).2]
                          exact d3
                        · intro f hf9
                          obtain ⟨e1, e2⟩ := List.mem_filter.mp hf9
                          obtain ⟨as, d1, d2⟩ := ho.2.2.2.2.1 f e1
                          rw [Bool.not_eq_true'] at e2
                          refine ⟨as, d1, hE.2 f.1 as ω _ (fun q j hc => hch q j ?_) d2⟩
                          rintro ⟨rfl, g2⟩
                          exact zz_hit_no (r := (0, 1000)) (by show (0 : Int) ≤ _; omega) (by show _ ≤ (1000 : Int); omega) e2 hc
                        · intro q j hc
                          have hne : ¬ (q = k1 ∧ j < n0) := by
                            rintro ⟨rfl, g2⟩
                            exact hc (zz_may_ok (r := (0, 1000)) (by show (0 : Int) ≤ _; omega) (by show _ ≤ (1000 : Int); omega) c10)
                          rw [(hch q j hne).1, (hch q j hne).2]
                          exact hf q j hc
                      · cases h
                    · cases h
                  · cases h
                · cases h
              · rename_i tl9 hops
                split at h
                · rename_i n9 x9 rest
                  obtain ⟨u1, s1, rfl, hu1, hs1⟩ := zz_stm_inv ho.2.2.2.2.2.2
                  obtain ⟨u2, s2, rfl, hu2, hs2⟩ := zz_stm_inv hs1
                  split at h
                  · rename_i hq
                    simp only [Bool.and_eq_true] at hq
                    obtain ⟨c1, c2, c3, c4, c5⟩ := hq
                    obtain ⟨x, rfl, x1, x2⟩ := zz_in_ok ho.1 c1 hu2
                    obtain ⟨n, rfl, n1, n2⟩ := zz_in_ok ho.1 c2 hu1
                    have hlt := zz_geV_ok ho.1 c3 hu1 hu2
                    have x1 : (0 : Int) ≤ x.toInt := x1
                    have hstep : yy_step (E.2.1, (scr, kee)) M X.1 (epc, (.invokestatic idx, (len, ops0))) lsC (.inl n :: .inl x :: s2) ω = some (.inl (epc + len, (lsC, (s2, ω)))) := by
                      show yy_hstat (E.2.1, (scr, kee)) M X.1 epc len (xx_ops ops0) lsC _ ω = _
                      have z1 : decide (0 ≤ x.toInt ∧ x.toInt < n.toInt) = true := decide_eq_true ⟨x1, by omega⟩
                      have z3 : Nat.ble (yy_sum s2) 8 = true := by rw [zz_sum_ok hs2]; exact c5
                      simp only [yy_hstat, hops, z1, z3, c4, Bool.and_self]
                      rfl
                    exact zz_wp_next hat hstep (nx (ρ' := ρ) h ⟨ho.1, ho.2.1, ho.2.2.1, ho.2.2.2.1, ho.2.2.2.2.1, ho.2.2.2.2.2.1, hs2⟩ hf hex)
                  · cases h
                · cases h
              · rename_i w9 tl9 hops
                split at h
                · rename_i y9 x9 rest
                  obtain ⟨u1, s1, rfl, hu1, hs1⟩ := zz_stm_inv ho.2.2.2.2.2.2
                  obtain ⟨u2, s2, rfl, hu2, hs2⟩ := zz_stm_inv hs1
                  split at h
                  · rename_i hq
                    simp only [Bool.and_eq_true] at hq
                    obtain ⟨z4, c5⟩ := hq
                    have z3 : Nat.ble (yy_sum s2) 8 = true := by rw [zz_sum_ok hs2]; exact c5
                    split at h
                    · obtain ⟨x, y, rfl, rfl, k1, k2⟩ := zz_br_ok ho.1 (zz_nrm_ok ho.1 hu2) (zz_nrm_ok ho.1 hu1) h
                      cases hr : yy_rel .lt (x).toInt (y).toInt with
                      | true =>
                        obtain ⟨cs', g1, g2⟩ := k1 (yy_rel_ok.1 hr)
                        refine zz_wp_next hat ?_ (nxt g2 g1 (zz_stm_cons hu1 hs2))
                        show yy_hstat (E.2.1, (scr, kee)) M X.1 epc len (xx_ops ops0) lsC (.inl y :: .inl x :: s2) ω = _
                        simp only [yy_hstat, hops, z4, z3, Bool.and_self, hr]
                        rfl
                      | false =>
                        obtain ⟨cs', g1, g2⟩ := k2 (yy_rel_ok.2 hr)
                        refine zz_wp_next hat ?_ (nxt g2 g1 (zz_stm_cons hu2 hs2))
                        show yy_hstat (E.2.1, (scr, kee)) M X.1 epc len (xx_ops ops0) lsC (.inl y :: .inl x :: s2) ω = _
                        simp only [yy_hstat, hops, z4, z3, Bool.and_self, hr]
                        rfl
                    · obtain ⟨y, x, rfl, rfl, k1, k2⟩ := zz_br_ok ho.1 (zz_nrm_ok ho.1 hu1) (zz_nrm_ok ho.1 hu2) h
                      cases hr : yy_rel .lt (y).toInt (x).toInt with
                      | true =>
                        obtain ⟨cs', g1, g2⟩ := k1 (yy_rel_ok.1 hr)
                        refine zz_wp_next hat ?_ (nxt g2 g1 (zz_stm_cons hu1 hs2))
                        show yy_hstat (E.2.1, (scr, kee)) M X.1 epc len (xx_ops ops0) lsC (.inl y :: .inl x :: s2) ω = _
                        simp only [yy_hstat, hops, z4, z3, Bool.and_self, hr]
                        rfl
                      | false =>
                        obtain ⟨cs', g1, g2⟩ := k2 (yy_rel_ok.2 hr)
                        refine zz_wp_next hat ?_ (nxt g2 g1 (zz_stm_cons hu2 hs2))
                        show yy_hstat (E.2.1, (scr, kee)) M X.1 epc len (xx_ops ops0) lsC (.inl y :: .inl x :: s2) ω = _
                        simp only [yy_hstat, hops, z4, z3, Bool.and_self, hr]
                        rfl
                    · cases h
                  · cases h
                · cases h
              · cases h
            all_goals (cases hdisp)
        intro h
        split at h
        · exact main h
        · split at h
          · rename_i hcut
            split at hcut
            · obtain ⟨Z, q, ρ', cs', bI, bL, σ, a1, a2, a3, a4, a5, a6, a7, a8⟩ := zz_cut_ok hE ho hcut
              rcases h0 with h0 | ⟨h0, h0'⟩
              · rw [h0] at a1
                cases a1
              · refine KC e.1 Z q a1 σ lsC stC ω a7 (zz_bm_pre h0 (zz_ex_tr h0' (zz_ex_tr hex a2)) a4 a5 a6) hf (fun s hs => ?_)
                rw [hs] at a8
                simp only [zz_rank, Bool.and_eq_true] at a8
                exact zz_lex_ok a3 a6 (zz_ex_tr hex a2) (Nat.eq_of_beq_eq_true a8.1) (hrk s hs) a8.2
            · cases hcut
          · revert h
            have hint : ∀ hs9 : List (Nat × Nat), (X.2.2.2.2.1 = [] → hs9 = []) → zz_hint (zz_exec E lim n) E M X kr e.1 (e :: tl) cs nL ca fl ls st (zz_go (zz_exec E lim n) E lim M X kr (xx_ops e.2.2.2) e.1 e tl cs nL ca fl ls st) hs9 = true → zz_wp E.1 E.2.1 kee (zz_rd X.2.2.1) scr X.1 M e.1 lsC stC ω Q := by
              intro hs9
              induction hs9 with
              | nil => exact fun _ h => main h
              | cons q r ihr =>
                obtain ⟨p9, hi⟩ := q
                intro hne h
                have hne' : X.2.2.2.2.1 = [] → r = [] := fun h9 => by cases hne h9
                simp only [zz_hint] at h
                split at h
                · exact ihr hne' h
                · split at h
                  · exact ihr hne' h
                  · rename_i Z os hZ
                    rcases zz_mt_ok hE ho h with h9 | ⟨ρ', cs', nL', ca', bI, bL, σ, e1, e2, e3, e4, e5, e6, e7⟩
                    · exact ihr hne' h9
                    · rcases hI with hI9 | hI9
                      · cases hne hI9
                      · have hpre := zz_bm_pre hI9 (zz_ex_tr hex e1) e3 e4 e5
                        obtain ⟨o, ho9, σ', g1, g2⟩ := hH hi Z os hZ σ ω lsC stC e6
                        exact go (zz_all_ok e7 o ho9) hcur g2 hf (zz_ex_tr hpre g1)
            exact hint X.2.2.2.2.1 (fun h9 => h9)
