/-! a method's contract, checked -/
def zz_mkI {β : Type} : Nat → Nat → (List zz_V → β) → β
  | 0, _, k => k []
  | n + 1, i, k => xx_fN i (fun i => zz_mkI n (i + 1) (fun l => k (.inr (.inl (i, 0)) :: l)))
def zz_mkL {β : Type} : Nat → Nat → (List zz_V → β) → β
  | 0, _, k => k []
  | n + 1, i, k => xx_fN i (fun i => zz_mkL n (i + 1) (fun l => k (.inr (.inr (.inr (.inr i))) :: l)))
def zz_idI (n i : Nat) : List zz_V := zz_mkI n i (fun l => l)
def zz_idL (n i : Nat) : List zz_V := zz_mkL n i (fun l => l)
theorem zz_mkI_eq {β : Type} : ∀ (n i : Nat) (k : List zz_V → β), zz_mkI n i k = k (zz_idI n i)
  | 0, _, _ => rfl
  | n + 1, i, k => by
    simp only [zz_mkI, zz_idI, xx_fN_eq]
    rw [zz_mkI_eq n, zz_mkI_eq n (i + 1) (fun l => .inr (.inl (i, 0)) :: l)]
theorem zz_mkL_eq {β : Type} : ∀ (n i : Nat) (k : List zz_V → β), zz_mkL n i k = k (zz_idL n i)
  | 0, _, _ => rfl
  | n + 1, i, k => by
    simp only [zz_mkL, zz_idL, xx_fN_eq]
    rw [zz_mkL_eq n, zz_mkL_eq n (i + 1) (fun l => .inr (.inr (.inr (.inr i))) :: l)]
theorem zz_idI_val {ρ : zz_P} : ∀ (l pre : List Int32), ρ.1 = pre ++ l → (zz_idI l.length pre.length).map (zz_val ρ) = l.map (fun x => some (.inl x))
  | [], _, _ => rfl
  | x :: l, pre, h => by
    have e : zz_idI (x :: l).length pre.length = .inr (.inl (pre.length, 0)) :: zz_idI l.length (pre.length + 1) := by
      simp only [zz_idI, List.length_cons, zz_mkI, xx_fN_eq]
      rw [zz_mkI_eq]
      rfl
    rw [e, List.map_cons, List.map_cons]
    have ih := zz_idI_val l (pre ++ [x]) (by rw [h, List.append_assoc]; rfl)
    rw [List.length_append] at ih
    have hx : zz_val ρ (.inr (.inl (pre.length, 0))) = some (.inl x) := by
      simp only [zz_val, h]
      rw [List.getElem?_append_right (Nat.le_refl _), Nat.sub_self]
      show some (Sum.inl (x + Int32.ofInt 0)) = _
      congr 2
      exact Int32.add_zero x
    rw [hx]
    congr 1
theorem zz_idL_val {ρ : zz_P} : ∀ (l pre : List Int64), ρ.2 = pre ++ l → (zz_idL l.length pre.length).map (zz_val ρ) = l.map (fun x => some (.inr (.inl x)))
  | [], _, _ => rfl
  | x :: l, pre, h => by
    have e : zz_idL (x :: l).length pre.length = .inr (.inr (.inr (.inr pre.length))) :: zz_idL l.length (pre.length + 1) := by
      simp only [zz_idL, List.length_cons, zz_mkL, xx_fN_eq]
      rw [zz_mkL_eq]
      rfl
    rw [e, List.map_cons, List.map_cons]
    have ih := zz_idL_val l (pre ++ [x]) (by rw [h, List.append_assoc]; rfl)
    rw [List.length_append] at ih
    have hx : zz_val ρ (.inr (.inr (.inr (.inr pre.length)))) = some (.inr (.inl x)) := by
      simp only [zz_val, h]
      rw [List.getElem?_append_right (Nat.le_refl _), Nat.sub_self]
      rfl
    rw [hx]
    congr 1
theorem zz_id_bm (ρ : zz_P) {n m : Nat} (hn : ρ.1.length = n) (hm : ρ.2.length = m) : zz_bm ρ (zz_idI n 0) (zz_idL m 0) ρ := by
  subst hn
  subst hm
  exact ⟨zz_idI_val ρ.1 [] rfl, zz_idL_val ρ.2 [] rfl⟩
/-- the walks from the loops' states -/
def zz_ckT (E : zz_E) (lim fu : Nat) (M : xx_M) (d : Nat) (sc : Bool) (D : zz_D) (hs : List (Nat × Nat)) (i0 l0 : List zz_V) (kr : zz_KR) (all : zz_T) : zz_T → Bool
  | [] => true
  | (p, (Z, q)) :: r => (q.all (fun x => zz_has Z.1 x.2) && zz_mkI Z.1.length 0 (fun iI => zz_mkL Z.2.1 0 (fun lI => zz_exec E lim fu M (d, (sc, (D, (all, (hs, (some q, ((i0, l0), (iI, lI)))))))) true kr p (xx_from p M.2.2.2.2.2) Z.1 Z.2.1 Z.2.2.1 Z.2.2.2.1 Z.2.2.2.2.1 Z.2.2.2.2.2))) && zz_ckT E lim fu M d sc D hs i0 l0 kr all r
theorem zz_ckT_ok {E : zz_E} {lim fu : Nat} {M : xx_M} {d : Nat} {sc : Bool} {D : zz_D} {hs : List (Nat × Nat)} {i0 l0 : List zz_V} {kr : zz_KR} {all : zz_T} {p : Nat} {Z : zz_Z} {q : zz_Q} : ∀ {ct : zz_T}, zz_ckT E lim fu M d sc D hs i0 l0 kr all ct = true → (p, (Z, q)) ∈ ct → (∀ x ∈ q, zz_has Z.1 x.2 = true) ∧ zz_exec E lim fu M (d, (sc, (D, (all, (hs, (some q, ((i0, l0), (zz_idI Z.1.length 0, zz_idL Z.2.1 0)))))))) true kr p (xx_from p M.2.2.2.2.2) Z.1 Z.2.1 Z.2.2.1 Z.2.2.2.1 Z.2.2.2.2.1 Z.2.2.2.2.2 = true
  | [], _, hm => by cases hm
  | (p', (Z', q')) :: r, h, hm => by
    simp only [zz_ckT, Bool.and_eq_true, zz_mkI_eq, zz_mkL_eq] at h
    rcases List.mem_cons.mp hm with e | e
    · cases e
      exact ⟨List.all_eq_true.mp h.1.1, h.1.2⟩
    · exact zz_ckT_ok h.2 e
theorem zz_loops {E : zz_E} {Φ : zz_Ph} {kee : Nat → Int64} {lim fu : Nat} {M : xx_M} {d : Nat} {sc : Bool} {D : zz_D} {hs : List (Nat × Nat)} {i0 l0 : List zz_V} {kr : zz_KR} {ct : zz_T} {scr : Option (Nat × (Nat → Int32))} {ρ0 : zz_P} {ω0 : yy_O} {Q : Option yy_U → yy_O → Prop} (hS : zz_Snd E Φ kee lim fu) (hM : zz_rows M = true) (hck : zz_ckT E lim fu M d sc D hs i0 l0 kr ct ct = true) (h0 : zz_bm ρ0 i0 l0 ρ0) (hsc : zz_scm sc scr ρ0 D ω0)
    (KR : ∀ (ρ' : zz_P) (cs' : zz_C) (nL' : Nat) (ca' : zz_A) (fl' : zz_B) (rs : List zz_V) (v : Option yy_U) (ω' : yy_O), kr cs' nL' ca' fl' rs = true → zz_ex ρ0 ρ' → zz_ok E.2.2.1 Φ ρ' ω' cs' nL' ca' fl' [] rs [] v.toList → zz_fr D ω0 ω' → Q v ω') :
    ∀ (m p : Nat) (Z : zz_Z) (q : zz_Q), (p, (Z, q)) ∈ ct → ∀ (σ : zz_P) (lsC : yy_L) (stC : List yy_U) (ω : yy_O), zz_ok E.2.2.1 Φ σ ω Z.1 Z.2.1 Z.2.2.1 Z.2.2.2.1 Z.2.2.2.2.1 Z.2.2.2.2.2 lsC stC → zz_ex ρ0 σ → zz_fr D ω0 ω → zz_mu σ q < m → zz_wp E.1 E.2.1 kee (zz_rd D) scr d M p lsC stC ω Q := by
  intro m
  induction m with
  | zero => intro p Z q _ σ lsC stC ω _ _ _ h; exact absurd h (Nat.not_lt_zero _)
  | succ m ih =>
    intro p Z q hm σ lsC stC ω hok hex hfr hmu
    obtain ⟨hq, hx⟩ := zz_ckT_ok hck hm
    refine hS M (d, (sc, (D, (ct, (hs, (some q, ((i0, l0), (zz_idI Z.1.length 0, zz_idL Z.2.1 0)))))))) true kr p _ _ _ _ _ _ _ σ σ ρ0 ω ω0 lsC stC scr Q hx hM (zz_from_suf _ _) (zz_scm_ex hsc hex) hok hfr (zz_ex_rf σ) (Or.inr ⟨h0, hex⟩) (Or.inr (zz_id_bm σ hok.1.1 hok.2.1)) ?_ ?_ ?_
    · intro s hs9 x hx9
      cases hs9
      exact zz_has_val hok.1 (hq x hx9)
    · intro ρ' cs' nL' ca' fl' rs v ω' h1 h2 h3 h4
      exact KR ρ' cs' nL' ca' fl' rs v ω' h1 (zz_ex_tr hex h2) h3 h4
    · intro p' Z' q' hm' σ' lsC' stC' ω' h1 h2 h3 h4
      exact ih p' Z' q' hm' σ' lsC' stC' ω' h1 h2 h3 (by have := h4 q rfl; omega)
/-- a walk from a state of its own, with its loops -/
def zz_ckW (E : zz_E) (lim fu : Nat) (M : xx_M) (d : Nat) (sc : Bool) (D : zz_D) (hs : List (Nat × Nat)) (ct : zz_T) (os : List zz_Z) (pc : Nat) (S : zz_Z) : Bool :=
  zz_mkI S.1.length 0 (fun i0 => zz_mkL S.2.1 0 (fun l0 => zz_exec E lim fu M (d, (sc, (D, (ct, (hs, (none, ((i0, l0), (i0, l0)))))))) false (fun cs nL ca fl rs => zz_end E i0 l0 cs nL ca fl rs os) pc (xx_from pc M.2.2.2.2.2) S.1 S.2.1 S.2.2.1 S.2.2.2.1 S.2.2.2.2.1 S.2.2.2.2.2 && zz_ckT E lim fu M d sc D hs i0 l0 (fun cs nL ca fl rs => zz_end E i0 l0 cs nL ca fl rs os) ct ct))
theorem zz_end_ok {E : zz_E} {Φ : zz_Ph} {ω : yy_O} {ρ : zz_P} {cs : zz_C} {nL : Nat} {ca : zz_A} {fl : zz_B} {st : List zz_V} {stC : List yy_U} {i0 l0 : List zz_V} (hE : zz_env E Φ) (ho : zz_ok E.2.2.1 Φ ρ ω cs nL ca fl [] st [] stC) : ∀ {os : List zz_Z}, zz_end E i0 l0 cs nL ca fl st os = true → ∃ o ∈ os, ∃ ρ' bI bL σ, zz_ex ρ ρ' ∧ i0 <+: bI ∧ l0 <+: bL ∧ zz_bm ρ' bI bL σ ∧ zz_ok E.2.2.1 Φ σ ω o.1 o.2.1 o.2.2.1 o.2.2.2.1 o.2.2.2.2.1 o.2.2.2.2.2 [] stC
  | [], h => by cases h
  | Z :: r, h => by
    simp only [zz_end] at h
    rcases zz_mt_ok hE ho h with h9 | ⟨ρ', cs', nL', ca', bI, bL, σ, e1, e2, e3, e4, e5, e6, e7⟩
    · obtain ⟨o, ho9, a⟩ := zz_end_ok hE ho h9
      exact ⟨o, List.mem_cons_of_mem _ ho9, a⟩
    · exact ⟨Z, List.mem_cons_self, ρ', bI, bL, σ, e1, e3, e4, e5, e6⟩
theorem zz_walk {E : zz_E} {Φ : zz_Ph} {kee : Nat → Int64} {lim fu : Nat} {M : xx_M} {d : Nat} {sc : Bool} {D : zz_D} {hs : List (Nat × Nat)} {ct : zz_T} {os : List zz_Z} {pc : Nat} {S : zz_Z} {scr : Option (Nat × (Nat → Int32))} (hE : zz_env E Φ) (hS : zz_Snd E Φ kee lim fu) (hM : zz_rows M = true) (h : zz_ckW E lim fu M d sc D hs ct os pc S = true) {ρ : zz_P} {ω : yy_O} {lsC : yy_L} {stC : List yy_U} (hok : zz_ok E.2.2.1 Φ ρ ω S.1 S.2.1 S.2.2.1 S.2.2.2.1 S.2.2.2.2.1 S.2.2.2.2.2 lsC stC) (hsc : zz_scm sc scr ρ D ω) :
    zz_wp E.1 E.2.1 kee (zz_rd D) scr d M pc lsC stC ω (fun v ω' => ∃ o ∈ os, ∃ ρ', zz_ex ρ ρ' ∧ zz_ok E.2.2.1 Φ ρ' ω' o.1 o.2.1 o.2.2.1 o.2.2.2.1 o.2.2.2.2.1 o.2.2.2.2.2 [] v.toList ∧ zz_fr D ω ω') := by
  unfold zz_ckW at h
  rw [zz_mkI_eq, zz_mkL_eq, Bool.and_eq_true] at h
  have hid := zz_id_bm ρ hok.1.1 hok.2.1
  have hfr0 : zz_fr D ω ω := fun _ _ _ => ⟨rfl, rfl⟩
  have KR : ∀ (ρ' : zz_P) (cs' : zz_C) (nL' : Nat) (ca' : zz_A) (fl' : zz_B) (rs : List zz_V) (v : Option yy_U) (ω' : yy_O), zz_end E (zz_idI S.1.length 0) (zz_idL S.2.1 0) cs' nL' ca' fl' rs os = true → zz_ex ρ ρ' → zz_ok E.2.2.1 Φ ρ' ω' cs' nL' ca' fl' [] rs [] v.toList → zz_fr D ω ω' → ∃ o ∈ os, ∃ ρ', zz_ex ρ ρ' ∧ zz_ok E.2.2.1 Φ ρ' ω' o.1 o.2.1 o.2.2.1 o.2.2.2.1 o.2.2.2.2.1 o.2.2.2.2.2 [] v.toList ∧ zz_fr D ω ω' := by
    intro ρ' cs' nL' ca' fl' rs v ω' h1 h2 h3 h4
    obtain ⟨o, ho9, ρ2, bI, bL, σ, e1, e2, e3, e4, e5⟩ := zz_end_ok hE h3 h1
    exact ⟨o, ho9, σ, zz_bm_pre hid (zz_ex_tr h2 e1) e2 e3 e4, e5, h4⟩
  refine hS M _ false _ pc _ _ _ _ _ _ _ ρ ρ ρ ω ω lsC stC scr _ h.1 hM (zz_from_suf _ _) hsc hok hfr0 (zz_ex_rf ρ) (Or.inr ⟨hid, zz_ex_rf ρ⟩) (Or.inr hid) (fun s h9 => by cases h9) KR ?_
  intro p Z q hm σ lsC' stC' ω' h1 h2 h3 _
  exact zz_loops hS hM h.2 hid hsc KR (zz_mu σ q + 1) p Z q hm σ lsC' stC' ω' h1 h2 h3 (Nat.lt_succ_self _)
/-- a contract's check: its loops' states, its entailments -/
def zz_ck (E : zz_E) (lim fu : Nat) (K : zz_K) (ct : zz_T) (hs : List (Nat × Nat)) : Bool := match E.1[K.1]? with
  | some M => match K.2.2.1.2.2.2.2.1 with
    | [] => zz_args 0 K.2.2.1.2.2.2.2.2 (fun l => zz_ckW E lim fu M K.2.1 false K.2.2.2.2 hs ct K.2.2.2.1 0 (K.2.2.1.1, (K.2.2.1.2.1, (K.2.2.1.2.2.1, (K.2.2.1.2.2.2.1, (l, []))))))
    | _ => false
  | none => false
theorem zz_ck_ok {E : zz_E} {Φ : zz_Ph} {kee : Nat → Int64} {lim fu : Nat} {K : zz_K} {ct : zz_T} {hs : List (Nat × Nat)} (hE : zz_env E Φ) (hS : zz_Snd E Φ kee lim fu) (hR : ∀ M ∈ E.1, zz_rows M = true) (h : zz_ck E lim fu K ct hs = true) : zz_KOK E Φ kee K := by
  intro ρ ω as d hd hok
  unfold zz_ck at h
  split at h
  · rename_i M hM
    split at h
    · rw [zz_args_eq] at h
      refine ⟨M, hM, zz_wp_d hd ?_⟩
      exact zz_walk hE hS (hR M (List.mem_of_getElem? hM)) h (lsC := yy_arg 0 as) (stC := []) ⟨hok.1, hok.2.1, hok.2.2.1, hok.2.2.2.1, hok.2.2.2.2.1, zz_arg_lsm hok.2.2.2.2.2.2, rfl⟩ (fun h9 => by cases h9)
    · cases h
  · cases h
