/-! what the facts mean -/
def zp_bin (x s : Int32) : Prop := (x = 1 ∧ s = 124) ∨ (x = 2 ∧ s = 38) ∨ (4 ≤ x.toInt ∧ x.toInt ≤ 6 ∧ 37 ≤ s.toInt ∧ s.toInt ≤ 62)
/-- the pile of a formula's reading: p high, h between two, m nots, k brackets -/
def zp_pil (W S : Nat → Int32) : Nat → Nat → Nat → Nat → Prop
  | 0, _, _, _ => False
  | 1, h, m, k => W 0 = 8 ∧ h = 0 ∧ m = 0 ∧ k = 0
  | p + 2, h, m, k => (zp_bin (W (p + 1)) (S (p + 1)) ∧ ∃ h', h = h' + 1 ∧ zp_pil W S (p + 1) h' m k) ∨ (W (p + 1) = 3 ∧ S (p + 1) = 126 ∧ ∃ m', m = m' + 1 ∧ zp_pil W S (p + 1) h m' k) ∨ (W (p + 1) = 7 ∧ ∃ k', k = k' + 1 ∧ zp_pil W S (p + 1) h m k')
/-- one row of a rule: how high the pile is behind it -/
def zp_st (h : Nat) (c : Int32) : Option Nat := if c = 126 then (if 1 ≤ h then some h else none) else if 97 ≤ c.toInt ∧ c.toInt ≤ 122 then (if h ≤ 59 then some (h + 1) else none) else (if 2 ≤ h then some (h - 1) else none)
def zp_run (C : Nat → Int32) (fr : Nat) : Nat → Option Nat
  | 0 => some 0
  | l + 1 => match zp_run C fr l with
    | none => none
    | some h => zp_st h (C (fr + l))
def zp_ee (b : Nat) (p c n u w : Int32) (ω : yy_O) : Prop := ∃ h m k fr l : Nat, zp_pil (ω.1 20) (ω.1 19) p.toInt.toNat h m k ∧ 1 ≤ p.toInt ∧ n.toInt = ((m + k : Nat) : Int) ∧ m + k ≤ 7 ∧ (ω.1 25 b).toInt = (fr : Int) ∧ c.toInt = ((fr + l : Nat) : Int) ∧ 560 * b ≤ fr ∧ 0 ≤ u.toInt ∧ u.toInt ≤ 60 ∧ ((w = 1 ∧ zp_run (ω.1 22) fr l = some h ∧ (h : Int) ≤ u.toInt ∧ c.toInt - 560 * (b : Int) + h + m ≤ 9 * u.toInt + n.toInt) ∨ (w = 0 ∧ zp_run (ω.1 22) fr l = some (h + 1) ∧ (h : Int) + 1 ≤ u.toInt ∧ c.toInt - 560 * (b : Int) + h + m ≤ 9 * u.toInt - 1))
def zp_dn (b : Nat) (c : Int32) (ω : yy_O) : Prop := ∃ h fr l : Nat, (ω.1 25 b).toInt = (fr : Int) ∧ c.toInt = ((fr + l : Nat) : Int) ∧ 560 * b ≤ fr ∧ fr + l ≤ 560 * b + 560 ∧ zp_run (ω.1 22) fr l = some h
def zp_safe (b : Nat) (ω : yy_O) : Prop := (ω.1 24 b).toInt ≤ (ω.1 25 b).toInt ∨ ∃ h fr l : Nat, (ω.1 25 b).toInt = (fr : Int) ∧ (ω.1 24 b).toInt = ((fr + l : Nat) : Int) ∧ 560 * b ≤ fr ∧ fr + l ≤ 560 * b + 560 ∧ zp_run (ω.1 22) fr l = some h
def zp_tp (t p : Int32) : Prop := 0 ≤ t.toInt ∧ 0 ≤ p.toInt ∧ p.toInt ≤ 6 ∧ t.toInt < 2 ^ p.toInt.toNat
def zp_tq (s p : Int32) : Prop := 0 ≤ p.toInt ∧ p.toInt ≤ 6 ∧ s.toInt = 2 ^ p.toInt.toNat
def zp_fw (t a u : Int32) (ω : yy_O) : Prop := 0 ≤ t.toInt ∧ t.toInt ≤ 63 ∧ 0 ≤ a.toInt ∧ 0 ≤ u.toInt ∧ a.toInt + u.toInt ≤ 40 ∧ ∀ j : Nat, (j : Int) < a.toInt + u.toInt → ω.1 10 (73 * j + t.toInt.toNat) = 1
def zp_fb (x : Nat) (t : Int32) (ω : yy_O) : Prop := 0 ≤ t.toInt ∧ t.toInt ≤ 63 ∧ (ω.1 0 x = 1 → ω.1 1 (73 * x + t.toInt.toNat) = 1)
def zp_cu (c u b : Int32) : Prop := 0 ≤ u.toInt ∧ u.toInt ≤ 60 ∧ 0 ≤ b.toInt ∧ b.toInt ≤ 1 ∧ 560 * b.toInt ≤ c.toInt ∧ c.toInt - 560 * b.toInt ≤ 9 * u.toInt
/-- a method's answer, as a function of what it reads -/
def zp_fn (kee : Nat → Int64) (W : zz_D) (t d : Nat) (args : List yy_U) (r : Int32) (ω : yy_O) : Prop := ∃ M n ω', zt_T[t]? = some M ∧ yy_tr zt_T zt_G kee (zz_cov W) n none d M 0 (yy_arg 0 args) [] ω (some (.inl r)) ω'
def zp_phi (kee : Nat → Int64) : zz_Ph := fun f as ω => match f with
  | 0 => match as with
    | [t, p] => zp_tp t p
    | _ => False
  | 1 => match as with
    | [t, a, u] => zp_fw t a u ω
    | _ => False
  | 2 => match as with
    | [t] => zp_fb 0 t ω
    | _ => False
  | 3 => match as with
    | [t] => zp_fb 1 t ω
    | _ => False
  | 4 => match as with
    | [t] => zp_fb 2 t ω
    | _ => False
  | 5 => match as with
    | [w, r] => zp_fn kee (zt_ww 5) zt_iOwn zt_dOwn [.inr (.inr 38), .inl w] r ω
    | _ => False
  | 6 => match as with
    | [w, p, o, r] => zp_fn kee (zt_ww 6) zt_iKnw zt_dKnw [.inr (.inr 38), .inl w, .inl p, .inl o] r ω
    | _ => False
  | 7 => match as with
    | [w, r] => zp_fn kee (zt_ww 7) zt_iSgn zt_dSgn [.inr (.inr 38), .inl w] r ω
    | _ => False
  | 8 => match as with
    | [] => zp_safe 0 ω
    | _ => False
  | 9 => match as with
    | [] => zp_safe 1 ω
    | _ => False
  | 10 => match as with
    | [s, p] => zp_tq s p
    | _ => False
  | 11 => match as with
    | [c, u, b] => zp_cu c u b
    | _ => False
  | 12 => match as with
    | [p, c, n, u, w] => zp_ee 0 p c n u w ω
    | _ => False
  | 13 => match as with
    | [p, c, n, u, w] => zp_ee 1 p c n u w ω
    | _ => False
  | 14 => match as with
    | [c] => zp_dn 0 c ω
    | _ => False
  | 15 => match as with
    | [c] => zp_dn 1 c ω
    | _ => False
  | 16 => match as with
    | [k, r] => zp_fn kee (zt_ww 16) zt_iByt zt_dByt [.inr (.inr 38), .inl k] r ω
    | _ => False
  | _ => False
/-! facts stay while what they rest on stays -/
theorem zp_fn_kept {kee : Nat → Int64} {W : zz_D} {t d : Nat} {args : List yy_U} {r : Int32} {ω ω2 : yy_O} (h : zp_fn kee W t d args r ω) (hw : ∀ k j, zz_cov W k j → ω2.1 k j = ω.1 k j ∧ ω2.2 k j = ω.2 k j) : zp_fn kee W t d args r ω2 := by
  obtain ⟨M, n, ω', hM, h⟩ := h
  obtain ⟨ω3, h1, -⟩ := yy_tr_lock h (fun k j hr => ⟨(hw k j hr).1.symm, (hw k j hr).2.symm⟩)
  exact ⟨M, n, ω3, hM, h1⟩
theorem zp_run_cong {C C' : Nat → Int32} {fr : Nat} : ∀ {l : Nat}, (∀ i, fr ≤ i → i < fr + l → C' i = C i) → zp_run C' fr l = zp_run C fr l
  | 0, _ => rfl
  | l + 1, h => by
    simp only [zp_run]
    rw [zp_run_cong (l := l) (fun i h1 h2 => h i h1 (by omega)), h (fr + l) (by omega) (by omega)]
theorem zp_pil_cong {W W' S S' : Nat → Int32} : ∀ {p h m k : Nat}, (∀ i, i < p → W' i = W i ∧ S' i = S i) → zp_pil W S p h m k → zp_pil W' S' p h m k
  | 0, _, _, _, _, h => h
  | 1, _, _, _, e, h => by
    simp only [zp_pil] at h ⊢
    rw [(e 0 (by omega)).1]
    exact h
  | p + 2, _, _, _, e, h => by
    have e9 := e (p + 1) (by omega)
    have ih : ∀ {h m k : Nat}, zp_pil W S (p + 1) h m k → zp_pil W' S' (p + 1) h m k := zp_pil_cong (fun i hi => e i (by omega))
    simp only [zp_pil] at h ⊢
    rw [e9.1, e9.2]
    rcases h with ⟨h1, h', h2, h3⟩ | ⟨h1, h1', m', h2, h3⟩ | ⟨h1, k', h2, h3⟩
    · exact Or.inl ⟨h1, h', h2, ih h3⟩
    · exact Or.inr (Or.inl ⟨h1, h1', m', h2, ih h3⟩)
    · exact Or.inr (Or.inr ⟨h1, k', h2, ih h3⟩)
theorem zp_pil_len {W S : Nat → Int32} : ∀ {p h m k : Nat}, zp_pil W S p h m k → p = 1 + h + m + k
  | 0, _, _, _, h => h.elim
  | 1, _, _, _, h => by
    simp only [zp_pil] at h
    omega
  | p + 2, _, _, _, h => by
    simp only [zp_pil] at h
    rcases h with ⟨h1, h', h2, h3⟩ | ⟨h1, h1', m', h2, h3⟩ | ⟨h1, k', h2, h3⟩
    · have := zp_pil_len h3
      omega
    · have := zp_pil_len h3
      omega
    · have := zp_pil_len h3
      omega
theorem zp_ee_p {b : Nat} {p c n u w : Int32} {ω : yy_O} (h : zp_ee b p c n u w ω) : p.toInt ≤ 68 ∧ c.toInt ≤ 560 * (b : Int) + 547 ∧ 560 * (b : Int) ≤ c.toInt := by
  obtain ⟨h, m, k, fr, l, h1, h2, h3, h4, h5, h6, h7, h8, h9, h10⟩ := h
  have := zp_pil_len h1
  rcases h10 with ⟨-, -, q1, q2⟩ | ⟨-, -, q1, q2⟩
  · omega
  · omega
theorem zp_ee_kept {b : Nat} {p c n u w : Int32} {ω ω2 : yy_O} (h : zp_ee b p c n u w ω) (hw : ∀ i, i ≤ 89 → ω2.1 20 i = ω.1 20 i ∧ ω2.1 19 i = ω.1 19 i) (hc : ∀ i, 560 * b ≤ i → i ≤ 560 * b + 559 → ω2.1 22 i = ω.1 22 i) (hf : ω2.1 25 b = ω.1 25 b) : zp_ee b p c n u w ω2 := by
  have hp := zp_ee_p h
  obtain ⟨h, m, k, fr, l, h1, h2, h3, h4, h5, h6, h7, h8, h9, h10⟩ := h
  have e : zp_run (ω2.1 22) fr l = zp_run (ω.1 22) fr l := zp_run_cong (fun i q1 q2 => hc i (by omega) (by omega))
  refine ⟨h, m, k, fr, l, zp_pil_cong (fun i hi => hw i (by omega)) h1, h2, h3, h4, by rw [hf]; exact h5, h6, h7, h8, h9, ?_⟩
  rw [e]
  exact h10
theorem zp_dn_kept {b : Nat} {c : Int32} {ω ω2 : yy_O} (h : zp_dn b c ω) (hc : ∀ i, 560 * b ≤ i → i ≤ 560 * b + 559 → ω2.1 22 i = ω.1 22 i) (hf : ω2.1 25 b = ω.1 25 b) : zp_dn b c ω2 := by
  obtain ⟨h, fr, l, h1, h2, h3, h4, h5⟩ := h
  exact ⟨h, fr, l, by rw [hf]; exact h1, h2, h3, h4, by rw [zp_run_cong (fun i q1 q2 => hc i (by omega) (by omega))]; exact h5⟩
theorem zp_safe_kept {b : Nat} {ω ω2 : yy_O} (h : zp_safe b ω) (hc : ∀ i, 560 * b ≤ i → i ≤ 560 * b + 559 → ω2.1 22 i = ω.1 22 i) (hf : ω2.1 25 b = ω.1 25 b) (ht : ω2.1 24 b = ω.1 24 b) : zp_safe b ω2 := by
  unfold zp_safe
  rw [hf, ht]
  rcases h with h | ⟨h, fr, l, h1, h2, h3, h4, h5⟩
  · exact Or.inl h
  · exact Or.inr ⟨h, fr, l, h1, h2, h3, h4, by rw [zp_run_cong (fun i q1 q2 => hc i (by omega) (by omega))]; exact h5⟩
theorem zp_cov {D : zz_D} {k j : Nat} {a b : Int} (i : Nat) (h : D[i]? = some (k, (a, b))) (h1 : a ≤ (j : Int)) (h2 : (j : Int) ≤ b) : zz_cov D k j := ⟨_, List.mem_of_getElem? h, Or.inl ⟨rfl, h1, h2⟩⟩
theorem zp_fw_kept {t a u : Int32} {ω ω2 : yy_O} (h : zp_fw t a u ω) (hw : ∀ i, i ≤ 2992 → ω2.1 10 i = ω.1 10 i) : zp_fw t a u ω2 := by
  obtain ⟨h1, h2, h3, h4, h5, h6⟩ := h
  exact ⟨h1, h2, h3, h4, h5, fun j hj => by rw [hw _ (by omega)]; exact h6 j hj⟩
theorem zp_fb_kept {x : Nat} {t : Int32} {ω ω2 : yy_O} (h : zp_fb x t ω) (hb : ∀ i, 73 * x ≤ i → i ≤ 73 * x + 72 → ω2.1 1 i = ω.1 1 i) (hi : ω2.1 0 x = ω.1 0 x) : zp_fb x t ω2 := by
  obtain ⟨h1, h2, h3⟩ := h
  refine ⟨h1, h2, fun h9 => ?_⟩
  rw [hi] at h9
  rw [hb _ (by omega) (by omega)]
  exact h3 h9
def zp_tauok : List yy_D → List ((Int × Int) ⊕ List (Int × Int)) → Bool
  | [], _ => true
  | .inl _ :: g, .inl _ :: b => zp_tauok g b
  | .inr _ :: g, _ :: b => zp_tauok g b
  | _, _ => false
theorem zp_tauok_at : ∀ {g : List yy_D} {b : List ((Int × Int) ⊕ List (Int × Int))} {k : Nat} {d : Nat × (Nat × List Nat)}, zp_tauok g b = true → g[k]? = some (.inl d) → ∃ r, b[k]? = some (.inl r)
  | [], _, _, _, _, h => by cases h
  | .inl _ :: g, .inl r :: b, 0, _, _, _ => ⟨r, rfl⟩
  | .inl _ :: g, .inl r :: b, k + 1, d, h, h2 => zp_tauok_at (g := g) (b := b) (k := k) h h2
  | .inr _ :: g, _ :: b, 0, _, _, h2 => by cases h2
  | .inr _ :: g, _ :: b, k + 1, d, h, h2 => zp_tauok_at (g := g) (b := b) (k := k) h h2
  | .inl _ :: g, [], _, _, h, _ => by cases h
  | .inl _ :: g, .inr _ :: b, _, _, h, _ => by cases h
  | .inr _ :: g, [], _, _, h, _ => by cases h
set_option maxRecDepth 100000 in
theorem zp_tau0 : zp_tauok zt_G zt_B = true := by decide +kernel
theorem zp_tau (k j : Nat) (d : Nat × (Nat × List Nat)) (h : zt_G[k]? = some (.inl d)) : zt_tau k j = zt_tau k 0 := by
  obtain ⟨r, hr⟩ := zp_tauok_at zp_tau0 h
  simp only [zt_tau, hr]
theorem zp_keep (kee : Nat → Int64) (f : Nat) (as : List Int32) (ω ω2 : yy_O) (hw : ∀ k j, zz_cov (zt_ww f) k j → ω2.1 k j = ω.1 k j ∧ ω2.2 k j = ω.2 k j) (h : zp_phi kee f as ω) : zp_phi kee f as ω2 := by
  unfold zp_phi at h ⊢
  split at h
  · exact h
  · split at h
    · exact zp_fw_kept h (fun i hi => (hw _ _ (zp_cov (a := 0) (b := 2992) 0 rfl (by omega) (by omega))).1)
    · exact h
  · split at h
    · exact zp_fb_kept h (fun i h1 h2 => (hw _ _ (zp_cov (a := 0) (b := 72) 0 rfl (by omega) (by omega))).1) (hw _ _ (zp_cov (a := 0) (b := 0) 1 rfl (by decide) (by decide))).1
    · exact h
  · split at h
    · exact zp_fb_kept h (fun i h1 h2 => (hw _ _ (zp_cov (a := 73) (b := 145) 0 rfl (by omega) (by omega))).1) (hw _ _ (zp_cov (a := 1) (b := 1) 1 rfl (by decide) (by decide))).1
    · exact h
  · split at h
    · exact zp_fb_kept h (fun i h1 h2 => (hw _ _ (zp_cov (a := 146) (b := 218) 0 rfl (by omega) (by omega))).1) (hw _ _ (zp_cov (a := 2) (b := 2) 1 rfl (by decide) (by decide))).1
    · exact h
  · split at h
    · exact zp_fn_kept h hw
    · exact h
  · split at h
    · exact zp_fn_kept h hw
    · exact h
  · split at h
    · exact zp_fn_kept h hw
    · exact h
  · split at h
    · exact zp_safe_kept h (fun i h1 h2 => (hw _ _ (zp_cov (a := 0) (b := 559) 0 rfl (by omega) (by omega))).1) (hw _ _ (zp_cov (a := 0) (b := 0) 1 rfl (by decide) (by decide))).1 (hw _ _ (zp_cov (a := 0) (b := 0) 2 rfl (by decide) (by decide))).1
    · exact h
  · split at h
    · exact zp_safe_kept h (fun i h1 h2 => (hw _ _ (zp_cov (a := 560) (b := 1119) 0 rfl (by omega) (by omega))).1) (hw _ _ (zp_cov (a := 1) (b := 1) 1 rfl (by decide) (by decide))).1 (hw _ _ (zp_cov (a := 1) (b := 1) 2 rfl (by decide) (by decide))).1
    · exact h
  · exact h
  · exact h
  · split at h
    · exact zp_ee_kept h (fun i hi => ⟨(hw _ _ (zp_cov (a := 0) (b := 89) 0 rfl (by omega) (by omega))).1, (hw _ _ (zp_cov (a := 0) (b := 89) 1 rfl (by omega) (by omega))).1⟩) (fun i h1 h2 => (hw _ _ (zp_cov (a := 0) (b := 559) 2 rfl (by omega) (by omega))).1) (hw _ _ (zp_cov (a := 0) (b := 0) 3 rfl (by decide) (by decide))).1
    · exact h
  · split at h
    · exact zp_ee_kept h (fun i hi => ⟨(hw _ _ (zp_cov (a := 0) (b := 89) 0 rfl (by omega) (by omega))).1, (hw _ _ (zp_cov (a := 0) (b := 89) 1 rfl (by omega) (by omega))).1⟩) (fun i h1 h2 => (hw _ _ (zp_cov (a := 560) (b := 1119) 2 rfl (by omega) (by omega))).1) (hw _ _ (zp_cov (a := 1) (b := 1) 3 rfl (by decide) (by decide))).1
    · exact h
  · split at h
    · exact zp_dn_kept h (fun i h1 h2 => (hw _ _ (zp_cov (a := 0) (b := 559) 0 rfl (by omega) (by omega))).1) (hw _ _ (zp_cov (a := 0) (b := 0) 1 rfl (by decide) (by decide))).1
    · exact h
  · split at h
    · exact zp_dn_kept h (fun i h1 h2 => (hw _ _ (zp_cov (a := 560) (b := 1119) 0 rfl (by omega) (by omega))).1) (hw _ _ (zp_cov (a := 1) (b := 1) 1 rfl (by decide) (by decide))).1
    · exact h
  · split at h
    · exact zp_fn_kept h hw
    · exact h
  · exact h
theorem zp_env (kee : Nat → Int64) : zz_env zt_E (zp_phi kee) := ⟨fun k d j h => zp_tau k j d h, fun f as ω ω2 hw h => zp_keep kee f as ω ω2 hw h⟩
