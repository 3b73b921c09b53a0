/-! answers as functions: contracts with that fact -/
theorem zh_DW {W : zz_D} (hW : ∀ q ∈ W, q.1 < 1000000) {k j : Nat} (h : zz_rd (W.map (fun q => (2000000 + q.1, q.2))) k j) : zz_cov W k j := by
  obtain ⟨q, hq, h⟩ := h
  obtain ⟨p, hp, rfl⟩ := List.mem_map.mp hq
  have := hW p hp
  rcases h with ⟨h1, h2, h3⟩ | ⟨h1, h2⟩
  · have h1 : 2000000 + p.1 = 2000000 + k := h1
    exact ⟨p, hp, Or.inl ⟨by omega, h2, h3⟩⟩
  · have h1 : 2000000 + p.1 = 3000000 := h1
    omega
theorem zh_WD {W : zz_D} (hW : ∀ q ∈ W, q.1 < 1000000) {k j : Nat} (h : zz_cov W k j) : ¬ zz_cov (W.map (fun q => (2000000 + q.1, q.2))) k j := by
  obtain ⟨q, hq, h⟩ := h
  have hk : k < 1000000 ∨ 2000000 ≤ k ∧ q.1 = 3000000 := by
    rcases h with ⟨h1, -, -⟩ | ⟨h1, h2⟩
    · exact Or.inl (by rw [← h1]; exact hW q hq)
    · exact Or.inr ⟨h2, h1⟩
  have h3 := hW q hq
  rintro ⟨r, hr, g⟩
  obtain ⟨p, hp, rfl⟩ := List.mem_map.mp hr
  rcases g with ⟨g1, -, -⟩ | ⟨g1, g2⟩
  · have g1 : 2000000 + p.1 = k := g1
    omega
  · omega
theorem zh_vals {ρ : zz_P} {cs : zz_C} (hc : zz_csm ρ cs) : ∀ {vs : List zz_V}, vs.all (zz_has cs) = true → ∃ xs : List Int32, vs.map (zz_val ρ) = xs.map (fun x => some (.inl x))
  | [], _ => ⟨[], rfl⟩
  | v :: vs, h => by
    simp only [List.all_cons, Bool.and_eq_true] at h
    obtain ⟨x, hx⟩ := zz_has_val hc h.1
    obtain ⟨xs, hxs⟩ := zh_vals hc h.2
    exact ⟨x :: xs, by simp only [List.map_cons, hx, hxs]⟩
theorem zh_stm {ρ : zz_P} : ∀ {vs : List zz_V} {as : List yy_U} {xs : List Int32}, zz_stm ρ vs as → vs.map (zz_val ρ) = xs.map (fun x => some (.inl x)) → as = xs.map (fun x => .inl x)
  | [], as, [], h, _ => zz_stm_nil h
  | [], _, _ :: _, _, g => by cases g
  | _ :: _, _, [], _, g => by cases g
  | v :: vs, as, x :: xs, h, g => by
    obtain ⟨u, s, rfl, h1, h2⟩ := zz_stm_inv h
    simp only [List.map_cons, List.cons.injEq] at g
    rw [h1] at g
    have := Option.some.inj g.1
    subst this
    rw [zh_stm h2 g.2]
    rfl
theorem zh_fn {kee : Nat → Int64} {f t d : Nat} {cs cs' : zz_C} {vs : List zz_V} {vr : zz_V} {W : zz_D} (hW : ∀ q ∈ W, q.1 < 1000000) (hv : vs.all (zz_has cs) = true) (hr : zz_has cs' vr = true) (hw : zt_ww f = W)
    (mk : ∀ (xs : List Int32) (r : Int32) (ω : yy_O), xs.length = vs.length → zp_fn kee W t d (.inr (.inr 38) :: xs.map (fun x => .inl x)) r ω → zp_phi kee f (xs ++ [r]) ω)
    (h : zz_KOK zt_E (zp_phi kee) kee (t, (d, ((cs, (0, ([], ([], ([], .inr (.inr (.inl 38)) :: vs))))), ([(cs', (0, ([], ([], ([], [vr])))))], W.map (fun q => (2000000 + q.1, q.2))))))) :
    zz_KOK zt_E (zp_phi kee) kee (t, (d, ((cs, (0, ([], ([], ([], .inr (.inr (.inl 38)) :: vs))))), ([(cs', (0, ([], ([(f, vs ++ [vr])], ([], [vr])))))], W.map (fun q => (2000000 + q.1, q.2)))))) := by
  intro ρ ω as d' hd hok
  have hok : zz_ok zt_tau (zp_phi kee) ρ ω cs 0 [] [] [] (.inr (.inr (.inl 38)) :: vs) [] as := hok
  obtain ⟨M, hM, n, v, ω', h1, o, ho, ρ', hex, hok2, hfr⟩ := h ρ ω as d (Nat.le_refl _) hok
  have ho := List.mem_singleton.mp ho
  subst ho
  have hok2 : zz_ok zt_tau (zp_phi kee) ρ' ω' cs' 0 [] [] [] [vr] [] v.toList := hok2
  obtain ⟨xs, hxs⟩ := zh_vals hok.1 hv
  obtain ⟨u, s, rfl, e1, e2⟩ := zz_stm_inv hok.2.2.2.2.2.2
  cases e1
  have e3 := zh_stm e2 hxs
  subst e3
  obtain ⟨r, hrv⟩ := zz_has_val hok2.1 hr
  obtain ⟨u, s, e4, e5, e6⟩ := zz_stm_inv hok2.2.2.2.2.2.2
  rw [hrv] at e5
  cases e5
  have := zz_stm_nil e6
  subst this
  have hvr : v = some (.inl r) := by
    cases v with
    | none => cases e4
    | some w => cases e4; rfl
  subst hvr
  have hfn : zp_fn kee W t d (.inr (.inr 38) :: xs.map (fun x => .inl x)) r ω := ⟨M, n, ω', hM, yy_tr_mono (fun k j h => zh_DW hW h) (Nat.le_refl _) (Nat.le_refl _) h1⟩
  have hfn' := zp_fn_kept hfn (fun k j hc => hfr k j (zh_WD hW hc))
  have hl : xs.length = vs.length := by
    have := congrArg List.length hxs
    simp only [List.length_map] at this
    exact this.symm
  refine ⟨M, hM, n, some (.inl r), ω', yy_tr_mono (fun _ _ h => h) (Nat.le_refl _) hd h1, _, List.mem_singleton.mpr rfl, ρ', hex, ⟨hok2.1, hok2.2.1, hok2.2.2.1, hok2.2.2.2.1, ?_, hok2.2.2.2.2.2⟩, hfr⟩
  intro q hq
  rw [List.mem_singleton.mp hq]
  refine ⟨xs ++ [r], ?_, mk xs r ω' hl hfn'⟩
  show (vs ++ [vr]).map (zz_val ρ') = _
  rw [List.map_append, List.map_append, zz_map_ex hex (fun x => .inl x) hxs]
  simp only [List.map_cons, List.map_nil, hrv]
/-! small loops -/
section ZV
variable {G : List yy_D} {kee : Nat → Int64} {scr : Option (Nat × (Nat → Int32))} {M : xx_M} {d pc len : Nat} {ops : List Nat} {ls : yy_L} {rest : List yy_U} {ω : yy_O} {v x y : Int32} {k n : Nat} {rs : List Nat}
theorem zs_ift {c : xx_B} {off : Int} {t : Nat} (h : yy_rel c x.toInt 0 = true) (ht : (pc : Int) + off = (t : Int)) : yy_step (G, (scr, kee)) M d (pc, (.ifCond c off, (len, ops))) ls (.inl x :: rest) ω = some (.inl (t, (ls, (rest, ω)))) := by
  show yy_hif c off (G, (scr, kee)) M d pc len (xx_ops ops) ls (.inl x :: rest) ω = _
  simp only [yy_hif, h]
  rw [ht]
  rfl
theorem zs_iff {c : xx_B} {off : Int} (h : yy_rel c x.toInt 0 = false) : yy_step (G, (scr, kee)) M d (pc, (.ifCond c off, (len, ops))) ls (.inl x :: rest) ω = some (.inl (pc + 3, (ls, (rest, ω)))) := by
  show yy_hif c off (G, (scr, kee)) M d pc len (xx_ops ops) ls (.inl x :: rest) ω = _
  simp only [yy_hif, h]
  rfl
theorem zs_ct {c : xx_B} {off : Int} {t : Nat} (h : yy_rel c x.toInt y.toInt = true) (ht : (pc : Int) + off = (t : Int)) : yy_step (G, (scr, kee)) M d (pc, (.if_icmp c off, (len, ops))) ls (.inl y :: .inl x :: rest) ω = some (.inl (t, (ls, (rest, ω)))) := by
  show yy_hicmp c off (G, (scr, kee)) M d pc len (xx_ops ops) ls (.inl y :: .inl x :: rest) ω = _
  simp only [yy_hicmp, h]
  rw [ht]
  rfl
theorem zs_cf {c : xx_B} {off : Int} (h : yy_rel c x.toInt y.toInt = false) : yy_step (G, (scr, kee)) M d (pc, (.if_icmp c off, (len, ops))) ls (.inl y :: .inl x :: rest) ω = some (.inl (pc + 3, (ls, (rest, ω)))) := by
  show yy_hicmp c off (G, (scr, kee)) M d pc len (xx_ops ops) ls (.inl y :: .inl x :: rest) ω = _
  simp only [yy_hicmp, h]
  rfl
theorem zs_irem (h : ¬ y = 0) : yy_step (G, (scr, kee)) M d (pc, (.irem, (len, ops))) ls (.inl y :: .inl x :: rest) ω = some (.inl (pc + len, (ls, (.inl (x - x / y * y) :: rest, ω)))) := by
  show yy_hdv (fun x y => x - x / y * y) (G, (scr, kee)) M d pc len (xx_ops ops) ls (.inl y :: .inl x :: rest) ω = _
  simp only [yy_hdv, decide_eq_false h]
  rfl
theorem zs_bald (hk : Nat.beq k yy_stv = false) (hG : G[k]? = some (.inl (1, (n, rs)))) (ho : xx_ops ops = [1]) (hx : yy_ix x n = true) : yy_step (G, (scr, kee)) M d (pc, (.baload, (len, ops))) ls (.inl x :: .inr (.inr k) :: rest) ω = some (.inl (pc + len, (ls, (.inl (ω.1 k x.toNatClampNeg) :: rest, ω)))) := by
  show yy_hbald (G, (scr, kee)) M d pc len (xx_ops ops) ls (.inl x :: .inr (.inr k) :: rest) ω = _
  have : (Nat.beq 1 1 && yy_ix x n) = true := by rw [hx]; rfl
  simp only [yy_hbald, hk, hG, ho, this]
  rfl
end ZV
theorem zs_and {k : Int32} (h : ¬ k.toInt = 0) : (k &&& (k - Int32.ofInt 1)).toBitVec.toNat < k.toBitVec.toNat := by
  have h0 : k.toBitVec.toNat ≠ 0 := by
    intro e
    apply h
    have : k = 0 := by
      apply Int32.toBitVec_inj.mp
      exact BitVec.eq_of_toNat_eq e
    rw [this]
    rfl
  rw [Int32.toBitVec_and, BitVec.toNat_and]
  have h1 : (k - Int32.ofInt 1).toBitVec.toNat = k.toBitVec.toNat - 1 := by
    rw [Int32.toBitVec_sub, BitVec.toNat_sub]
    have e1 : (Int32.ofInt 1).toBitVec.toNat = 1 := by decide
    have := k.toBitVec.isLt
    rw [e1]
    omega
  have := Nat.and_le_right (n := k.toBitVec.toNat) (m := (k - Int32.ofInt 1).toBitVec.toNat)
  omega
theorem zs_bits {kee : Nat → Int64} {R : Nat → Nat → Prop} {d : Nat} {ω : yy_O} {s : Int32} {Q : Option yy_U → yy_O → Prop} (hQ : ∀ r, Q (some (.inl r)) ω) : ∀ (m : Nat) (k n : Int32), k.toBitVec.toNat < m → zz_wp zt_T zt_G kee R none d zm_X7_bitsOf 4 [(2, .inl k), (1, .inl n), (0, .inl s)] [] ω Q := by
  intro m
  induction m with
  | zero => intro k n h; exact absurd h (Nat.not_lt_zero _)
  | succ m ih =>
    intro k n h
    refine zz_wp_next ⟨rfl, trivial⟩ rfl ?_
    by_cases e : k.toInt = 0
    · refine zz_wp_next ⟨rfl, trivial⟩ (zs_ift (t := 20) (decide_eq_true e) rfl) ?_
      refine zz_wp_next ⟨rfl, trivial⟩ rfl ?_
      exact zz_wp_ret ⟨rfl, trivial⟩ rfl (hQ _)
    · refine zz_wp_next ⟨rfl, trivial⟩ (zs_iff (decide_eq_false e)) ?_
      refine zz_wp_next ⟨rfl, trivial⟩ rfl ?_
      refine zz_wp_next ⟨rfl, trivial⟩ rfl ?_
      refine zz_wp_next ⟨rfl, trivial⟩ rfl ?_
      refine zz_wp_next ⟨rfl, trivial⟩ rfl ?_
      refine zz_wp_next ⟨rfl, trivial⟩ rfl ?_
      refine zz_wp_next ⟨rfl, trivial⟩ rfl ?_
      refine zz_wp_next ⟨rfl, trivial⟩ rfl ?_
      refine zz_wp_next ⟨rfl, trivial⟩ rfl ?_
      exact ih _ _ (Nat.lt_of_lt_of_le (zs_and e) (by omega))
theorem zs_div {kee : Nat → Int64} {R : Nat → Nat → Prop} {d : Nat} {ω : yy_O} {a b : Int32} {Q : Option yy_U → yy_O → Prop} (hQ : ∀ r : Int32, 1 ≤ r.toInt → Q (some (.inl r)) ω) : ∀ (m : Nat) (x y z : Int32), 1 ≤ x.toInt → y.toInt < (m : Int) → zz_wp zt_T zt_G kee R none d zm_X7_divisor 4 [(3, .inl y), (2, .inl x), (4, .inl z), (0, .inl a), (1, .inl b)] [] ω Q := by
  have rem : ∀ {x y : Int32}, 1 ≤ x.toInt → 1 ≤ y.toInt → 0 ≤ (x - x / y * y).toInt ∧ (x - x / y * y).toInt < y.toInt := by
    intro x y h1 h2
    have := zz_trem_ok x y (x.toInt, x.toInt) (y.toInt, y.toInt) (Int.le_refl _) (Int.le_refl _) (Int.le_refl _) (Int.le_refl _)
    have e : zz_trem (x.toInt, x.toInt) (y.toInt, y.toInt) = (0, zz_min x.toInt (y.toInt - 1)) := by
      unfold zz_trem
      have : (xx_le 0 x.toInt && xx_le 1 y.toInt) = true := by
        rw [Bool.and_eq_true, xx_le_iff, xx_le_iff]
        exact ⟨by omega, h2⟩
      simp only [this]
    rw [e] at this
    refine ⟨this.1, ?_⟩
    have h3 : (x - x / y * y).toInt ≤ zz_min x.toInt (y.toInt - 1) := this.2
    unfold zz_min at h3
    split at h3
    · rename_i hl
      rw [xx_le_iff] at hl
      omega
    · omega
  intro m
  induction m with
  | zero =>
    intro x y z hx hy
    refine zz_wp_next ⟨rfl, trivial⟩ rfl ?_
    refine zz_wp_next ⟨rfl, trivial⟩ (zs_ift (t := 21) (decide_eq_true (show y.toInt ≤ 0 by omega)) rfl) ?_
    refine zz_wp_next ⟨rfl, trivial⟩ rfl ?_
    exact zz_wp_ret ⟨rfl, trivial⟩ rfl (hQ _ hx)
  | succ m ih =>
    intro x y z hx hy
    refine zz_wp_next ⟨rfl, trivial⟩ rfl ?_
    by_cases e : y.toInt ≤ 0
    · refine zz_wp_next ⟨rfl, trivial⟩ (zs_ift (t := 21) (decide_eq_true e) rfl) ?_
      refine zz_wp_next ⟨rfl, trivial⟩ rfl ?_
      exact zz_wp_ret ⟨rfl, trivial⟩ rfl (hQ _ hx)
    · have hr := rem hx (show 1 ≤ y.toInt by omega)
      refine zz_wp_next ⟨rfl, trivial⟩ (zs_iff (decide_eq_false e)) ?_
      refine zz_wp_next ⟨rfl, trivial⟩ rfl ?_
      refine zz_wp_next ⟨rfl, trivial⟩ rfl ?_
      refine zz_wp_next ⟨rfl, trivial⟩ (zs_irem (fun h => e (by rw [h]; decide))) ?_
      refine zz_wp_next ⟨rfl, trivial⟩ rfl ?_
      refine zz_wp_next ⟨rfl, trivial⟩ rfl ?_
      refine zz_wp_next ⟨rfl, trivial⟩ rfl ?_
      refine zz_wp_next ⟨rfl, trivial⟩ rfl ?_
      refine zz_wp_next ⟨rfl, trivial⟩ rfl ?_
      refine zz_wp_next ⟨rfl, trivial⟩ rfl ?_
      exact ih _ _ _ (by omega) (by omega)
