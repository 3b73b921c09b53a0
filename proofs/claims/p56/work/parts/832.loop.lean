/-! a rule as a whole -/
section ZD
variable {kee : Nat → Int64} {d : Nat} {Q : Option yy_U → yy_O → Prop}
theorem zs_headX {ω : yy_O} {i n : Int32} {ls : yy_L} (bx : yy_ix (ω.1 38 29) 2 = true) (bq : (ω.1 38 29).toNatClampNeg ≤ 1) (hle : (ω.1 24 (ω.1 38 29).toNatClampNeg).toInt ≤ i.toInt) (fin : Q (some (.inl (ω.1 18 0))) ω) (hls : (ls = [(2, .inl i), (1, .inl n), (0, .inr (.inr 38))] ∨ (∃ c, ls = [(2, .inl i), (1, .inl n), (3, .inl c), (0, .inr (.inr 38))]) ∨ ∃ c, ls = [(2, .inl i), (3, .inl c), (1, .inl n), (0, .inr (.inr 38))])) : zz_wp zt_T zt_G kee (zz_cov (zt_ww 7)) none (d + 1) zm_X7_comes 12 ls [] ω Q := by
  rcases hls with e | ⟨c, e⟩ | ⟨c, e⟩ <;> subst e
  · skip
    refine zz_wp_next ⟨rfl, trivial⟩ rfl ?_
    refine zz_wp_next ⟨rfl, trivial⟩ rfl ?_
    refine zz_wp_next ⟨rfl, zs_r22⟩ rfl ?_
    refine zz_wp_next ⟨rfl, trivial⟩ rfl ?_
    refine zz_wp_next ⟨rfl, zs_r29⟩ rfl ?_
    refine zz_wp_next ⟨rfl, fun _ => zs_qt bq⟩ (zs_iald (k := 24) (n := 2) rfl rfl bx) ?_
    refine zz_wp_next ⟨rfl, trivial⟩ (zs_ct (t := 130) (decide_eq_true hle) rfl) ?_
    refine zz_wp_next ⟨rfl, trivial⟩ rfl ?_
    refine zz_wp_next ⟨rfl, zs_r28⟩ rfl ?_
    refine zz_wp_next ⟨rfl, trivial⟩ rfl ?_
    refine zz_wp_next ⟨rfl, fun _ => zs_qp (by decide)⟩ (zs_iald (k := 18) (n := 60) rfl rfl (by decide)) ?_
    exact zz_wp_ret ⟨rfl, trivial⟩ rfl fin
  · skip
    refine zz_wp_next ⟨rfl, trivial⟩ rfl ?_
    refine zz_wp_next ⟨rfl, trivial⟩ rfl ?_
    refine zz_wp_next ⟨rfl, zs_r22⟩ rfl ?_
    refine zz_wp_next ⟨rfl, trivial⟩ rfl ?_
    refine zz_wp_next ⟨rfl, zs_r29⟩ rfl ?_
    refine zz_wp_next ⟨rfl, fun _ => zs_qt bq⟩ (zs_iald (k := 24) (n := 2) rfl rfl bx) ?_
    refine zz_wp_next ⟨rfl, trivial⟩ (zs_ct (t := 130) (decide_eq_true hle) rfl) ?_
    refine zz_wp_next ⟨rfl, trivial⟩ rfl ?_
    refine zz_wp_next ⟨rfl, zs_r28⟩ rfl ?_
    refine zz_wp_next ⟨rfl, trivial⟩ rfl ?_
    refine zz_wp_next ⟨rfl, fun _ => zs_qp (by decide)⟩ (zs_iald (k := 18) (n := 60) rfl rfl (by decide)) ?_
    exact zz_wp_ret ⟨rfl, trivial⟩ rfl fin
  · skip
    refine zz_wp_next ⟨rfl, trivial⟩ rfl ?_
    refine zz_wp_next ⟨rfl, trivial⟩ rfl ?_
    refine zz_wp_next ⟨rfl, zs_r22⟩ rfl ?_
    refine zz_wp_next ⟨rfl, trivial⟩ rfl ?_
    refine zz_wp_next ⟨rfl, zs_r29⟩ rfl ?_
    refine zz_wp_next ⟨rfl, fun _ => zs_qt bq⟩ (zs_iald (k := 24) (n := 2) rfl rfl bx) ?_
    refine zz_wp_next ⟨rfl, trivial⟩ (zs_ct (t := 130) (decide_eq_true hle) rfl) ?_
    refine zz_wp_next ⟨rfl, trivial⟩ rfl ?_
    refine zz_wp_next ⟨rfl, zs_r28⟩ rfl ?_
    refine zz_wp_next ⟨rfl, trivial⟩ rfl ?_
    refine zz_wp_next ⟨rfl, fun _ => zs_qp (by decide)⟩ (zs_iald (k := 18) (n := 60) rfl rfl (by decide)) ?_
    exact zz_wp_ret ⟨rfl, trivial⟩ rfl fin
theorem zs_headG {ω : yy_O} {i n : Int32} {ls : yy_L} (bx : yy_ix (ω.1 38 29) 2 = true) (bq : (ω.1 38 29).toNatClampNeg ≤ 1) (hgt : ¬ (ω.1 24 (ω.1 38 29).toNatClampNeg).toInt ≤ i.toInt) (ix : yy_ix i 1120 = true) (iq : i.toNatClampNeg ≤ 1119) (body : zz_wp zt_T zt_G kee (zz_cov (zt_ww 7)) none (d + 1) zm_X7_comes 32 [(3, .inl (ω.1 22 i.toNatClampNeg)), (2, .inl i), (1, .inl n), (0, .inr (.inr 38))] [] ω Q) (hls : (ls = [(2, .inl i), (1, .inl n), (0, .inr (.inr 38))] ∨ (∃ c, ls = [(2, .inl i), (1, .inl n), (3, .inl c), (0, .inr (.inr 38))]) ∨ ∃ c, ls = [(2, .inl i), (3, .inl c), (1, .inl n), (0, .inr (.inr 38))])) : zz_wp zt_T zt_G kee (zz_cov (zt_ww 7)) none (d + 1) zm_X7_comes 12 ls [] ω Q := by
  rcases hls with e | ⟨c, e⟩ | ⟨c, e⟩ <;> subst e
  · skip
    refine zz_wp_next ⟨rfl, trivial⟩ rfl ?_
    refine zz_wp_next ⟨rfl, trivial⟩ rfl ?_
    refine zz_wp_next ⟨rfl, zs_r22⟩ rfl ?_
    refine zz_wp_next ⟨rfl, trivial⟩ rfl ?_
    refine zz_wp_next ⟨rfl, zs_r29⟩ rfl ?_
    refine zz_wp_next ⟨rfl, fun _ => zs_qt bq⟩ (zs_iald (k := 24) (n := 2) rfl rfl bx) ?_
    refine zz_wp_next ⟨rfl, trivial⟩ (zs_cf (decide_eq_false hgt)) ?_
    refine zz_wp_next ⟨rfl, trivial⟩ rfl ?_
    refine zz_wp_next ⟨rfl, zs_r24⟩ rfl ?_
    refine zz_wp_next ⟨rfl, trivial⟩ rfl ?_
    refine zz_wp_next ⟨rfl, fun _ => zs_qc iq⟩ (zs_iald (k := 22) (n := 1120) rfl rfl ix) ?_
    refine zz_wp_next ⟨rfl, trivial⟩ rfl ?_
    exact body
  · skip
    refine zz_wp_next ⟨rfl, trivial⟩ rfl ?_
    refine zz_wp_next ⟨rfl, trivial⟩ rfl ?_
    refine zz_wp_next ⟨rfl, zs_r22⟩ rfl ?_
    refine zz_wp_next ⟨rfl, trivial⟩ rfl ?_
    refine zz_wp_next ⟨rfl, zs_r29⟩ rfl ?_
    refine zz_wp_next ⟨rfl, fun _ => zs_qt bq⟩ (zs_iald (k := 24) (n := 2) rfl rfl bx) ?_
    refine zz_wp_next ⟨rfl, trivial⟩ (zs_cf (decide_eq_false hgt)) ?_
    refine zz_wp_next ⟨rfl, trivial⟩ rfl ?_
    refine zz_wp_next ⟨rfl, zs_r24⟩ rfl ?_
    refine zz_wp_next ⟨rfl, trivial⟩ rfl ?_
    refine zz_wp_next ⟨rfl, fun _ => zs_qc iq⟩ (zs_iald (k := 22) (n := 1120) rfl rfl ix) ?_
    refine zz_wp_next ⟨rfl, trivial⟩ rfl ?_
    exact body
  · skip
    refine zz_wp_next ⟨rfl, trivial⟩ rfl ?_
    refine zz_wp_next ⟨rfl, trivial⟩ rfl ?_
    refine zz_wp_next ⟨rfl, zs_r22⟩ rfl ?_
    refine zz_wp_next ⟨rfl, trivial⟩ rfl ?_
    refine zz_wp_next ⟨rfl, zs_r29⟩ rfl ?_
    refine zz_wp_next ⟨rfl, fun _ => zs_qt bq⟩ (zs_iald (k := 24) (n := 2) rfl rfl bx) ?_
    refine zz_wp_next ⟨rfl, trivial⟩ (zs_cf (decide_eq_false hgt)) ?_
    refine zz_wp_next ⟨rfl, trivial⟩ rfl ?_
    refine zz_wp_next ⟨rfl, zs_r24⟩ rfl ?_
    refine zz_wp_next ⟨rfl, trivial⟩ rfl ?_
    refine zz_wp_next ⟨rfl, fun _ => zs_qc iq⟩ (zs_iald (k := 22) (n := 1120) rfl rfl ix) ?_
    refine zz_wp_next ⟨rfl, trivial⟩ rfl ?_
    exact body
def zs_hask (kee : Nat → Int64) (d : Nat) (ω0 : yy_O) (ask : Int32 → Int32 → Int32) : Prop := ∀ (c n : Int32) (ω : yy_O), zz_tyd zt_tau ω → zs_pl ω0 ω → zz_wp zt_T zt_G kee (zz_cov (zt_ww 7)) none d zm_X7_asked 0 (yy_arg 0 [.inr (.inr 38), .inl c, .inl n]) [] ω (fun v ω' => v = some (.inl (ask c n)) ∧ zz_tyd zt_tau ω' ∧ zs_eq ω ω')
def zs_htw (kee : Nat → Int64) (d : Nat) (tw : Int32 → Int32 → Int32 → Int32) : Prop := ∀ (c a b : Int32) (ω : yy_O), zz_tyd zt_tau ω → zz_wp zt_T zt_G kee (zz_cov (zt_ww 7)) none d zm_X7_two 0 (yy_arg 0 [.inl c, .inl a, .inl b]) [] ω (fun v ω' => v = some (.inl (tw c a b)) ∧ zz_tyd zt_tau ω' ∧ zs_eq ω ω')
/-- the bank, as it is read -/
theorem zs_bank {ω0 ω : yy_O} {b : Nat} (hb : (ω0.1 38 29).toInt = (b : Int)) (hb1 : b ≤ 1) (hpl : zs_pl ω0 ω) : yy_ix (ω.1 38 29) 2 = true ∧ (ω.1 38 29).toNatClampNeg = b := by
  have eb : ω.1 38 29 = ω0.1 38 29 := (hpl 38 29 (by decide) (fun h => absurd h (by decide))).1
  rw [eb]
  have := zz_natc (j := ω0.1 38 29) (by omega)
  exact ⟨zs_ix (by omega) (by omega), by omega⟩
theorem zs_loop {ω0 : yy_O} {ask : Int32 → Int32 → Int32} {tw : Int32 → Int32 → Int32 → Int32} {fr L b h9 : Nat} (hask : zs_hask kee d ω0 ask) (htw : zs_htw kee d tw) (hb : (ω0.1 38 29).toInt = (b : Int)) (hb1 : b ≤ 1) (hto : (ω0.1 24 b).toInt = ((fr + L : Nat) : Int)) (hfr : fr + L ≤ 1120) (hrun : zp_run (ω0.1 22) fr L = some h9) (hQ : ∀ ω s, zs_ev ask tw (ω0.1 22) (ω0.1 21) fr L = some s → zs_pm ω s → zs_pl ω0 ω → zz_tyd zt_tau ω → Q (some (.inl (ω.1 18 0))) ω) :
    ∀ (m l : Nat) (i n : Int32) (s : List Int32) (ω : yy_O) (ls : yy_L), l + m = L → i.toInt = ((fr + l : Nat) : Int) → n.toInt = (s.length : Int) → zp_run (ω0.1 22) fr l = some s.length → zs_ev ask tw (ω0.1 22) (ω0.1 21) fr l = some s → zs_pm ω s → zs_pl ω0 ω → zz_tyd zt_tau ω → (ls = [(2, .inl i), (1, .inl n), (0, .inr (.inr 38))] ∨ (∃ c, ls = [(2, .inl i), (1, .inl n), (3, .inl c), (0, .inr (.inr 38))]) ∨ ∃ c, ls = [(2, .inl i), (3, .inl c), (1, .inl n), (0, .inr (.inr 38))]) → zz_wp zt_T zt_G kee (zz_cov (zt_ww 7)) none (d + 1) zm_X7_comes 12 ls [] ω Q := by
  intro m
  induction m with
  | zero =>
    intro l i n s ω ls hm hi hn h1 h2 hpm hpl hty hls
    obtain ⟨bx, bn⟩ := zs_bank hb hb1 hpl
    have et : ω.1 24 (ω.1 38 29).toNatClampNeg = ω0.1 24 b := by rw [bn]; exact (hpl 24 b (by decide) (fun h => absurd h (by decide))).1
    have el : l = L := by omega
    rw [el] at h2
    exact zs_headX bx (by omega) (by rw [et]; omega) (hQ ω s h2 hpm hpl hty) hls
  | succ m ih =>
    intro l i n s ω ls hm hi hn h1 h2 hpm hpl hty hls
    obtain ⟨bx, bn⟩ := zs_bank hb hb1 hpl
    have et : ω.1 24 (ω.1 38 29).toNatClampNeg = ω0.1 24 b := by rw [bn]; exact (hpl 24 b (by decide) (fun h => absurd h (by decide))).1
    have inn : i.toNatClampNeg = fr + l := by have := zz_natc (j := i) (by omega); omega
    have ix : yy_ix i 1120 = true := zs_ix (by omega) (by omega)
    have ec : ω.1 22 i.toNatClampNeg = ω0.1 22 (fr + l) := by rw [inn]; exact (hpl 22 _ (by decide) (fun h => absurd h (by decide))).1
    have e21 : ω.1 21 i.toNatClampNeg = ω0.1 21 (fr + l) := by rw [inn]; exact (hpl 21 _ (by decide) (fun h => absurd h (by decide))).1
    have hi1 : (i + 1).toInt = ((fr + (l + 1) : Nat) : Int) := by
      have := zh_one (x := i) (by omega) (by omega)
      omega
    obtain ⟨h', hr'⟩ := zp_run_pre (C := ω0.1 22) (fr := fr) (l := l + 1) (m := m) (by rw [show l + 1 + m = L by omega]; exact hrun)
    have hst : zp_st s.length (ω0.1 22 (fr + l)) = some h' := by
      have : (match zp_run (ω0.1 22) fr l with
        | none => none
        | some h => zp_st h (ω0.1 22 (fr + l))) = some h' := hr'
      rw [h1] at this
      exact this
    have h60 := zs_run60 h1
    refine zs_headG bx (by omega) (by rw [et]; omega) ix (by omega) ?_ hls
    rw [ec]
    clear hls ix inn ec
    generalize hc : ω0.1 22 (fr + l) = c at hst
    unfold zp_st at hst
    by_cases e126 : c = 126
    · rw [if_pos e126] at hst
      match s, hn, hpm, h1, h2, hst, h60 with
      | [], _, _, _, _, hst, _ => simp at hst
      | x :: s, hn, hpm, h1, h2, hst, h60 =>
        have hl : s.length + 1 = h' := by
          split at hst
          · exact Option.some.inj hst
          · cases hst
        have hk : s.length + 1 ≤ 60 := h60
        refine zs_caseN (k := s.length) (by rw [e126]; decide) hn hk hpm.1 ?_
        refine ih (l + 1) _ _ ((if x.toInt = 0 then 1 else 0) :: s) _ _ (by omega) hi1 hn (by rw [hr', ← hl]; rfl) ?_ ⟨zh_same, zs_pm_put (Nat.le_refl _) hpm.2⟩ (zs_pl_put hpl (by omega)) (zs_tyd18 hty) (Or.inr (Or.inr ⟨c, rfl⟩))
        simp only [zs_ev, h2, hc]
        rw [if_pos e126]
    · rw [if_neg e126] at hst
      have c126 : c.toInt ≠ 126 := fun h => e126 (Int32.toInt_inj.mp (by rw [h]; decide))
      by_cases el : 97 ≤ c.toInt ∧ c.toInt ≤ 122
      · rw [if_pos el] at hst
        have hl : s.length ≤ 59 ∧ s.length + 1 = h' := by
          split at hst
          · rename_i h59
            exact ⟨h59, Option.some.inj hst⟩
          · cases hst
        obtain ⟨-, -, n1⟩ := zs_ar0 hn hl.1
        have iq : i.toNatClampNeg ≤ 1119 := by have := zz_natc (j := i) (by omega); omega
        refine zs_caseL c126 el hn hl.1 (zs_ix (by omega) (by omega)) iq (hask _ _ ω hty hpl) ?_
        intro ω2 eq2 ty2
        refine ih (l + 1) _ _ (ask c (ω.1 21 i.toNatClampNeg) :: s) _ _ (by omega) hi1 n1 (by rw [hr', ← hl.2]; rfl) ?_ ⟨zh_same, zs_pm_put (Nat.le_refl _) (zs_pm_cong (fun j _ => (eq2 18 j (by decide)).1) hpm)⟩ (zs_pl_put (zs_pl_tr hpl (zs_eq_pl eq2)) (by omega)) (zs_tyd18 ty2) (Or.inr (Or.inl ⟨c, rfl⟩))
        simp only [zs_ev, h2, hc]
        rw [if_neg e126, if_pos el, e21]
      · rw [if_neg el] at hst
        match s, hn, hpm, h1, h2, hst, h60 with
        | [], _, _, _, _, hst, _ => simp at hst
        | [_], _, _, _, _, hst, _ => simp at hst
        | y :: x :: s, hn, hpm, h1, h2, hst, h60 =>
          have hl : s.length + 1 = h' := by
            split at hst
            · have := Option.some.inj hst
              simp only [List.length_cons] at this
              omega
            · cases hst
          have hk : s.length + 2 ≤ 60 := h60
          have h6 : s.length < 60 := by omega
          have hm' : l + 1 + m = L := by omega
          obtain ⟨n1, -, -⟩ := zs_ar2 (n := n) (k := s.length) hn hk
          refine zs_caseB (k := s.length) c126 el hn hk hpm.1 hpm.2.1 (htw c x y ω hty) ?_
          intro ω2 eq2 ty2
          refine ih (l + 1) _ _ (tw c x y :: s) _ _ hm' hi1 n1 (by rw [hr', ← hl]; rfl) ?_ ⟨zh_same, zs_pm_put (Nat.le_refl _) (zs_pm_cong (fun j _ => (eq2 18 j (by decide)).1) hpm.2.2)⟩ (zs_pl_put (zs_pl_tr hpl (zs_eq_pl eq2)) h6) (zs_tyd18 ty2) (Or.inr (Or.inl ⟨c, rfl⟩))
          simp only [zs_ev, h2, hc]
          rw [if_neg e126, if_neg el]
end ZD
