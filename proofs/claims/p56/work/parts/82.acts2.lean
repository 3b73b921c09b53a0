/-! keepAct and swapAll: the contracts -/
theorem zh_rd3 {D : zz_D} (k j : Nat) : zz_rd ((3000000, (0, 0)) :: D) k j := ⟨_, List.mem_cons_self, Or.inr ⟨rfl, by omega⟩⟩
theorem zj_252 (kee : Nat → Int64) : zz_KOK zt_E (zp_phi kee) kee zk_252 := by
  intro ρ ω as d hd ho
  obtain ⟨as', rfl, h0⟩ := zh_ref1 ho.2.2.2.2.2.2
  have := zz_stm_nil h0
  subst this
  have cell : ∀ (i : Nat) {q : Nat × (zz_V × zz_V)}, zk_252.2.2.1.2.2.1[i]? = some q → zz_cm ρ ω q := fun i q h => ho.2.2.2.1 q (List.mem_of_getElem? h)
  obtain ⟨t, a, u, e1, e2, e3, hfw⟩ := zl_3 (ho.2.2.2.2.1 _ (List.mem_of_getElem? (i := 0) rfl))
  obtain ⟨t0, t1, a0, u0, au, hw⟩ := (show zp_fw t a u ω from hfw)
  have c46 : ω.1 38 46 = a := zl_cc (j := 46) (cell 5 rfl) (by decide) e2
  have hall : ω.1 17 t.toInt.toNat = 1 := by
    obtain ⟨j, d1, d2, d3⟩ := cell 4 rfl
    have d1 : zz_val ρ (.inr (.inl (2, 0))) = some (.inl j) := d1
    have e1 : zz_val ρ (.inr (.inl (2, 0))) = some (.inl t) := e1
    rw [e1] at d1
    cases d1
    rcases d3 with d3 | d3
    · have d3 : some (Sum.inl (Int32.ofInt 1)) = some (Sum.inl (ω.1 17 t.toNatClampNeg)) := d3
      exact (Sum.inl.inj (Option.some.inj d3)).symm
    · cases d3
  refine ⟨zm_X7_keepAct, rfl, zz_wp_R (R := fun _ _ => True) (fun k j _ => zh_rd3 k j) (zs_keepAct (fun _ _ => trivial) (A := t.toInt.toNat) (c := a.toInt.toNat) (by omega) (by omega) hall (by rw [c46]; omega) (fun j hj => hw j (by omega)) ?_)⟩
  intro ω2 c' hc' hoff h2 hw2 h46 h47
  obtain ⟨f1, f2, f3⟩ := zz_csm_new (y := (1, (40, (none, none)))) (x := ω2.1 38 46) ho.1 ⟨by show (1 : Int) ≤ _; omega, by show _ ≤ (40 : Int); omega, (fun t c h => by cases h), fun f h => by cases h⟩
  have t0' : (0 : Int32).toInt = 0 := by decide
  refine ⟨_, List.mem_cons_self, _, f1, ⟨f2, ho.2.1, ?_, ?_, ?_, (fun i v h => by cases h), rfl⟩, ?_⟩
  · intro k j
    by_cases k10 : k = 10
    · subst k10
      exact xx_rng _
    · by_cases km : k = 38
      · subst km
        by_cases j46 : j = 46
        · subst j46
          exact ⟨by show (0 : Int) ≤ _; omega, by show _ ≤ (40 : Int); omega⟩
        · by_cases j47 : j = 47
          · subst j47
            rw [h47]
            exact ⟨by show (0 : Int) ≤ _; omega, by show _ ≤ (40 : Int); omega⟩
          · rw [hoff 38 j (fun h => absurd h (by decide)) (fun _ => ⟨j46, j47⟩)]
            exact ho.2.2.1 38 j
      · rw [hoff k j (fun h => absurd h k10) (fun h => absurd h km)]
        exact ho.2.2.1 k j
  · intro q hq
    rcases List.mem_cons.mp hq with e | e
    · rw [e]
      refine ⟨Int32.ofInt 46, rfl, by decide, Or.inl ?_⟩
      show zz_val _ (.inr (.inl (5, 0))) = some (Sum.inl (ω2.1 38 (Int32.ofInt 46).toNatClampNeg))
      have : (Int32.ofInt 46).toNatClampNeg = 46 := by decide
      rw [this]
      exact f3
    · rw [List.mem_singleton.mp e]
      refine ⟨Int32.ofInt 47, rfl, by decide, Or.inl ?_⟩
      show some (Sum.inl (Int32.ofInt 0)) = some (Sum.inl (ω2.1 38 (Int32.ofInt 47).toNatClampNeg))
      have : (Int32.ofInt 47).toNatClampNeg = 47 := by decide
      rw [this, h47]
      rfl
  · intro f hf
    rw [List.mem_singleton.mp hf]
    refine ⟨[t, ω2.1 38 46, 0], ?_, ?_⟩
    · show [zz_val _ (.inr (.inl (2, 0))), zz_val _ (.inr (.inl (5, 0))), zz_val _ (.inl 0)] = _
      have e1' : zz_val (ρ.1 ++ [ω2.1 38 46], ρ.2) (.inr (.inl (2, 0))) = some (.inl t) := zz_val_ex f1 e1
      have f3' : zz_val (ρ.1 ++ [ω2.1 38 46], ρ.2) (.inr (.inl (5, 0))) = some (.inl (ω2.1 38 46)) := f3
      rw [e1', f3']
      rfl
    · exact ⟨t0, t1, by omega, by omega, by omega, fun j hj => hw2 j (by omega)⟩
  · intro k j hn
    refine ⟨hoff k j ?_ ?_, by rw [h2]⟩
    · intro e
      subst e
      apply Classical.byContradiction
      intro hj
      exact hn (zp_cov (a := 0) (b := 2992) 1 rfl (by omega) (by omega))
    · intro e
      subst e
      constructor
      · intro e9
        subst e9
        exact hn (zp_cov (a := 46) (b := 46) 2 rfl (by decide) (by decide))
      · intro e9
        subst e9
        exact hn (zp_cov (a := 47) (b := 47) 3 rfl (by decide) (by decide))
theorem zj_268 (kee : Nat → Int64) : zz_KOK zt_E (zp_phi kee) kee zk_268 := by
  intro ρ ω as d hd ho
  obtain ⟨as', rfl, h0⟩ := zh_ref1 ho.2.2.2.2.2.2
  have := zz_stm_nil h0
  subst this
  have cell : ∀ (i : Nat) {q : Nat × (zz_V × zz_V)}, zk_268.2.2.1.2.2.1[i]? = some q → zz_cm ρ ω q := fun i q h => ho.2.2.2.1 q (List.mem_of_getElem? h)
  obtain ⟨t, a, u, e1, e2, e3, hfw⟩ := zl_3 (ho.2.2.2.2.1 _ (List.mem_of_getElem? (i := 0) rfl))
  obtain ⟨t0, t1, a0, u0, au, hw⟩ := (show zp_fw t a u ω from hfw)
  have c46 : ω.1 38 46 = a := zl_cc (j := 46) (cell 5 rfl) (by decide) e2
  have u1 : 1 ≤ u.toInt := (ho.1.2 4 _ u rfl (zl_s0 e3)).1
  have hall : ω.1 17 t.toInt.toNat = 1 := by
    obtain ⟨j, d1, d2, d3⟩ := cell 4 rfl
    have d1 : zz_val ρ (.inr (.inl (2, 0))) = some (.inl j) := d1
    have e1 : zz_val ρ (.inr (.inl (2, 0))) = some (.inl t) := e1
    rw [e1] at d1
    cases d1
    rcases d3 with d3 | d3
    · have d3 : some (Sum.inl (Int32.ofInt 1)) = some (Sum.inl (ω.1 17 t.toNatClampNeg)) := d3
      exact (Sum.inl.inj (Option.some.inj d3)).symm
    · cases d3
  have z0 : (Int32.ofInt 0).toInt = ((0 : Nat) : Int) := by decide
  refine ⟨zm_X7_swapAll, rfl, zz_wp_R (R := fun _ _ => True) (fun k j _ => zh_rd3 k j) ?_⟩
  refine zz_wp_next ⟨rfl, trivial⟩ rfl ?_
  refine zz_wp_next ⟨rfl, trivial⟩ rfl ?_
  refine zs_swap (fun _ _ => trivial) (A := t.toInt.toNat) (c := a.toInt.toNat) (n := (a.toInt + u.toInt).toNat) (ω0 := ω) (by omega) (by omega) (by omega) (by rw [c46]; omega) ?_ 73 0 _ ω _ (by omega) z0 (Or.inl rfl) ⟨fun _ _ _ => rfl, rfl⟩ (fun j hj => hw j (by omega)) hall
  intro ω2 hoff hw2 hall2
  refine ⟨_, List.mem_cons_self, ρ, zz_ex_rf ρ, ⟨ho.1, ho.2.1, ?_, ?_, ?_, (fun i v h => by cases h), rfl⟩, ?_⟩
  · intro k j
    by_cases k10 : k = 10
    · subst k10
      exact xx_rng _
    · by_cases k17 : k = 17
      · subst k17
        exact xx_rng _
      · rw [zs_o2 hoff k10 k17]
        exact ho.2.2.1 k j
  · intro q hq
    rw [List.mem_singleton.mp hq]
    refine ⟨t, e1, t0, Or.inl ?_⟩
    show some (Sum.inl (Int32.ofInt 1)) = some (Sum.inl (ω2.1 17 t.toNatClampNeg))
    have : ω2.1 17 t.toNatClampNeg = 1 := hall2
    rw [this]
    rfl
  · intro f hf
    rw [List.mem_singleton.mp hf]
    refine ⟨[t, a, u], ?_, ⟨t0, t1, a0, u0, au, fun j hj => hw2 j (by omega)⟩⟩
    show [zz_val _ (.inr (.inl (2, 0))), zz_val _ (.inr (.inl (3, 0))), zz_val _ (.inr (.inl (4, 0)))] = _
    rw [show zz_val ρ (.inr (.inl (2, 0))) = _ from e1, show zz_val ρ (.inr (.inl (3, 0))) = _ from e2, show zz_val ρ (.inr (.inl (4, 0))) = _ from e3]
    rfl
  · intro k j hn
    refine ⟨hoff.1 k j ?_, by rw [hoff.2]⟩
    intro q hq e
    rcases List.mem_cons.mp hq with e9 | e9
    · rw [e9] at e ⊢
      have e : 10 = k := e
      subst e
      apply Classical.byContradiction
      intro hj
      have hj : ¬ 2993 ≤ j := hj
      exact hn (zp_cov (a := 0) (b := 2992) 1 rfl (by omega) (by omega))
    · rw [List.mem_singleton.mp e9] at e ⊢
      have e : 17 = k := e
      subst e
      apply Classical.byContradiction
      intro hj
      have hj : ¬ 73 ≤ j := hj
      exact hn (zp_cov (a := 0) (b := 72) 2 rfl (by omega) (by omega))
