theorem xx_nrm_num {ρ : xx_Y} {cs : xx_C} {ix : xx_V} {r : Int × Int} {c0 : Int} (hin : xx_in ρ cs) (hr : xx_iv cs ix = some r) (hn : xx_nrm cs ix = .inl c0) : (xx_i ρ ix).toInt = c0 := by
  obtain ⟨h1, h2, h3, h4, h5⟩ := xx_iv_ok hin hr
  rcases ix with x | ⟨q, d⟩ | x
  · cases hn
    simp only [xx_iv] at hr
    split at hr
    · rename_i hc
      rw [Bool.and_eq_true, xx_le_iff, xx_le_iff] at hc
      exact xx_ofInt hc.1 hc.2
    · cases hr
  · simp only [xx_nrm] at hn
    rw [hr] at hn
    simp only at hn
    split at hn
    · rename_i he
      rw [xx_eqI_iff] at he
      cases hn
      omega
    · cases hn
  · cases h1
theorem xx_idx_ok {ρ : xx_Y} {cs : xx_C} {ix : xx_V} {n : Nat} (hin : xx_in ρ cs) (h : xx_idx cs ix n = true) : xx_isI ix = true ∧ vp_in (xx_i ρ ix) n ∧ ∀ c : Nat, xx_nrm cs ix = .inl (.ofNat c) → (xx_i ρ ix).toNatClampNeg = c := by
  simp only [xx_idx] at h
  split at h
  · rename_i r hr
    rw [Bool.and_eq_true, xx_le_iff, xx_le_iff] at h
    obtain ⟨h1, h2, h3, h4, h5⟩ := xx_iv_ok hin hr
    have e : (xx_i ρ ix).toNatClampNeg = (xx_i ρ ix).toInt.toNat := rfl
    refine ⟨h1, ?_, fun c hc => ?_⟩
    · intro hq
      rcases hq with hq | hq
      · have hq : (xx_i ρ ix).toInt < 0 := by
          have := Int32.lt_iff_toInt_lt.mp hq
          simpa using this
        omega
      · rw [e] at hq
        omega
    · have := xx_nrm_num hin hr hc
      rw [e, this]
      rfl
  · cases h
section XA
variable {p : Program} {l : Launch} {e : Env} {R : Room} {s : State} {m : MethodId} {args : Array Value} {below : List Frame} {meth : Method} {c : Code} {Q : State → Prop} {M : xx_M} {A : Nat → Prop} {D : va_G} {k : xx_G} {outs : List xx_O} {cs : xx_C} {w : xx_W} {nk nc ns : Nat} {ls : xx_L} {st : List xx_V} {ρ : xx_Y} {tys : List (ClassId × FieldType)} {H : Heap} {locs : List Loc} {lsA : Array Slot} {pc scr : Nat} {ops : List Nat}
theorem xx_gA_int {i kd : Nat} {ct : Option (List xx_V)} (hkd : kd ≤ 2) : ∃ f : Nat → Int32, xx_gA ρ i kd ct = .inl f ∧ ∀ (l : List xx_V), ct = some l → f = fun j => xx_i ρ (l.getD j (.inl 0)) := by
  cases ct with
  | none => exact ⟨_, rfl, fun l h => by cases h⟩
  | some l0 =>
    refine ⟨fun j => xx_i ρ (l0.getD j (.inl 0)), ?_, fun l h => by cases h; rfl⟩
    match kd, hkd with
    | 0, _ => rfl
    | 1, _ => rfl
    | 2, _ => rfl
/-- a load of an int, byte or boolean -/
theorem xx_load_ok {kd i : Nat} {ix : xx_V} {rest : List xx_V} (hkd : kd ≤ 2) (row : ∀ {q0 t0 a n : Nat} {cA : ClassId} {f : Nat → Int32} {x : Int32} {rs : List Value}, (xx_gW ρ w)[q0]? = some (a, .inl (cA, n, .inl f)) → tys[t0]? = some (cA, xx_kty kd) → vp_in x n → W p l e R s m args below meth c H locs nc ns Q (F0 m (pc + 1) lsA (.int (f x.toNatClampNeg) :: rs)) → W p l e R s m args below meth c H locs nc ns Q (F0 m pc lsA (.int x :: .ref a :: rs)))
    (ho : xx_ok s A D ρ tys cs w nk ls (ix :: .inr (.inr (.inl (some i))) :: rest) H locs) (hv : lv_has lsA M.2.2.1 (xx_gL ρ ls)) (h : xx_load kd ix i rest cs w (fun cs st => k cs w nk nc ns ls st) = some outs) (kk : xx_KK p l e R s m args below meth c Q M A D k outs cs nk ρ (pc + 1)) : W p l e R s m args below meth c H locs nc ns Q (F0 m pc lsA ((ix :: .inr (.inr (.inl (some i))) :: rest).map (xx_g ρ))) := by
  obtain ⟨hi, hwW, hwl, hws, hnk, hK, har, hP, hD, hS⟩ := id ho
  have hrest := xx_wfs_tl (xx_wfs_tl hws)
  simp only [xx_load] at h
  split at h
  · rename_i pp kj n ct hf
    split at h
    · rename_i hc
      rw [Bool.and_eq_true] at hc
      have hkj := Nat.eq_of_beq_eq_true hc.1
      subst hkj
      obtain ⟨h1, h2, h3⟩ := xx_idx_ok hi hc.2
      have hat := xx_fnd_at hf
      have hg := xx_gW_at (ρ := ρ) hat
      obtain ⟨t0, ht0⟩ := har i kj n ct (List.mem_of_getElem? hat)
      obtain ⟨f, hf1, hf2⟩ := xx_gA_int (ρ := ρ) (i := i) (ct := ct) hkd
      have hg' : (xx_gW ρ w)[pp]? = some (ρ.2.1 i, .inl (ρ.2.2.1 i, n, .inl f)) := by
        rw [hg]
        show some (_, Sum.inl (_, (n, xx_gA ρ i kj ct))) = _
        rw [hf1]
      rw [List.map_cons, List.map_cons, xx_g_isI h1]
      refine row hg' ht0 h2 ?_
      split at h
      · rename_i l0
        split at h
        · rename_i c0 hc0
          split at h
          · rename_i v hlv
            split at h
            · rename_i hkn
              have hkn : xx_isI v = true := by
                match kj, hkd, hkn with
                | 0, _, hkn => exact hkn
                | 1, _, hkn => exact hkn
                | 2, _, hkn => exact hkn
              have hwf : xx_wf cs.length nk v := (hwW _ (List.mem_of_getElem? hat)).2 v (List.mem_of_getElem? hlv)
              have := kk.same ho h hwl (xx_wfs_cons hwf hrest) hv
              rw [List.map_cons, xx_g_isI hkn] at this
              have e9 : f (xx_i ρ ix).toNatClampNeg = xx_i ρ v := by
                rw [h3 c0 hc0, hf2 l0 rfl]
                show xx_i ρ (l0.getD c0 (.inl 0)) = _
                rw [List.getD_eq_getElem?_getD, hlv]
                rfl
              rw [e9]
              exact this
            · cases h
          · cases h
        · split at h
          · exact xx_res_ok kk ho hrest hv (xx_rok_full _ _ _ _) h
          · cases h
        · cases h
      · split at h
        · exact xx_res_ok kk ho hrest hv (xx_rok_full _ _ _ _) h
        · cases h
    · cases h
  · cases h
/-- a load of a long, or of a reference -/
theorem xx_load_ok3 {i : Nat} {ix : xx_V} {rest : List xx_V} (hx : p.tables.exec = Jvm.exec) (hb : c.code = M.2.1) (hd : decode M.2.1 pc = .ok (.laload, 1))
    (ho : xx_ok s A D ρ tys cs w nk ls (ix :: .inr (.inr (.inl (some i))) :: rest) H locs) (hv : lv_has lsA M.2.2.1 (xx_gL ρ ls)) (h : xx_load 3 ix i rest cs w (fun cs st => k cs w nk nc ns ls st) = some outs) (kk : xx_KK p l e R s m args below meth c Q M A D k outs cs nk ρ (pc + 1)) : W p l e R s m args below meth c H locs nc ns Q (F0 m pc lsA ((ix :: .inr (.inr (.inl (some i))) :: rest).map (xx_g ρ))) := by
  obtain ⟨hi, hwW, hwl, hws, hnk, hK, har, hP, hD, hS⟩ := id ho
  have hrest := xx_wfs_tl (xx_wfs_tl hws)
  simp only [xx_load] at h
  split at h
  · rename_i pp kj n ct hf
    split at h
    · rename_i hc
      rw [Bool.and_eq_true] at hc
      have hkj := Nat.eq_of_beq_eq_true hc.1
      subst hkj
      obtain ⟨h1, h2, h3⟩ := xx_idx_ok hi hc.2
      have hat := xx_fnd_at hf
      have hg := xx_gW_at (ρ := ρ) hat
      obtain ⟨t0, ht0⟩ := har i 3 n ct (List.mem_of_getElem? hat)
      rw [List.map_cons, List.map_cons, xx_g_isI h1]
      split at h
      · rename_i l0
        refine va_lald (D := D) (cl := xx_cl) hx hb hK hP pp t0 hg ht0 h2 hd ?_
        split at h
        · rename_i c0 hc0
          split at h
          · rename_i v hlv
            split at h
            · rename_i hkn
              have hwf : xx_wf cs.length nk v := (hwW _ (List.mem_of_getElem? hat)).2 v (List.mem_of_getElem? hlv)
              have := kk.same ho h hwl (xx_wfs_cons hwf hrest) hv
              rw [List.map_cons, xx_g_isL hkn] at this
              have e9 : (fun j => xx_l (l0.getD j (.inl 0))) (xx_i ρ ix).toNatClampNeg = xx_l v := by
                rw [h3 c0 hc0]
                show xx_l (l0.getD c0 (.inl 0)) = _
                rw [List.getD_eq_getElem?_getD, hlv]
                rfl
              rw [← e9] at this
              exact this
            · cases h
          · cases h
        · cases h
        · cases h
      · cases h
    · cases h
  · cases h
theorem xx_load_ok4 {i : Nat} {ix : xx_V} {rest : List xx_V} (hx : p.tables.exec = Jvm.exec) (hb : c.code = M.2.1) (hd : decode M.2.1 pc = .ok (.aaload, 1))
    (ho : xx_ok s A D ρ tys cs w nk ls (ix :: .inr (.inr (.inl (some i))) :: rest) H locs) (hv : lv_has lsA M.2.2.1 (xx_gL ρ ls)) (h : xx_load 4 ix i rest cs w (fun cs st => k cs w nk nc ns ls st) = some outs) (kk : xx_KK p l e R s m args below meth c Q M A D k outs cs nk ρ (pc + 1)) : W p l e R s m args below meth c H locs nc ns Q (F0 m pc lsA ((ix :: .inr (.inr (.inl (some i))) :: rest).map (xx_g ρ))) := by
  obtain ⟨hi, hwW, hwl, hws, hnk, hK, har, hP, hD, hS⟩ := id ho
  have hrest := xx_wfs_tl (xx_wfs_tl hws)
  simp only [xx_load] at h
  split at h
  · rename_i pp kj n ct hf
    split at h
    · rename_i hc
      rw [Bool.and_eq_true] at hc
      have hkj := Nat.eq_of_beq_eq_true hc.1
      subst hkj
      obtain ⟨h1, h2, h3⟩ := xx_idx_ok hi hc.2
      have hat := xx_fnd_at hf
      have hg := xx_gW_at (ρ := ρ) hat
      obtain ⟨t0, ht0⟩ := har i 4 n ct (List.mem_of_getElem? hat)
      rw [List.map_cons, List.map_cons, xx_g_isI h1]
      split at h
      · rename_i l0
        refine va_aldq (D := D) (cl := xx_cl) hx hb hK hP pp t0 hg ht0 h2 hd ?_
        split at h
        · rename_i c0 hc0
          split at h
          · rename_i v hlv
            split at h
            · rename_i hkn
              have hwf : xx_wf cs.length nk v := (hwW _ (List.mem_of_getElem? hat)).2 v (List.mem_of_getElem? hlv)
              have := kk.same ho h hwl (xx_wfs_cons hwf hrest) hv
              rw [List.map_cons, xx_g_isR hkn] at this
              have e9 : (fun j => xx_r ρ (l0.getD j (.inl 0))) (xx_i ρ ix).toNatClampNeg = xx_r ρ v := by
                rw [h3 c0 hc0]
                show xx_r ρ (l0.getD c0 (.inl 0)) = _
                rw [List.getD_eq_getElem?_getD, hlv]
                rfl
              rw [← e9] at this
              exact this
            · cases h
          · cases h
        · cases h
        · cases h
      · cases h
    · cases h
  · cases h
/-- contents of which nothing is known, written -/
theorem xx_ok.havoc {i pp kd n : Nat} {g : Nat → Int32} {rest : List xx_V} {H1 : Heap} {locs1 : List Loc} (ho : xx_ok s A D ρ tys cs w nk ls st H locs) (hat : w[pp]? = some (i, .inl (kd, (n, none)))) (hrest : xx_wfs cs.length nk rest)
    (hP : va_P D xx_cl ((xx_gW ρ w).set pp (ρ.2.1 i, .inl (ρ.2.2.1 i, n, .inl g))) H1) (hD : va_D A ((xx_gW ρ w).set pp (ρ.2.1 i, .inl (ρ.2.2.1 i, n, .inl g)))) (hS : va_S A s.heap H1 locs1) :
    xx_ag cs.length nk ρ (ρ.1, ρ.2.1, ρ.2.2.1, va_up ρ.2.2.2 i g) ∧ xx_ok s A D (ρ.1, ρ.2.1, ρ.2.2.1, va_up ρ.2.2.2 i g) tys cs w nk ls rest H1 locs1 := by
  obtain ⟨q1, q2, q3, q4, q5, q6, q7, q8, q9, q10⟩ := ho
  have hag : xx_ag cs.length nk ρ (ρ.1, ρ.2.1, ρ.2.2.1, va_up ρ.2.2.2 i g) := ⟨fun _ _ => rfl, fun _ _ => rfl, rfl⟩
  have e : xx_gW (ρ.1, ρ.2.1, ρ.2.2.1, va_up ρ.2.2.2 i g) w = (xx_gW ρ w).set pp (ρ.2.1 i, .inl (ρ.2.2.1 i, n, .inl g)) := by
    apply List.ext_getElem?
    intro j
    rw [List.getElem?_set]
    by_cases hj : pp = j
    · subst hj
      rw [if_pos rfl, if_pos (by unfold xx_gW; rw [List.length_map]; exact (List.getElem?_eq_some_iff.mp hat).1), xx_gW_at hat]
      show some (ρ.2.1 i, Sum.inl (ρ.2.2.1 i, (n, Sum.inl (va_up ρ.2.2.2 i g i)))) = _
      unfold va_up
      rw [if_pos rfl]
    · rw [if_neg hj]
      cases hwj : w[j]? with
      | none =>
        unfold xx_gW
        rw [List.getElem?_map, List.getElem?_map, hwj]
        rfl
      | some q =>
        obtain ⟨kq, eq⟩ := q
        rw [xx_gW_at hwj, xx_gW_at hwj]
        have hne : kq ≠ i := by
          intro hq
          subst hq
          exact hj (q9.1 pp j _ _ (xx_gW_at hat) (xx_gW_at hwj) rfl)
        have h2 := (q2 _ (List.mem_of_getElem? hwj)).2
        show some (ρ.2.1 kq, _) = some (ρ.2.1 kq, _)
        rw [xx_gE_ag hag rfl (by show va_up ρ.2.2.2 i g kq = _; unfold va_up; rw [if_neg hne]) h2]
  refine ⟨hag, q1, q2, q3, hrest, q5, q6, q7, ?_, ?_, hS⟩
  · rw [e]
    exact hP
  · rw [e]
    exact hD
/-- a store of an int or byte -/
theorem xx_upd_set {l0 : List xx_V} {c0 : Nat} {v : xx_V} (hl : c0 < l0.length) : upd (fun j => xx_i ρ (l0.getD j (.inl 0))) c0 (xx_i ρ v) = fun j => xx_i ρ ((l0.set c0 v).getD j (.inl 0)) := by
  funext j
  unfold upd
  rw [List.getD_eq_getElem?_getD, List.getElem?_set]
  by_cases hj : j = c0
  · subst hj
    rw [if_pos rfl, if_pos rfl, if_pos hl]
    rfl
  · rw [if_neg hj, if_neg (Ne.symm hj), ← List.getD_eq_getElem?_getD]
theorem xx_wf_set {nS nR c0 : Nat} {l0 : List xx_V} {v : xx_V} (h : ∀ u ∈ l0, xx_wf nS nR u) (hv : xx_wf nS nR v) : ∀ u ∈ l0.set c0 v, xx_wf nS nR u := fun u hu => by
  rcases List.mem_or_eq_of_mem_set hu with h9 | h9
  · exact h u h9
  · rw [h9]
    exact hv
theorem xx_store_ok {kd i : Nat} {v ix : xx_V} {rest : List xx_V} (hkd : kd ≤ 2) {nar : Int32 → Int32} (hnar : kd = 0 → ∀ x, nar x = x) (hnarZ : kd = 2 → xx_fit .boolean v = true → nar (xx_i ρ v) = xx_i ρ v)
    (row : ∀ {q0 t0 a n : Nat} {cA : ClassId} {f : Nat → Int32} {x z : Int32} {rs : List Value}, (xx_gW ρ w)[q0]? = some (a, .inl (cA, n, .inl f)) → tys[t0]? = some (cA, xx_kty kd) → vp_in x n → (∀ (H1 : Heap) (locs1 : List Loc), va_P D xx_cl ((xx_gW ρ w).set q0 (a, .inl (cA, n, .inl (upd f x.toNatClampNeg (nar z))))) H1 → va_D A ((xx_gW ρ w).set q0 (a, .inl (cA, n, .inl (upd f x.toNatClampNeg (nar z))))) → va_S A s.heap H1 locs1 → W p l e R s m args below meth c H1 locs1 nc ns Q (F0 m (pc + 1) lsA rs)) → W p l e R s m args below meth c H locs nc ns Q (F0 m pc lsA (.int z :: .int x :: .ref a :: rs)))
    (ho : xx_ok s A D ρ tys cs w nk ls (v :: ix :: .inr (.inr (.inl (some i))) :: rest) H locs) (hv : lv_has lsA M.2.2.1 (xx_gL ρ ls)) (h : xx_store kd v ix i cs w (fun w => k cs w nk nc ns ls rest) = some outs) (kk : xx_KK p l e R s m args below meth c Q M A D k outs cs nk ρ (pc + 1)) : W p l e R s m args below meth c H locs nc ns Q (F0 m pc lsA ((v :: ix :: .inr (.inr (.inl (some i))) :: rest).map (xx_g ρ))) := by
  obtain ⟨hi, hwW, hwl, hws, hnk, hK, har, hP, hD, hS⟩ := id ho
  have hrest := xx_wfs_tl (xx_wfs_tl (xx_wfs_tl hws))
  simp only [xx_store] at h
  split at h
  · rename_i pp kj n ct hf
    split at h
    · rename_i hc
      rw [Bool.and_eq_true, Bool.and_eq_true] at hc
      have hkj := Nat.eq_of_beq_eq_true hc.1
      subst hkj
      obtain ⟨h1, h2, h3⟩ := xx_idx_ok hi hc.2.1
      have hkn : xx_isI v = true := by
        match kj, hkd, hc.2.2 with
        | 0, _, hkn => exact hkn
        | 1, _, hkn => exact hkn
        | 2, _, hkn => exact hkn
      have hat := xx_fnd_at hf
      have hg := xx_gW_at (ρ := ρ) hat
      obtain ⟨t0, ht0⟩ := har i kj n ct (List.mem_of_getElem? hat)
      obtain ⟨f, hf1, hf2⟩ := xx_gA_int (ρ := ρ) (i := i) (ct := ct) hkd
      have hg' : (xx_gW ρ w)[pp]? = some (ρ.2.1 i, .inl (ρ.2.2.1 i, n, .inl f)) := by
        rw [hg]
        show some (_, Sum.inl (_, (n, xx_gA ρ i kj ct))) = _
        rw [hf1]
      rw [List.map_cons, List.map_cons, List.map_cons, xx_g_isI h1, xx_g_isI hkn]
      refine row hg' ht0 h2 (fun H1 locs1 hP1 hD1 hS1 => ?_)
      split at h
      · rename_i l0
        split at h
        · rename_i c0 hc0
          split at h
          · rename_i hq
            rw [Bool.and_eq_true, Bool.and_eq_true, Bool.or_eq_true, Bool.not_eq_true', Bool.not_eq_true'] at hq
            obtain ⟨hq1, hq2, hq3⟩ := hq
            have hlen : c0 < l0.length := Nat.lt_of_lt_of_le (Nat.lt_succ_self _) (Nat.le_of_ble_eq_true hq1)
            simp only [xx_set_eq] at h
            have hnv : nar (xx_i ρ v) = xx_i ρ v := by
              match kj, hkd, hq2, hq3 with
              | 0, _, _, _ => exact hnar rfl _
              | 1, _, hq2, _ => cases hq2
              | 2, _, _, hq3 => exact hnarZ rfl (hq3.elim (fun q => by cases q) id)
            have e9 : (xx_gW ρ w).set pp (ρ.2.1 i, .inl (ρ.2.2.1 i, n, .inl (upd f (xx_i ρ ix).toNatClampNeg (nar (xx_i ρ v))))) = xx_gW ρ (w.set pp (i, .inl (kj, (n, some (l0.set c0 v))))) := by
              rw [← xx_gW_set, hnv, h3 c0 hc0, hf2 l0 rfl, xx_upd_set hlen]
              congr 2
              show Sum.inl (ρ.2.2.1 i, (n, Sum.inl _)) = Sum.inl (ρ.2.2.1 i, (n, xx_gA ρ i kj (some (l0.set c0 v))))
              obtain ⟨f9, g1, g2⟩ := xx_gA_int (ρ := ρ) (i := i) (ct := some (l0.set c0 v)) hkd
              rw [g1, g2 _ rfl]
            rw [e9] at hP1 hD1
            exact kk _ _ _ _ _ _ _ ρ tys H1 locs1 lsA h (xx_ag_rf _ _ _) (Nat.le_refl _) (Nat.le_refl _) (ho.setc hat (xx_wf_set (hwW _ (List.mem_of_getElem? hat)).2 (xx_wfs_hd hws)) hrest (fun kd' n' ct' h9 => by cases h9; exact ⟨_, _, rfl⟩) hP1 hD1 hS1) hv
          · cases h
        · cases h
      · split at h
        · obtain ⟨hag, hok⟩ := ho.havoc hat hrest hP1 hD1 hS1
          have := kk _ _ _ _ _ _ _ _ tys H1 locs1 lsA h hag (Nat.le_refl _) (Nat.le_refl _) hok (by rw [xx_gL_ag hag hwl]; exact hv)
          rw [xx_gs_ag hag hrest] at this
          exact this
        · cases h
    · cases h
  · cases h
theorem xx_store_ok3 {i : Nat} {v ix : xx_V} {rest : List xx_V} (hx : p.tables.exec = Jvm.exec) (hb : c.code = M.2.1) (hd : decode M.2.1 pc = .ok (.lastore, 1))
    (ho : xx_ok s A D ρ tys cs w nk ls (v :: ix :: .inr (.inr (.inl (some i))) :: rest) H locs) (hv : lv_has lsA M.2.2.1 (xx_gL ρ ls)) (h : xx_store 3 v ix i cs w (fun w => k cs w nk nc ns ls rest) = some outs) (kk : xx_KK p l e R s m args below meth c Q M A D k outs cs nk ρ (pc + 1)) : W p l e R s m args below meth c H locs nc ns Q (F0 m pc lsA ((v :: ix :: .inr (.inr (.inl (some i))) :: rest).map (xx_g ρ))) := by
  obtain ⟨hi, hwW, hwl, hws, hnk, hK, har, hP, hD, hS⟩ := id ho
  have hrest := xx_wfs_tl (xx_wfs_tl (xx_wfs_tl hws))
  simp only [xx_store] at h
  split at h
  · rename_i pp kj n ct hf
    split at h
    · rename_i hc
      rw [Bool.and_eq_true, Bool.and_eq_true] at hc
      have hkj := Nat.eq_of_beq_eq_true hc.1
      subst hkj
      obtain ⟨h1, h2, h3⟩ := xx_idx_ok hi hc.2.1
      have hkn : xx_isL v = true := hc.2.2
      have hat := xx_fnd_at hf
      have hg := xx_gW_at (ρ := ρ) hat
      obtain ⟨t0, ht0⟩ := har i 3 n ct (List.mem_of_getElem? hat)
      rw [List.map_cons, List.map_cons, List.map_cons, xx_g_isI h1, xx_g_isL hkn]
      split at h
      · rename_i l0
        refine va_last (D := D) (cl := xx_cl) hx hb hK hP hD hS pp t0 hg ht0 h2 hd (fun H1 locs1 hP1 hD1 hS1 => ?_)
        split at h
        · rename_i c0 hc0
          split at h
          · rename_i hq
            rw [Bool.and_eq_true] at hq
            have hlen : c0 < l0.length := Nat.lt_of_lt_of_le (Nat.lt_succ_self _) (Nat.le_of_ble_eq_true hq.1)
            simp only [xx_set_eq] at h
            have e9 : (xx_gW ρ w).set pp (ρ.2.1 i, .inl (ρ.2.2.1 i, n, .inr (.inl (vp_updL (fun j => xx_l (l0.getD j (.inl 0))) (xx_i ρ ix).toNatClampNeg (xx_l v))))) = xx_gW ρ (w.set pp (i, .inl (3, (n, some (l0.set c0 v))))) := by
              rw [← xx_gW_set, h3 c0 hc0]
              congr 2
              show Sum.inl (ρ.2.2.1 i, (n, Sum.inr (Sum.inl _))) = Sum.inl (ρ.2.2.1 i, (n, Sum.inr (Sum.inl (fun j => xx_l ((l0.set c0 v).getD j (.inl 0))))))
              congr 5
              funext j
              unfold vp_updL
              rw [List.getD_eq_getElem?_getD, List.getElem?_set]
              by_cases hj : j = c0
              · subst hj
                rw [if_pos rfl, if_pos rfl, if_pos hlen]
                rfl
              · rw [if_neg hj, if_neg (Ne.symm hj)]
                show xx_l (l0.getD j (.inl 0)) = _
                rw [List.getD_eq_getElem?_getD]
            have hP1 : va_P D xx_cl ((xx_gW ρ w).set pp (ρ.2.1 i, .inl (ρ.2.2.1 i, n, .inr (.inl (vp_updL (fun j => xx_l (l0.getD j (.inl 0))) (xx_i ρ ix).toNatClampNeg (xx_l v)))))) H1 := hP1
            have hD1 : va_D A ((xx_gW ρ w).set pp (ρ.2.1 i, .inl (ρ.2.2.1 i, n, .inr (.inl (vp_updL (fun j => xx_l (l0.getD j (.inl 0))) (xx_i ρ ix).toNatClampNeg (xx_l v)))))) := hD1
            rw [e9] at hP1 hD1
            exact kk _ _ _ _ _ _ _ ρ tys H1 locs1 lsA h (xx_ag_rf _ _ _) (Nat.le_refl _) (Nat.le_refl _) (ho.setc hat (xx_wf_set (hwW _ (List.mem_of_getElem? hat)).2 (xx_wfs_hd hws)) hrest (fun kd' n' ct' h9 => by cases h9; exact ⟨_, _, rfl⟩) hP1 hD1 hS1) hv
          · cases h
        · cases h
      · cases h
    · cases h
  · cases h
theorem xx_store_ok4 {i j cj : Nat} {pj : Nat} {fsj : List xx_V} {ix : xx_V} {rest : List xx_V} (hx : p.tables.exec = Jvm.exec) (hb : c.code = M.2.1) (hd : decode M.2.1 pc = .ok (.aastore, 1)) (hj : xx_fnd w j 0 = some (pj, .inr (1, fsj)))
    (ho : xx_ok s A D ρ tys cs w nk ls (.inr (.inr (.inl (some j))) :: ix :: .inr (.inr (.inl (some i))) :: rest) H locs) (hv : lv_has lsA M.2.2.1 (xx_gL ρ ls)) (h : xx_store 4 (.inr (.inr (.inl (some j)))) ix i cs w (fun w => k cs w nk nc ns ls rest) = some outs) (kk : xx_KK p l e R s m args below meth c Q M A D k outs cs nk ρ (pc + 1)) : W p l e R s m args below meth c H locs nc ns Q (F0 m pc lsA ((.inr (.inr (.inl (some j))) :: ix :: .inr (.inr (.inl (some i))) :: rest).map (xx_g ρ))) := by
  obtain ⟨hi, hwW, hwl, hws, hnk, hK, har, hP, hD, hS⟩ := id ho
  have hrest := xx_wfs_tl (xx_wfs_tl (xx_wfs_tl hws))
  simp only [xx_store] at h
  split at h
  · rename_i pp kj n ct hf
    split at h
    · rename_i hc
      rw [Bool.and_eq_true, Bool.and_eq_true] at hc
      have hkj := Nat.eq_of_beq_eq_true hc.1
      subst hkj
      obtain ⟨h1, h2, h3⟩ := xx_idx_ok hi hc.2.1
      have hat := xx_fnd_at hf
      have hg := xx_gW_at (ρ := ρ) hat
      have hgj := xx_gW_at (ρ := ρ) (xx_fnd_at hj)
      obtain ⟨t0, ht0⟩ := har i 4 n ct (List.mem_of_getElem? hat)
      rw [List.map_cons, List.map_cons, List.map_cons, xx_g_isI h1]
      split at h
      · rename_i l0
        refine va_astq (D := D) (cl := xx_cl) (r := (RX1, TX1, 5)) hx hb hK hP hD hS pp t0 pj 1 hg ht0 hgj rfl h2 hd (fun H1 locs1 hP1 hD1 hS1 => ?_)
        split at h
        · rename_i c0 hc0
          split at h
          · rename_i hq
            rw [Bool.and_eq_true] at hq
            have hlen : c0 < l0.length := Nat.lt_of_lt_of_le (Nat.lt_succ_self _) (Nat.le_of_ble_eq_true hq.1)
            simp only [xx_set_eq] at h
            have e9 : (xx_gW ρ w).set pp (ρ.2.1 i, .inl (ρ.2.2.1 i, n, .inr (.inr (.inr (.inr (va_up (fun j => xx_r ρ (l0.getD j (.inl 0))) (xx_i ρ ix).toNatClampNeg (some (ρ.2.1 j)))))))) = xx_gW ρ (w.set pp (i, .inl (4, (n, some (l0.set c0 (.inr (.inr (.inl (some j))))))))) := by
              rw [← xx_gW_set, h3 c0 hc0]
              congr 2
              show Sum.inl (ρ.2.2.1 i, (n, Sum.inr (Sum.inr (Sum.inr (Sum.inr _))))) = Sum.inl (ρ.2.2.1 i, (n, Sum.inr (Sum.inr (Sum.inr (Sum.inr (fun jj => xx_r ρ ((l0.set c0 (.inr (.inr (.inl (some j))))).getD jj (.inl 0))))))))
              congr 7
              funext jj
              unfold va_up
              rw [List.getD_eq_getElem?_getD, List.getElem?_set]
              by_cases hjj : jj = c0
              · subst hjj
                rw [if_pos rfl, if_pos rfl, if_pos hlen]
                rfl
              · rw [if_neg hjj, if_neg (Ne.symm hjj)]
                show xx_r ρ (l0.getD jj (.inl 0)) = _
                rw [List.getD_eq_getElem?_getD]
            have hP1 : va_P D xx_cl ((xx_gW ρ w).set pp (ρ.2.1 i, .inl (ρ.2.2.1 i, n, .inr (.inr (.inr (.inr (va_up (fun j => xx_r ρ (l0.getD j (.inl 0))) (xx_i ρ ix).toNatClampNeg (some (ρ.2.1 j))))))))) H1 := hP1
            have hD1 : va_D A ((xx_gW ρ w).set pp (ρ.2.1 i, .inl (ρ.2.2.1 i, n, .inr (.inr (.inr (.inr (va_up (fun j => xx_r ρ (l0.getD j (.inl 0))) (xx_i ρ ix).toNatClampNeg (some (ρ.2.1 j))))))))) := hD1
            rw [e9] at hP1 hD1
            exact kk _ _ _ _ _ _ _ ρ tys H1 locs1 lsA h (xx_ag_rf _ _ _) (Nat.le_refl _) (Nat.le_refl _) (ho.setc hat (xx_wf_set (hwW _ (List.mem_of_getElem? hat)).2 (xx_wfs_hd hws)) hrest (fun kd' n' ct' h9 => by cases h9; exact ⟨_, _, rfl⟩) hP1 hD1 hS1) hv
          · cases h
        · cases h
      · cases h
    · cases h
  · cases h
end XA
