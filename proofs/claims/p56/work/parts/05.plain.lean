section XP
variable {p : Program} {l : Launch} {e : Env} {R : Room} {s : State} {m : MethodId} {args : Array Value} {below : List Frame} {meth : Method} {c : Code} {Q : State → Prop} {M : xx_M} {A : Nat → Prop} {D : va_G} {k : xx_G} {outs : List xx_O} {cs : xx_C} {w : xx_W} {nk nc ns : Nat} {ls : xx_L} {st : List xx_V} {ρ : xx_Y} {tys : List (ClassId × FieldType)} {H : Heap} {locs : List Loc} {lsA : Array Slot} {pc scr : Nat} {ops : List Nat}
theorem xx_hpush_ok {len : Nat} {v : xx_V} (row : ∀ {rest : List Value}, W p l e R s m args below meth c H locs nc ns Q (F0 m (pc + len) lsA (xx_g ρ v :: rest)) → W p l e R s m args below meth c H locs nc ns Q (F0 m pc lsA rest)) (hw : xx_wf cs.length nk v)
    (ho : xx_ok s A D ρ tys cs w nk ls st H locs) (hv : lv_has lsA M.2.2.1 (xx_gL ρ ls)) (h : xx_hpush v M scr ops cs w nk nc ns ls st k = some outs) (kk : xx_KK p l e R s m args below meth c Q M A D k outs cs nk ρ (pc + len)) : W p l e R s m args below meth c H locs nc ns Q (F0 m pc lsA (st.map (xx_g ρ))) := by
  simp only [xx_hpush, xx_fV_eq] at h
  exact row (kk.same ho h ho.2.2.1 (xx_wfs_cons hw ho.2.2.2.1) hv)
theorem xx_hldc_ok {len q g n : Nat} (row : ∀ {rest : List Value}, W p l e R s m args below meth c H locs nc ns Q (F0 m (pc + len) lsA (.int (Int32.ofInt (xx_sgn g n)) :: rest)) → W p l e R s m args below meth c H locs nc ns Q (F0 m pc lsA rest))
    (ho : xx_ok s A D ρ tys cs w nk ls st H locs) (hv : lv_has lsA M.2.2.1 (xx_gL ρ ls)) (h : xx_hldc M scr [q, g, n] cs w nk nc ns ls st k = some outs) (kk : xx_KK p l e R s m args below meth c Q M A D k outs cs nk ρ (pc + len)) : W p l e R s m args below meth c H locs nc ns Q (F0 m pc lsA (st.map (xx_g ρ))) := by
  simp only [xx_hldc, xx_fI_eq] at h
  exact row (kk.same ho h ho.2.2.1 (xx_wfs_cons trivial ho.2.2.2.1) hv)
theorem xx_hldc2_ok {len q g n : Nat} (row : ∀ {rest : List Value}, W p l e R s m args below meth c H locs nc ns Q (F0 m (pc + len) lsA (.long (Int64.ofInt (xx_sgn g n)) :: rest)) → W p l e R s m args below meth c H locs nc ns Q (F0 m pc lsA rest))
    (ho : xx_ok s A D ρ tys cs w nk ls st H locs) (hv : lv_has lsA M.2.2.1 (xx_gL ρ ls)) (h : xx_hldc2 M scr [q, g, n] cs w nk nc ns ls st k = some outs) (kk : xx_KK p l e R s m args below meth c Q M A D k outs cs nk ρ (pc + len)) : W p l e R s m args below meth c H locs nc ns Q (F0 m pc lsA (st.map (xx_g ρ))) := by
  simp only [xx_hldc2, xx_fI_eq] at h
  exact row (kk.same ho h ho.2.2.1 (xx_wfs_cons trivial ho.2.2.2.1) hv)
theorem xx_hload_ok {len i : Nat} {f : xx_V → Bool} (row : ∀ {v : xx_V} {rest : List Value}, f v = true → lsA[i]? = some (.val (xx_g ρ v)) → W p l e R s m args below meth c H locs nc ns Q (F0 m (pc + len) lsA (xx_g ρ v :: rest)) → W p l e R s m args below meth c H locs nc ns Q (F0 m pc lsA rest))
    (ho : xx_ok s A D ρ tys cs w nk ls st H locs) (hv : lv_has lsA M.2.2.1 (xx_gL ρ ls)) (h : xx_hload f i M scr ops cs w nk nc ns ls st k = some outs) (kk : xx_KK p l e R s m args below meth c Q M A D k outs cs nk ρ (pc + len)) : W p l e R s m args below meth c H locs nc ns Q (F0 m pc lsA (st.map (xx_g ρ))) := by
  simp only [xx_hload] at h
  split at h
  · rename_i v hg
    split at h
    · rename_i hf
      have hm := xx_get_ok hg
      exact row hf (hv.2.2 _ (xx_gL_mem hm)) (kk.same ho h ho.2.2.1 (xx_wfs_cons (ho.2.2.1 _ hm) ho.2.2.2.1) hv)
    · cases h
  · cases h
theorem xx_hst1_ok {len i : Nat} {f : xx_V → Bool} (row : ∀ {v : xx_V} {rest : List Value} {lv' : List (Nat × Value)}, f v = true → i < M.2.2.1 → (i, xx_g ρ v) :: (xx_gL ρ ls).filter (fun q => !(q.1 == i) && !(q.1 + 1 == i && q.2.category == 2)) = lv' → (∀ ls' : Array Slot, lv_has ls' M.2.2.1 lv' → W p l e R s m args below meth c H locs nc ns Q (F0 m (pc + len) ls' rest)) → W p l e R s m args below meth c H locs nc ns Q (F0 m pc lsA (xx_g ρ v :: rest)))
    (ho : xx_ok s A D ρ tys cs w nk ls st H locs) (h : xx_hst1 f i M scr ops cs w nk nc ns ls st k = some outs) (kk : xx_KK p l e R s m args below meth c Q M A D k outs cs nk ρ (pc + len)) : W p l e R s m args below meth c H locs nc ns Q (F0 m pc lsA (st.map (xx_g ρ))) := by
  simp only [xx_hst1] at h
  split at h
  · rename_i v rest
    split at h
    · rename_i hf
      rw [Bool.and_eq_true] at hf
      simp only [xx_wo1_eq] at h
      refine row (lv' := xx_gL ρ ((i, v) :: ls.filter (fun q => !(q.1 == i) && !(q.1 + 1 == i && xx_cat q.2 == 2)))) hf.1 (Nat.lt_of_lt_of_le (Nat.lt_succ_self _) (Nat.le_of_ble_eq_true hf.2)) (by rw [xx_gL_f1]; rfl) (fun ls' hl' => ?_)
      exact kk.same ho h (xx_wfl_cons (xx_wfs_hd ho.2.2.2.1) (xx_wfl_fil ho.2.2.1)) (xx_wfs_tl ho.2.2.2.1) hl'
    · cases h
  · cases h
theorem xx_hst2_ok {len i : Nat} (row : ∀ {v : xx_V} {rest : List Value} {lv' : List (Nat × Value)}, xx_isL v = true → i + 1 < M.2.2.1 → (i, xx_g ρ v) :: (xx_gL ρ ls).filter (fun q => !(q.1 == i) && (!(q.1 == i + 1) && !(q.1 + 1 == i && q.2.category == 2))) = lv' → (∀ ls' : Array Slot, lv_has ls' M.2.2.1 lv' → W p l e R s m args below meth c H locs nc ns Q (F0 m (pc + len) ls' rest)) → W p l e R s m args below meth c H locs nc ns Q (F0 m pc lsA (xx_g ρ v :: rest)))
    (ho : xx_ok s A D ρ tys cs w nk ls st H locs) (h : xx_hst2 i M scr ops cs w nk nc ns ls st k = some outs) (kk : xx_KK p l e R s m args below meth c Q M A D k outs cs nk ρ (pc + len)) : W p l e R s m args below meth c H locs nc ns Q (F0 m pc lsA (st.map (xx_g ρ))) := by
  simp only [xx_hst2] at h
  split at h
  · rename_i v rest
    split at h
    · rename_i hf
      rw [Bool.and_eq_true] at hf
      simp only [xx_wo2_eq] at h
      refine row (lv' := xx_gL ρ ((i, v) :: ls.filter (fun q => !(q.1 == i) && (!(q.1 == i + 1) && !(q.1 + 1 == i && xx_cat q.2 == 2))))) hf.1 (Nat.lt_of_lt_of_le (Nat.lt_succ_self _) (Nat.le_of_ble_eq_true hf.2)) (by rw [xx_gL_f2]; rfl) (fun ls' hl' => ?_)
      exact kk.same ho h (xx_wfl_cons (xx_wfs_hd ho.2.2.2.1) (xx_wfl_fil ho.2.2.1)) (xx_wfs_tl ho.2.2.2.1) hl'
    · cases h
  · cases h
theorem xx_hinc_ok {j : Nat} {n : Int} (hx : p.tables.exec = Jvm.exec) (hb : c.code = M.2.1) (hd : decode M.2.1 pc = .ok (.iinc j n, 3))
    (ho : xx_ok s A D ρ tys cs w nk ls st H locs) (hv : lv_has lsA M.2.2.1 (xx_gL ρ ls)) (h : xx_hinc j n M scr ops cs w nk nc ns ls st k = some outs) (kk : xx_KK p l e R s m args below meth c Q M A D k outs cs nk ρ (pc + 3)) : W p l e R s m args below meth c H locs nc ns Q (F0 m pc lsA (st.map (xx_g ρ))) := by
  simp only [xx_hinc] at h
  split at h
  · rename_i v hg
    have hm := xx_get_ok hg
    obtain ⟨kx, hkx⟩ := List.getElem?_of_mem (xx_gL_mem (ρ := ρ) hm)
    obtain ⟨n1, n2, n3⟩ := xx_nrm_ok ho.1 v
    have hwf := xx_nrm_wf (cs := cs) (ho.2.2.1 _ hm)
    split at h
    · rename_i hj
      have hj' : j < M.2.2.1 := Nat.lt_of_lt_of_le (Nat.lt_succ_self _) (Nat.le_of_ble_eq_true hj)
      split at h
      · rename_i c0 hc0
        rw [hc0] at n1 n2 n3
        simp only [xx_fI_eq, xx_wo1_eq] at h
        rw [← n1] at hkx
        refine lv_iinc (v := Int32.ofInt (c0 + n)) (lv' := xx_gL ρ ((j, .inl (c0 + n)) :: ls.filter (fun q => !(q.1 == j) && !(q.1 + 1 == j && xx_cat q.2 == 2)))) hx hb hd hv hkx (Int32.ofInt_add c0 n).symm hj' (by rw [xx_gL_f1]; rfl) (fun ls' hl' => ?_)
        exact kk.same ho h (xx_wfl_cons trivial (xx_wfl_fil ho.2.2.1)) ho.2.2.2.1 hl'
      · rename_i q d hc0
        rw [hc0] at n1 n2 n3 hwf
        simp only [xx_fI_eq, xx_wo1_eq] at h
        rw [← n1] at hkx
        refine lv_iinc (v := ρ.1 q + Int32.ofInt (d + n)) (lv' := xx_gL ρ ((j, .inr (.inl (q, d + n))) :: ls.filter (fun q => !(q.1 == j) && !(q.1 + 1 == j && xx_cat q.2 == 2)))) hx hb hd hv hkx (by show (ρ.1 q + Int32.ofInt d) + Int32.ofInt n = _; rw [Int32.ofInt_add, Int32.add_assoc]) hj' (by rw [xx_gL_f1]; rfl) (fun ls' hl' => ?_)
        exact kk.same ho h (xx_wfl_cons (v := .inr (.inl (q, d + n))) hwf (xx_wfl_fil ho.2.2.1)) ho.2.2.2.1 hl'
      · cases h
    · cases h
  · cases h
theorem xx_h1_ok {f : Int32 → Int32} {r : Int × Int} (row : ∀ {x : Int32} {rest : List Value}, W p l e R s m args below meth c H locs nc ns Q (F0 m (pc + 1) lsA (.int (f x) :: rest)) → W p l e R s m args below meth c H locs nc ns Q (F0 m pc lsA (.int x :: rest))) (hr : ∀ x, r.1 ≤ (f x).toInt ∧ (f x).toInt ≤ r.2)
    (ho : xx_ok s A D ρ tys cs w nk ls st H locs) (hv : lv_has lsA M.2.2.1 (xx_gL ρ ls)) (h : xx_h1 f r M scr ops cs w nk nc ns ls st k = some outs) (kk : xx_KK p l e R s m args below meth c Q M A D k outs cs nk ρ (pc + 1)) : W p l e R s m args below meth c H locs nc ns Q (F0 m pc lsA (st.map (xx_g ρ))) := by
  simp only [xx_h1] at h
  split at h
  · rename_i a rest
    obtain ⟨n1, n2, n3⟩ := xx_nrm_ok ho.1 a
    split at h
    · rename_i c0 hc0
      rw [hc0] at n1
      simp only [xx_fI_eq] at h
      rw [List.map_cons, ← n1]
      refine row ?_
      have := kk.same ho h ho.2.2.1 (xx_wfs_cons trivial (xx_wfs_tl ho.2.2.2.1)) hv
      rw [List.map_cons] at this
      have e : xx_g ρ (.inl (f (Int32.ofInt c0)).toInt) = .int (f (Int32.ofInt c0)) := by
        show Value.int _ = _
        rw [Int32.ofInt_toInt]
      rw [e] at this
      exact this
    · rename_i q hc0
      rw [hc0] at n1
      rw [List.map_cons, ← n1]
      exact row (xx_res_ok (r := .inr r) kk ho (xx_wfs_tl ho.2.2.2.1) hv (hr _) h)
    · cases h
  · cases h
theorem xx_hl2_ok {f : Int64 → Int64 → Int64} {kf : Int → Int → Int} (row : ∀ {x y : Int64} {rest : List Value}, W p l e R s m args below meth c H locs nc ns Q (F0 m (pc + 1) lsA (.long (f x y) :: rest)) → W p l e R s m args below meth c H locs nc ns Q (F0 m pc lsA (.long y :: .long x :: rest))) (hk : ∀ a b, Int64.ofInt (kf a b) = f (Int64.ofInt a) (Int64.ofInt b))
    (ho : xx_ok s A D ρ tys cs w nk ls st H locs) (hv : lv_has lsA M.2.2.1 (xx_gL ρ ls)) (h : xx_hl2 kf M scr ops cs w nk nc ns ls st k = some outs) (kk : xx_KK p l e R s m args below meth c Q M A D k outs cs nk ρ (pc + 1)) : W p l e R s m args below meth c H locs nc ns Q (F0 m pc lsA (st.map (xx_g ρ))) := by
  simp only [xx_hl2] at h
  split at h
  · rename_i y x rest
    simp only [xx_fI_eq] at h
    have := kk.same ho h ho.2.2.1 (xx_wfs_cons trivial (xx_wfs_tl (xx_wfs_tl ho.2.2.2.1))) hv
    rw [List.map_cons] at this
    refine row ?_
    have e : xx_g ρ (.inr (.inr (.inr (kf x y)))) = .long (f (Int64.ofInt x) (Int64.ofInt y)) := by
      show Value.long _ = _
      rw [hk]
    rw [e] at this
    exact this
  · cases h
theorem xx_klf_ok (f : Int64 → Int64 → Int64) (a b : Int) : Int64.ofInt (xx_klf f a b) = f (Int64.ofInt a) (Int64.ofInt b) := Int64.ofInt_toInt _
theorem xx_hlsh_ok {f : Int64 → Int32 → Int64} (row : ∀ {x : Int64} {y : Int32} {rest : List Value}, W p l e R s m args below meth c H locs nc ns Q (F0 m (pc + 1) lsA (.long (f x y) :: rest)) → W p l e R s m args below meth c H locs nc ns Q (F0 m pc lsA (.int y :: .long x :: rest)))
    (ho : xx_ok s A D ρ tys cs w nk ls st H locs) (hv : lv_has lsA M.2.2.1 (xx_gL ρ ls)) (h : xx_hlsh f M scr ops cs w nk nc ns ls st k = some outs) (kk : xx_KK p l e R s m args below meth c Q M A D k outs cs nk ρ (pc + 1)) : W p l e R s m args below meth c H locs nc ns Q (F0 m pc lsA (st.map (xx_g ρ))) := by
  simp only [xx_hlsh] at h
  split at h
  · rename_i y x rest
    obtain ⟨n1, n2, n3⟩ := xx_nrm_ok ho.1 y
    split at h
    · rename_i c0 hc0
      rw [hc0] at n1
      simp only [xx_fI_eq] at h
      have := kk.same ho h ho.2.2.1 (xx_wfs_cons trivial (xx_wfs_tl (xx_wfs_tl ho.2.2.2.1))) hv
      rw [List.map_cons] at this
      rw [List.map_cons, List.map_cons, ← n1]
      refine row ?_
      have e : xx_g ρ (.inr (.inr (.inr (f (Int64.ofInt x) (Int32.ofInt c0)).toInt))) = .long (f (Int64.ofInt x) (Int32.ofInt c0)) := by
        show Value.long _ = _
        rw [Int64.ofInt_toInt]
      rw [e] at this
      exact this
    · cases h
  · cases h
theorem xx_hlcmp_ok (hx : p.tables.exec = Jvm.exec) (hb : c.code = M.2.1) (hd : decode M.2.1 pc = .ok (.lcmp, 1))
    (ho : xx_ok s A D ρ tys cs w nk ls st H locs) (hv : lv_has lsA M.2.2.1 (xx_gL ρ ls)) (h : xx_hlcmp M scr ops cs w nk nc ns ls st k = some outs) (kk : xx_KK p l e R s m args below meth c Q M A D k outs cs nk ρ (pc + 1)) : W p l e R s m args below meth c H locs nc ns Q (F0 m pc lsA (st.map (xx_g ρ))) := by
  simp only [xx_hlcmp] at h
  split at h
  · rename_i y x rest
    simp only [xx_fI_eq] at h
    have := kk.same ho h ho.2.2.1 (xx_wfs_cons trivial (xx_wfs_tl (xx_wfs_tl ho.2.2.2.1))) hv
    rw [List.map_cons] at this
    refine W.lcmp hx hb hd ?_
    have e : xx_g ρ (.inl (lg_cmp (Int64.ofInt x) (Int64.ofInt y)).toInt) = .int (lg_cmp (Int64.ofInt x) (Int64.ofInt y)) := by
      show Value.int _ = _
      rw [Int32.ofInt_toInt]
    rw [e] at this
    exact this
  · cases h
theorem xx_hi2l_ok (hx : p.tables.exec = Jvm.exec) (hb : c.code = M.2.1) (hd : decode M.2.1 pc = .ok (.i2l, 1))
    (ho : xx_ok s A D ρ tys cs w nk ls st H locs) (hv : lv_has lsA M.2.2.1 (xx_gL ρ ls)) (h : xx_hi2l M scr ops cs w nk nc ns ls st k = some outs) (kk : xx_KK p l e R s m args below meth c Q M A D k outs cs nk ρ (pc + 1)) : W p l e R s m args below meth c H locs nc ns Q (F0 m pc lsA (st.map (xx_g ρ))) := by
  simp only [xx_hi2l] at h
  split at h
  · rename_i v rest
    obtain ⟨n1, n2, n3⟩ := xx_nrm_ok ho.1 v
    split at h
    · rename_i c0 hc0
      rw [hc0] at n1
      simp only [xx_fI_eq] at h
      have := kk.same ho h ho.2.2.1 (xx_wfs_cons trivial (xx_wfs_tl ho.2.2.2.1)) hv
      rw [List.map_cons] at this
      rw [List.map_cons, ← n1]
      refine lv_i2l hx hb hd (v := (Int32.ofInt c0).toInt64) rfl ?_
      have e : xx_g ρ (.inr (.inr (.inr (Int32.ofInt c0).toInt64.toInt))) = .long (Int32.ofInt c0).toInt64 := by
        show Value.long _ = _
        rw [Int64.ofInt_toInt]
      rw [e] at this
      exact this
    · cases h
  · cases h
theorem xx_hl2i_ok (hx : p.tables.exec = Jvm.exec) (hb : c.code = M.2.1) (hd : decode M.2.1 pc = .ok (.l2i, 1))
    (ho : xx_ok s A D ρ tys cs w nk ls st H locs) (hv : lv_has lsA M.2.2.1 (xx_gL ρ ls)) (h : xx_hl2i M scr ops cs w nk nc ns ls st k = some outs) (kk : xx_KK p l e R s m args below meth c Q M A D k outs cs nk ρ (pc + 1)) : W p l e R s m args below meth c H locs nc ns Q (F0 m pc lsA (st.map (xx_g ρ))) := by
  simp only [xx_hl2i] at h
  split at h
  · rename_i x rest
    simp only [xx_fI_eq] at h
    have := kk.same ho h ho.2.2.1 (xx_wfs_cons trivial (xx_wfs_tl ho.2.2.2.1)) hv
    rw [List.map_cons] at this
    refine lv_l2i hx hb hd (v := (Int64.ofInt x).toInt32) rfl ?_
    have e : xx_g ρ (.inl (Int64.ofInt x).toInt32.toInt) = .int (Int64.ofInt x).toInt32 := by
      show Value.int _ = _
      rw [Int32.ofInt_toInt]
    rw [e] at this
    exact this
  · cases h
theorem xx_hdup_ok (hx : p.tables.exec = Jvm.exec) (hb : c.code = M.2.1) (hd : decode M.2.1 pc = .ok (.dup, 1))
    (ho : xx_ok s A D ρ tys cs w nk ls st H locs) (hv : lv_has lsA M.2.2.1 (xx_gL ρ ls)) (h : xx_hdup M scr ops cs w nk nc ns ls st k = some outs) (kk : xx_KK p l e R s m args below meth c Q M A D k outs cs nk ρ (pc + 1)) : W p l e R s m args below meth c H locs nc ns Q (F0 m pc lsA (st.map (xx_g ρ))) := by
  simp only [xx_hdup] at h
  split at h
  · rename_i v rest
    split at h
    · rename_i hc
      exact lv_dup hx hb hd (by rw [xx_g_cat]; exact Nat.eq_of_beq_eq_true hc) (kk.same ho h ho.2.2.1 (xx_wfs_cons (xx_wfs_hd ho.2.2.2.1) ho.2.2.2.1) hv)
    · cases h
  · cases h
theorem xx_hpop_ok (hx : p.tables.exec = Jvm.exec) (hb : c.code = M.2.1) (hd : decode M.2.1 pc = .ok (.pop, 1))
    (ho : xx_ok s A D ρ tys cs w nk ls st H locs) (hv : lv_has lsA M.2.2.1 (xx_gL ρ ls)) (h : xx_hpop M scr ops cs w nk nc ns ls st k = some outs) (kk : xx_KK p l e R s m args below meth c Q M A D k outs cs nk ρ (pc + 1)) : W p l e R s m args below meth c H locs nc ns Q (F0 m pc lsA (st.map (xx_g ρ))) := by
  simp only [xx_hpop] at h
  split at h
  · rename_i v rest
    split at h
    · rename_i hc
      exact lv_pop hx hb hd (by rw [xx_g_cat]; exact Nat.eq_of_beq_eq_true hc) (kk.same ho h ho.2.2.1 (xx_wfs_tl ho.2.2.2.1) hv)
    · cases h
  · cases h
theorem xx_hdup2_ok (hx : p.tables.exec = Jvm.exec) (hb : c.code = M.2.1) (hd : decode M.2.1 pc = .ok (.dup2, 1))
    (ho : xx_ok s A D ρ tys cs w nk ls st H locs) (hv : lv_has lsA M.2.2.1 (xx_gL ρ ls)) (h : xx_hdup2 M scr ops cs w nk nc ns ls st k = some outs) (kk : xx_KK p l e R s m args below meth c Q M A D k outs cs nk ρ (pc + 1)) : W p l e R s m args below meth c H locs nc ns Q (F0 m pc lsA (st.map (xx_g ρ))) := by
  simp only [xx_hdup2] at h
  split at h
  · rename_i v u rest
    have h0 := ho.2.2.2.1
    split at h
    · rename_i hc
      exact lv_dup2_2 hx hb hd (by rw [xx_g_cat]; exact Nat.eq_of_beq_eq_true hc) (kk.same ho h ho.2.2.1 (xx_wfs_cons (xx_wfs_hd h0) h0) hv)
    · rename_i hc
      split at h
      · rename_i hu
        have hc1 : xx_cat v = 1 := by
          rcases v with x | ⟨q, d⟩ | (_ | i) | x
          · rfl
          · rfl
          · rfl
          · rfl
          · cases hc
        exact lv_dup2_11 hx hb hd (by rw [xx_g_cat]; exact hc1) (by rw [xx_g_cat]; exact Nat.eq_of_beq_eq_true hu) (kk.same ho h ho.2.2.1 (xx_wfs_cons (xx_wfs_hd h0) (xx_wfs_cons (xx_wfs_hd (xx_wfs_tl h0)) h0)) hv)
      · cases h
  · cases h
end XP
