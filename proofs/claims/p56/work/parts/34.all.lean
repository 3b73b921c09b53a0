/-! every step, every run -/
section YT
variable {p : Program} {l : Launch} {e : Env} {R : Room} {s : State} {m : MethodId} {args : Array Value} {below : List Frame} {meth : Method} {c : Code} {Q : State → Prop} {M : xx_M} {A : Nat → Prop} {D : va_G} {ls : yy_L} {st : List yy_U} {tys : List (ClassId × FieldType)} {H : Heap} {locs : List Loc} {lsA : Array Slot} {pc len d nc ns : Nat} {ops : List Nat} {P : yy_P} {α : Nat → Nat} {cls : Nat → ClassId} {ω : yy_O} {pc' : Nat} {ls' : yy_L} {st' : List yy_U} {ω' : yy_O}
theorem yy_hp_ok {v : yy_U} (row : ∀ {rest : List Value}, W p l e R s m args below meth c H locs nc ns Q (F0 m (pc + len) lsA (yy_g α v :: rest)) → W p l e R s m args below meth c H locs nc ns Q (F0 m pc lsA rest)) (hr : yy_rep P.1 s A D α cls tys ω H locs) (hv : lv_has lsA M.2.2.1 (yy_gL α ls))
    (h : yy_hp v P M d pc len ops ls st ω = some (.inl (pc', (ls', (st', ω'))))) (kk : yy_KK p l e R s m args below meth c Q M A D tys P α cls nc ns pc' ls' st' ω') : W p l e R s m args below meth c H locs nc ns Q (F0 m pc lsA (st.map (yy_g α))) := by
  obtain ⟨rfl, rfl, rfl, rfl⟩ := yy_nx_eq h
  exact row (kk H locs lsA hr hv)
theorem yy_hil_ok {i : Nat} (row : ∀ {x : Int32} {rest : List Value}, lsA[i]? = some (.val (.int x)) → W p l e R s m args below meth c H locs nc ns Q (F0 m (pc + len) lsA (.int x :: rest)) → W p l e R s m args below meth c H locs nc ns Q (F0 m pc lsA rest)) (hr : yy_rep P.1 s A D α cls tys ω H locs) (hv : lv_has lsA M.2.2.1 (yy_gL α ls))
    (h : yy_hil i P M d pc len ops ls st ω = some (.inl (pc', (ls', (st', ω'))))) (kk : yy_KK p l e R s m args below meth c Q M A D tys P α cls nc ns pc' ls' st' ω') : W p l e R s m args below meth c H locs nc ns Q (F0 m pc lsA (st.map (yy_g α))) := by
  simp only [yy_hil] at h
  split at h
  · rename_i x hg
    obtain ⟨rfl, rfl, rfl, rfl⟩ := yy_nx_eq h
    exact row (hv.2.2 _ (yy_gL_mem hg)) (kk H locs lsA hr hv)
  · cases h
theorem yy_hll_ok {i : Nat} (row : ∀ {x : Int64} {rest : List Value}, lsA[i]? = some (.val (.long x)) → W p l e R s m args below meth c H locs nc ns Q (F0 m (pc + len) lsA (.long x :: rest)) → W p l e R s m args below meth c H locs nc ns Q (F0 m pc lsA rest)) (hr : yy_rep P.1 s A D α cls tys ω H locs) (hv : lv_has lsA M.2.2.1 (yy_gL α ls))
    (h : yy_hll i P M d pc len ops ls st ω = some (.inl (pc', (ls', (st', ω'))))) (kk : yy_KK p l e R s m args below meth c Q M A D tys P α cls nc ns pc' ls' st' ω') : W p l e R s m args below meth c H locs nc ns Q (F0 m pc lsA (st.map (yy_g α))) := by
  simp only [yy_hll] at h
  split at h
  · rename_i x hg
    obtain ⟨rfl, rfl, rfl, rfl⟩ := yy_nx_eq h
    exact row (hv.2.2 _ (yy_gL_mem hg)) (kk H locs lsA hr hv)
  · cases h
theorem yy_hal_ok {i : Nat} (row : ∀ {x : Nat} {rest : List Value}, lsA[i]? = some (.val (.ref x)) → W p l e R s m args below meth c H locs nc ns Q (F0 m (pc + len) lsA (.ref x :: rest)) → W p l e R s m args below meth c H locs nc ns Q (F0 m pc lsA rest)) (hr : yy_rep P.1 s A D α cls tys ω H locs) (hv : lv_has lsA M.2.2.1 (yy_gL α ls))
    (h : yy_hal i P M d pc len ops ls st ω = some (.inl (pc', (ls', (st', ω'))))) (kk : yy_KK p l e R s m args below meth c Q M A D tys P α cls nc ns pc' ls' st' ω') : W p l e R s m args below meth c H locs nc ns Q (F0 m pc lsA (st.map (yy_g α))) := by
  simp only [yy_hal] at h
  split at h
  · rename_i x hg
    obtain ⟨rfl, rfl, rfl, rfl⟩ := yy_nx_eq h
    exact row (hv.2.2 _ (yy_gL_mem hg)) (kk H locs lsA hr hv)
  · cases h
theorem yy_his_ok {i : Nat} (row : ∀ {x : Int32} {rest : List Value} {lv' : List (Nat × Value)}, i < M.2.2.1 → (i, .int x) :: (yy_gL α ls).filter (fun q => !(q.1 == i) && !(q.1 + 1 == i && q.2.category == 2)) = lv' → (∀ ls' : Array Slot, lv_has ls' M.2.2.1 lv' → W p l e R s m args below meth c H locs nc ns Q (F0 m (pc + len) ls' rest)) → W p l e R s m args below meth c H locs nc ns Q (F0 m pc lsA (.int x :: rest))) (hr : yy_rep P.1 s A D α cls tys ω H locs)
    (h : yy_his i P M d pc len ops ls st ω = some (.inl (pc', (ls', (st', ω'))))) (kk : yy_KK p l e R s m args below meth c Q M A D tys P α cls nc ns pc' ls' st' ω') : W p l e R s m args below meth c H locs nc ns Q (F0 m pc lsA (st.map (yy_g α))) := by
  simp only [yy_his] at h
  split at h
  · rename_i x rest
    split at h
    · rename_i hi
      obtain ⟨rfl, rfl, rfl, rfl⟩ := yy_nx_eq h
      exact row (lv' := yy_gL α ((i, .inl x) :: yy_w1 ls i)) (xx_blt hi) (by rw [yy_gL_f1]; rfl) (fun ls2 hl2 => kk H locs ls2 hr hl2)
    · cases h
  · cases h
theorem yy_has_ok {i : Nat} (row : ∀ {x : Nat} {rest : List Value} {lv' : List (Nat × Value)}, i < M.2.2.1 → (i, .ref x) :: (yy_gL α ls).filter (fun q => !(q.1 == i) && !(q.1 + 1 == i && q.2.category == 2)) = lv' → (∀ ls' : Array Slot, lv_has ls' M.2.2.1 lv' → W p l e R s m args below meth c H locs nc ns Q (F0 m (pc + len) ls' rest)) → W p l e R s m args below meth c H locs nc ns Q (F0 m pc lsA (.ref x :: rest))) (hr : yy_rep P.1 s A D α cls tys ω H locs)
    (h : yy_has i P M d pc len ops ls st ω = some (.inl (pc', (ls', (st', ω'))))) (kk : yy_KK p l e R s m args below meth c Q M A D tys P α cls nc ns pc' ls' st' ω') : W p l e R s m args below meth c H locs nc ns Q (F0 m pc lsA (st.map (yy_g α))) := by
  simp only [yy_has] at h
  split at h
  · rename_i x rest
    split at h
    · rename_i hi
      obtain ⟨rfl, rfl, rfl, rfl⟩ := yy_nx_eq h
      exact row (lv' := yy_gL α ((i, .inr (.inr x)) :: yy_w1 ls i)) (xx_blt hi) (by rw [yy_gL_f1]; rfl) (fun ls2 hl2 => kk H locs ls2 hr hl2)
    · cases h
  · cases h
theorem yy_hls_ok {i : Nat} (row : ∀ {x : Int64} {rest : List Value} {lv' : List (Nat × Value)}, i + 1 < M.2.2.1 → (i, .long x) :: (yy_gL α ls).filter (fun q => !(q.1 == i) && (!(q.1 == i + 1) && !(q.1 + 1 == i && q.2.category == 2))) = lv' → (∀ ls' : Array Slot, lv_has ls' M.2.2.1 lv' → W p l e R s m args below meth c H locs nc ns Q (F0 m (pc + len) ls' rest)) → W p l e R s m args below meth c H locs nc ns Q (F0 m pc lsA (.long x :: rest))) (hr : yy_rep P.1 s A D α cls tys ω H locs)
    (h : yy_hls i P M d pc len ops ls st ω = some (.inl (pc', (ls', (st', ω'))))) (kk : yy_KK p l e R s m args below meth c Q M A D tys P α cls nc ns pc' ls' st' ω') : W p l e R s m args below meth c H locs nc ns Q (F0 m pc lsA (st.map (yy_g α))) := by
  simp only [yy_hls] at h
  split at h
  · rename_i x rest
    split at h
    · rename_i hi
      obtain ⟨rfl, rfl, rfl, rfl⟩ := yy_nx_eq h
      exact row (lv' := yy_gL α ((i, .inr (.inl x)) :: yy_w2 ls i)) (xx_blt hi) (by rw [yy_gL_f2]; rfl) (fun ls2 hl2 => kk H locs ls2 hr hl2)
    · cases h
  · cases h
theorem yy_hinc_ok {j : Nat} {n : Int} (hx : p.tables.exec = Jvm.exec) (hb : c.code = M.2.1) (hd : decode M.2.1 pc = .ok (.iinc j n, 3)) (hr : yy_rep P.1 s A D α cls tys ω H locs) (hv : lv_has lsA M.2.2.1 (yy_gL α ls))
    (h : yy_hinc j n P M d pc 3 ops ls st ω = some (.inl (pc', (ls', (st', ω'))))) (kk : yy_KK p l e R s m args below meth c Q M A D tys P α cls nc ns pc' ls' st' ω') : W p l e R s m args below meth c H locs nc ns Q (F0 m pc lsA (st.map (yy_g α))) := by
  simp only [yy_hinc] at h
  split at h
  · rename_i x hg
    split at h
    · rename_i hj
      obtain ⟨rfl, rfl, rfl, rfl⟩ := yy_nx_eq h
      obtain ⟨kx, hkx⟩ := List.getElem?_of_mem (yy_gL_mem (α := α) hg)
      exact lv_iinc (v := x + Int32.ofInt n) (lv' := yy_gL α ((j, .inl (x + Int32.ofInt n)) :: yy_w1 ls j)) hx hb hd hv hkx rfl (xx_blt hj) (by rw [yy_gL_f1]; rfl) (fun ls2 hl2 => kk H locs ls2 hr hl2)
    · cases h
  · cases h
theorem yy_h2_ok {f : Int32 → Int32 → Int32} (row : ∀ {x z : Int32} {rest : List Value}, W p l e R s m args below meth c H locs nc ns Q (F0 m (pc + len) lsA (.int (f x z) :: rest)) → W p l e R s m args below meth c H locs nc ns Q (F0 m pc lsA (.int z :: .int x :: rest))) (hr : yy_rep P.1 s A D α cls tys ω H locs) (hv : lv_has lsA M.2.2.1 (yy_gL α ls))
    (h : yy_h2 f P M d pc len ops ls st ω = some (.inl (pc', (ls', (st', ω'))))) (kk : yy_KK p l e R s m args below meth c Q M A D tys P α cls nc ns pc' ls' st' ω') : W p l e R s m args below meth c H locs nc ns Q (F0 m pc lsA (st.map (yy_g α))) := by
  simp only [yy_h2] at h
  split at h
  · obtain ⟨rfl, rfl, rfl, rfl⟩ := yy_nx_eq h
    exact row (kk H locs lsA hr hv)
  · cases h
theorem yy_hdv_ok {f : Int32 → Int32 → Int32} (row : ∀ {x z : Int32} {rest : List Value}, ¬ z = 0 → W p l e R s m args below meth c H locs nc ns Q (F0 m (pc + len) lsA (.int (f x z) :: rest)) → W p l e R s m args below meth c H locs nc ns Q (F0 m pc lsA (.int z :: .int x :: rest))) (hr : yy_rep P.1 s A D α cls tys ω H locs) (hv : lv_has lsA M.2.2.1 (yy_gL α ls))
    (h : yy_hdv f P M d pc len ops ls st ω = some (.inl (pc', (ls', (st', ω'))))) (kk : yy_KK p l e R s m args below meth c Q M A D tys P α cls nc ns pc' ls' st' ω') : W p l e R s m args below meth c H locs nc ns Q (F0 m pc lsA (st.map (yy_g α))) := by
  simp only [yy_hdv] at h
  split at h
  · split at h
    · cases h
    · rename_i hz
      obtain ⟨rfl, rfl, rfl, rfl⟩ := yy_nx_eq h
      exact row (of_decide_eq_false hz) (kk H locs lsA hr hv)
  · cases h
theorem yy_h1_ok {f : Int32 → Int32} (row : ∀ {x : Int32} {rest : List Value}, W p l e R s m args below meth c H locs nc ns Q (F0 m (pc + len) lsA (.int (f x) :: rest)) → W p l e R s m args below meth c H locs nc ns Q (F0 m pc lsA (.int x :: rest))) (hr : yy_rep P.1 s A D α cls tys ω H locs) (hv : lv_has lsA M.2.2.1 (yy_gL α ls))
    (h : yy_h1 f P M d pc len ops ls st ω = some (.inl (pc', (ls', (st', ω'))))) (kk : yy_KK p l e R s m args below meth c Q M A D tys P α cls nc ns pc' ls' st' ω') : W p l e R s m args below meth c H locs nc ns Q (F0 m pc lsA (st.map (yy_g α))) := by
  simp only [yy_h1] at h
  split at h
  · obtain ⟨rfl, rfl, rfl, rfl⟩ := yy_nx_eq h
    exact row (kk H locs lsA hr hv)
  · cases h
theorem yy_hl2_ok {f : Int64 → Int64 → Int64} (row : ∀ {x z : Int64} {rest : List Value}, W p l e R s m args below meth c H locs nc ns Q (F0 m (pc + len) lsA (.long (f x z) :: rest)) → W p l e R s m args below meth c H locs nc ns Q (F0 m pc lsA (.long z :: .long x :: rest))) (hr : yy_rep P.1 s A D α cls tys ω H locs) (hv : lv_has lsA M.2.2.1 (yy_gL α ls))
    (h : yy_hl2 f P M d pc len ops ls st ω = some (.inl (pc', (ls', (st', ω'))))) (kk : yy_KK p l e R s m args below meth c Q M A D tys P α cls nc ns pc' ls' st' ω') : W p l e R s m args below meth c H locs nc ns Q (F0 m pc lsA (st.map (yy_g α))) := by
  simp only [yy_hl2] at h
  split at h
  · obtain ⟨rfl, rfl, rfl, rfl⟩ := yy_nx_eq h
    exact row (kk H locs lsA hr hv)
  · cases h
theorem yy_hlsh_ok {f : Int64 → Int32 → Int64} (row : ∀ {x : Int64} {z : Int32} {rest : List Value}, W p l e R s m args below meth c H locs nc ns Q (F0 m (pc + len) lsA (.long (f x z) :: rest)) → W p l e R s m args below meth c H locs nc ns Q (F0 m pc lsA (.int z :: .long x :: rest))) (hr : yy_rep P.1 s A D α cls tys ω H locs) (hv : lv_has lsA M.2.2.1 (yy_gL α ls))
    (h : yy_hlsh f P M d pc len ops ls st ω = some (.inl (pc', (ls', (st', ω'))))) (kk : yy_KK p l e R s m args below meth c Q M A D tys P α cls nc ns pc' ls' st' ω') : W p l e R s m args below meth c H locs nc ns Q (F0 m pc lsA (st.map (yy_g α))) := by
  simp only [yy_hlsh] at h
  split at h
  · obtain ⟨rfl, rfl, rfl, rfl⟩ := yy_nx_eq h
    exact row (kk H locs lsA hr hv)
  · cases h
theorem yy_hdup_ok (row : ∀ {v : Value} {rest : List Value}, v.category = 1 → W p l e R s m args below meth c H locs nc ns Q (F0 m (pc + len) lsA (v :: v :: rest)) → W p l e R s m args below meth c H locs nc ns Q (F0 m pc lsA (v :: rest))) (hr : yy_rep P.1 s A D α cls tys ω H locs) (hv : lv_has lsA M.2.2.1 (yy_gL α ls))
    (h : yy_hdup P M d pc len ops ls st ω = some (.inl (pc', (ls', (st', ω'))))) (kk : yy_KK p l e R s m args below meth c Q M A D tys P α cls nc ns pc' ls' st' ω') : W p l e R s m args below meth c H locs nc ns Q (F0 m pc lsA (st.map (yy_g α))) := by
  simp only [yy_hdup] at h
  split at h
  · split at h
    · rename_i v rest hc
      obtain ⟨rfl, rfl, rfl, rfl⟩ := yy_nx_eq h
      exact row (by rw [yy_g_cat]; exact Nat.eq_of_beq_eq_true hc) (kk H locs lsA hr hv)
    · cases h
  · cases h
theorem yy_hpop_ok (row : ∀ {v : Value} {rest : List Value}, v.category = 1 → W p l e R s m args below meth c H locs nc ns Q (F0 m (pc + len) lsA rest) → W p l e R s m args below meth c H locs nc ns Q (F0 m pc lsA (v :: rest))) (hr : yy_rep P.1 s A D α cls tys ω H locs) (hv : lv_has lsA M.2.2.1 (yy_gL α ls))
    (h : yy_hpop P M d pc len ops ls st ω = some (.inl (pc', (ls', (st', ω'))))) (kk : yy_KK p l e R s m args below meth c Q M A D tys P α cls nc ns pc' ls' st' ω') : W p l e R s m args below meth c H locs nc ns Q (F0 m pc lsA (st.map (yy_g α))) := by
  simp only [yy_hpop] at h
  split at h
  · split at h
    · rename_i v rest hc
      obtain ⟨rfl, rfl, rfl, rfl⟩ := yy_nx_eq h
      exact row (by rw [yy_g_cat]; exact Nat.eq_of_beq_eq_true hc) (kk H locs lsA hr hv)
    · cases h
  · cases h
end YT
