/-! a method's surroundings, and what a row of the engine must show -/
def xx_TB : List Cond := lw_tbl.filter goodWord
def xx_isN (w : Cond) : Bool := match w with
  | .fieldLinkNest _ _ _ _ _ _ => true
  | .methodLinkNest _ _ _ _ => true
  | _ => false
def xx_NL : List Cond := lw_tbl.filter xx_isN
theorem xx_inTB {p : Nat} {w : Cond} (h : lw_tbl[p]? = some w) (hg : goodWord w = true) : w ∈ xx_TB := List.mem_filter.mpr ⟨List.mem_of_getElem? h, hg⟩
theorem xx_inNL {p : Nat} {w : Cond} (h : lw_tbl[p]? = some w) (hg : xx_isN w = true) : w ∈ xx_NL := List.mem_filter.mpr ⟨List.mem_of_getElem? h, hg⟩
def xx_ctx (p : Program) (R : Room) (s : State) (m : MethodId) (args : Array Value) (meth : Method) (c : Code) (M : xx_M) (A : Nat → Prop) : Prop :=
  p.tables.exec = Jvm.exec ∧ c.code = M.2.1 ∧ c.maxLocals = M.2.2.1 ∧ s.vm.findClass M.1.cls = some m.cls ∧ (∀ w ∈ xx_TB, w.before args s = true) ∧ (∀ w ∈ xx_NL, va_Nw w s) ∧ va_AO RX1 s ∧ (∀ q, s.heap.size ≤ q → A q) ∧
  (M.2.2.2.2.1.1 ≤ R.frames ∧ M.2.2.2.2.1.2.1 ≤ R.locals ∧ M.2.2.2.2.1.2.2.1 ≤ R.cells ∧ M.2.2.2.2.1.2.2.2 ≤ R.slots) ∧ (M.1.name = "<init>" → meth.name = "<init>")
/-- what comes next holds, in every meaning that goes on from this one -/
def xx_KK (p : Program) (l : Launch) (e : Env) (R : Room) (s : State) (m : MethodId) (args : Array Value) (below : List Frame) (meth : Method) (c : Code) (Q : State → Prop) (M : xx_M) (A : Nat → Prop) (D : va_G) (k : xx_G) (outs : List xx_O) (cs : xx_C) (nk : Nat) (ρ : xx_Y) (pc : Nat) : Prop :=
  ∀ (cs' : xx_C) (w' : xx_W) (nk' nc' ns' : Nat) (ls' : xx_L) (st' : List xx_V) (ρ' : xx_Y) (tys' : List (ClassId × FieldType)) (H' : Heap) (locs' : List Loc) (lsA' : Array Slot),
    k cs' w' nk' nc' ns' ls' st' = some outs → xx_ag cs.length nk ρ ρ' → cs.length ≤ cs'.length → nk ≤ nk' → xx_ok s A D ρ' tys' cs' w' nk' ls' st' H' locs' → lv_has lsA' M.2.2.1 (xx_gL ρ' ls') →
    W p l e R s m args below meth c H' locs' nc' ns' Q (F0 m pc lsA' (st'.map (xx_g ρ')))
section XR
variable {p : Program} {l : Launch} {e : Env} {R : Room} {s : State} {m : MethodId} {args : Array Value} {below : List Frame} {meth : Method} {c : Code} {Q : State → Prop} {M : xx_M} {A : Nat → Prop} {D : va_G} {k : xx_G} {outs : List xx_O} {cs : xx_C} {w : xx_W} {nk nc ns : Nat} {ls : xx_L} {st : List xx_V} {ρ : xx_Y} {tys : List (ClassId × FieldType)} {H : Heap} {locs : List Loc} {lsA : Array Slot} {pc scr : Nat} {ops : List Nat}
/-- only stack and locals are others -/
theorem xx_ok.via (ho : xx_ok s A D ρ tys cs w nk ls st H locs) {ls' : xx_L} {st' : List xx_V} (hl : xx_wfl cs.length nk ls') (hs : xx_wfs cs.length nk st') : xx_ok s A D ρ tys cs w nk ls' st' H locs := ⟨ho.1, ho.2.1, hl, hs, ho.2.2.2.2.1, ho.2.2.2.2.2⟩
theorem xx_KK.same {pc' : Nat} (kk : xx_KK p l e R s m args below meth c Q M A D k outs cs nk ρ pc') (ho : xx_ok s A D ρ tys cs w nk ls st H locs) {ls' : xx_L} {st' : List xx_V} (h : k cs w nk nc ns ls' st' = some outs) (hl : xx_wfl cs.length nk ls') (hs : xx_wfs cs.length nk st') (hv : lv_has lsA M.2.2.1 (xx_gL ρ ls')) :
    W p l e R s m args below meth c H locs nc ns Q (F0 m pc' lsA (st'.map (xx_g ρ))) :=
  kk cs w nk nc ns ls' st' ρ tys H locs lsA h (xx_ag_rf _ _ _) (Nat.le_refl _) (Nat.le_refl _) (ho.via hl hs) hv
theorem xx_wfs_cons {a b : Nat} {v : xx_V} {st : List xx_V} (hv : xx_wf a b v) (h : xx_wfs a b st) : xx_wfs a b (v :: st) := fun u hu => (List.mem_cons.mp hu).elim (fun e => e ▸ hv) (h u)
theorem xx_wfs_tl {a b : Nat} {v : xx_V} {st : List xx_V} (h : xx_wfs a b (v :: st)) : xx_wfs a b st := fun u hu => h u (List.mem_cons_of_mem _ hu)
theorem xx_wfs_hd {a b : Nat} {v : xx_V} {st : List xx_V} (h : xx_wfs a b (v :: st)) : xx_wf a b v := h v List.mem_cons_self
theorem xx_wfl_cons {a b i : Nat} {v : xx_V} {st : xx_L} (hv : xx_wf a b v) (h : xx_wfl a b st) : xx_wfl a b ((i, v) :: st) := fun u hu => (List.mem_cons.mp hu).elim (fun e => by rw [e]; exact hv) (h u)
theorem xx_wfl_fil {a b : Nat} {f : Nat × xx_V → Bool} {st : xx_L} (h : xx_wfl a b st) : xx_wfl a b (st.filter f) := fun u hu => h u (List.mem_filter.mp hu).1
/-- a new symbol -/
theorem xx_ok.fresh (ho : xx_ok s A D ρ tys cs w nk ls st H locs) (v : Int32) {a b : Int} (h1 : a ≤ v.toInt) (h2 : v.toInt ≤ b) :
    xx_ag cs.length nk ρ (va_up ρ.1 cs.length v, ρ.2) ∧ xx_ok s A D (va_up ρ.1 cs.length v, ρ.2) tys (cs ++ [(a, b)]) w nk ls st H locs := by
  have hag : xx_ag cs.length nk ρ (va_up ρ.1 cs.length v, ρ.2) := ⟨fun k hk => by show va_up ρ.1 cs.length v k = _; unfold va_up; rw [if_neg (Nat.ne_of_lt hk)], fun _ _ => rfl, rfl⟩
  obtain ⟨q1, q2, q3, q4, q5, q6, q7, q8, q9, q10⟩ := ho
  have hle : cs.length ≤ (cs ++ [(a, b)]).length := by rw [List.length_append]; omega
  have hgw : xx_gW (va_up ρ.1 cs.length v, ρ.2) w = xx_gW ρ w := xx_gW_ag hag (fun _ _ => ⟨rfl, rfl⟩) q2
  refine ⟨hag, ?_, xx_wfW_mono q2 hle (Nat.le_refl _), xx_wfl_mono q3 hle (Nat.le_refl _), xx_wfs_mono q4 hle (Nat.le_refl _), q5, q6, q7, by rw [hgw]; exact q8, by rw [hgw]; exact q9, q10⟩
  intro k r hr
  show r.1 ≤ (va_up ρ.1 cs.length v k).toInt ∧ (va_up ρ.1 cs.length v k).toInt ≤ r.2
  unfold va_up
  by_cases hk : k < cs.length
  · rw [List.getElem?_append_left hk] at hr
    rw [if_neg (Nat.ne_of_lt hk)]
    exact q1 k r hr
  · rw [List.getElem?_append_right (Nat.le_of_not_lt hk)] at hr
    have hz : k - cs.length < 1 := (List.getElem?_eq_some_iff.mp hr).1
    rw [show k - cs.length = 0 by omega] at hr
    cases hr
    rw [if_pos (by omega)]
    exact ⟨h1, h2⟩
def xx_rok (ρ : xx_Y) (nS nR : Nat) (z : Int32) (r : xx_N) : Prop := match r with
  | .inl v => xx_g ρ v = .int z ∧ xx_wf nS nR v
  | .inr q => q.1 ≤ z.toInt ∧ z.toInt ≤ q.2
theorem xx_rok_full (ρ : xx_Y) (nS nR : Nat) (z : Int32) : xx_rok ρ nS nR z (.inr xx_full) := xx_rng z
theorem xx_res_ok {pc' : Nat} {rest : List xx_V} {z : Int32} {r : xx_N} (kk : xx_KK p l e R s m args below meth c Q M A D k outs cs nk ρ pc') (ho : xx_ok s A D ρ tys cs w nk ls st H locs) (hs : xx_wfs cs.length nk rest) (hv : lv_has lsA M.2.2.1 (xx_gL ρ ls)) (hr : xx_rok ρ cs.length nk z r)
    (h : xx_res cs r (fun cs v => k cs w nk nc ns ls (v :: rest)) = some outs) : W p l e R s m args below meth c H locs nc ns Q (F0 m pc' lsA (.int z :: rest.map (xx_g ρ))) := by
  rcases r with v | ⟨a, b⟩
  · simp only [xx_res, xx_fV_eq] at h
    have := kk.same ho h ho.2.2.1 (xx_wfs_cons hr.2 hs) hv
    rw [List.map_cons, hr.1] at this
    exact this
  · simp only [xx_res, xx_fI_eq, xx_len_eq, xx_app_eq, Nat.zero_add] at h
    obtain ⟨hag, hok⟩ := (ho.via ho.2.2.1 hs).fresh z hr.1 hr.2
    have hl : cs.length < (cs ++ [(a, b)]).length := by rw [List.length_append]; exact Nat.lt_succ_self _
    have := kk _ _ _ _ _ _ _ _ tys H locs lsA h hag (Nat.le_of_lt hl) (Nat.le_refl _) (hok.via hok.2.2.1 (xx_wfs_cons (v := .inr (.inl (cs.length, 0))) hl hok.2.2.2.1)) (by rw [xx_gL_ag hag ho.2.2.1]; exact hv)
    rw [List.map_cons, xx_gs_ag hag hs] at this
    have e : xx_g (va_up ρ.1 cs.length z, ρ.2) (.inr (.inl (cs.length, 0))) = .int z := by
      show Value.int (va_up ρ.1 cs.length z cs.length + Int32.ofInt 0) = _
      unfold va_up
      rw [if_pos rfl]
      congr 1
      exact Int32.add_zero z
    rw [e] at this
    exact this
theorem xx_zz_ok {n : Int} (h : xx_zz n = false) : ¬ Int32.ofInt n = 0 := by
  unfold xx_zz at h
  rw [Bool.not_eq_false', Bool.and_eq_true, Bool.and_eq_true, Bool.not_eq_true', xx_le_iff, xx_le_iff] at h
  obtain ⟨h1, h2, h3⟩ := h
  intro e
  have e1 := xx_ofInt h1 h2
  rw [e] at e1
  have : n = 0 := e1.symm
  rw [(xx_eqI_iff n 0).mpr this] at h3
  cases h3
theorem xx_b2_ok {nS nR : Nat} {f : Int32 → Int32 → Int32} {kf : Int → Int → Int} {y : Nat → Int → Int → xx_N} {zb d : Bool} (hk : ∀ a b, Int32.ofInt (kf a b) = f (Int32.ofInt a) (Int32.ofInt b)) (hy : ∀ q dd n, q < nS → xx_rok ρ nS nR (f (ρ.1 q + Int32.ofInt dd) (Int32.ofInt n)) (y q dd n)) (hz : zb = true → ∀ x y : Int32, f x y = x + y)
    {a b : xx_V} (ha : xx_wf nS nR a) (hb : xx_wf nS nR b) {r : xx_N} (h : xx_b2 kf y zb d a b = some r) : xx_isI a = true ∧ xx_isI b = true ∧ xx_rok ρ nS nR (f (xx_i ρ a) (xx_i ρ b)) r ∧ (d = true → ¬ xx_i ρ b = 0) := by
  rcases a with a | ⟨qa, da⟩ | a
  · rcases b with b | ⟨qb, db⟩ | b
    · simp only [xx_b2] at h
      split at h
      · cases h
      · rename_i hd
        cases h
        refine ⟨rfl, rfl, ⟨?_, trivial⟩, fun hd2 => ?_⟩
        · show Value.int _ = Value.int _
          rw [hk]
          rfl
        · rw [hd2, Bool.true_and] at hd
          exact xx_zz_ok hd
    · simp only [xx_b2] at h
      split at h
      · cases h
      · split at h
        · rename_i hzt
          cases h
          refine ⟨rfl, rfl, ⟨?_, hb⟩, fun hd2 => by cases hd2⟩
          show Value.int (ρ.1 qb + Int32.ofInt (db + a)) = Value.int _
          rw [hz rfl, Int32.ofInt_add]
          congr 1
          show _ = Int32.ofInt a + (ρ.1 qb + Int32.ofInt db)
          rw [Int32.add_comm (Int32.ofInt a), Int32.add_assoc]
        · cases h
          exact ⟨rfl, rfl, xx_rok_full _ _ _ _, fun hd2 => by cases hd2⟩
    · cases h
  · rcases b with b | ⟨qb, db⟩ | b
    · simp only [xx_b2] at h
      split at h
      · cases h
      · rename_i hd
        cases h
        refine ⟨rfl, rfl, hy qa da b ha, fun hd2 => ?_⟩
        rw [hd2, Bool.true_and] at hd
        exact xx_zz_ok hd
    · simp only [xx_b2] at h
      split at h
      · cases h
      · cases h
        exact ⟨rfl, rfl, xx_rok_full _ _ _ _, fun hd2 => by cases hd2⟩
    · cases h
  · cases h
theorem xx_nrm_wf {nS nR : Nat} {cs : xx_C} {v : xx_V} (h : xx_wf nS nR v) : xx_wf nS nR (xx_nrm cs v) := by
  rcases v with x | ⟨q, d⟩ | x
  · exact h
  · simp only [xx_nrm]
    split
    · split
      · trivial
      · exact h
    · exact h
  · exact h
/-- an int operation of two operands: 'row' is the machine's -/
theorem xx_h2_ok {f : Int32 → Int32 → Int32} {kf : Int → Int → Int} {y : Nat → Int → Int → xx_N} {zb d : Bool} (row : ∀ {x z : Int32} {rest : List Value}, (d = true → ¬ z = 0) → W p l e R s m args below meth c H locs nc ns Q (F0 m (pc + 1) lsA (.int (f x z) :: rest)) → W p l e R s m args below meth c H locs nc ns Q (F0 m pc lsA (.int z :: .int x :: rest)))
    (hk : ∀ a b, Int32.ofInt (kf a b) = f (Int32.ofInt a) (Int32.ofInt b)) (hy : ∀ q dd n, q < cs.length → xx_rok ρ cs.length nk (f (ρ.1 q + Int32.ofInt dd) (Int32.ofInt n)) (y q dd n)) (hz : zb = true → ∀ x y : Int32, f x y = x + y)
    (ho : xx_ok s A D ρ tys cs w nk ls st H locs) (hv : lv_has lsA M.2.2.1 (xx_gL ρ ls)) (h : xx_h2 kf y zb d M scr ops cs w nk nc ns ls st k = some outs) (kk : xx_KK p l e R s m args below meth c Q M A D k outs cs nk ρ (pc + 1)) : W p l e R s m args below meth c H locs nc ns Q (F0 m pc lsA (st.map (xx_g ρ))) := by
  simp only [xx_h2] at h
  split at h
  · rename_i b a rest
    split at h
    · rename_i r hr
      have ha := xx_wfs_hd (xx_wfs_tl ho.2.2.2.1)
      have hb := xx_wfs_hd ho.2.2.2.1
      obtain ⟨h1, h2, h3, h4⟩ := xx_b2_ok hk hy hz (xx_nrm_wf ha) (xx_nrm_wf hb) hr
      obtain ⟨na1, na2, na3⟩ := xx_nrm_ok ho.1 a
      obtain ⟨nb1, nb2, nb3⟩ := xx_nrm_ok ho.1 b
      rw [na2, nb2] at h3
      rw [nb2] at h4
      rw [na3] at h1
      rw [nb3] at h2
      rw [List.map_cons, List.map_cons, xx_g_isI h1, xx_g_isI h2]
      exact row h4 (xx_res_ok kk ho (xx_wfs_tl (xx_wfs_tl ho.2.2.2.1)) hv h3 h)
    · cases h
  · cases h
theorem xx_kf_ok (f : Int32 → Int32 → Int32) (a b : Int) : Int32.ofInt (xx_kf f a b) = f (Int32.ofInt a) (Int32.ofInt b) := Int32.ofInt_toInt _
theorem xx_yadd_ok {nS nR q : Nat} {dd n : Int} (hq : q < nS) : xx_rok ρ nS nR ((ρ.1 q + Int32.ofInt dd) + Int32.ofInt n) (xx_yadd q dd n) := ⟨by show Value.int (ρ.1 q + Int32.ofInt (dd + n)) = _; rw [Int32.ofInt_add, Int32.add_assoc], hq⟩
theorem xx_ysub_ok {nS nR q : Nat} {dd n : Int} (hq : q < nS) : xx_rok ρ nS nR ((ρ.1 q + Int32.ofInt dd) - Int32.ofInt n) (xx_ysub q dd n) := ⟨by show Value.int (ρ.1 q + Int32.ofInt (dd - n)) = _; rw [Int32.ofInt_sub, Int32.sub_eq_add_neg, Int32.sub_eq_add_neg, Int32.add_assoc], hq⟩
theorem xx_and_rng (x : Int32) {n : Int} (h0 : 0 ≤ n) (h1 : n ≤ xx_hi) : 0 ≤ (x &&& Int32.ofInt n).toInt ∧ (x &&& Int32.ofInt n).toInt ≤ n := by
  have hn : (Int32.ofInt n).toInt = n := xx_ofInt (by unfold xx_lo; omega) h1
  have hb : ((Int32.ofInt n).toBitVec.toNat : Int) = n := by
    have e : (Int32.ofInt n).toInt = (Int32.ofInt n).toBitVec.toInt := rfl
    rw [e, BitVec.toInt_eq_toNat_cond] at hn
    split at hn
    · exact hn
    · rename_i hc
      have := (Int32.ofInt n).toBitVec.isLt
      omega
  have hle : (x &&& Int32.ofInt n).toBitVec.toNat ≤ (Int32.ofInt n).toBitVec.toNat := by
    rw [Int32.toBitVec_and, BitVec.toNat_and]
    exact Nat.and_le_right
  have e : (x &&& Int32.ofInt n).toInt = (x &&& Int32.ofInt n).toBitVec.toInt := rfl
  unfold xx_hi at h1
  rw [e, BitVec.toInt_eq_toNat_cond]
  rw [if_pos (by omega)]
  omega
theorem xx_yand_ok {nS nR q : Nat} {dd n : Int} : xx_rok ρ nS nR ((ρ.1 q + Int32.ofInt dd) &&& Int32.ofInt n) (xx_yand q dd n) := by
  simp only [xx_yand]
  split
  · rename_i h
    rw [Bool.and_eq_true, xx_le_iff, xx_le_iff] at h
    exact xx_and_rng _ h.1 h.2
  · exact xx_rok_full _ _ _ _
theorem xx_yf_ok {nS nR q : Nat} {dd n : Int} {z : Int32} : xx_rok ρ nS nR z (xx_yf q dd n) := xx_rok_full _ _ _ _
end XR
