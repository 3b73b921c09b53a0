/-! calls, and the whole walk -/
def xx_rm (M : xx_M) : Room := { frames := M.2.2.2.2.1.1, cells := M.2.2.2.2.1.2.2.1, slots := M.2.2.2.2.1.2.2.2, locals := M.2.2.2.2.1.2.1 }
def xx_ws (M : xx_M) : List Cond := Cond.code M.1 M.2.1 M.2.2.1 M.2.2.2.1 :: xx_TB
def xx_Pc (D : va_G) (ρ : xx_Y) (tys : List (ClassId × FieldType)) (w : xx_W) (vs : List Value) (sz : Nat) : Array Value → State → Prop := va_Pc vs (fun U => U.heap.size = sz ∧ va_P D xx_cl (xx_gW ρ w) U.heap ∧ va_K D xx_cl tys U ∧ va_D (fun _ => True) (xx_gW ρ w) ∧ (∀ n ∈ xx_NL, va_Nw n U) ∧ va_AO RX1 U)
def xx_Qo (D : va_G) (o : xx_O) (ρ : xx_Y) (nS nR : Nat) (A : Nat → Prop) (v : Option Value) (t : State) : Prop := ∃ (ρ' : xx_Y) (tys' : List (ClassId × FieldType)), xx_ag nS nR ρ ρ' ∧ nS ≤ o.1.length ∧ nR ≤ o.2.2.1 ∧ v = o.2.2.2.map (xx_g ρ') ∧ xx_in ρ' o.1 ∧ xx_wfW o.1.length o.2.2.1 o.2.1 ∧ xx_wfs o.1.length o.2.2.1 o.2.2.2.toList ∧ o.2.2.1 ≤ xx_scr ∧ va_K D xx_cl tys' t ∧ xx_ar ρ' tys' o.2.1 ∧ va_P D xx_cl (xx_gW ρ' o.2.1) t.heap ∧ va_D A (xx_gW ρ' o.2.1)
def xx_Qc (D : va_G) (outs : List xx_O) (ρ : xx_Y) (nS nR : Nat) (A : Nat → Prop) : Array Value → State → Outcome → State → Prop := fun _ st oc t => (∃ o ∈ outs, ∃ v, oc = .returned v ∧ xx_Qo D o ρ nS nR A v t) ∧ va_F A st t
theorem xx_nest_warm {s U : State} (hW : s.WarmedH U.vm) (h : ∀ n ∈ xx_NL, va_Nw n s) : ∀ n ∈ xx_NL, va_Nw n U := by
  intro n hn
  have h1 := (List.mem_filter.mp hn).2
  have h2 := h n hn
  cases n <;> first | (cases h1; done) | exact va_Nw.warmF hW h2 | exact va_Nw.warmM hW h2
theorem xx_nest_same {s U : State} (hW : s.vm = U.vm) (h : ∀ n ∈ xx_NL, va_Nw n s) : ∀ n ∈ xx_NL, va_Nw n U := by
  intro n hn
  have h1 := (List.mem_filter.mp hn).2
  have h2 := h n hn
  cases n <;> first | (cases h1; done) | exact va_Nw.same rfl hW h2
theorem xx_blind (D : va_G) (ρ : xx_Y) (tys : List (ClassId × FieldType)) (w : xx_W) (vs : List Value) (sz : Nat) : FrameBlind (xx_Pc D ρ tys w vs sz) := by
  intro a U g mk q
  obtain ⟨q0, q1, q2, q3, q4, q5, q6⟩ := q
  exact ⟨q0, q1, q2, va_K.moved (u := U) (U := U.calling g mk a) (Vm.Alike.refl U.vm) q3, q4, xx_nest_same (s := U) (U := U.calling g mk a) rfl q5, va_AO.moved (u := U) (U := U.calling g mk a) (Vm.Alike.refl U.vm) q6⟩
def xx_argp : Nat → List xx_V → xx_L
  | _, [] => []
  | i, v :: vs => (i, v) :: xx_argp (i + xx_cat v) vs
theorem xx_args_eq : ∀ (vs : List xx_V) (i : Nat) (k : xx_L → xx_A), xx_args i vs k = k (xx_argp i vs)
  | [], _, _ => rfl
  | v :: vs, i, k => by
    simp only [xx_args, xx_fN_eq]
    rw [xx_args_eq vs]
    rfl
theorem xx_argp_g (ρ : xx_Y) : ∀ (vs : List xx_V) (i : Nat), lv_args i (vs.map (xx_g ρ)) = xx_gL ρ (xx_argp i vs)
  | [], _ => rfl
  | v :: vs, i => by
    show (i, xx_g ρ v) :: lv_args (if (xx_g ρ v).category = 2 then i + 2 else i + 1) (vs.map (xx_g ρ)) = (i, xx_g ρ v) :: xx_gL ρ (xx_argp (i + xx_cat v) vs)
    rw [← xx_argp_g ρ vs, xx_g_cat]
    have : (if xx_cat v = 2 then i + 2 else i + 1) = i + xx_cat v := by
      rcases v with x | ⟨q, d⟩ | (_ | j) | x <;> rfl
    rw [this]
theorem xx_argp_wf {nS nR : Nat} : ∀ (vs : List xx_V) (i : Nat), xx_wfs nS nR vs → xx_wfl nS nR (xx_argp i vs)
  | [], _, _ => fun q hq => by cases hq
  | v :: vs, i, h => xx_wfl_cons (xx_wfs_hd h) (xx_argp_wf vs _ (xx_wfs_tl h))
theorem xx_lgsl (ρ : xx_Y) (vs : List xx_V) : (lg_sl (vs.map (xx_g ρ))).length = xx_sum vs := by
  induction vs with
  | nil => rfl
  | cons v vs ih =>
    have : lg_sl ((v :: vs).map (xx_g ρ)) = (if (xx_g ρ v).category = 2 then [Slot.val (xx_g ρ v), .second] else [Slot.val (xx_g ρ v)]) ++ lg_sl (vs.map (xx_g ρ)) := by
      unfold lg_sl
      rw [List.map_cons, List.flatMap_cons]
    rw [this, List.length_append, ih, xx_g_cat]
    show _ = xx_cat v + xx_sum vs
    rcases v with x | ⟨q, d⟩ | (_ | j) | x <;> rfl
theorem xx_bool {x : Int32} (h0 : 0 ≤ x.toInt) (h1 : x.toInt ≤ 1) : narrow .boolean (.int x) = .int x := by
  have : x = 0 ∨ x = 1 := by
    have : x.toInt = 0 ∨ x.toInt = 1 := by omega
    rcases this with h | h
    · exact Or.inl (Int32.toInt_inj.mp h)
    · exact Or.inr (Int32.toInt_inj.mp h)
  rcases this with rfl | rfl <;> decide +kernel
/-- what a walk shows -/
def xx_Snd (l : Launch) (T : List xx_M) (n : Nat) : Prop := ∀ (M : xx_M), xx_okM T M = true → ∀ (p : Program) (e : Env) (R : Room) (s : State) (m : MethodId) (args : Array Value) (below : List Frame) (meth : Method) (c : Code) (Q : State → Prop) (A : Nat → Prop) (D : va_G), xx_ctx p R s m args meth c M A → ∀ (scr : Nat) (ct : xx_T) (outs0 : List xx_O) (ρ0 : xx_Y) (nS0 nR0 : Nat), (∀ q ∈ ct, xx_okZ q.2 = true ∧ scr ≤ q.2.1.length + 1) → xx_KR p l e R s m args below meth c Q M A D outs0 nS0 nR0 ρ0 → xx_KC p l e R s m args below meth c Q M A D scr ct nS0 nR0 ρ0 →
  ∀ (pc : Nat) (cur : List xx_I) (cs : xx_C) (w : xx_W) (nk nc ns : Nat) (ls : xx_L) (st : List xx_V) (outs : List xx_O) (ρ : xx_Y) (tys : List (ClassId × FieldType)) (H : Heap) (locs : List Loc) (lsA : Array Slot),
  xx_exec T n M scr ct pc cur cs w nk nc ns ls st = some outs → (∀ z ∈ cur, z ∈ M.2.2.2.2.2) → (∀ o ∈ outs, o ∈ outs0) → xx_ag nS0 nR0 ρ0 ρ → nS0 ≤ cs.length → nR0 ≤ nk → xx_sc scr s A ρ cs.length → xx_ok s A D ρ tys cs w nk ls st H locs → lv_has lsA M.2.2.1 (xx_gL ρ ls) →
  W p l e R s m args below meth c H locs nc ns Q (F0 m pc lsA (st.map (xx_g ρ)))
/-- a method's contract out of its walk -/
theorem xx_met {l : Launch} {T : List xx_M} {n : Nat} (IH : xx_Snd l T n) {M : xx_M} (hM : xx_okM T M = true) {D : va_G} {ρ : xx_Y} {tys : List (ClassId × FieldType)} {cs : xx_C} {w : xx_W} {nk : Nat} {vs : List xx_V} {outs : List xx_O} (sz : Nat) (h : xx_exec T n M 0 [] 0 M.2.2.2.2.2 cs w nk 0 0 (xx_argp 0 vs) [] = some outs) (hin : xx_in ρ cs) (hwW : xx_wfW cs.length nk w) (hwv : xx_wfs cs.length nk vs) (hnk : nk ≤ xx_scr) (har : xx_ar ρ tys w) (hsum : xx_sum vs ≤ M.2.2.1) :
    Met l M.1 (xx_ws M) (xx_rm M) (xx_Pc D ρ tys w (vs.map (xx_g ρ)) sz) (xx_Qc D outs ρ cs.length nk (va_A (xx_gW ρ w) sz)) M.2.2.2.2.1.2.2.1 M.2.2.2.2.1.2.2.2 (va_A (xx_gW ρ w) sz) := by
  have hpn : plainName M.1.cls = true := by
    unfold xx_okM at hM
    rw [Bool.and_eq_true] at hM
    exact hM.1
  refine Met.ofW (cc := M.2.1) (maxL := M.2.2.1) (ret := M.2.2.2.1) hpn rfl ?_
  intro p e s m args below meth c s₁ B hml hv
  obtain ⟨rfl, hsz, hP, hK, hD0, hN, hAO⟩ := hv
  have hx := B.exec
  have hb := B.bytes
  have hr := B.returns
  have hts := atoms_spec (ws := xx_ws M) B.pre
  have hown : s.vm.findClass M.1.cls = some m.cls := findClass_of_methodNamed B.named
  have hlocks := B.notSynchronized
  have hname : meth.name = M.1.name := (name_of_methodNamed B.named B.method).1
  subst hsz
  have hD := hD0.self (sz := s.heap.size)
  have hA : ∀ q : Nat, s.heap.size ≤ q → va_A (xx_gW ρ w) s.heap.size q := fun q h => Or.inr h
  have hS : va_S (va_A (xx_gW ρ w) s.heap.size) s.heap s.heap [] := va_S.rf
  have hl := lv_entry (vs.map (xx_g ρ)) (n := M.2.2.1) (by rw [xx_lgsl]; exact hsum)
  rw [lg_entry_eq]
  generalize (lg_sl (vs.map (xx_g ρ)) ++ List.replicate (M.2.2.1 - (lg_sl (vs.map (xx_g ρ))).length) Slot.unset).toArray = lsA at hl ⊢
  rw [xx_argp_g] at hl
  have hC : xx_ctx p (headSpec (xx_ws M) (xx_rm M)).room s m (vs.map (xx_g ρ)).toArray meth c M (va_A (xx_gW ρ w) s.heap.size) := ⟨hx, hb, hml, hown, fun w hw => hts w (List.mem_cons_of_mem _ hw), hN, hAO, hA, ⟨Nat.le_refl _, Nat.le_refl _, Nat.le_refl _, Nat.le_refl _⟩, fun h9 => hname.trans h9⟩
  refine IH M hM p e _ s m _ below meth c _ _ D hC 0 [] outs ρ cs.length nk (fun q hq => by cases hq) ?_ (fun q hq => by cases hq) 0 M.2.2.2.2.2 cs w nk 0 0 (xx_argp 0 vs) [] outs ρ tys s.heap [] lsA h (fun z hz => hz) (fun o ho => ho) (xx_ag_rf _ _ _) (Nat.le_refl _) (Nat.le_refl _) (Or.inl rfl) ⟨hin, hwW, xx_argp_wf vs 0 hwv, (fun v hv => by cases hv), hnk, hK, har, hP, hD, hS⟩ hl
  intro o ho ρ' tys' H' locs' nc' ns' lsA' pc' hag hnS hnR hok hnc hns hret
  obtain ⟨q1, q2, q3, q4, q5, q6, q7, q8, q9, q10⟩ := hok
  refine W.widen (k := M.2.2.2.2.1.2.2.1) (n := M.2.2.2.2.1.2.2.2) hnc hns ?_
  have mk : ∀ (v : Option Value) (t : State), v = o.2.2.2.map (xx_g ρ') → t.heap = H' → s.WarmedH t.vm → xx_Qc D outs ρ cs.length nk (va_A (xx_gW ρ w) s.heap.size) (vs.map (xx_g ρ)).toArray s (.returned v) t := fun v t hv ht hW => ⟨⟨o, ho, v, rfl, ρ', tys', hag, hnS, hnR, hv, q1, q2, q4, q5, va_K.moved hW.alike q6, q7, by rw [ht]; exact q8, q9⟩, q10.F ht⟩
  obtain ⟨oc, ow, onk, ov⟩ := o
  cases ov with
  | none =>
    obtain ⟨hd, hr0⟩ := hret
    exact W.vret hx hb (by rw [hr]; exact hr0) (fun t ht hW => mk none t rfl ht hW) q10.2.2 hd
  | some v =>
    rcases hret with ⟨hI, hd, hrt⟩ | ⟨hL, hd, hrt⟩
    · have e9 : ([v].map (xx_g ρ')) = [.int (xx_i ρ' v)] := by rw [List.map_cons, xx_g_isI hI]; rfl
      show W _ _ _ _ _ _ _ _ _ _ _ _ _ _ _ (F0 m pc' lsA' ([v].map (xx_g ρ')))
      rw [e9]
      rcases hrt with hrt | ⟨hrt, g0, g1⟩
      · exact W.iret (v := xx_i ρ' v) hx hb (by rw [hr]; exact hrt) (fun t ht hW => mk _ t (by show some _ = some _; rw [xx_g_isI hI]) ht hW) q10.2.2 hd
      · exact W.zret (v := xx_i ρ' v) (ty := .boolean) hx hb (by rw [hr]; exact hrt) (xx_bool g0 g1) (fun t ht hW => mk _ t (by show some _ = some _; rw [xx_g_isI hI]) ht hW) q10.2.2 hd
    · have e9 : ([v].map (xx_g ρ')) = [.long (xx_l v)] := by rw [List.map_cons, xx_g_isL hL]; rfl
      show W _ _ _ _ _ _ _ _ _ _ _ _ _ _ _ (F0 m pc' lsA' ([v].map (xx_g ρ')))
      rw [e9]
      exact W.lret (v := xx_l v) hx hb (by rw [hr]; exact hrt) (fun t ht hW => mk _ t (by show some _ = some _; rw [xx_g_isL hL]) ht hW) q10.2.2 hd
section XS
variable {p : Program} {l : Launch} {e : Env} {R : Room} {s : State} {m : MethodId} {args : Array Value} {below : List Frame} {meth : Method} {c : Code} {Q : State → Prop} {M : xx_M} {A : Nat → Prop} {D : va_G} {outs : List xx_O} {cs : xx_C} {w : xx_W} {nk nc ns : Nat} {ls : xx_L} {st : List xx_V} {ρ : xx_Y} {tys : List (ClassId × FieldType)} {H : Heap} {locs : List Loc} {lsA : Array Slot} {pc scr : Nat} {ops : List Nat}
theorem xx_call {st0 rest : List Value} {mc ms : Nat} {Qa : State → Outcome → State → Prop} {free : Addr → Prop} (hr : va_Run p l e R s m args below meth c H locs nc ns mc ms (F0 m pc lsA st0) rest Qa free)
    (kk : ∀ (v : Option Value) (st₀ t : State) (H1 : Heap) (L : List Loc), st₀.heap = H → t.heap = H1 → s.vm.Alike t.vm → Qa st₀ (.returned v) t → (∀ q ∈ L, free q.base) → W p l e R s m args below meth c H1 (locs ++ L) (nc + mc) (ns + ms) Q (F0 m (pc + 3) lsA (v.toList ++ rest))) : W p l e R s m args below meth c H locs nc ns Q (F0 m pc lsA st0) := by
  intro T hT X
  obtain ⟨v, st₀, t, T', L, h0, X', hL, e1, e2, hq, st⟩ := hr T hT X
  obtain ⟨t2, a1, b1⟩ := kk v st₀ t T'.heap L h0 e1.symm (by rw [← e2]; exact X'.warmed.alike) hq hL T' rfl X'
  exact ⟨t2, st t2 a1, b1⟩
/-- behind a call: the state goes on with what the callee left -/
theorem xx_after {o : xx_O} {v : Option Value} {st₀ t : State} {H1 : Heap} {L : List Loc} {rest : List xx_V} (ho : xx_ok s A D ρ tys cs w nk ls st H locs) (hA : ∀ q, s.heap.size ≤ q → A q) (hrest : xx_wfs cs.length nk rest) (h0 : st₀.heap = H) (h1 : t.heap = H1) (hvm : s.vm.Alike t.vm) (hq : xx_Qo D o ρ cs.length nk (va_A (xx_gW ρ w) H.size) v t) (hF : va_F (va_A (xx_gW ρ w) H.size) st₀ t) (hL : ∀ q ∈ L, va_A (xx_gW ρ w) H.size q.base) :
    ∃ (ρ' : xx_Y) (tys' : List (ClassId × FieldType)), xx_ag cs.length nk ρ ρ' ∧ cs.length ≤ o.1.length ∧ nk ≤ o.2.2.1 ∧ v = o.2.2.2.map (xx_g ρ') ∧ xx_ok s A D ρ' tys' o.1 o.2.1 o.2.2.1 ls (o.2.2.2.toList ++ rest) H1 (locs ++ L) := by
  obtain ⟨ρ', tys', g1, g2, g3, g4, g5, g6, g7, g8, g9, g10, g11, g12⟩ := hq
  obtain ⟨q1, q2, q3, q4, q5, q6, q7, q8, q9, q10⟩ := ho
  have hAA : ∀ q, va_A (xx_gW ρ w) H.size q → A q := fun q h => by
    rcases h with ⟨k, e9, h⟩ | h
    · exact q9.2 k _ h
    · exact hA q (Nat.le_trans q10.1 h)
  refine ⟨ρ', tys', g1, g2, g3, g4, g5, g6, xx_wfl_mono q3 g2 g3, ?_, g8, va_K.moved hvm.symm g9, g10, by rw [← h1]; exact g11, g12.weaken (fun k q _ h => hAA q.1 h), ?_⟩
  · intro u hu
    rcases List.mem_append.mp hu with h | h
    · exact g7 u h
    · exact xx_wf_mono (hrest u h) g2 g3
  · obtain ⟨f1, f2⟩ := hF
    rw [h0, h1] at f1
    refine ⟨Nat.le_trans q10.1 f1, fun q hq hn => ?_, fun q hq => ?_⟩
    · have : H1[q]? = H[q]? := by
        rw [← h1, ← h0]
        exact f2 q (by rw [h0]; exact Nat.lt_of_lt_of_le hq q10.1) (fun h9 => hn (hAA q h9))
      rw [this]
      exact q10.2.1 q hq hn
    · rcases List.mem_append.mp hq with h | h
      · exact q10.2.2 q h
      · exact hAA _ (hL q h)
/-- before a call: what the callee is given -/
theorem xx_given {vs : List xx_V} (hC : xx_ctx p R s m args meth c M A) (ho : xx_ok s A D ρ tys cs w nk ls st H locs) : PreS s H (xx_Pc D ρ tys w (vs.map (xx_g ρ)) H.size) (vs.map (xx_g ρ)) := by
  obtain ⟨hx, hb, hml, hown, hts, hN, hAO, hA, hR, hin⟩ := hC
  obtain ⟨q1, q2, q3, q4, q5, q6, q7, q8, q9, q10⟩ := ho
  exact ⟨xx_blind _ _ _ _ _ _, fun U hU hW => ⟨rfl, by rw [hU], by rw [hU]; exact q8, va_K.moved hW.alike q6, q9.weaken (fun _ _ _ _ => trivial), xx_nest_warm hW hN, va_AO.moved hW.alike hAO⟩⟩
theorem xx_goodTB : ∀ w ∈ xx_TB, w ∈ xx_TB ∧ ((w.onTables && w.keeps) = true ∨ ∃ ty, w = .arrayClass ty) := fun w hw => ⟨hw, good_of_word (List.mem_filter.mp hw).2⟩
/-- a call's words and room -/
theorem xx_words {M' : xx_M} {g : Nat} (hf : xx_fits M M' nc ns [] [] = true ∨ True) (hC : xx_ctx p R s m args meth c M A) (hg : lw_tbl[g]? = some (.code M'.1 M'.2.1 M'.2.2.1 M'.2.2.2.1)) : ∀ w ∈ xx_ws M', ∀ (a' : Array Value) (U : State), s.WarmedH U.vm → w.before a' U = true := by
  refine pay_in (big := xx_TB) hC.2.2.2.2.1 (fun w hw => ?_)
  rcases List.mem_cons.mp hw with h | h
  · subst h
    exact xx_goodTB _ (xx_inTB hg rfl)
  · exact xx_goodTB w h
end XS
