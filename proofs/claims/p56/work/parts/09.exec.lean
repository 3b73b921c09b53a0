/-! what the tables must say of a method's rows -/
def xx_ops (ops : List Nat) : List Nat := match ops with
  | 77 :: r => r
  | r => r
def xx_wd (q : Nat) (w : Cond) : Bool := decide (lw_tbl[q]? = some w)
def xx_okC (T : List xx_M) (M : xx_M) (idx : Nat) (ops : List Nat) (kind : Nat) : Bool := match ops with
  | [0, t, n, ci, a, mode, b, d, f, g] => match T[t]? with
    | some M' => (match mode with
        | 0 => xx_wd a (.methodLink M.1.cls idx M'.1)
        | 1 => xx_wd a (.methodLinkNest M.1.cls idx M'.1 RX6)
        | _ => false) && (xx_wd f (.initialized M'.1.cls) && (xx_wd g (.code M'.1 M'.2.1 M'.2.2.1 M'.2.2.2.1) && (decide (M'.1.cls ≠ "java/lang/invoke/MethodHandle") && (decide (M'.1.cls ≠ "java/lang/invoke/VarHandle") && (decide ((parseMethodDescriptor M'.1.desc).map (fun d => d.parameters.length) = some n) && (match kind with
        | 0 => xx_wd b (.instanceMethod M'.1) && (xx_wd d (.selects M'.1.cls M'.1 M'.1) && (match xx_cl[ci]? with
          | some q => decide (q.1 = M'.1.cls)
          | none => false))
        | 1 => xx_wd b (.instanceMethod M'.1) && (decide (M'.1.name = "<init>") && decide (M'.2.2.2.1 = none))
        | 2 => xx_wd b (.static M'.1)
        | _ => false))))))
    | none => false
  | _ => false
def xx_okL (M : xx_M) (idx : Nat) (ops : List Nat) : Bool := match ops with
  | [5, a, b, d, f, g] => xx_wd a (.methodLink M.1.cls idx yX7_layKnowledge) && (xx_wd b (.instanceMethod yX7_layKnowledge) && (xx_wd d (.selects RX7 yX7_layKnowledge yX7_layKnowledge) && (xx_wd f (.initialized RX7) && xx_wd g (.code yX7_layKnowledge cX7_layKnowledge 4 none))))
  | _ => false
def xx_okW (T : List xx_M) (M : xx_M) (i : Instr) (len : Nat) (ops : List Nat) : Bool := match i with
  | .iconst _ => Nat.beq len 1
  | .bipush n => Nat.beq len 2 && decide ((Int8.ofInt n).toInt32 = Int32.ofInt n)
  | .sipush n => Nat.beq len 3 && decide ((Int16.ofInt n).toInt32 = Int32.ofInt n)
  | .getstatic _ => true
  | .ldc idx => Nat.beq len 2 && (match ops with
    | [q, g, n] => xx_wd q (.constant M.1.cls idx (Int32.ofInt (xx_sgn g n)))
    | [] => true
    | _ => false)
  | .ldc_w idx => Nat.beq len 3 && (match ops with
    | [q, g, n] => xx_wd q (.constant M.1.cls idx (Int32.ofInt (xx_sgn g n)))
    | _ => false)
  | .ldc2_w idx => Nat.beq len 3 && (match ops with
    | [q, g, n] => xx_wd q (.constantLong M.1.cls idx (Int64.ofInt (xx_sgn g n)))
    | _ => false)
  | .lconst n => Nat.beq len 1 && decide (Int64.ofNat n.val = Int64.ofInt (n.val : Int))
  | .iload _ => Nat.beq len 2
  | .lload _ => Nat.beq len 2
  | .aload _ => Nat.beq len 2
  | .istore _ => Nat.beq len 2
  | .lstore _ => Nat.beq len 2
  | .iinc _ _ => Nat.beq len 3
  | .getfield idx => Nat.beq len 3 && xx_okF M idx ops false
  | .putfield idx => Nat.beq len 3 && xx_okF M idx ops true
  | .new idx => Nat.beq len 3 && xx_okN M idx ops
  | .newarray t => Nat.beq len 2 && (match ops with
    | [q] => xx_wd q (.arrayClass (newarray.typeOf t))
    | _ => false)
  | .anewarray idx => Nat.beq len 3 && (match ops with
    | [q] => xx_wd q (.classLink M.1.cls idx RX1)
    | _ => false)
  | .goto _ => Nat.beq len 3
  | .ifCond _ _ => Nat.beq len 3
  | .if_icmp _ _ => Nat.beq len 3
  | .tableswitch _ _ _ _ => true
  | .lookupswitch _ ps => (ps.toList.zip (ps.toList.drop 1)).all (fun (a, next) => a.1 < next.1)
  | .invokevirtual idx => Nat.beq len 3 && (xx_okC T M idx ops 0 || (xx_okL M idx ops || decide (ops = [])))
  | .invokespecial idx => Nat.beq len 3 && (xx_okC T M idx ops 1 || (match ops with
    | [8, a, b, d] => xx_wd a (.methodLink M.1.cls idx objectInit) && (xx_wd b (.instanceMethod objectInit) && xx_wd d (.code objectInit ⟨#[0xb1]⟩ 1 none))
    | [] => true
    | _ => false))
  | .invokestatic idx => Nat.beq len 3 && (xx_okC T M idx ops 2 || (match ops with
    | [9, a, b, d, f] => xx_wd a (.methodLink M.1.cls idx arraycopyName) && (xx_wd b (.native arraycopyName) && (xx_wd d (.static arraycopyName) && xx_wd f (.initialized "java/lang/System")))
    | [] => true
    | _ => false))
  | _ => Nat.beq len 1
def xx_okT (pc : Nat) (i : Instr) : Bool := match i with
  | .ifCond _ off => xx_le 0 ((pc : Int) + off)
  | .if_icmp _ off => xx_le 0 ((pc : Int) + off)
  | _ => true
def xx_okI (T : List xx_M) (M : xx_M) (e : xx_I) : Bool := decide (decode M.2.1 e.1 = .ok (e.2.1, e.2.2.1)) && (xx_okW T M e.2.1 e.2.2.1 (xx_ops e.2.2.2) && xx_okT e.1 e.2.1)
def xx_okM (T : List xx_M) (M : xx_M) : Bool := plainName M.1.cls && (M.2.2.2.2.2.all (xx_okI T M) && Nat.ble 0 0)
/-! the ends of a walk -/
/-- the answer, at its row -/
def xx_ret (M : xx_M) (ρ : xx_Y) (o : Option xx_V) (pc : Nat) : Prop := match o with
  | none => decode M.2.1 pc = .ok (.return_, 1) ∧ M.2.2.2.1 = none
  | some v => (xx_isI v = true ∧ decode M.2.1 pc = .ok (.ireturn, 1) ∧ (M.2.2.2.1 = some .int ∨ M.2.2.2.1 = some .boolean ∧ 0 ≤ (xx_i ρ v).toInt ∧ (xx_i ρ v).toInt ≤ 1)) ∨ (xx_isL v = true ∧ decode M.2.1 pc = .ok (.lreturn, 1) ∧ M.2.2.2.1 = some .long)
def xx_KR (p : Program) (l : Launch) (e : Env) (R : Room) (s : State) (m : MethodId) (args : Array Value) (below : List Frame) (meth : Method) (c : Code) (Q : State → Prop) (M : xx_M) (A : Nat → Prop) (D : va_G) (outs : List xx_O) (nS nR : Nat) (ρ : xx_Y) : Prop :=
  ∀ o ∈ outs, ∀ (ρ' : xx_Y) (tys' : List (ClassId × FieldType)) (H' : Heap) (locs' : List Loc) (nc' ns' : Nat) (lsA' : Array Slot) (pc' : Nat), xx_ag nS nR ρ ρ' → nS ≤ o.1.length → nR ≤ o.2.2.1 → xx_ok s A D ρ' tys' o.1 o.2.1 o.2.2.1 [] o.2.2.2.toList H' locs' → nc' ≤ M.2.2.2.2.1.2.2.1 → ns' ≤ M.2.2.2.2.1.2.2.2 → xx_ret M ρ' o.2.2.2 pc' →
    W p l e R s m args below meth c H' locs' nc' ns' Q (F0 m pc' lsA' (o.2.2.2.toList.map (xx_g ρ')))
def xx_KC (p : Program) (l : Launch) (e : Env) (R : Room) (s : State) (m : MethodId) (args : Array Value) (below : List Frame) (meth : Method) (c : Code) (Q : State → Prop) (M : xx_M) (A : Nat → Prop) (D : va_G) (scr : Nat) (ct : xx_T) (nS nR : Nat) (ρ : xx_Y) : Prop :=
  ∀ q ∈ ct, ∀ (ρ' : xx_Y) (tys' : List (ClassId × FieldType)) (H' : Heap) (locs' : List Loc) (lsA' : Array Slot), xx_ag nS nR ρ ρ' → xx_sc scr s A ρ' q.2.1.length → xx_ok s A D ρ' tys' q.2.1 q.2.2.1 q.2.2.2.1 q.2.2.2.2.2.2.1 q.2.2.2.2.2.2.2 H' locs' → lv_has lsA' M.2.2.1 (xx_gL ρ' q.2.2.2.2.2.2.1) →
    W p l e R s m args below meth c H' locs' q.2.2.2.2.1 q.2.2.2.2.2.1 Q (F0 m q.1 lsA' (q.2.2.2.2.2.2.2.map (xx_g ρ')))
/-! a state that says no more -/
def xx_wfv (nS nR : Nat) (v : xx_V) : Bool := match v with
  | .inr (.inl q) => Nat.blt q.1 nS
  | .inr (.inr (.inl (some i))) => Nat.blt i nR || Nat.beq i xx_scr
  | _ => true
def xx_wfe (nS nR : Nat) (e : xx_E) : Bool := match e with
  | .inl (_, (_, some l)) => l.all (xx_wfv nS nR)
  | .inl (_, (_, none)) => true
  | .inr (_, fs) => fs.all (xx_wfv nS nR)
def xx_okZ (Z : xx_S) : Bool := xx_ndk Z.2.1 && (Z.2.1.all (fun q => Nat.blt q.1 Z.2.2.1 && xx_wfe Z.1.length Z.2.2.1 q.2) && (Z.2.2.2.2.2.1.all (fun q => xx_wfv Z.1.length Z.2.2.1 q.2) && Z.2.2.2.2.2.2.all (xx_wfv Z.1.length Z.2.2.1)))
theorem xx_wfv_ok {nS nR : Nat} {v : xx_V} (h : xx_wfv nS nR v = true) : xx_wf nS nR v := by
  rcases v with x | ⟨q, d⟩ | (_ | i) | x
  · trivial
  · exact xx_blt h
  · trivial
  · simp only [xx_wfv, Bool.or_eq_true] at h
    exact h.elim (fun q => Or.inl (xx_blt q)) (fun q => Or.inr (Nat.eq_of_beq_eq_true q))
  · trivial
theorem xx_wfe_ok {nS nR : Nat} {e : xx_E} (h : xx_wfe nS nR e = true) : xx_wfE nS nR e := by
  rcases e with ⟨kd, n, (_ | l)⟩ | ⟨ci, fs⟩
  · trivial
  · exact fun v hv => xx_wfv_ok (List.all_eq_true.mp h v hv)
  · exact fun v hv => xx_wfv_ok (List.all_eq_true.mp h v hv)
theorem xx_eqV_ok {a b : xx_V} (h : xx_eqV a b = true) : a = b := by
  rcases a with x | ⟨q, d⟩ | (_ | i) | x <;> rcases b with y | ⟨q2, d2⟩ | (_ | j) | y <;> first
    | (cases h; done)
    | rfl
    | (simp only [xx_eqV, xx_eqI_iff] at h; rw [h]; done)
    | (simp only [xx_eqV, Bool.and_eq_true, xx_eqI_iff] at h; rw [Nat.eq_of_beq_eq_true h.1, h.2]; done)
    | (rw [Nat.eq_of_beq_eq_true h]; done)
theorem xx_eqVs_ok : ∀ {a b : List xx_V}, xx_eqVs a b = true → a = b
  | [], [], _ => rfl
  | a :: s, b :: t, h => by
    simp only [xx_eqVs, Bool.and_eq_true] at h
    rw [xx_eqV_ok h.1, xx_eqVs_ok h.2]
  | [], _ :: _, h => by cases h
  | _ :: _, [], h => by cases h
theorem xx_eqE_ok {a b : xx_E} (h : xx_eqE a b = true) : a = b := by
  rcases a with ⟨k1, n1, c1⟩ | ⟨i1, f1⟩ <;> rcases b with ⟨k2, n2, c2⟩ | ⟨i2, f2⟩
  · simp only [xx_eqE, Bool.and_eq_true] at h
    obtain ⟨h1, h2, h3⟩ := h
    rw [Nat.eq_of_beq_eq_true h1, Nat.eq_of_beq_eq_true h2]
    cases c1 with
    | none =>
      cases c2 with
      | none => rfl
      | some t => cases h3
    | some s =>
      cases c2 with
      | none => cases h3
      | some t => rw [xx_eqVs_ok h3]
  · cases h
  · cases h
  · simp only [xx_eqE, Bool.and_eq_true] at h
    rw [Nat.eq_of_beq_eq_true h.1, xx_eqVs_ok h.2]
theorem xx_subC_ok {ρ : xx_Y} : ∀ {cs ds : xx_C}, xx_subC cs ds = true → ds.length ≤ cs.length ∧ ∀ (k : Nat) (r : Int × Int), ds[k]? = some r → ∃ q, cs[k]? = some q ∧ r.1 ≤ q.1 ∧ q.2 ≤ r.2
  | cs, [], _ => ⟨Nat.zero_le _, fun k r h => by simp at h⟩
  | [], _ :: _, h => by cases h
  | r :: cs, q :: ds, h => by
    simp only [xx_subC, Bool.and_eq_true, xx_le_iff] at h
    obtain ⟨h1, h2, h3⟩ := h
    obtain ⟨g1, g2⟩ := xx_subC_ok (ρ := ρ) h3
    refine ⟨Nat.succ_le_succ g1, fun k r2 hk => ?_⟩
    cases k with
    | zero =>
      cases hk
      exact ⟨r, rfl, h1, h2⟩
    | succ k => exact g2 k r2 hk
theorem xx_subW_ok {w : xx_W} : ∀ {z : xx_W}, xx_subW w z = true → ∀ q ∈ z, ∃ p : Nat, w[p]? = some q
  | [], _, q, hq => by cases hq
  | a :: z, h, q, hq => by
    simp only [xx_subW, Bool.and_eq_true] at h
    rcases List.mem_cons.mp hq with h9 | h9
    · subst h9
      have h1 := h.1
      split at h1
      · rename_i p e hf
        refine ⟨p, ?_⟩
        rw [xx_fnd_at hf, xx_eqE_ok h1]
      · cases h1
    · exact xx_subW_ok h.2 q h9
theorem xx_subL_ok {l : xx_L} : ∀ {z : xx_L}, xx_subL l z = true → ∀ q ∈ z, q ∈ l
  | [], _, q, hq => by cases hq
  | a :: z, h, q, hq => by
    simp only [xx_subL, Bool.and_eq_true] at h
    rcases List.mem_cons.mp hq with h9 | h9
    · subst h9
      have h1 := h.1
      split at h1
      · rename_i v hf
        have := xx_get_ok hf
        rw [xx_eqV_ok h1] at this
        exact this
      · cases h1
    · exact xx_subL_ok h.2 q h9
theorem xx_ndk_ok : ∀ {w : xx_W}, xx_ndk w = true → ∀ (i j : Nat) (a b : Nat × xx_E), w[i]? = some a → w[j]? = some b → a.1 = b.1 → i = j
  | [], _, i, j, a, b, hi, _, _ => by simp at hi
  | q :: qs, h, i, j, a, b, hi, hj, hab => by
    simp only [xx_ndk, Bool.and_eq_true] at h
    have hne : ∀ z ∈ qs, z.1 ≠ q.1 := fun z hz e => by
      have := List.all_eq_true.mp h.1 z hz
      rw [e] at this
      simp at this
    cases i with
    | zero =>
      cases hi
      cases j with
      | zero => rfl
      | succ j => exact absurd hab.symm (hne b (List.mem_of_getElem? (l := qs) hj))
    | succ i =>
      cases j with
      | zero =>
        cases hj
        exact absurd hab (hne a (List.mem_of_getElem? (l := qs) hi))
      | succ j => rw [xx_ndk_ok h.2 i j a b hi hj hab]
section XE
variable {p : Program} {l : Launch} {e : Env} {R : Room} {s : State} {m : MethodId} {args : Array Value} {below : List Frame} {meth : Method} {c : Code} {Q : State → Prop} {M : xx_M} {A : Nat → Prop} {D : va_G} {k : xx_G} {outs : List xx_O} {cs : xx_C} {w : xx_W} {nk nc ns : Nat} {ls : xx_L} {st : List xx_V} {ρ : xx_Y} {tys : List (ClassId × FieldType)} {H : Heap} {locs : List Loc} {lsA : Array Slot} {pc scr : Nat} {ops : List Nat}
theorem xx_imp_ok {Z : xx_S} (hZ : xx_okZ Z = true) (h : xx_imp cs w nk nc ns ls st Z = true) (ho : xx_ok s A D ρ tys cs w nk ls st H locs) (hv : lv_has lsA M.2.2.1 (xx_gL ρ ls)) :
    xx_ok s A D ρ tys Z.1 Z.2.1 Z.2.2.1 Z.2.2.2.2.2.1 Z.2.2.2.2.2.2 H locs ∧ lv_has lsA M.2.2.1 (xx_gL ρ Z.2.2.2.2.2.1) ∧ nc ≤ Z.2.2.2.1 ∧ ns ≤ Z.2.2.2.2.1 ∧ st = Z.2.2.2.2.2.2 ∧ Z.1.length ≤ cs.length := by
  obtain ⟨q1, q2, q3, q4, q5, q6, q7, q8, q9, q10⟩ := ho
  simp only [xx_imp, Bool.and_eq_true] at h
  obtain ⟨h1, h2, h3, h4, h5, h6, h7⟩ := h
  simp only [xx_okZ, Bool.and_eq_true] at hZ
  obtain ⟨z1, z2, z3, z4⟩ := hZ
  obtain ⟨c1, c2⟩ := xx_subC_ok (ρ := ρ) h1
  have hw := xx_subW_ok h2
  have hnk := Nat.eq_of_beq_eq_true h3
  refine ⟨⟨fun k r hk => ?_, fun q hq => ?_, fun q hq => ?_, fun v hvv => ?_, by rw [← hnk]; exact q5, q6, fun i kd n ct hm => ?_, fun k q hk => ?_, ⟨fun i j a b hi hj hab => ?_, fun k q hk => ?_⟩, q10⟩, ⟨hv.1, hv.2.1, fun q hq => ?_⟩, Nat.le_of_ble_eq_true h4, Nat.le_of_ble_eq_true h5, xx_eqVs_ok h7, c1⟩
  · obtain ⟨q, hq, g1, g2⟩ := c2 k r hk
    have := q1 k q hq
    omega
  · have := List.all_eq_true.mp z2 q hq
    rw [Bool.and_eq_true] at this
    exact ⟨xx_blt this.1, xx_wfe_ok this.2⟩
  · exact xx_wfv_ok (List.all_eq_true.mp z3 q hq)
  · exact xx_wfv_ok (List.all_eq_true.mp z4 v hvv)
  · obtain ⟨pp, hp⟩ := hw _ hm
    exact q7 i kd n ct (List.mem_of_getElem? hp)
  · unfold xx_gW at hk
    rw [List.getElem?_map] at hk
    cases hz : Z.2.1[k]? with
    | none => rw [hz] at hk; cases hk
    | some z =>
      rw [hz] at hk
      cases hk
      obtain ⟨pp, hp⟩ := hw z (List.mem_of_getElem? hz)
      exact q8 pp _ (xx_gW_at (k := z.1) (e := z.2) hp)
  · unfold xx_gW at hi hj
    rw [List.getElem?_map] at hi hj
    cases hz : Z.2.1[i]? with
    | none => rw [hz] at hi; cases hi
    | some z =>
      cases hy : Z.2.1[j]? with
      | none => rw [hy] at hj; cases hj
      | some y =>
        rw [hz] at hi
        rw [hy] at hj
        cases hi
        cases hj
        obtain ⟨p1, hp1⟩ := hw z (List.mem_of_getElem? hz)
        obtain ⟨p2, hp2⟩ := hw y (List.mem_of_getElem? hy)
        have := q9.1 p1 p2 _ _ (xx_gW_at (k := z.1) (e := z.2) hp1) (xx_gW_at (k := y.1) (e := y.2) hp2) hab
        subst this
        have hzy : z = y := Option.some.inj (hp1.symm.trans hp2)
        exact xx_ndk_ok z1 i j z y hz hy (by rw [hzy])
  · unfold xx_gW at hk
    rw [List.getElem?_map] at hk
    cases hz : Z.2.1[k]? with
    | none => rw [hz] at hk; cases hk
    | some z =>
      rw [hz] at hk
      cases hk
      obtain ⟨pp, hp⟩ := hw z (List.mem_of_getElem? hz)
      exact q9.2 pp _ (xx_gW_at (k := z.1) (e := z.2) hp)
  · obtain ⟨z, hz, e9⟩ := List.mem_map.mp hq
    rw [← e9]
    exact hv.2.2 _ (xx_gL_mem (xx_subL_ok h6 z hz))
theorem xx_cut_ok {ct : xx_T} (hct : ∀ q ∈ ct, xx_okZ q.2 = true) (h : xx_cut cs w nk nc ns ls st pc ct = true) : ∃ q ∈ ct, q.1 = pc ∧ xx_imp cs w nk nc ns ls st q.2 = true := by
  induction ct with
  | nil => cases h
  | cons q qs ih =>
    simp only [xx_cut] at h
    split at h
    · rename_i h9
      rw [Bool.and_eq_true] at h9
      exact ⟨q, List.mem_cons_self, Nat.eq_of_beq_eq_true h9.1, h9.2⟩
    · obtain ⟨z, hz, a, b⟩ := ih (fun q hq => hct q (List.mem_cons_of_mem _ hq)) h
      exact ⟨z, List.mem_cons_of_mem _ hz, a, b⟩
/-- the rows of one instruction that goes on to the next -/
theorem xx_step_ok {T : List xx_M} {i : Instr} {len : Nat} {h : xx_H} (hC : xx_ctx p R s m args meth c M A) (hd : decode M.2.1 pc = .ok (i, len)) (hW : xx_okW T M i len ops = true) (hi : xx_disp i = .inl h) (hsc : xx_sc scr s A ρ cs.length)
    (ho : xx_ok s A D ρ tys cs w nk ls st H locs) (hv : lv_has lsA M.2.2.1 (xx_gL ρ ls)) (hh : h M scr ops cs w nk nc ns ls st k = some outs) (kk : xx_KK p l e R s m args below meth c Q M A D k outs cs nk ρ (pc + len)) : W p l e R s m args below meth c H locs nc ns Q (F0 m pc lsA (st.map (xx_g ρ))) := by
  have hx := hC.1
  have hb := hC.2.1
  have hts := hC.2.2.2.2.1
  have hown := hC.2.2.2.1
  cases i
  case iconst n =>
    cases hi
    have := Nat.eq_of_beq_eq_true hW
    subst this
    exact xx_hpush_ok (v := .inl n) (fun kk9 => lv_iconst (v := Int32.ofInt n) hx hb hd rfl kk9) trivial ho hv hh kk
  case bipush n =>
    cases hi
    simp only [xx_okW, Bool.and_eq_true] at hW
    have := Nat.eq_of_beq_eq_true hW.1
    subst this
    exact xx_hpush_ok (v := .inl n) (fun kk9 => lv_bipush (v := Int32.ofInt n) hx hb hd (of_decide_eq_true hW.2) kk9) trivial ho hv hh kk
  case sipush n =>
    cases hi
    simp only [xx_okW, Bool.and_eq_true] at hW
    have := Nat.eq_of_beq_eq_true hW.1
    subst this
    exact xx_hpush_ok (v := .inl n) (fun kk9 => lv_sipush (v := Int32.ofInt n) hx hb hd (of_decide_eq_true hW.2) kk9) trivial ho hv hh kk
  case lconst n =>
    cases hi
    simp only [xx_okW, Bool.and_eq_true] at hW
    have := Nat.eq_of_beq_eq_true hW.1
    subst this
    exact xx_hpush_ok (v := .inr (.inr (.inr (n.val : Int)))) (fun kk9 => lv_lconst (v := Int64.ofInt (n.val : Int)) hx hb hd (of_decide_eq_true hW.2) kk9) trivial ho hv hh kk
  case ldc idx =>
    cases hi
    simp only [xx_okW, Bool.and_eq_true] at hW
    have := Nat.eq_of_beq_eq_true hW.1
    subst this
    have h2 := hW.2
    split at h2
    · exact xx_hldc_ok (fun kk9 => lv_ldc hx hb hown (hts _ (xx_inTB (of_decide_eq_true h2) rfl)) hd kk9) ho hv hh kk
    · cases hh
    · cases h2
  case ldc_w idx =>
    cases hi
    simp only [xx_okW, Bool.and_eq_true] at hW
    have := Nat.eq_of_beq_eq_true hW.1
    subst this
    have h2 := hW.2
    split at h2
    · exact xx_hldc_ok (fun kk9 => lv_ldcw hx hb hown (hts _ (xx_inTB (of_decide_eq_true h2) rfl)) hd kk9) ho hv hh kk
    · cases h2
  case ldc2_w idx =>
    cases hi
    simp only [xx_okW, Bool.and_eq_true] at hW
    have := Nat.eq_of_beq_eq_true hW.1
    subst this
    have h2 := hW.2
    split at h2
    · exact xx_hldc2_ok (fun kk9 => lv_ldc2 hx hb hown (hts _ (xx_inTB (of_decide_eq_true h2) rfl)) hd kk9) ho hv hh kk
    · cases h2
  case iload_n n =>
    cases hi
    have := Nat.eq_of_beq_eq_true hW
    subst this
    exact xx_hload_ok (fun hf hg kk9 => by rw [xx_g_isI hf] at hg kk9; exact lv_iload_n hx hb hd rfl hg kk9) ho hv hh kk
  case iload n =>
    cases hi
    have := Nat.eq_of_beq_eq_true hW
    subst this
    exact xx_hload_ok (fun hf hg kk9 => by rw [xx_g_isI hf] at hg kk9; exact lv_iload hx hb hd hg kk9) ho hv hh kk
  case lload_n n =>
    cases hi
    have := Nat.eq_of_beq_eq_true hW
    subst this
    exact xx_hload_ok (fun hf hg kk9 => by rw [xx_g_isL hf] at hg kk9; exact lv_lload_n hx hb hd rfl hg kk9) ho hv hh kk
  case lload n =>
    cases hi
    have := Nat.eq_of_beq_eq_true hW
    subst this
    exact xx_hload_ok (fun hf hg kk9 => by rw [xx_g_isL hf] at hg kk9; exact lv_lload hx hb hd hg kk9) ho hv hh kk
  case aload_n n =>
    cases hi
    have := Nat.eq_of_beq_eq_true hW
    subst this
    refine xx_hload_ok (fun {v rest} hf hg kk9 => ?_) ho hv hh kk
    rcases v with x | ⟨q, d⟩ | (_ | i) | x
    · cases hf
    · cases hf
    · cases hf
    · exact lv_aload_n hx hb hd rfl hg kk9
    · cases hf
  case aload n =>
    cases hi
    have := Nat.eq_of_beq_eq_true hW
    subst this
    refine xx_hload_ok (fun {v rest} hf hg kk9 => ?_) ho hv hh kk
    rcases v with x | ⟨q, d⟩ | (_ | i) | x
    · cases hf
    · cases hf
    · cases hf
    · exact lv_aload hx hb hd hg kk9
    · cases hf
  case istore_n n =>
    cases hi
    have := Nat.eq_of_beq_eq_true hW
    subst this
    exact xx_hst1_ok (fun hf hn he kk9 => by rw [xx_g_isI hf] at he ⊢; exact lv_istore_n hx hb hd rfl hv hn he kk9) ho hh kk
  case istore n =>
    cases hi
    have := Nat.eq_of_beq_eq_true hW
    subst this
    exact xx_hst1_ok (fun hf hn he kk9 => by rw [xx_g_isI hf] at he ⊢; exact lv_istore hx hb hd hv hn he kk9) ho hh kk
  case lstore_n n =>
    cases hi
    have := Nat.eq_of_beq_eq_true hW
    subst this
    exact xx_hst2_ok (fun hf hn he kk9 => by rw [xx_g_isL hf] at he ⊢; exact lv_lstore_n hx hb hd rfl hv hn he kk9) ho hh kk
  case lstore n =>
    cases hi
    have := Nat.eq_of_beq_eq_true hW
    subst this
    exact xx_hst2_ok (fun hf hn he kk9 => by rw [xx_g_isL hf] at he ⊢; exact lv_lstore hx hb hd hv hn he kk9) ho hh kk
  case astore_n n =>
    cases hi
    have := Nat.eq_of_beq_eq_true hW
    subst this
    refine xx_hst1_ok (fun {v rest lv'} hf hn he kk9 => ?_) ho hh kk
    rcases v with x | ⟨q, d⟩ | (_ | i) | x
    · cases hf
    · cases hf
    · cases hf
    · exact lv_astore_n hx hb hd rfl hv hn he kk9
    · cases hf
  case iinc j n =>
    cases hi
    have := Nat.eq_of_beq_eq_true hW
    subst this
    exact xx_hinc_ok hx hb hd ho hv hh kk
  case iadd =>
    cases hi
    have := Nat.eq_of_beq_eq_true hW
    subst this
    exact xx_h2_ok (f := fun x y => x + y) (fun _ kk9 => lv_iadd hx hb hd kk9) Int32.ofInt_add (fun q dd n hq => xx_yadd_ok hq) (fun _ _ _ => rfl) ho hv hh kk
  case isub =>
    cases hi
    have := Nat.eq_of_beq_eq_true hW
    subst this
    exact xx_h2_ok (f := fun x y => x - y) (fun _ kk9 => lv_isub hx hb hd kk9) Int32.ofInt_sub (fun q dd n hq => xx_ysub_ok hq) (fun h9 => by cases h9) ho hv hh kk
  case imul =>
    cases hi
    have := Nat.eq_of_beq_eq_true hW
    subst this
    exact xx_h2_ok (f := fun x y => x * y) (fun _ kk9 => lv_imul hx hb hd kk9) Int32.ofInt_mul (fun q dd n hq => xx_yf_ok) (fun h9 => by cases h9) ho hv hh kk
  case iand =>
    cases hi
    have := Nat.eq_of_beq_eq_true hW
    subst this
    exact xx_h2_ok (f := fun x y => x &&& y) (fun _ kk9 => lv_iand hx hb hd kk9) (xx_kf_ok _) (fun q dd n hq => xx_yand_ok) (fun h9 => by cases h9) ho hv hh kk
  case ior =>
    cases hi
    have := Nat.eq_of_beq_eq_true hW
    subst this
    exact xx_h2_ok (f := fun x y => x ||| y) (fun _ kk9 => lv_ior hx hb hd kk9) (xx_kf_ok _) (fun q dd n hq => xx_yf_ok) (fun h9 => by cases h9) ho hv hh kk
  case ixor =>
    cases hi
    have := Nat.eq_of_beq_eq_true hW
    subst this
    exact xx_h2_ok (f := fun x y => x ^^^ y) (fun _ kk9 => lv_ixor hx hb hd kk9) (xx_kf_ok _) (fun q dd n hq => xx_yf_ok) (fun h9 => by cases h9) ho hv hh kk
  case ishl =>
    cases hi
    have := Nat.eq_of_beq_eq_true hW
    subst this
    exact xx_h2_ok (f := fun x y => x <<< (y &&& 31)) (fun _ kk9 => lv_ishl hx hb hd kk9) (xx_kf_ok _) (fun q dd n hq => xx_yf_ok) (fun h9 => by cases h9) ho hv hh kk
  case ishr =>
    cases hi
    have := Nat.eq_of_beq_eq_true hW
    subst this
    exact xx_h2_ok (f := fun x y => x >>> (y &&& 31)) (fun _ kk9 => lv_ishr hx hb hd kk9) (xx_kf_ok _) (fun q dd n hq => xx_yf_ok) (fun h9 => by cases h9) ho hv hh kk
  case iushr =>
    cases hi
    have := Nat.eq_of_beq_eq_true hW
    subst this
    exact xx_h2_ok (f := fun x y => (x.toUInt32 >>> (y.toUInt32 &&& Int32.toUInt32 31)).toInt32) (fun _ kk9 => lv_iushr hx hb hd rfl kk9) (xx_kf_ok _) (fun q dd n hq => xx_yf_ok) (fun h9 => by cases h9) ho hv hh kk
  case idiv =>
    cases hi
    have := Nat.eq_of_beq_eq_true hW
    subst this
    exact xx_h2_ok (f := fun x y => x / y) (fun hz kk9 => lv_idiv hx hb hd (hz rfl) kk9) (xx_kf_ok _) (fun q dd n hq => xx_yf_ok) (fun h9 => by cases h9) ho hv hh kk
  case irem =>
    cases hi
    have := Nat.eq_of_beq_eq_true hW
    subst this
    exact xx_h2_ok (f := fun x y => x - x / y * y) (fun hz kk9 => lv_irem hx hb hd (hz rfl) kk9) (xx_kf_ok _) (fun q dd n hq => xx_yf_ok) (fun h9 => by cases h9) ho hv hh kk
  case ineg =>
    cases hi
    have := Nat.eq_of_beq_eq_true hW
    subst this
    exact xx_h1_ok (f := fun x => -x) (fun kk9 => lv_ineg hx hb hd kk9) (fun x => xx_rng _) ho hv hh kk
  case i2b =>
    cases hi
    have := Nat.eq_of_beq_eq_true hW
    subst this
    refine xx_h1_ok (f := fun x => x.toInt8.toInt32) (fun kk9 => lv_i2b hx hb hd rfl kk9) (fun x => ?_) ho hv hh kk
    rw [Int8.toInt_toInt32]
    have h1 := Int8.le_toInt x.toInt8
    have h2 := Int8.toInt_lt x.toInt8
    exact ⟨by show (-128 : Int) ≤ _; omega, by show _ ≤ (127 : Int); omega⟩
  case ladd =>
    cases hi
    have := Nat.eq_of_beq_eq_true hW
    subst this
    exact xx_hl2_ok (f := fun x y => x + y) (fun kk9 => lv_ladd hx hb hd kk9) Int64.ofInt_add ho hv hh kk
  case lsub =>
    cases hi
    have := Nat.eq_of_beq_eq_true hW
    subst this
    exact xx_hl2_ok (f := fun x y => x - y) (fun kk9 => lv_lsub hx hb hd kk9) Int64.ofInt_sub ho hv hh kk
  case land =>
    cases hi
    have := Nat.eq_of_beq_eq_true hW
    subst this
    exact xx_hl2_ok (f := fun x y => x &&& y) (fun kk9 => lv_land hx hb hd kk9) (xx_klf_ok _) ho hv hh kk
  case lor =>
    cases hi
    have := Nat.eq_of_beq_eq_true hW
    subst this
    exact xx_hl2_ok (f := fun x y => x ||| y) (fun kk9 => lv_lor hx hb hd kk9) (xx_klf_ok _) ho hv hh kk
  case lxor =>
    cases hi
    have := Nat.eq_of_beq_eq_true hW
    subst this
    exact xx_hl2_ok (f := fun x y => x ^^^ y) (fun kk9 => lv_lxor hx hb hd kk9) (xx_klf_ok _) ho hv hh kk
  case lshl =>
    cases hi
    have := Nat.eq_of_beq_eq_true hW
    subst this
    exact xx_hlsh_ok (f := fun x y => x <<< (y.toInt64 &&& 63)) (fun kk9 => lv_lshl hx hb hd rfl kk9) ho hv hh kk
  case lushr =>
    cases hi
    have := Nat.eq_of_beq_eq_true hW
    subst this
    exact xx_hlsh_ok (f := fun x y => (x.toUInt64 >>> (y.toInt64.toUInt64 &&& Int64.toUInt64 63)).toInt64) (fun kk9 => lv_lushr hx hb hd rfl kk9) ho hv hh kk
  case lshr =>
    cases hi
    have := Nat.eq_of_beq_eq_true hW
    subst this
    exact xx_hlsh_ok (f := fun x y => x >>> (y.toInt64 &&& 63)) (fun kk9 => lv_lshr hx hb hd rfl kk9) ho hv hh kk
  case lcmp =>
    cases hi
    have := Nat.eq_of_beq_eq_true hW
    subst this
    exact xx_hlcmp_ok hx hb hd ho hv hh kk
  case i2l =>
    cases hi
    have := Nat.eq_of_beq_eq_true hW
    subst this
    exact xx_hi2l_ok hx hb hd ho hv hh kk
  case l2i =>
    cases hi
    have := Nat.eq_of_beq_eq_true hW
    subst this
    exact xx_hl2i_ok hx hb hd ho hv hh kk
  case dup =>
    cases hi
    have := Nat.eq_of_beq_eq_true hW
    subst this
    exact xx_hdup_ok hx hb hd ho hv hh kk
  case dup2 =>
    cases hi
    have := Nat.eq_of_beq_eq_true hW
    subst this
    exact xx_hdup2_ok hx hb hd ho hv hh kk
  case pop =>
    cases hi
    have := Nat.eq_of_beq_eq_true hW
    subst this
    exact xx_hpop_ok hx hb hd ho hv hh kk
  case getfield idx =>
    cases hi
    simp only [xx_okW, Bool.and_eq_true] at hW
    have := Nat.eq_of_beq_eq_true hW.1
    subst this
    exact xx_hgetf_ok hC hd hW.2 ho hv hh kk
  case putfield idx =>
    cases hi
    simp only [xx_okW, Bool.and_eq_true] at hW
    have := Nat.eq_of_beq_eq_true hW.1
    subst this
    exact xx_hputf_ok hC hd hW.2 ho hv hh kk
  case laload =>
    cases hi
    have := Nat.eq_of_beq_eq_true hW
    subst this
    simp only [xx_hald] at hh
    split at hh
    · exact xx_load_ok3 hx hb hd ho hv hh kk
    · cases hh
  case lastore =>
    cases hi
    have := Nat.eq_of_beq_eq_true hW
    subst this
    simp only [xx_hast] at hh
    split at hh
    · exact xx_store_ok3 hx hb hd ho hv hh kk
    · cases hh
  case aastore =>
    cases hi
    have := Nat.eq_of_beq_eq_true hW
    subst this
    simp only [xx_haast] at hh
    split at hh
    · split at hh
      · rename_i pj cj fsj hj
        split at hh
        · rename_i hc
          have hc := Nat.eq_of_beq_eq_true hc
          subst hc
          exact xx_store_ok4 (cj := 0) hx hb hd hj ho hv hh kk
        · cases hh
      · cases hh
    · cases hh
  case arraylength =>
    cases hi
    have := Nat.eq_of_beq_eq_true hW
    subst this
    exact xx_hlen_ok hx hb hd hsc ho hv hh kk
  case new idx =>
    cases hi
    simp only [xx_okW, Bool.and_eq_true] at hW
    have := Nat.eq_of_beq_eq_true hW.1
    subst this
    exact xx_hnew_ok hC hd hW.2 ho hv hh kk
  case newarray t =>
    cases hi
    simp only [xx_okW, Bool.and_eq_true] at hW
    have := Nat.eq_of_beq_eq_true hW.1
    subst this
    have h2 := hW.2
    obtain ⟨q1, q2, q3, q4, q5, hK, q7, hP, hD, hS⟩ := id ho
    split at h2
    · rename_i q9
      have hw := hts _ (xx_inTB (of_decide_eq_true h2) rfl)
      cases t
      case int => exact xx_hnewa_ok (scr := scr) (ops := [q9]) (kd := 0) (by decide) (Or.inr trivial) (fun {n N' rs} g1 g2 g3 g4 g5 kk9 => va_newa (atype := .int) (ty := .int) (a0 := xx_a0 0 N') hx hb hw rfl hK hP hD hS hC.2.2.2.2.2.2.2.1 (fun _ => rfl) g1 g2 (by show N' * 4 ≤ _; omega) g4 g5 hd kk9) hC ho hv hh kk
      case byte => exact xx_hnewa_ok (scr := scr) (ops := [q9]) (kd := 1) (by decide) (Or.inr trivial) (fun {n N' rs} g1 g2 g3 g4 g5 kk9 => va_newa (atype := .byte) (ty := .byte) (a0 := xx_a0 1 N') hx hb hw rfl hK hP hD hS hC.2.2.2.2.2.2.2.1 (fun _ => rfl) g1 g2 (by show N' * 1 ≤ _; omega) g4 g5 hd kk9) hC ho hv hh kk
      case boolean => exact xx_hnewa_ok (scr := scr) (ops := [q9]) (kd := 2) (by decide) (Or.inr trivial) (fun {n N' rs} g1 g2 g3 g4 g5 kk9 => va_newa (atype := .boolean) (ty := .boolean) (a0 := xx_a0 2 N') hx hb hw rfl hK hP hD hS hC.2.2.2.2.2.2.2.1 (fun _ => rfl) g1 g2 (by show N' * 1 ≤ _; omega) g4 g5 hd kk9) hC ho hv hh kk
      case long => exact xx_hnewa_ok (scr := scr) (ops := [q9]) (kd := 3) (by decide) (Or.inr trivial) (fun {n N' rs} g1 g2 g3 g4 g5 kk9 => va_newa (atype := .long) (ty := .long) (a0 := xx_a0 3 N') hx hb hw rfl hK hP hD hS hC.2.2.2.2.2.2.2.1 (fun _ => rfl) g1 g2 (by show N' * 8 ≤ _; omega) g4 g5 hd kk9) hC ho hv hh kk
      all_goals cases hh
    · cases h2
  case anewarray idx =>
    cases hi
    simp only [xx_okW, Bool.and_eq_true] at hW
    have := Nat.eq_of_beq_eq_true hW.1
    subst this
    have h2 := hW.2
    obtain ⟨q1, q2, q3, q4, q5, hK, q7, hP, hD, hS⟩ := id ho
    split at h2
    · have hw := hts _ (xx_inTB (of_decide_eq_true h2) rfl)
      exact xx_hnewa_ok (kd := 4) (by decide) (Or.inr trivial) (fun {n N' rs} g1 g2 g3 g4 g5 kk9 => va_newq hx hb hown hw hC.2.2.2.2.2.2.1 hK hP hD hS hC.2.2.2.2.2.2.2.1 g1 g2 (by omega) g4 g5 hd kk9) hC ho hv hh kk
    · cases h2
  all_goals (cases hi; try cases hh)
end XE
