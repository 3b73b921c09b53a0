/-! what the plain machine's states mean -/
def yy_g (α : Nat → Nat) (v : yy_U) : Value := match v with
  | .inl x => .int x
  | .inr (.inl x) => .long x
  | .inr (.inr k) => .ref (α k)
def yy_gL (α : Nat → Nat) (ls : yy_L) : List (Nat × Value) := ls.map (fun q => (q.1, yy_g α q.2))
def yy_gA (α : Nat → Nat) (ω : yy_O) (k kd : Nat) (rs : List Nat) : (Nat → Int32) ⊕ (Nat → Int64) ⊕ (Nat → UInt32) ⊕ (Nat → UInt64) ⊕ (Nat → Option Nat) := match kd with
  | 3 => .inr (.inl (ω.2 k))
  | 4 => .inr (.inr (.inr (.inr (fun j => some (α (rs.getD j 0))))))
  | _ => .inl (ω.1 k)
def yy_gE (α : Nat → Nat) (cls : Nat → ClassId) (ω : yy_O) (k : Nat) (d : yy_D) : va_E := match d with
  | .inl (kd, (n, rs)) => .inl (cls k, (n, yy_gA α ω k kd rs))
  | .inr (ci, rs) => .inr (ci, (List.range (xx_num ci)).map (fun f => yy_g α (yy_fu ω k rs f (xx_ty ci f))))
def yy_gW (G : List yy_D) (α : Nat → Nat) (cls : Nat → ClassId) (ω : yy_O) : va_W := G.mapIdx (fun k d => (α k, yy_gE α cls ω k d))
def yy_ar (G : List yy_D) (cls : Nat → ClassId) (tys : List (ClassId × FieldType)) : Prop := ∀ (k kd n : Nat) (rs : List Nat), G[k]? = some (.inl (kd, (n, rs))) → ∃ t0 : Nat, tys[t0]? = some (cls k, xx_kty kd)
def yy_rep (G : List yy_D) (s : State) (A : Nat → Prop) (D : va_G) (α : Nat → Nat) (cls : Nat → ClassId) (tys : List (ClassId × FieldType)) (ω : yy_O) (H : Heap) (locs : List Loc) : Prop :=
  va_K D xx_cl tys s ∧ yy_ar G cls tys ∧ va_P D xx_cl (yy_gW G α cls ω) H ∧ va_D A (yy_gW G α cls ω) ∧ va_S A s.heap H locs
def yy_tx : String := "person knows sign fog draw keeps bears shame many first last people or and not "
def yy_env (α : Nat → Nat) (kee : Nat → Int64) (A : Nat → Prop) (U : State) (H : Heap) : Prop :=
  va_Z RX6 "KEEPING" "[J" (.ref (α yy_kee)) A U H ∧ va_T .long (α yy_kee) 6 (fun j => .long (kee j)) A U H ∧ (va_Z "java/lang/String" "COMPACT_STRINGS" "Z" (.int 1) A U H ∧ va_Zq "jdk/internal/util/Preconditions" "SIOOBE_FORMATTER" "Ljava/util/function/BiFunction;" A U H) ∧ vk_R RX3 189 yy_tx (α yy_str) U ∧ vk_S 1 [yy_txt.length] [yy_txt] (fun _ => α yy_str) (fun _ => α yy_stv) A U H
def yy_sc (scr : Option (Nat × (Nat → Int32))) (α : Nat → Nat) (A : Nat → Prop) (s : State) : Prop := match scr with
  | none => True
  | some (L, xs) => va_X (α xx_scr) L xs s s.heap ∧ α xx_scr < s.heap.size ∧ ¬ A (α xx_scr)
def yy_ctx (p : Program) (R : Room) (s : State) (m : MethodId) (args : Array Value) (c : Code) (M : xx_M) (A : Nat → Prop) (P : yy_P) (α : Nat → Nat) (d nc ns : Nat) : Prop :=
  p.tables.exec = Jvm.exec ∧ c.code = M.2.1 ∧ c.maxLocals = M.2.2.1 ∧ s.vm.findClass M.1.cls = some m.cls ∧ (∀ w ∈ xx_TB, w.before args s = true) ∧ (∀ w ∈ xx_NL, va_Nw w s) ∧ (∀ q, s.heap.size ≤ q → A q) ∧ (d ≤ R.frames ∧ 120 * d ≤ R.locals ∧ nc ≤ R.cells ∧ ns ≤ R.slots) ∧ yy_env α P.2.2 A s s.heap ∧ yy_sc P.2.1 α A s
theorem yy_g_cat (α : Nat → Nat) (v : yy_U) : (yy_g α v).category = yy_cat v := by
  rcases v with x | x | k <;> rfl
theorem yy_gL_f1 (α : Nat → Nat) (ls : yy_L) (i : Nat) : (yy_gL α ls).filter (fun q => !(q.1 == i) && !(q.1 + 1 == i && q.2.category == 2)) = yy_gL α (yy_w1 ls i) := by
  unfold yy_gL yy_w1
  rw [List.filter_map]
  congr 1
  apply List.filter_congr
  intro q _
  simp only [Function.comp, yy_g_cat]
theorem yy_gL_f2 (α : Nat → Nat) (ls : yy_L) (i : Nat) : (yy_gL α ls).filter (fun q => !(q.1 == i) && (!(q.1 == i + 1) && !(q.1 + 1 == i && q.2.category == 2))) = yy_gL α (yy_w2 ls i) := by
  unfold yy_gL yy_w2
  rw [List.filter_map]
  congr 1
  apply List.filter_congr
  intro q _
  simp only [Function.comp, yy_g_cat]
theorem yy_get_ok {ls : yy_L} {i : Nat} {v : yy_U} (h : yy_get ls i = some v) : (i, v) ∈ ls := by
  induction ls with
  | nil => cases h
  | cons q qs ih =>
    simp only [yy_get] at h
    split at h
    · rename_i hb
      cases h
      have := Nat.eq_of_beq_eq_true hb
      rw [← this]
      exact List.mem_cons_self
    · exact List.mem_cons_of_mem _ (ih h)
theorem yy_gL_mem {α : Nat → Nat} {ls : yy_L} {i : Nat} {v : yy_U} (h : yy_get ls i = some v) : (i, yy_g α v) ∈ yy_gL α ls := List.mem_map.mpr ⟨(i, v), yy_get_ok h, rfl⟩
theorem yy_gW_at {G : List yy_D} {α : Nat → Nat} {cls : Nat → ClassId} {ω : yy_O} {k : Nat} {d : yy_D} (h : G[k]? = some d) : (yy_gW G α cls ω)[k]? = some (α k, yy_gE α cls ω k d) := by
  unfold yy_gW
  rw [List.getElem?_mapIdx, h]
  rfl
theorem yy_gE_uI {α : Nat → Nat} {cls : Nat → ClassId} {ω : yy_O} {k j i : Nat} {x : Int32} {d : yy_D} (h : i ≠ k) : yy_gE α cls (yy_uI ω k j x) i d = yy_gE α cls ω i d := by
  have e : (yy_uI ω k j x).1 i = ω.1 i := if_neg h
  rcases d with ⟨kd, n, rs⟩ | ⟨ci, rs⟩
  · show Sum.inl (cls i, (n, yy_gA α (yy_uI ω k j x) i kd rs)) = Sum.inl (cls i, (n, yy_gA α ω i kd rs))
    unfold yy_gA
    rw [e]
    rfl
  · show Sum.inr (ci, _) = Sum.inr (ci, _)
    congr 2
    apply List.map_congr_left
    intro f _
    congr 1
    unfold yy_fu
    rw [e]
    rfl
theorem yy_gE_uL {α : Nat → Nat} {cls : Nat → ClassId} {ω : yy_O} {k j i : Nat} {x : Int64} {d : yy_D} (h : i ≠ k) : yy_gE α cls (yy_uL ω k j x) i d = yy_gE α cls ω i d := by
  have e : (yy_uL ω k j x).2 i = ω.2 i := if_neg h
  rcases d with ⟨kd, n, rs⟩ | ⟨ci, rs⟩
  · show Sum.inl (cls i, (n, yy_gA α (yy_uL ω k j x) i kd rs)) = Sum.inl (cls i, (n, yy_gA α ω i kd rs))
    unfold yy_gA
    rw [e]
    rfl
  · show Sum.inr (ci, _) = Sum.inr (ci, _)
    congr 2
    apply List.map_congr_left
    intro f _
    congr 1
    unfold yy_fu
    rw [e]
    rfl
theorem yy_gE_uA {α : Nat → Nat} {cls : Nat → ClassId} {ω : yy_O} {k i : Nat} {g : Nat → Int32} {d : yy_D} (h : i ≠ k) : yy_gE α cls (yy_uA ω k g) i d = yy_gE α cls ω i d := by
  have e : (yy_uA ω k g).1 i = ω.1 i := if_neg h
  rcases d with ⟨kd, n, rs⟩ | ⟨ci, rs⟩
  · show Sum.inl (cls i, (n, yy_gA α (yy_uA ω k g) i kd rs)) = Sum.inl (cls i, (n, yy_gA α ω i kd rs))
    unfold yy_gA
    rw [e]
    rfl
  · show Sum.inr (ci, _) = Sum.inr (ci, _)
    congr 2
    apply List.map_congr_left
    intro f _
    congr 1
    unfold yy_fu
    rw [e]
    rfl
/-- a world with one cell changed -/
theorem yy_gW_set {G : List yy_D} {α : Nat → Nat} {cls : Nat → ClassId} {ω ω' : yy_O} {k : Nat} {d : yy_D} {e : va_E} (h : G[k]? = some d) (hk : yy_gE α cls ω' k d = e) (ho : ∀ (i : Nat) (d' : yy_D), i ≠ k → yy_gE α cls ω' i d' = yy_gE α cls ω i d') : (yy_gW G α cls ω).set k (α k, e) = yy_gW G α cls ω' := by
  apply List.ext_getElem?
  intro i
  rw [List.getElem?_set]
  by_cases hi : k = i
  · subst hi
    rw [if_pos rfl, if_pos (by unfold yy_gW; rw [List.length_mapIdx]; exact (List.getElem?_eq_some_iff.mp h).1), yy_gW_at h, hk]
  · rw [if_neg hi]
    cases hG : G[i]? with
    | none =>
      unfold yy_gW
      rw [List.getElem?_mapIdx, List.getElem?_mapIdx, hG]
      rfl
    | some d' => rw [yy_gW_at hG, yy_gW_at hG, ho i d' (fun q => hi q.symm)]
theorem yy_gE_arr {α : Nat → Nat} {cls : Nat → ClassId} {ω : yy_O} {k kd n : Nat} {rs : List Nat} (hkd : kd ≤ 2) : yy_gE α cls ω k (.inl (kd, (n, rs))) = .inl (cls k, (n, .inl (ω.1 k))) := by
  match kd, hkd with
  | 0, _ => rfl
  | 1, _ => rfl
  | 2, _ => rfl
theorem yy_uI_at {ω : yy_O} {k j : Nat} {x : Int32} : (yy_uI ω k j x).1 k = upd (ω.1 k) j x := if_pos rfl
theorem yy_uL_at {ω : yy_O} {k j : Nat} {x : Int64} : (yy_uL ω k j x).2 k = vp_updL (ω.2 k) j x := if_pos rfl
theorem yy_uA_at {ω : yy_O} {k : Nat} {g : Nat → Int32} : (yy_uA ω k g).1 k = g := if_pos rfl
theorem yy_ix_ok {x : Int32} {n : Nat} (h : yy_ix x n = true) : vp_in x n := vp_in_iff.mpr (of_decide_eq_true h)
/-- a field written -/
theorem yy_put_ok {α : Nat → Nat} {cls : Nat → ClassId} {ω ω' : yy_O} {k ci f : Nat} {rs : List Nat} {v : yy_U} (h : yy_put ω k f (xx_ty ci f) v = some ω') (hf : f < xx_num ci) :
    narrow (xx_ty ci f) (yy_g α v) = yy_g α v ∧ fits (xx_ty ci f) (yy_g α v) = true ∧ (∀ (i : Nat) (d' : yy_D), i ≠ k → yy_gE α cls ω' i d' = yy_gE α cls ω i d') ∧ yy_gE α cls ω' k (.inr (ci, rs)) = .inr (ci, ((List.range (xx_num ci)).map (fun f => yy_g α (yy_fu ω k rs f (xx_ty ci f)))).set f (yy_g α v)) := by
  have key : ∀ (t : FieldType), xx_ty ci f = t → (∀ g, g ≠ f → ω'.1 k g = ω.1 k g ∧ ω'.2 k g = ω.2 k g) → yy_g α (yy_fu ω' k rs f t) = yy_g α v → yy_gE α cls ω' k (.inr (ci, rs)) = .inr (ci, ((List.range (xx_num ci)).map (fun f => yy_g α (yy_fu ω k rs f (xx_ty ci f)))).set f (yy_g α v)) := by
    intro t ht ho hv
    show Sum.inr (ci, _) = Sum.inr (ci, _)
    congr 2
    apply List.ext_getElem?
    intro i
    rw [List.getElem?_set, List.getElem?_map]
    by_cases hi : f = i
    · subst hi
      rw [if_pos rfl, if_pos (by rw [List.length_map, List.length_range]; exact hf), List.getElem?_range hf]
      show some (yy_g α (yy_fu ω' k rs f (xx_ty ci f))) = some (yy_g α v)
      rw [ht, hv]
    · rw [if_neg hi, List.getElem?_map]
      by_cases hl : i < xx_num ci
      · rw [List.getElem?_range hl]
        show some (yy_g α (yy_fu ω' k rs i (xx_ty ci i))) = some (yy_g α (yy_fu ω k rs i (xx_ty ci i)))
        obtain ⟨o1, o2⟩ := ho i (fun q => hi q.symm)
        unfold yy_fu
        rw [o1, o2]
      · rw [List.getElem?_eq_none (by rw [List.length_range]; omega)]
        rfl
  have hI : ∀ (x : Int32) (g : Nat), g ≠ f → (yy_uI ω k f x).1 k g = ω.1 k g ∧ (yy_uI ω k f x).2 k g = ω.2 k g := fun x g hg => ⟨by rw [yy_uI_at]; exact pk_un hg, rfl⟩
  have hL : ∀ (x : Int64) (g : Nat), g ≠ f → (yy_uL ω k f x).1 k g = ω.1 k g ∧ (yy_uL ω k f x).2 k g = ω.2 k g := fun x g hg => ⟨rfl, by rw [yy_uL_at]; exact pk_uLn hg⟩
  cases ht : xx_ty ci f with
  | int =>
    rw [ht] at h
    rcases v with x | x
    · cases h
      refine ⟨rfl, rfl, fun i d' hi => yy_gE_uI hi, key _ ht (hI x) ?_⟩
      show Value.int _ = Value.int _
      rw [yy_uI_at, pk_us]
    · cases h
  | boolean =>
    rw [ht] at h
    rcases v with x | x
    · simp only [yy_put] at h
      split at h
      · rename_i hd
        cases h
        have hx : x = 0 ∨ x = 1 := of_decide_eq_true hd
        refine ⟨?_, ?_, fun i d' hi => yy_gE_uI hi, key _ ht (hI x) ?_⟩
        · rcases hx with rfl | rfl <;> (show narrow .boolean (.int _) = .int _; decide +kernel)
        · rcases hx with rfl | rfl <;> (show fits .boolean (.int _) = true; decide +kernel)
        · show Value.int _ = Value.int _
          rw [yy_uI_at, pk_us]
      · cases h
    · cases h
  | long =>
    rw [ht] at h
    rcases v with x | x | x
    · cases h
    · cases h
      refine ⟨rfl, rfl, fun i d' hi => yy_gE_uL hi, key _ ht (hL x) ?_⟩
      show Value.long _ = Value.long _
      rw [yy_uL_at, pk_uLs]
    · cases h
  | _ =>
    rw [ht] at h
    cases h
theorem yy_pop_ok : ∀ (n : Nat) (a st : List yy_U) {x r : List yy_U}, yy_pop n a st = some (x, r) → ∃ b : List yy_U, x = b ++ a ∧ b.length = n ∧ st = b.reverse ++ r
  | 0, a, st, x, r, h => by
    cases h
    exact ⟨[], rfl, rfl, rfl⟩
  | n + 1, a, v :: st, x, r, h => by
    simp only [yy_pop] at h
    obtain ⟨b, h1, h2, h3⟩ := yy_pop_ok n (v :: a) st h
    refine ⟨b ++ [v], by rw [h1, List.append_assoc]; rfl, by rw [List.length_append, h2]; rfl, ?_⟩
    rw [List.reverse_append, h3]
    rfl
  | _ + 1, _, [], _, _, h => by cases h
theorem yy_arg_g (α : Nat → Nat) : ∀ (vs : List yy_U) (i : Nat), lv_args i (vs.map (yy_g α)) = yy_gL α (yy_arg i vs)
  | [], _ => rfl
  | v :: vs, i => by
    show (i, yy_g α v) :: lv_args (if (yy_g α v).category = 2 then i + 2 else i + 1) (vs.map (yy_g α)) = (i, yy_g α v) :: yy_gL α (yy_arg (i + yy_cat v) vs)
    rw [← yy_arg_g α vs, yy_g_cat]
    have : (if yy_cat v = 2 then i + 2 else i + 1) = i + yy_cat v := by
      rcases v with x | x | k <;> rfl
    rw [this]
theorem yy_lgsl (α : Nat → Nat) (vs : List yy_U) : (lg_sl (vs.map (yy_g α))).length = yy_sum vs := by
  induction vs with
  | nil => rfl
  | cons v vs ih =>
    have : lg_sl ((v :: vs).map (yy_g α)) = (if (yy_g α v).category = 2 then [Slot.val (yy_g α v), .second] else [Slot.val (yy_g α v)]) ++ lg_sl (vs.map (yy_g α)) := by
      unfold lg_sl
      rw [List.map_cons, List.flatMap_cons]
    rw [this, List.length_append, ih, yy_g_cat]
    show _ = yy_cat v + yy_sum vs
    rcases v with x | x | k <;> rfl
theorem yy_sum_ok (α : Nat → Nat) (st : List yy_U) : ((st.map (yy_g α)).map fun v => v.category).sum = yy_sum st := by
  induction st with
  | nil => rfl
  | cons v vs ih =>
    rw [List.map_cons, List.map_cons, List.sum_cons, ih, yy_g_cat]
    rfl
