/-! every run -/
def yy_rm (d : Nat) : Room := { frames := d, cells := 0, slots := 0, locals := 120 * d }
def yy_Pc (G : List yy_D) (kee : Nat → Int64) (D : va_G) (α : Nat → Nat) (cls : Nat → ClassId) (tys : List (ClassId × FieldType)) (ω : yy_O) (vs : List Value) (sz : Nat) : Array Value → State → Prop := va_Pc vs (fun U => U.heap.size = sz ∧ va_P D xx_cl (yy_gW G α cls ω) U.heap ∧ va_K D xx_cl tys U ∧ va_D (fun _ => True) (yy_gW G α cls ω) ∧ (∀ n ∈ xx_NL, va_Nw n U) ∧ yy_env α kee (va_A (yy_gW G α cls ω) sz) U U.heap)
def yy_Qc (G : List yy_D) (D : va_G) (α : Nat → Nat) (cls : Nat → ClassId) (tys : List (ClassId × FieldType)) (v : Option yy_U) (ω' : yy_O) (A : Nat → Prop) : Array Value → State → Outcome → State → Prop := fun _ st oc t => (oc = .returned (v.map (yy_g α)) ∧ va_K D xx_cl tys t ∧ va_P D xx_cl (yy_gW G α cls ω') t.heap ∧ va_D A (yy_gW G α cls ω')) ∧ va_F A st t
theorem yy_env.moved {α : Nat → Nat} {kee : Nat → Int64} {A : Nat → Prop} {u U : State} {H : Heap} (hvm : u.vm.Alike U.vm) (hR : vk_R RX3 189 yy_tx (α yy_str) U) (h : yy_env α kee A u H) : yy_env α kee A U H :=
  ⟨va_Z.moved hvm h.1, va_T.moved hvm h.2.1, ⟨va_Z.moved hvm h.2.2.1.1, va_Zq.moved hvm h.2.2.1.2⟩, hR, vk_S.moved hvm h.2.2.2.2⟩
theorem yy_env.kept {α : Nat → Nat} {kee : Nat → Int64} {A : Nat → Prop} {U : State} {H H1 : Heap} (h : yy_env α kee A U H) (hq : ∀ a : Nat, a < H.size → ¬ A a → H1[a]? = H[a]?) : yy_env α kee A U H1 :=
  ⟨h.1.kept hq, h.2.1.kept hq, ⟨h.2.2.1.1.kept hq, h.2.2.1.2.kept hq⟩, h.2.2.2.1, h.2.2.2.2.kept hq⟩
theorem yy_env.narrow {α : Nat → Nat} {kee : Nat → Int64} {A B : Nat → Prop} {U : State} {H : Heap} (h : yy_env α kee A U H) (hAB : ∀ q, B q → A q) : yy_env α kee B U H :=
  ⟨h.1.narrow hAB, h.2.1.narrow hAB, ⟨h.2.2.1.1.narrow hAB, h.2.2.1.2.narrow hAB⟩, h.2.2.2.1, h.2.2.2.2.narrow hAB⟩
theorem yy_blind (G : List yy_D) (kee : Nat → Int64) (D : va_G) (α : Nat → Nat) (cls : Nat → ClassId) (tys : List (ClassId × FieldType)) (ω : yy_O) (vs : List Value) (sz : Nat) : FrameBlind (yy_Pc G kee D α cls tys ω vs sz) := by
  intro a U g mk q
  obtain ⟨q0, q1, q2, q3, q4, q5, q6⟩ := q
  exact ⟨q0, q1, q2, va_K.moved (u := U) (U := U.calling g mk a) (Vm.Alike.refl U.vm) q3, q4, xx_nest_same (s := U) (U := U.calling g mk a) rfl q5, yy_env.moved (u := U) (U := U.calling g mk a) (Vm.Alike.refl U.vm) (vk_R.same rfl q6.2.2.2.1) q6⟩
/-- what a run shows -/
def yy_Snd (l : Launch) (T : List xx_M) (G : List yy_D) (kee : Nat → Int64) (n : Nat) : Prop := ∀ (M : xx_M), yy_okM T M = true → ∀ (p : Program) (e : Env) (R : Room) (s : State) (m : MethodId) (args : Array Value) (below : List Frame) (meth : Method) (c : Code) (Q : State → Prop) (A : Nat → Prop) (D : va_G) (tys : List (ClassId × FieldType)) (α : Nat → Nat) (cls : Nat → ClassId) (scr : Option (Nat × (Nat → Int32))) (d nc ns : Nat), yy_ctx p R s m args c M A (G, (scr, kee)) α d nc ns →
  ∀ (v : Option yy_U) (ω' : yy_O), (∀ (H' : Heap) (locs' : List Loc) (lsA' : Array Slot) (pc' : Nat), yy_rep G s A D α cls tys ω' H' locs' → yy_ret M v pc' → W p l e R s m args below meth c H' locs' nc ns Q (F0 m pc' lsA' (v.toList.map (yy_g α)))) →
  ∀ (pc : Nat) (ls : yy_L) (st : List yy_U) (ω : yy_O) (H : Heap) (locs : List Loc) (lsA : Array Slot), yy_run T G kee n scr d M pc ls st ω = some (v, ω') → yy_rep G s A D α cls tys ω H locs → lv_has lsA M.2.2.1 (yy_gL α ls) → W p l e R s m args below meth c H locs nc ns Q (F0 m pc lsA (st.map (yy_g α)))
def yy_ws (M : xx_M) : List Cond := Cond.code M.1 M.2.1 M.2.2.1 M.2.2.2.1 :: xx_TB
/-- a method's contract out of its run -/
theorem yy_met {l : Launch} {T : List xx_M} {G : List yy_D} {kee : Nat → Int64} {n : Nat} (IH : yy_Snd l T G kee n) {M : xx_M} (hM : yy_okM T M = true) {D : va_G} {α : Nat → Nat} {cls : Nat → ClassId} {tys : List (ClassId × FieldType)} {ω ω' : yy_O} {vs : List yy_U} {v : Option yy_U} {d : Nat} (sz : Nat) (h : yy_run T G kee n none d M 0 (yy_arg 0 vs) [] ω = some (v, ω')) (har : yy_ar G cls tys) (hsum : yy_sum vs ≤ M.2.2.1) :
    Met l M.1 (yy_ws M) (yy_rm d) (yy_Pc G kee D α cls tys ω (vs.map (yy_g α)) sz) (yy_Qc G D α cls tys v ω' (va_A (yy_gW G α cls ω) sz)) 0 0 (va_A (yy_gW G α cls ω) sz) := by
  have hpn : plainName M.1.cls = true := by
    unfold yy_okM at hM
    rw [Bool.and_eq_true] at hM
    exact hM.1
  refine Met.ofW (cc := M.2.1) (maxL := M.2.2.1) (ret := M.2.2.2.1) hpn rfl ?_
  intro p e s m args below meth c s₁ B hml hv
  obtain ⟨rfl, hsz, hP, hK, hD0, hN, hE⟩ := hv
  have hx := B.exec
  have hb := B.bytes
  have hr := B.returns
  have hts := atoms_spec (ws := yy_ws M) B.pre
  have hown : s.vm.findClass M.1.cls = some m.cls := findClass_of_methodNamed B.named
  have hlocks := B.notSynchronized
  subst hsz
  have hD := hD0.self (sz := s.heap.size)
  have hA : ∀ q : Nat, s.heap.size ≤ q → va_A (yy_gW G α cls ω) s.heap.size q := fun q h => Or.inr h
  have hS : va_S (va_A (yy_gW G α cls ω) s.heap.size) s.heap s.heap [] := va_S.rf
  have hl := lv_entry (vs.map (yy_g α)) (n := M.2.2.1) (by rw [yy_lgsl]; exact hsum)
  rw [lg_entry_eq]
  generalize (lg_sl (vs.map (yy_g α)) ++ List.replicate (M.2.2.1 - (lg_sl (vs.map (yy_g α))).length) Slot.unset).toArray = lsA at hl ⊢
  rw [yy_arg_g] at hl
  have hC : yy_ctx p (headSpec (yy_ws M) (yy_rm d)).room s m (vs.map (yy_g α)).toArray c M (va_A (yy_gW G α cls ω) s.heap.size) (G, (none, kee)) α d 0 0 := ⟨hx, hb, hml, hown, fun w hw => hts w (List.mem_cons_of_mem _ hw), hN, hA, ⟨Nat.le_refl _, Nat.le_refl _, Nat.zero_le _, Nat.zero_le _⟩, hE, trivial⟩
  refine IH M hM p e _ s m _ below meth c _ _ D tys α cls none d 0 0 hC v ω' ?_ 0 (yy_arg 0 vs) [] ω s.heap [] lsA h ⟨hK, har, hP, hD, hS⟩ hl
  intro H' locs' lsA' pc' hrep hret
  obtain ⟨q1, q2, q3, q4, q5⟩ := hrep
  have mk : ∀ (t : State), t.heap = H' → s.WarmedH t.vm → yy_Qc G D α cls tys v ω' (va_A (yy_gW G α cls ω) s.heap.size) (vs.map (yy_g α)).toArray s (.returned (v.map (yy_g α))) t := fun t ht hW => ⟨⟨rfl, va_K.moved hW.alike q1, by rw [ht]; exact q3, q4⟩, q5.F ht⟩
  rcases v with _ | x | x | x
  · obtain ⟨hd, hr0⟩ := hret
    exact W.vret hx hb (by rw [hr]; exact hr0) (fun t ht hW => mk t ht hW) q5.2.2 hd
  · obtain ⟨hd, ty, hty, hn⟩ := hret
    rcases hn with hn | hn
    · subst hn
      exact W.iret (v := x) hx hb (by rw [hr]; exact hty) (fun t ht hW => mk t ht hW) q5.2.2 hd
    · exact W.zret (v := x) (ty := ty) hx hb (by rw [hr]; exact hty) hn (fun t ht hW => mk t ht hW) q5.2.2 hd
  · obtain ⟨hd, hr0⟩ := hret
    exact W.lret (v := x) hx hb (by rw [hr]; exact hr0) (fun t ht hW => mk t ht hW) q5.2.2 hd
  · exact hret.elim
section YC
variable {p : Program} {l : Launch} {e : Env} {R : Room} {s : State} {m : MethodId} {args : Array Value} {below : List Frame} {meth : Method} {c : Code} {Q : State → Prop} {M : xx_M} {A : Nat → Prop} {D : va_G} {ls : yy_L} {st : List yy_U} {tys : List (ClassId × FieldType)} {H : Heap} {locs : List Loc} {lsA : Array Slot} {pc len d nc ns : Nat} {ops : List Nat} {G : List yy_D} {kee : Nat → Int64} {scr : Option (Nat × (Nat → Int32))} {α : Nat → Nat} {cls : Nat → ClassId} {ω : yy_O}
theorem yy_AA (hA : ∀ q, s.heap.size ≤ q → A q) (hr : yy_rep G s A D α cls tys ω H locs) : ∀ q, va_A (yy_gW G α cls ω) H.size q → A q := fun q h => by
  rcases h with ⟨k, e9, h⟩ | h
  · exact hr.2.2.2.1.2 k _ h
  · exact hA q (Nat.le_trans hr.2.2.2.2.1 h)
/-- before a call: what the callee is given -/
theorem yy_given {vs : List yy_U} (hC : yy_ctx p R s m args c M A (G, (scr, kee)) α d nc ns) (hr : yy_rep G s A D α cls tys ω H locs) : PreS s H (yy_Pc G kee D α cls tys ω (vs.map (yy_g α)) H.size) (vs.map (yy_g α)) := by
  obtain ⟨hx, hb, hml, hown, hts, hN, hA, hR, hE, hsc⟩ := hC
  have hAA := yy_AA hA hr
  obtain ⟨hK, har, hP, hD, hS⟩ := hr
  exact ⟨yy_blind _ _ _ _ _ _ _ _ _, fun U hU hW => ⟨rfl, by rw [hU], by rw [hU]; exact hP, va_K.moved hW.alike hK, hD.weaken (fun _ _ _ _ => trivial), xx_nest_warm hW hN, by
    rw [hU]
    exact (yy_env.moved hW.alike (vk_R.warm hW hE.2.2.2.1) (hE.kept hS.2.1)).narrow hAA⟩⟩
/-- behind a call -/
theorem yy_after {v : Option yy_U} {ω' : yy_O} {oc : Outcome} {as : Array Value} {st₀ t : State} {H1 : Heap} {L : List Loc} (hA : ∀ q, s.heap.size ≤ q → A q) (hr : yy_rep G s A D α cls tys ω H locs) (h0 : st₀.heap = H) (h1 : t.heap = H1) (hvm : s.vm.Alike t.vm) (hq : yy_Qc G D α cls tys v ω' (va_A (yy_gW G α cls ω) H.size) as st₀ oc t) (hL : ∀ q ∈ L, va_A (yy_gW G α cls ω) H.size q.base) :
    oc = .returned (v.map (yy_g α)) ∧ yy_rep G s A D α cls tys ω' H1 (locs ++ L) := by
  have hAA := yy_AA hA hr
  obtain ⟨hK, har, hP, hD, hS⟩ := hr
  obtain ⟨⟨g1, g2, g3, g4⟩, f1, f2⟩ := hq
  refine ⟨g1, va_K.moved hvm.symm g2, har, by rw [← h1]; exact g3, g4.weaken (fun k q _ h => hAA q.1 h), ?_⟩
  rw [h0, h1] at f1
  refine ⟨Nat.le_trans hS.1 f1, fun q hq hn => ?_, fun q hq => ?_⟩
  · have : H1[q]? = H[q]? := by
      rw [← h1, ← h0]
      exact f2 q (by rw [h0]; exact Nat.lt_of_lt_of_le hq hS.1) (fun h9 => hn (hAA q h9))
    rw [this]
    exact hS.2.1 q hq hn
  · rcases List.mem_append.mp hq with h | h
    · exact hS.2.2 q h
    · exact hAA _ (hL q h)
theorem yy_words {M' : xx_M} {g : Nat} (hC : yy_ctx p R s m args c M A (G, (scr, kee)) α d nc ns) (hg : lw_tbl[g]? = some (.code M'.1 M'.2.1 M'.2.2.1 M'.2.2.2.1)) : ∀ w ∈ yy_ws M', ∀ (a' : Array Value) (U : State), s.WarmedH U.vm → w.before a' U = true := by
  refine pay_in (big := xx_TB) hC.2.2.2.2.1 (fun w hw => ?_)
  rcases List.mem_cons.mp hw with h | h
  · subst h
    exact xx_goodTB _ (xx_inTB hg rfl)
  · exact xx_goodTB w h
end YC
theorem yy_at_ok {rows : List xx_I} {pc : Nat} {e : xx_I} (h : yy_at rows pc = some e) : e ∈ rows ∧ e.1 = pc := by
  induction rows with
  | nil => cases h
  | cons q qs ih =>
    simp only [yy_at] at h
    split at h
    · rename_i hb
      cases h
      exact ⟨List.mem_cons_self, Nat.eq_of_beq_eq_true hb⟩
    · obtain ⟨a, b⟩ := ih h
      exact ⟨List.mem_cons_of_mem _ a, b⟩
/-- rows that only go on -/
def yy_only (f : yy_H) : Prop := ∀ (P : yy_P) (M : xx_M) (d pc len : Nat) (ops : List Nat) (ls : yy_L) (st : List yy_U) (ω : yy_O) (r : (Nat × (List yy_U × List yy_U)) ⊕ Option yy_U), f P M d pc len ops ls st ω ≠ some (.inr r)
theorem yy_nx_no {pc : Nat} {ls : yy_L} {st : List yy_U} {ω : yy_O} {r : (Nat × (List yy_U × List yy_U)) ⊕ Option yy_U} : yy_nx pc ls st ω ≠ some (.inr r) := fun h => by cases h
theorem yy_to_no {t : Int} {ls : yy_L} {st : List yy_U} {ω : yy_O} {r : (Nat × (List yy_U × List yy_U)) ⊕ Option yy_U} : yy_to t ls st ω ≠ some (.inr r) := by
  intro h
  unfold yy_to at h
  split at h
  · exact yy_nx_no h
  · cases h
theorem yy_hp_only (v : yy_U) : yy_only (yy_hp v) := by
  intro P M d pc len ops ls st ω r h
  unfold yy_hp at h
  (repeat' split at h) <;> first | exact yy_nx_no h | exact yy_to_no h | (cases h; done)
theorem yy_hldc_only  : yy_only (yy_hldc ) := by
  intro P M d pc len ops ls st ω r h
  unfold yy_hldc at h
  (repeat' split at h) <;> first | exact yy_nx_no h | exact yy_to_no h | (cases h; done)
theorem yy_hldc2_only  : yy_only (yy_hldc2 ) := by
  intro P M d pc len ops ls st ω r h
  unfold yy_hldc2 at h
  (repeat' split at h) <;> first | exact yy_nx_no h | exact yy_to_no h | (cases h; done)
theorem yy_hil_only (i : Nat) : yy_only (yy_hil i) := by
  intro P M d pc len ops ls st ω r h
  unfold yy_hil at h
  (repeat' split at h) <;> first | exact yy_nx_no h | exact yy_to_no h | (cases h; done)
theorem yy_hll_only (i : Nat) : yy_only (yy_hll i) := by
  intro P M d pc len ops ls st ω r h
  unfold yy_hll at h
  (repeat' split at h) <;> first | exact yy_nx_no h | exact yy_to_no h | (cases h; done)
theorem yy_hal_only (i : Nat) : yy_only (yy_hal i) := by
  intro P M d pc len ops ls st ω r h
  unfold yy_hal at h
  (repeat' split at h) <;> first | exact yy_nx_no h | exact yy_to_no h | (cases h; done)
theorem yy_his_only (i : Nat) : yy_only (yy_his i) := by
  intro P M d pc len ops ls st ω r h
  unfold yy_his at h
  (repeat' split at h) <;> first | exact yy_nx_no h | exact yy_to_no h | (cases h; done)
theorem yy_hls_only (i : Nat) : yy_only (yy_hls i) := by
  intro P M d pc len ops ls st ω r h
  unfold yy_hls at h
  (repeat' split at h) <;> first | exact yy_nx_no h | exact yy_to_no h | (cases h; done)
theorem yy_has_only (i : Nat) : yy_only (yy_has i) := by
  intro P M d pc len ops ls st ω r h
  unfold yy_has at h
  (repeat' split at h) <;> first | exact yy_nx_no h | exact yy_to_no h | (cases h; done)
theorem yy_hinc_only (j : Nat) (n : Int) : yy_only (yy_hinc j n) := by
  intro P M d pc len ops ls st ω r h
  unfold yy_hinc at h
  (repeat' split at h) <;> first | exact yy_nx_no h | exact yy_to_no h | (cases h; done)
theorem yy_h2_only (f : Int32 → Int32 → Int32) : yy_only (yy_h2 f) := by
  intro P M d pc len ops ls st ω r h
  unfold yy_h2 at h
  (repeat' split at h) <;> first | exact yy_nx_no h | exact yy_to_no h | (cases h; done)
theorem yy_hdv_only (f : Int32 → Int32 → Int32) : yy_only (yy_hdv f) := by
  intro P M d pc len ops ls st ω r h
  unfold yy_hdv at h
  (repeat' split at h) <;> first | exact yy_nx_no h | exact yy_to_no h | (cases h; done)
theorem yy_h1_only (f : Int32 → Int32) : yy_only (yy_h1 f) := by
  intro P M d pc len ops ls st ω r h
  unfold yy_h1 at h
  (repeat' split at h) <;> first | exact yy_nx_no h | exact yy_to_no h | (cases h; done)
theorem yy_hl2_only (f : Int64 → Int64 → Int64) : yy_only (yy_hl2 f) := by
  intro P M d pc len ops ls st ω r h
  unfold yy_hl2 at h
  (repeat' split at h) <;> first | exact yy_nx_no h | exact yy_to_no h | (cases h; done)
theorem yy_hlsh_only (f : Int64 → Int32 → Int64) : yy_only (yy_hlsh f) := by
  intro P M d pc len ops ls st ω r h
  unfold yy_hlsh at h
  (repeat' split at h) <;> first | exact yy_nx_no h | exact yy_to_no h | (cases h; done)
theorem yy_hlcmp_only  : yy_only (yy_hlcmp ) := by
  intro P M d pc len ops ls st ω r h
  unfold yy_hlcmp at h
  (repeat' split at h) <;> first | exact yy_nx_no h | exact yy_to_no h | (cases h; done)
theorem yy_hi2l_only  : yy_only (yy_hi2l ) := by
  intro P M d pc len ops ls st ω r h
  unfold yy_hi2l at h
  (repeat' split at h) <;> first | exact yy_nx_no h | exact yy_to_no h | (cases h; done)
theorem yy_hl2i_only  : yy_only (yy_hl2i ) := by
  intro P M d pc len ops ls st ω r h
  unfold yy_hl2i at h
  (repeat' split at h) <;> first | exact yy_nx_no h | exact yy_to_no h | (cases h; done)
theorem yy_hdup_only  : yy_only (yy_hdup ) := by
  intro P M d pc len ops ls st ω r h
  unfold yy_hdup at h
  (repeat' split at h) <;> first | exact yy_nx_no h | exact yy_to_no h | (cases h; done)
theorem yy_hpop_only  : yy_only (yy_hpop ) := by
  intro P M d pc len ops ls st ω r h
  unfold yy_hpop at h
  (repeat' split at h) <;> first | exact yy_nx_no h | exact yy_to_no h | (cases h; done)
theorem yy_hdup2_only  : yy_only (yy_hdup2 ) := by
  intro P M d pc len ops ls st ω r h
  unfold yy_hdup2 at h
  (repeat' split at h) <;> first | exact yy_nx_no h | exact yy_to_no h | (cases h; done)
theorem yy_hgetf_only  : yy_only (yy_hgetf ) := by
  intro P M d pc len ops ls st ω r h
  unfold yy_hgetf at h
  (repeat' split at h) <;> first | exact yy_nx_no h | exact yy_to_no h | (cases h; done)
theorem yy_hputf_only  : yy_only (yy_hputf ) := by
  intro P M d pc len ops ls st ω r h
  unfold yy_hputf at h
  (repeat' split at h) <;> first | exact yy_nx_no h | exact yy_to_no h | (cases h; done)
theorem yy_hgets_only  : yy_only (yy_hgets ) := by
  intro P M d pc len ops ls st ω r h
  unfold yy_hgets at h
  (repeat' split at h) <;> first | exact yy_nx_no h | exact yy_to_no h | (cases h; done)
theorem yy_hiald_only  : yy_only (yy_hiald ) := by
  intro P M d pc len ops ls st ω r h
  unfold yy_hiald at h
  (repeat' split at h) <;> first | exact yy_nx_no h | exact yy_to_no h | (cases h; done)
theorem yy_hbald_only  : yy_only (yy_hbald ) := by
  intro P M d pc len ops ls st ω r h
  unfold yy_hbald at h
  (repeat' split at h) <;> first | exact yy_nx_no h | exact yy_to_no h | (cases h; done)
theorem yy_hlald_only  : yy_only (yy_hlald ) := by
  intro P M d pc len ops ls st ω r h
  unfold yy_hlald at h
  (repeat' split at h) <;> first | exact yy_nx_no h | exact yy_to_no h | (cases h; done)
theorem yy_haald_only  : yy_only (yy_haald ) := by
  intro P M d pc len ops ls st ω r h
  unfold yy_haald at h
  (repeat' split at h) <;> first | exact yy_nx_no h | exact yy_to_no h | (cases h; done)
theorem yy_hiast_only  : yy_only (yy_hiast ) := by
  intro P M d pc len ops ls st ω r h
  unfold yy_hiast at h
  (repeat' split at h) <;> first | exact yy_nx_no h | exact yy_to_no h | (cases h; done)
theorem yy_hbast_only  : yy_only (yy_hbast ) := by
  intro P M d pc len ops ls st ω r h
  unfold yy_hbast at h
  (repeat' split at h) <;> first | exact yy_nx_no h | exact yy_to_no h | (cases h; done)
theorem yy_hlast_only  : yy_only (yy_hlast ) := by
  intro P M d pc len ops ls st ω r h
  unfold yy_hlast at h
  (repeat' split at h) <;> first | exact yy_nx_no h | exact yy_to_no h | (cases h; done)
theorem yy_hlen_only  : yy_only (yy_hlen ) := by
  intro P M d pc len ops ls st ω r h
  unfold yy_hlen at h
  (repeat' split at h) <;> first | exact yy_nx_no h | exact yy_to_no h | (cases h; done)
theorem yy_hgoto_only (off : Int) : yy_only (yy_hgoto off) := by
  intro P M d pc len ops ls st ω r h
  unfold yy_hgoto at h
  (repeat' split at h) <;> first | exact yy_nx_no h | exact yy_to_no h | (cases h; done)
theorem yy_hif_only (c : xx_B) (off : Int) : yy_only (yy_hif c off) := by
  intro P M d pc len ops ls st ω r h
  unfold yy_hif at h
  (repeat' split at h) <;> first | exact yy_nx_no h | exact yy_to_no h | (cases h; done)
theorem yy_hicmp_only (c : xx_B) (off : Int) : yy_only (yy_hicmp c off) := by
  intro P M d pc len ops ls st ω r h
  unfold yy_hicmp at h
  (repeat' split at h) <;> first | exact yy_nx_no h | exact yy_to_no h | (cases h; done)
theorem yy_htab_only (d lo hi : Int) (offs : Array Int) : yy_only (yy_htab d lo hi offs) := by
  intro P M d pc len ops ls st ω r h
  unfold yy_htab at h
  (repeat' split at h) <;> first | exact yy_nx_no h | exact yy_to_no h | (cases h; done)
theorem yy_hlook_only (d : Int) (ps : Array (Int × Int)) : yy_only (yy_hlook d ps) := by
  intro P M d pc len ops ls st ω r h
  unfold yy_hlook at h
  (repeat' split at h) <;> first | exact yy_nx_no h | exact yy_to_no h | (cases h; done)
theorem yy_none_only : yy_only yy_none := by
  intro P M d pc len ops ls st ω r h
  cases h
theorem yy_disp_only (i : Instr) : yy_only (yy_disp i) ∨ i = .ireturn ∨ i = .lreturn ∨ i = .return_ ∨ (∃ idx, i = .invokevirtual idx) ∨ ∃ idx, i = .invokestatic idx := by
  cases i
  case iconst _ => exact Or.inl (yy_hp_only _)
  case bipush _ => exact Or.inl (yy_hp_only _)
  case sipush _ => exact Or.inl (yy_hp_only _)
  case ldc _ => exact Or.inl (yy_hldc_only)
  case ldc_w _ => exact Or.inl (yy_hldc_only)
  case ldc2_w _ => exact Or.inl (yy_hldc2_only)
  case lconst _ => exact Or.inl (yy_hp_only _)
  case iload_n _ => exact Or.inl (yy_hil_only _)
  case iload _ => exact Or.inl (yy_hil_only _)
  case lload_n _ => exact Or.inl (yy_hll_only _)
  case lload _ => exact Or.inl (yy_hll_only _)
  case aload_n _ => exact Or.inl (yy_hal_only _)
  case aload _ => exact Or.inl (yy_hal_only _)
  case istore_n _ => exact Or.inl (yy_his_only _)
  case istore _ => exact Or.inl (yy_his_only _)
  case lstore_n _ => exact Or.inl (yy_hls_only _)
  case lstore _ => exact Or.inl (yy_hls_only _)
  case astore_n _ => exact Or.inl (yy_has_only _)
  case iinc _ _ => exact Or.inl (yy_hinc_only _ _)
  case iadd => exact Or.inl (yy_h2_only _)
  case isub => exact Or.inl (yy_h2_only _)
  case imul => exact Or.inl (yy_h2_only _)
  case iand => exact Or.inl (yy_h2_only _)
  case ior => exact Or.inl (yy_h2_only _)
  case ixor => exact Or.inl (yy_h2_only _)
  case ishl => exact Or.inl (yy_h2_only _)
  case ishr => exact Or.inl (yy_h2_only _)
  case iushr => exact Or.inl (yy_h2_only _)
  case idiv => exact Or.inl (yy_hdv_only _)
  case irem => exact Or.inl (yy_hdv_only _)
  case ineg => exact Or.inl (yy_h1_only _)
  case i2b => exact Or.inl (yy_h1_only _)
  case i2c => exact Or.inl (yy_h1_only _)
  case ladd => exact Or.inl (yy_hl2_only _)
  case lsub => exact Or.inl (yy_hl2_only _)
  case land => exact Or.inl (yy_hl2_only _)
  case lor => exact Or.inl (yy_hl2_only _)
  case lxor => exact Or.inl (yy_hl2_only _)
  case lshl => exact Or.inl (yy_hlsh_only _)
  case lushr => exact Or.inl (yy_hlsh_only _)
  case lshr => exact Or.inl (yy_hlsh_only _)
  case lcmp => exact Or.inl (yy_hlcmp_only)
  case i2l => exact Or.inl (yy_hi2l_only)
  case l2i => exact Or.inl (yy_hl2i_only)
  case dup => exact Or.inl (yy_hdup_only)
  case dup2 => exact Or.inl (yy_hdup2_only)
  case pop => exact Or.inl (yy_hpop_only)
  case getfield _ => exact Or.inl (yy_hgetf_only)
  case putfield _ => exact Or.inl (yy_hputf_only)
  case getstatic _ => exact Or.inl (yy_hgets_only)
  case iaload => exact Or.inl (yy_hiald_only)
  case baload => exact Or.inl (yy_hbald_only)
  case laload => exact Or.inl (yy_hlald_only)
  case aaload => exact Or.inl (yy_haald_only)
  case iastore => exact Or.inl (yy_hiast_only)
  case bastore => exact Or.inl (yy_hbast_only)
  case lastore => exact Or.inl (yy_hlast_only)
  case arraylength => exact Or.inl (yy_hlen_only)
  case goto _ => exact Or.inl (yy_hgoto_only _)
  case ifCond _ _ => exact Or.inl (yy_hif_only _ _)
  case if_icmp _ _ => exact Or.inl (yy_hicmp_only _ _)
  case tableswitch _ _ _ _ => exact Or.inl (yy_htab_only _ _ _ _)
  case lookupswitch _ _ => exact Or.inl (yy_hlook_only _ _)
  case ireturn => exact Or.inr (Or.inl rfl)
  case lreturn => exact Or.inr (Or.inr (Or.inl rfl))
  case return_ => exact Or.inr (Or.inr (Or.inr (Or.inl rfl)))
  case invokevirtual idx => exact Or.inr (Or.inr (Or.inr (Or.inr (Or.inl ⟨idx, rfl⟩))))
  case invokestatic idx => exact Or.inr (Or.inr (Or.inr (Or.inr (Or.inr ⟨idx, rfl⟩))))
  all_goals exact Or.inl yy_none_only
theorem yy_char {x : Int32} (h : x = x &&& 255) : narrow .char (.int x) = .int x := by
  rw [h]
  exact sc_nar x
set_option maxHeartbeats 4000000 in
theorem yy_sound {l : Launch} {T : List xx_M} {G : List yy_D} {kee : Nat → Int64} (hT : ∀ M ∈ T, yy_okM T M = true) : ∀ n, yy_Snd l T G kee n := by
  intro n
  induction n with
  | zero =>
    intro M hM p e R s m args below meth c Q A D tys α cls scr d nc ns hC v ω' KR pc ls st ω H locs lsA h
    cases h
  | succ n IH =>
    intro M hM p e R s m args below meth c Q A D tys α cls scr d nc ns hC v ω' KR pc ls st ω H locs lsA h hrep hv
    have hx := hC.1
    have hb := hC.2.1
    simp only [yy_run] at h
    split at h
    · cases h
    · rename_i ent hat
      obtain ⟨hmem, hpc⟩ := yy_at_ok hat
      have hent : yy_okI T M ent = true := by
        unfold yy_okM at hM
        rw [Bool.and_eq_true] at hM
        exact List.all_eq_true.mp hM.2 ent hmem
      obtain ⟨epc, i, len, ops0⟩ := ent
      have hpc : epc = pc := hpc
      subst hpc
      unfold yy_okI at hent
      rw [Bool.and_eq_true, Bool.and_eq_true] at hent
      have hd : decode M.2.1 epc = .ok (i, len) := of_decide_eq_true hent.1
      have hW0 : yy_okW T M i len (xx_ops ops0) = true := hent.2.1
      have hT0 : xx_okT epc i = true := hent.2.2
      clear hent
      split at h
      · cases h
      · rename_i pc' ls' st' ω1 hstep
        exact yy_row_ok (P := (G, (scr, kee))) hC hd hW0 hT0 hrep hv hstep (fun H' locs' lsA' hr' hv' => IH M hM p e R s m args below meth c Q A D tys α cls scr d nc ns hC v ω' KR pc' ls' st' ω1 H' locs' lsA' h hr' hv')
      · rename_i v1 hstep
        change yy_disp i (G, (scr, kee)) M d epc len (xx_ops ops0) ls st ω = some (.inr (.inr v1)) at hstep
        cases h
        have hno := yy_disp_only i
        cases i
        case ireturn =>
          have hl := Nat.eq_of_beq_eq_true hW0
          subst hl
          simp only [yy_disp, yy_hiret] at hstep
          split at hstep
          · rename_i x
            split at hstep
            · rename_i hty
              cases hstep
              exact KR H locs lsA epc hrep ⟨hd, _, hty, Or.inl rfl⟩
            · rename_i hty
              split at hstep
              · rename_i hq
                cases hstep
                exact KR H locs lsA epc hrep ⟨hd, _, hty, Or.inr (yy_char (of_decide_eq_true hq))⟩
              · cases hstep
            · rename_i hty
              split at hstep
              · rename_i hq
                cases hstep
                refine KR H locs lsA epc hrep ⟨hd, _, hty, Or.inr ?_⟩
                have hq := of_decide_eq_true hq
                have e1 : narrow .byte (.int x) = .int x.toInt8.toInt32 := rfl
                rw [e1, ← hq]
              · cases hstep
            · rename_i hty
              split at hstep
              · rename_i hq
                cases hstep
                exact KR H locs lsA epc hrep ⟨hd, _, hty, Or.inr (yy_bool (of_decide_eq_true hq))⟩
              · cases hstep
            · cases hstep
          · cases hstep
        case lreturn =>
          have hl := Nat.eq_of_beq_eq_true hW0
          subst hl
          simp only [yy_disp, yy_hlret] at hstep
          split at hstep
          · split at hstep
            · rename_i hty
              cases hstep
              exact KR H locs lsA epc hrep ⟨hd, hty⟩
            · cases hstep
          · cases hstep
        case return_ =>
          have hl := Nat.eq_of_beq_eq_true hW0
          subst hl
          simp only [yy_disp, yy_hvret] at hstep
          split at hstep
          · split at hstep
            · rename_i hty
              cases hstep
              exact KR H locs lsA epc hrep ⟨hd, hty⟩
            · cases hstep
          · cases hstep
        all_goals (rcases hno with h9 | h9 | h9 | h9 | ⟨x9, h9⟩ | ⟨x9, h9⟩ <;> first | exact absurd hstep (h9 _ _ _ _ _ _ _ _ _ _) | (cases h9; done) | (simp only [yy_disp, yy_hvirt, yy_hstat, yy_hiret, yy_hlret, yy_hvret] at hstep; (repeat' split at hstep) <;> first | exact absurd hstep yy_nx_no | (cases hstep; done)))
      · rename_i t vs rest hstep
        change yy_disp i (G, (scr, kee)) M d epc len (xx_ops ops0) ls st ω = some (.inr (.inl (t, (vs, rest)))) at hstep
        split at h
        · cases h
        · rename_i M' hM9
          have hM' := hT M' (List.mem_of_getElem? hM9)
          split at h
          · cases h
          · rename_i hfit
            unfold yy_fit at hfit
            rw [Bool.and_eq_true, Bool.and_eq_true] at hfit
            obtain ⟨t1, t2, t3⟩ := hfit
            have t1 := Nat.le_of_ble_eq_true t1
            have t2 := Nat.le_of_ble_eq_true t2
            have t3 := Nat.le_of_ble_eq_true t3
            split at h
            · cases h
            · rename_i d'
              split at h
              · cases h
              · rename_i v1 ω1 hcal
                obtain ⟨hfr, hlo, hce, hsl⟩ := hC.2.2.2.2.2.2.2.1
                have hts := hC.2.2.2.2.1
                have met := yy_met IH hM' (D := D) (α := α) (cls := cls) (tys := tys) H.size hcal hrep.2.1 t3
                have hrm : (rest.map (yy_g α) |>.map fun v => v.category).sum ≤ 8 := by rw [yy_sum_ok]; exact t2
                have goOn : va_Run p l e R s m args below meth c H locs nc ns 0 0 (F0 m epc lsA (st.map (yy_g α))) (rest.map (yy_g α)) (yy_Qc G D α cls tys v1 ω1 (va_A (yy_gW G α cls ω) H.size) (vs.map (yy_g α)).toArray) (va_A (yy_gW G α cls ω) H.size) → W p l e R s m args below meth c H locs nc ns Q (F0 m epc lsA (st.map (yy_g α))) := by
                  intro run
                  refine xx_call run (fun v2 st₀ t H1 L g0 g1 g2 g3 g4 => ?_)
                  obtain ⟨e1, e2⟩ := yy_after hC.2.2.2.2.2.2.1 hrep g0 g1 g2 g3 g4
                  cases e1
                  have := IH M hM p e R s m args below meth c Q A D tys α cls scr (d' + 1) nc ns hC v ω' KR (epc + 3) ls (v1.toList ++ rest) ω1 H1 (locs ++ L) lsA h e2 hv
                  have e9 : (v1.toList ++ rest).map (yy_g α) = (v1.map (yy_g α)).toList ++ rest.map (yy_g α) := by
                    rw [List.map_append]
                    cases v1 <;> rfl
                  rw [e9] at this
                  exact this
                have hgv := yy_given (vs := vs) hC hrep
                have hno := yy_disp_only i
                cases i
                case invokevirtual idx =>
                  simp only [yy_okW, Bool.and_eq_true] at hW0
                  have hl := Nat.eq_of_beq_eq_true hW0.1
                  subst hl
                  have hW1 := hW0.2
                  simp only [yy_disp, yy_hvirt] at hstep
                  split at hstep
                  · rename_i t9 nn ci tl9 hops
                    split at hstep
                    · rename_i args9 k9 rest9 hpop
                      split at hstep
                      · rename_i hisC
                        cases hstep
                        have hokC : yy_okC T M idx (0 :: t :: nn :: ci :: tl9) 0 = true := by
                          rw [Bool.or_eq_true] at hW1
                          rw [hops] at hW1
                          rcases hW1 with h9 | h9
                          · exact h9
                          · cases of_decide_eq_true h9
                        obtain ⟨b9, hb1, hb2, hb3⟩ := yy_pop_ok nn [] st hpop
                        rw [List.append_nil] at hb1
                        subst hb1
                        simp only [yy_okC] at hokC
                        split at hokC
                        · rename_i a9 mode b8 d9 f9 g9 heq9
                          cases heq9
                          rw [hM9] at hokC
                          simp only [Bool.and_eq_true] at hokC
                          obtain ⟨c1, c2, c3, c4, c5, c6, c7, c8, c9⟩ := hokC
                          have hwds := yy_words hC (of_decide_eq_true c3)
                          have hcode := hts _ (xx_inTB (of_decide_eq_true c3) rfl)
                          have hini := hts _ (xx_inTB (of_decide_eq_true c2) rfl)
                          have hinst := hts _ (xx_inTB (of_decide_eq_true c7) rfl)
                          have hsel := hts _ (xx_inTB (of_decide_eq_true c8) rfl)
                          have hpar : ∀ sig, parseMethodDescriptor M'.1.desc = some sig → nn = sig.parameters.length := fun sig h9 => by
                            have h8 := of_decide_eq_true c6
                            rw [h9] at h8
                            exact (Option.some.inj h8).symm
                          have hstk : st.map (yy_g α) = (args9.map (yy_g α)).reverse ++ .ref (α k9) :: rest.map (yy_g α) := by
                            rw [hb3, List.map_append, List.map_reverse]
                            rfl
                          have hne := And.intro (of_decide_eq_true c4) (of_decide_eq_true c5)
                          have hrecv : ∃ cell : Cell, H[α k9]? = some cell ∧ cell.vm.isStatics = false ∧ s.vm.findClass M'.1.cls = some cell.cls := by
                            unfold yy_isC at hisC
                            split at hisC
                            · have e1 := Nat.eq_of_beq_eq_true hisC
                              subst e1
                              have e2 : M'.1.cls = "java/lang/String" := of_decide_eq_true c9
                              rw [e2]
                              exact vk_recv (N := 1) hC.2.2.2.2.2.2.2.2.1.2.2.2.2 (i := 0) (by decide) hrep.2.2.2.2
                            · rename_i hne99
                              split at hisC
                              · rename_i cj rs hG
                                have e1 := Nat.eq_of_beq_eq_true hisC
                                subst e1
                                split at c9
                                · exact absurd rfl hne99
                                · split at c9
                                  · rename_i q hq
                                    obtain ⟨C, T9, N⟩ := q
                                    have e3 : C = M'.1.cls := of_decide_eq_true c9
                                    have := va_recv hrep.1 hrep.2.2.1 hq (yy_gW_at hG)
                                    rw [← e3]
                                    exact this
                                  · cases c9
                              · cases hisC
                          refine goOn ?_
                          split at c1
                          · exact va_runV (As := args9.map (yy_g α)) (rest := rest.map (yy_g α)) (b := α k9) (C := M'.1.cls) (n := nn) ⟨hx, hb, hC.2.2.1, hC.2.2.2.1, hts⟩ met ⟨⟨rfl, rfl, hfr, by show 8 + (M'.2.2.1 + 11) + 120 * d' ≤ _; omega, hwds, List.mem_cons_self, hcode, hini, hne, hpar, hts _ (xx_inTB (of_decide_eq_true c1) rfl)⟩, hinst, hsel⟩ ⟨hgv.1, hrecv, hgv.2⟩ rfl (by rw [List.length_map]; exact hb2) hv.1 hstk (lv_room hrm) hd ⟨hce, hsl⟩
                          · exact va_runVN (As := args9.map (yy_g α)) (rest := rest.map (yy_g α)) (b := α k9) (C := M'.1.cls) (n := nn) ⟨hx, hb, hC.2.2.1, hC.2.2.2.1, hts⟩ met ⟨⟨⟨rfl, rfl, hfr, by show 8 + (M'.2.2.1 + 11) + 120 * d' ≤ _; omega, hwds, List.mem_cons_self⟩, hcode, hini, hne, hpar, va_Nw.use rfl (hC.2.2.2.2.2.1 _ (xx_inNL (of_decide_eq_true c1) rfl))⟩, hinst, hsel⟩ ⟨hgv.1, hrecv, hgv.2⟩ rfl (by rw [List.length_map]; exact hb2) hv.1 hstk (lv_room hrm) hd ⟨hce, hsl⟩
                          · cases c1
                        · cases hokC
                      · cases hstep
                    · cases hstep
                  · cases hstep
                case invokestatic idx =>
                  simp only [yy_okW, Bool.and_eq_true] at hW0
                  have hl := Nat.eq_of_beq_eq_true hW0.1
                  subst hl
                  have hW1 := hW0.2
                  simp only [yy_disp, yy_hstat] at hstep
                  split at hstep
                  · rename_i t9 nn tl9 hops
                    split at hstep
                    · rename_i args9 rest9 hpop
                      cases hstep
                      have hokC : yy_okC T M idx (0 :: t :: nn :: tl9) 2 = true := by
                        rw [Bool.or_eq_true] at hW1
                        rw [hops] at hW1
                        rcases hW1 with h9 | h9
                        · exact h9
                        · cases of_decide_eq_true h9
                      obtain ⟨b9, hb1, hb2, hb3⟩ := yy_pop_ok nn [] st hpop
                      rw [List.append_nil] at hb1
                      subst hb1
                      simp only [yy_okC] at hokC
                      split at hokC
                      · rename_i ci a9 mode b8 d9 f9 g9 heq9
                        cases heq9
                        rw [hM9] at hokC
                        simp only [Bool.and_eq_true] at hokC
                        obtain ⟨c1, c2, c3, c4, c5, c6, c7⟩ := hokC
                        have hwds := yy_words hC (of_decide_eq_true c3)
                        have hcode := hts _ (xx_inTB (of_decide_eq_true c3) rfl)
                        have hini := hts _ (xx_inTB (of_decide_eq_true c2) rfl)
                        have hstat := hts _ (xx_inTB (of_decide_eq_true c7) rfl)
                        have hpar : ∀ sig, parseMethodDescriptor M'.1.desc = some sig → nn = sig.parameters.length := fun sig h9 => by
                          have h8 := of_decide_eq_true c6
                          rw [h9] at h8
                          exact (Option.some.inj h8).symm
                        have hstk : st.map (yy_g α) = (vs.map (yy_g α)).reverse ++ rest.map (yy_g α) := by
                          rw [hb3, List.map_append, List.map_reverse]
                        have hne := And.intro (of_decide_eq_true c4) (of_decide_eq_true c5)
                        refine goOn ?_
                        split at c1
                        · exact va_runS (As := vs.map (yy_g α)) (rest := rest.map (yy_g α)) (n := nn) ⟨hx, hb, hC.2.2.1, hC.2.2.2.1, hts⟩ met ⟨⟨rfl, rfl, hfr, by show 8 + (M'.2.2.1 + 11) + 120 * d' ≤ _; omega, hwds, List.mem_cons_self, hcode, hini, hne, hpar, hts _ (xx_inTB (of_decide_eq_true c1) rfl)⟩, hstat⟩ hgv rfl (by rw [List.length_map]; exact hb2) hv.1 hstk (lv_room hrm) hd ⟨hce, hsl⟩
                        · exact va_runSN (As := vs.map (yy_g α)) (rest := rest.map (yy_g α)) (n := nn) ⟨hx, hb, hC.2.2.1, hC.2.2.2.1, hts⟩ met ⟨⟨⟨rfl, rfl, hfr, by show 8 + (M'.2.2.1 + 11) + 120 * d' ≤ _; omega, hwds, List.mem_cons_self⟩, hcode, hini, hne, hpar, va_Nw.use rfl (hC.2.2.2.2.2.1 _ (xx_inNL (of_decide_eq_true c1) rfl))⟩, hstat, trivial⟩ hgv rfl (by rw [List.length_map]; exact hb2) hv.1 hstk (lv_room hrm) hd ⟨hce, hsl⟩
                        · cases c1
                      · cases hokC
                    · cases hstep
                  · (repeat' split at hstep) <;> first | exact absurd hstep yy_nx_no | (cases hstep; done)
                  · (repeat' split at hstep) <;> first | exact absurd hstep yy_nx_no | (cases hstep; done)
                  · (repeat' split at hstep) <;> first | exact absurd hstep yy_nx_no | (cases hstep; done)
                  · cases hstep
                all_goals (rcases hno with h9 | h9 | h9 | h9 | ⟨x9, h9⟩ | ⟨x9, h9⟩ <;> first | exact absurd hstep (h9 _ _ _ _ _ _ _ _ _ _) | (cases h9; done) | (simp only [yy_disp, yy_hvirt, yy_hstat, yy_hiret, yy_hlret, yy_hvret] at hstep; (repeat' split at hstep) <;> first | exact absurd hstep yy_nx_no | (cases hstep; done)))
