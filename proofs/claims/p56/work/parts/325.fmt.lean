/-! String.checkIndex: it hands on a static that may be null; nobody looks at it -/
def yy_fxM : xx_M := (yJ3_checkIndex_8e157, (cJ3_checkIndex_8e157, (3, (some .int, ((0, (0, (0, 0))), [])))))
def yy_fyM : xx_M := (yJ0_checkIndex_df160, (cJ0_checkIndex_df160, (2, (none, ((0, (0, (0, 0))), [])))))
def yy_fW (M : xx_M) : List Cond := Cond.code M.1 M.2.1 M.2.2.1 M.2.2.2.1 :: xx_TB
def yy_fxR : Room := { frames := 0, cells := 0, slots := 0, locals := 0 }
def yy_fyR : Room := { frames := 1, cells := 0, slots := 0, locals := 22 }
def yy_fmZ (A : Nat → Prop) (U : State) (H : Heap) : Prop := va_Zq "jdk/internal/util/Preconditions" "SIOOBE_FORMATTER" "Ljava/util/function/BiFunction;" A U H
theorem yy_fx_met {l : Launch} (x n : Int32) (f : Value) (hf : f.category = 1) (h0 : 0 ≤ x.toInt) (h1 : x.toInt < n.toInt) : Met l yJ3_checkIndex_8e157 (yy_fW yy_fxM) yy_fxR (va_Pc [.int x, .int n, f] (fun _ => True)) (fun _ st oc t => oc = .returned (some (.int x)) ∧ t.heap = st.heap) 0 0 (fun _ => False) := by
  refine Met.ofW (cc := cJ3_checkIndex_8e157) (maxL := 3) (ret := some .int) (by decide +kernel) rfl ?_
  intro p e s m args below meth c s₁ B hml hv
  obtain ⟨rfl, -⟩ := hv
  have hx := B.exec
  have hb := B.bytes
  have hr := B.returns
  have hlocks := B.notSynchronized
  have hl := lv_entry [.int x, .int n, f] (n := 3) (by cases f <;> first | exact Nat.le_refl _ | (simp [Value.category] at hf))
  rw [lg_entry_eq]
  generalize (lg_sl [.int x, .int n, f] ++ List.replicate (3 - (lg_sl [.int x, .int n, f]).length) Slot.unset).toArray = lsA at hl ⊢
  have g0 : lsA[0]? = some (.val (.int x)) := lv_at hl 0 rfl
  have g1 : lsA[1]? = some (.val (.int n)) := lv_at hl 1 rfl
  refine lv_iload_n (k := 0) hx hb (by decide +kernel) rfl g0 ?_
  refine xx_ifc (M := yy_fxM) (cnd := .lt) (off := 8) (tgt := 9) hx hb (by decide +kernel) rfl (fun h => absurd (show x.toInt < 0 from h) (by omega)) (fun _ => ?_)
  refine lv_iload_n (k := 0) hx hb (by decide +kernel) rfl g0 ?_
  refine lv_iload_n (k := 1) hx hb (by decide +kernel) rfl g1 ?_
  refine xx_icmp (M := yy_fxM) (cnd := .lt) (off := 10) (tgt := 16) hx hb (by decide +kernel) rfl (fun _ => ?_) (fun h => absurd (show x.toInt < n.toInt from h1) h)
  refine lv_iload_n (k := 0) hx hb (by decide +kernel) rfl g0 ?_
  exact W.iret (v := x) hx hb hr (fun t ht _ => ⟨rfl, ht⟩) (fun q hq => by cases hq) (by decide +kernel)
theorem yy_fy_met {l : Launch} (x n : Int32) (h0 : 0 ≤ x.toInt) (h1 : x.toInt < n.toInt) : Met l yJ0_checkIndex_df160 (yy_fW yy_fyM) yy_fyR (va_Pc [.int x, .int n] (fun U => yy_fmZ (fun _ => False) U U.heap)) (fun _ st oc t => oc = .returned none ∧ t.heap = st.heap) 0 0 (fun _ => False) := by
  refine Met.ofW (cc := cJ0_checkIndex_df160) (maxL := 2) (ret := none) (by decide +kernel) rfl ?_
  intro p e s m args below meth c s₁ B hml hv
  obtain ⟨rfl, hZ⟩ := hv
  have hx := B.exec
  have hb := B.bytes
  have hr := B.returns
  have hlocks := B.notSynchronized
  have hts := atoms_spec (ws := yy_fW yy_fyM) B.pre
  have hts2 : ∀ w ∈ xx_TB, w.before [.int x, .int n].toArray s = true := fun w hw => hts w (List.mem_cons_of_mem _ hw)
  have hown : s.vm.findClass RJ0 = some m.cls := findClass_of_methodNamed B.named
  have hl := lv_entry [.int x, .int n] (n := 2) (by simp [lg_sl, Value.category])
  rw [lg_entry_eq]
  generalize (lg_sl [.int x, .int n] ++ List.replicate (2 - (lg_sl [.int x, .int n]).length) Slot.unset).toArray = lsA at hl ⊢
  have g0 : lsA[0]? = some (.val (.int x)) := lv_at hl 0 rfl
  have g1 : lsA[1]? = some (.val (.int n)) := lv_at hl 1 rfl
  refine lv_iload_n (k := 0) hx hb (by decide +kernel) rfl g0 ?_
  refine lv_iload_n (k := 1) hx hb (by decide +kernel) rfl g1 ?_
  have w1 : lw_tbl[430]? = some (.fieldLink RJ0 1053 "jdk/internal/util/Preconditions" "SIOOBE_FORMATTER" "Ljava/util/function/BiFunction;") := by decide +kernel
  have w2 : lw_tbl[432]? = some (.methodLink RJ0 1059 yJ3_checkIndex_8e157) := by decide +kernel
  have w3 : lw_tbl[433]? = some (.static yJ3_checkIndex_8e157) := by decide +kernel
  have w4 : lw_tbl[139]? = some (.initialized yJ3_checkIndex_8e157.cls) := by decide +kernel
  have w5 : lw_tbl[434]? = some (.code yJ3_checkIndex_8e157 cJ3_checkIndex_8e157 3 (some .int)) := by decide +kernel
  have main : ∀ f : Value, f.category = 1 → va_Z "jdk/internal/util/Preconditions" "SIOOBE_FORMATTER" "Ljava/util/function/BiFunction;" f (fun _ => False) s s.heap → W p l e (headSpec (yy_fW yy_fyM) yy_fyR).room s m [.int x, .int n].toArray below meth c s.heap [] 0 0 (MQ below (fun _ st oc t => oc = .returned none ∧ t.heap = st.heap) [.int x, .int n].toArray s 0 0 (fun _ => False)) (F0 m 2 lsA [.int n, .int x]) := by
    intro f hf hZ1
    refine va_gets (own := RJ0) (index := 1053) hx hb hZ1 va_S.rf hown (hts2 _ (xx_inTB w1 rfl)) (fun _ h9 => h9) (by decide +kernel) ?_
    refine xx_call (mc := 0) (ms := 0) (rest := []) (va_runS (As := [.int x, .int n, f]) (rest := []) (n := 3) (own := RJ0) (index := 1059) (nL := 2) (Ts := xx_TB) ⟨hx, hb, hml, hown, hts2⟩ (yy_fx_met x n f hf h0 h1) ⟨⟨rfl, rfl, Nat.le_refl _, Nat.le_refl _, ?_, List.mem_cons_self, hts2 _ (xx_inTB w5 rfl), hts2 _ (xx_inTB w4 rfl), ?_, ?_, hts2 _ (xx_inTB w2 rfl)⟩, hts2 _ (xx_inTB w3 rfl)⟩ ⟨?_, fun U _ _ => ⟨rfl, trivial⟩⟩ rfl rfl hl.1 rfl (lv_room (st := []) (Nat.zero_le _)) (show decode cJ0_checkIndex_df160 5 = .ok (.invokestatic 1059, 3) by decide +kernel) ⟨Nat.le_refl _, Nat.le_refl _⟩) ?_
    · refine pay_in (big := xx_TB) hts2 (fun w hw => ?_)
      rcases List.mem_cons.mp hw with h | h
      · subst h
        exact xx_goodTB _ (xx_inTB w5 rfl)
      · exact xx_goodTB w h
    · exact ⟨by decide +kernel, by decide +kernel⟩
    · intro sig h9
      have h8 : (parseMethodDescriptor yJ3_checkIndex_8e157.desc).map (fun d => d.parameters.length) = some 3 := by decide +kernel
      rw [h9] at h8
      exact (Option.some.inj h8).symm
    · intro a U g mk q
      exact q
    · intro v st₀ t H1 L e0 e1 e2 hq hL
      obtain ⟨q1, q2⟩ := hq
      cases q1
      have hL0 : L = [] := List.eq_nil_iff_forall_not_mem.mpr (fun q hq => hL q hq)
      subst hL0
      refine lv_pop (va := .int x) hx hb (by decide +kernel) rfl ?_
      refine W.vret hx hb hr (fun t2 ht2 _ => ⟨rfl, ?_⟩) (fun q hq => by cases hq) (by decide +kernel)
      rw [ht2, ← e1, q2, e0]
  rcases hZ with h | ⟨t, h⟩
  · exact main .null rfl h
  · exact main (.ref t) rfl h
