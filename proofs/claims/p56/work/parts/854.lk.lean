/-! Model.layKnowledge() where nobody is there -/
theorem dX7_layKnowledge_0 : decode cX7_layKnowledge 0 = .ok (.iconst 0, 1) := by decide +kernel
theorem dX7_layKnowledge_1 : decode cX7_layKnowledge 1 = .ok (.istore_n 1, 1) := by decide +kernel
theorem dX7_layKnowledge_2 : decode cX7_layKnowledge 2 = .ok (.iload_n 1, 1) := by decide +kernel
theorem dX7_layKnowledge_3 : decode cX7_layKnowledge 3 = .ok (.sipush 384, 3) := by decide +kernel
theorem dX7_layKnowledge_6 : decode cX7_layKnowledge 6 = .ok (.if_icmp .ge 31, 3) := by decide +kernel
theorem dX7_layKnowledge_9 : decode cX7_layKnowledge 9 = .ok (.aload_n 0, 1) := by decide +kernel
theorem dX7_layKnowledge_10 : decode cX7_layKnowledge 10 = .ok (.getfield 85, 3) := by decide +kernel
theorem dX7_layKnowledge_13 : decode cX7_layKnowledge 13 = .ok (.iload_n 1, 1) := by decide +kernel
theorem dX7_layKnowledge_14 : decode cX7_layKnowledge 14 = .ok (.bipush 63, 2) := by decide +kernel
theorem dX7_layKnowledge_16 : decode cX7_layKnowledge 16 = .ok (.iastore, 1) := by decide +kernel
theorem dX7_layKnowledge_17 : decode cX7_layKnowledge 17 = .ok (.aload_n 0, 1) := by decide +kernel
theorem dX7_layKnowledge_18 : decode cX7_layKnowledge 18 = .ok (.getfield 88, 3) := by decide +kernel
theorem dX7_layKnowledge_21 : decode cX7_layKnowledge 21 = .ok (.iload_n 1, 1) := by decide +kernel
theorem dX7_layKnowledge_22 : decode cX7_layKnowledge 22 = .ok (.iconst 0, 1) := by decide +kernel
theorem dX7_layKnowledge_23 : decode cX7_layKnowledge 23 = .ok (.iastore, 1) := by decide +kernel
theorem dX7_layKnowledge_24 : decode cX7_layKnowledge 24 = .ok (.aload_n 0, 1) := by decide +kernel
theorem dX7_layKnowledge_25 : decode cX7_layKnowledge 25 = .ok (.getfield 91, 3) := by decide +kernel
theorem dX7_layKnowledge_28 : decode cX7_layKnowledge 28 = .ok (.iload_n 1, 1) := by decide +kernel
theorem dX7_layKnowledge_29 : decode cX7_layKnowledge 29 = .ok (.iconst 0, 1) := by decide +kernel
theorem dX7_layKnowledge_30 : decode cX7_layKnowledge 30 = .ok (.iastore, 1) := by decide +kernel
theorem dX7_layKnowledge_31 : decode cX7_layKnowledge 31 = .ok (.iinc 1 1, 3) := by decide +kernel
theorem dX7_layKnowledge_34 : decode cX7_layKnowledge 34 = .ok (.goto (-32), 3) := by decide +kernel
theorem dX7_layKnowledge_37 : decode cX7_layKnowledge 37 = .ok (.iconst 0, 1) := by decide +kernel
theorem dX7_layKnowledge_38 : decode cX7_layKnowledge 38 = .ok (.istore_n 1, 1) := by decide +kernel
theorem dX7_layKnowledge_39 : decode cX7_layKnowledge 39 = .ok (.iload_n 1, 1) := by decide +kernel
theorem dX7_layKnowledge_40 : decode cX7_layKnowledge 40 = .ok (.aload_n 0, 1) := by decide +kernel
theorem dX7_layKnowledge_41 : decode cX7_layKnowledge 41 = .ok (.invokevirtual 331, 3) := by decide +kernel
theorem dX7_layKnowledge_44 : decode cX7_layKnowledge 44 = .ok (.if_icmp .ge 76, 3) := by decide +kernel
theorem dX7_layKnowledge_120 : decode cX7_layKnowledge 120 = .ok (.return_, 1) := by decide +kernel
theorem dX7_folk_0 : decode cX7_folk 0 = .ok (.aload_n 0, 1) := by decide +kernel
theorem dX7_folk_1 : decode cX7_folk 1 = .ok (.getfield 20, 3) := by decide +kernel
theorem dX7_folk_4 : decode cX7_folk 4 = .ok (.aload_n 0, 1) := by decide +kernel
theorem dX7_folk_5 : decode cX7_folk 5 = .ok (.getfield 233, 3) := by decide +kernel
theorem dX7_folk_8 : decode cX7_folk 8 = .ok (.iaload, 1) := by decide +kernel
theorem dX7_folk_9 : decode cX7_folk 9 = .ok (.ireturn, 1) := by decide +kernel
def lk_M : xx_M := (yX7_layKnowledge, (cX7_layKnowledge, (4, (none, ((3, (77, (0, 0))), [])))))
theorem xx_lk_ok {w : xx_W} {o : Nat} (h : xx_lk w o = true) : ∃ (pp : Nat) (fs : List xx_V) (a1 a2 a3 a4 p1 p2 p3 p4 : Nat) (l4 : List xx_V), xx_fnd w o 0 = some (pp, .inr (7, fs)) ∧ fs[29]? = some (.inl (.ofNat 0)) ∧ fs[40]? = some (.inr (.inr (.inl (some a1)))) ∧ fs[41]? = some (.inr (.inr (.inl (some a2)))) ∧ fs[42]? = some (.inr (.inr (.inl (some a3)))) ∧ fs[11]? = some (.inr (.inr (.inl (some a4)))) ∧
    xx_fnd w a1 0 = some (p1, .inl (0, (384, none))) ∧ xx_fnd w a2 0 = some (p2, .inl (0, (384, none))) ∧ xx_fnd w a3 0 = some (p3, .inl (0, (384, none))) ∧ xx_fnd w a4 0 = some (p4, .inl (0, (2, some (.inl (.ofNat 0) :: l4)))) := by
  have hav : ∀ {v : Option xx_V}, xx_hav w v = true → ∃ a p9, v = some (.inr (.inr (.inl (some a)))) ∧ xx_fnd w a 0 = some (p9, .inl (0, (384, none))) := by
    intro v hv
    unfold xx_hav at hv
    split at hv
    · rename_i a
      split at hv
      · rename_i p9 hf
        exact ⟨a, _, rfl, hf⟩
      · cases hv
    · cases hv
  unfold xx_lk at h
  split at h
  · rename_i pp fs hf
    split at h
    · rename_i hb
      simp only [Bool.and_eq_true] at h
      obtain ⟨h1, h2, h3, h4⟩ := h
      obtain ⟨a1, p1, e1, g1⟩ := hav h1
      obtain ⟨a2, p2, e2, g2⟩ := hav h2
      obtain ⟨a3, p3, e3, g3⟩ := hav h3
      unfold xx_nul at h4
      split at h4
      · rename_i a4 e4
        split at h4
        · rename_i p4 l4 hf4
          exact ⟨_, fs, a1, a2, a3, a4, p1, p2, p3, _, _, hf, hb, e1, e2, e3, e4, g1, g2, g3, hf4⟩
        · cases h4
      · cases h4
    · cases h
  · cases h
section LK
variable {p : Program} {l : Launch} {e : Env} {R : Room} {s : State} {m : MethodId} {args : Array Value} {below : List Frame} {meth : Method} {c : Code} {Q : State → Prop} {A : Nat → Prop} {D : va_G} {cs : xx_C} {w : xx_W} {nk nc ns : Nat} {ρ : xx_Y} {tys : List (ClassId × FieldType)} {H : Heap} {locs : List Loc} {lsA : Array Slot}
/-- this.row[k] = a number, where nothing is known of the row -/
theorem lk_put {pc0 lc f idx q o a pp pa j : Nat} {fs : List xx_V} {v : Int32} (hC : xx_ctx p R s m args meth c lk_M A) (d0 : decode cX7_layKnowledge pc0 = .ok (.aload_n 0, 1)) (d1 : decode cX7_layKnowledge (pc0 + 1) = .ok (.getfield idx, 3)) (d2 : decode cX7_layKnowledge (pc0 + 1 + 3) = .ok (.iload_n 1, 1))
    (row : ∀ {rest : List Value} {H : Heap} {locs : List Loc}, W p l e R s m args below meth c H locs nc ns Q (F0 m (pc0 + 1 + 3 + 1 + lc) lsA (.int v :: rest)) → W p l e R s m args below meth c H locs nc ns Q (F0 m (pc0 + 1 + 3 + 1) lsA rest)) (d3 : decode cX7_layKnowledge (pc0 + 1 + 3 + 1 + lc) = .ok (.iastore, 1))
    (hq : lw_tbl[q]? = some (.fieldLink RX7 idx (TX7 f).1 (TX7 f).2.1 (TX7 f).2.2.1)) (hf : f < 62) (hfo : xx_fnd w o 0 = some (pp, .inr (7, fs))) (hfa : fs[f]? = some (.inr (.inr (.inl (some a))))) (hfw : xx_fnd w a 0 = some (pa, .inl (0, (384, none)))) (hj : j < 384)
    (ho : xx_ok s A D ρ tys cs w nk [] [] H locs) (hl : lv_has lsA 4 [(1, .int (nI j)), (0, .ref (ρ.2.1 o))])
    (kk : ∀ (ρ2 : xx_Y) (H2 : Heap) (locs2 : List Loc), xx_ag cs.length nk ρ ρ2 → ρ2.2.1 = ρ.2.1 → xx_ok s A D ρ2 tys cs w nk [] [] H2 locs2 → W p l e R s m args below meth c H2 locs2 nc ns Q (F0 m (pc0 + 1 + 3 + 1 + lc + 1) lsA [])) : W p l e R s m args below meth c H locs nc ns Q (F0 m pc0 lsA []) := by
  obtain ⟨hx, hb, hml, hown, hts, hN, hAO, hA, hR, hin⟩ := hC
  obtain ⟨q1, q2, q3, q4, q5, hK, har, hP, hD, hS⟩ := id ho
  have hato := xx_fnd_at hfo
  have hata := xx_fnd_at hfw
  obtain ⟨t0, ht0⟩ := har a 0 384 none (List.mem_of_getElem? hata)
  have hcl : xx_cl[7]? = some (RX7, TX7, 62) := rfl
  have hfv' : (fs.map (xx_g ρ))[f]? = some (.ref (ρ.2.1 a)) := by rw [List.getElem?_map, hfa]; rfl
  refine lv_aload_n hx hb d0 rfl (lv_at hl 1 rfl) ?_
  refine va_get (D := D) (cl := xx_cl) hx hb hts (xx_cl_in hcl) hown hK hP pp (xx_gW_at (ρ := ρ) hato) hcl f hf (hts _ (xx_inTB hq rfl)) (fun _ h9 => h9) hfv' d1 ?_
  refine lv_iload_n hx hb d2 rfl (lv_at hl 0 rfl) ?_
  refine row ?_
  refine va_iast (D := D) (cl := xx_cl) hx hb hK hP hD hS pa t0 (xx_gW_at (ρ := ρ) hata) ht0 (nI_in hj (by decide)) d3 (fun H1 locs1 hP1 hD1 hS1 => ?_)
  obtain ⟨hag, hok⟩ := ho.havoc (rest := []) hata (fun u hu => by cases hu) hP1 hD1 hS1
  exact kk _ H1 locs1 hag rfl hok
theorem lk_loop {o a1 a2 a3 pp p1 p2 p3 : Nat} {fs : List xx_V} (hC : xx_ctx p R s m args meth c lk_M A) (hfo : xx_fnd w o 0 = some (pp, .inr (7, fs))) (f1 : fs[40]? = some (.inr (.inr (.inl (some a1))))) (f2 : fs[41]? = some (.inr (.inr (.inl (some a2))))) (f3 : fs[42]? = some (.inr (.inr (.inl (some a3))))) (g1 : xx_fnd w a1 0 = some (p1, .inl (0, (384, none)))) (g2 : xx_fnd w a2 0 = some (p2, .inl (0, (384, none)))) (g3 : xx_fnd w a3 0 = some (p3, .inl (0, (384, none))))
    (fin : ∀ (ρ2 : xx_Y) (H2 : Heap) (locs2 : List Loc) (lsA2 : Array Slot), xx_ag cs.length nk ρ ρ2 → ρ2.2.1 = ρ.2.1 → xx_ok s A D ρ2 tys cs w nk [] [] H2 locs2 → lv_has lsA2 4 [(1, .int (nI 384)), (0, .ref (ρ2.2.1 o))] → W p l e R s m args below meth c H2 locs2 nc ns Q (F0 m 37 lsA2 [])) :
    ∀ (n j : Nat) (ρ2 : xx_Y) (H2 : Heap) (locs2 : List Loc) (lsA2 : Array Slot), j + n = 384 → xx_ag cs.length nk ρ ρ2 → ρ2.2.1 = ρ.2.1 → xx_ok s A D ρ2 tys cs w nk [] [] H2 locs2 → lv_has lsA2 4 [(1, .int (nI j)), (0, .ref (ρ2.2.1 o))] → W p l e R s m args below meth c H2 locs2 nc ns Q (F0 m 2 lsA2 []) := by
  have hx := hC.1
  have hb := hC.2.1
  intro n
  induction n with
  | zero =>
    intro j ρ2 H2 locs2 lsA2 hj hag had ho hl
    have : j = 384 := by omega
    subst this
    refine lv_iload_n hx hb dX7_layKnowledge_2 rfl (lv_at hl 0 rfl) ?_
    refine lv_sipush (v := nI 384) hx hb dX7_layKnowledge_3 (by decide +kernel) ?_
    refine lv_icmp_ge (tgt := 37) hx hb dX7_layKnowledge_6 (by decide) (fun _ => ?_) (fun h9 => absurd (nI_le (Nat.le_refl _) (by decide)) h9)
    exact fin ρ2 H2 locs2 lsA2 hag had ho hl
  | succ n ih =>
    intro j ρ2 H2 locs2 lsA2 hj hag had ho hl
    have hj384 : j < 384 := by omega
    refine lv_iload_n hx hb dX7_layKnowledge_2 rfl (lv_at hl 0 rfl) ?_
    refine lv_sipush (v := nI 384) hx hb dX7_layKnowledge_3 (by decide +kernel) ?_
    refine lv_icmp_ge (tgt := 37) hx hb dX7_layKnowledge_6 (by decide) (fun h9 => absurd h9 (nI_ge hj384 (by decide))) (fun _ => ?_)
    refine lk_put (pc0 := 9) (lc := 2) (f := 40) (idx := 85) (q := 1161) (v := Int32.ofInt 63) hC dX7_layKnowledge_9 dX7_layKnowledge_10 dX7_layKnowledge_13 (fun k9 => lv_bipush hx hb dX7_layKnowledge_14 (by decide +kernel) k9) dX7_layKnowledge_16 (by decide +kernel) (by decide) hfo f1 g1 hj384 ho hl (fun ρ3 H3 locs3 b1 b2 b3 => ?_)
    have hl3 : lv_has lsA2 4 [(1, .int (nI j)), (0, .ref (ρ3.2.1 o))] := by rw [b2]; exact hl
    refine lk_put (pc0 := 17) (lc := 1) (f := 41) (idx := 88) (q := 1162) (v := Int32.ofInt 0) hC dX7_layKnowledge_17 dX7_layKnowledge_18 dX7_layKnowledge_21 (fun k9 => lv_iconst hx hb dX7_layKnowledge_22 rfl k9) dX7_layKnowledge_23 (by decide +kernel) (by decide) hfo f2 g2 hj384 b3 hl3 (fun ρ4 H4 locs4 c1 c2 c3 => ?_)
    have hl4 : lv_has lsA2 4 [(1, .int (nI j)), (0, .ref (ρ4.2.1 o))] := by rw [c2]; exact hl3
    refine lk_put (pc0 := 24) (lc := 1) (f := 42) (idx := 91) (q := 1163) (v := Int32.ofInt 0) hC dX7_layKnowledge_24 dX7_layKnowledge_25 dX7_layKnowledge_28 (fun k9 => lv_iconst hx hb dX7_layKnowledge_29 rfl k9) dX7_layKnowledge_30 (by decide +kernel) (by decide) hfo f3 g3 hj384 c3 hl4 (fun ρ5 H5 locs5 e1 e2 e3 => ?_)
    have hl5 : lv_has lsA2 4 [(1, .int (nI j)), (0, .ref (ρ5.2.1 o))] := by rw [e2]; exact hl4
    refine lv_iinc (v := nI (j + 1)) (lv' := [(1, .int (nI (j + 1))), (0, .ref (ρ5.2.1 o))]) hx hb dX7_layKnowledge_31 hl5 (k := 0) rfl (nI_1 j) (by decide) rfl (fun ls' hl' => ?_)
    refine lv_goto (tgt := 2) hx hb dX7_layKnowledge_34 (by decide) ?_
    exact ih (j + 1) ρ5 H5 locs5 ls' (by omega) (xx_ag_tr (xx_ag_tr (xx_ag_tr hag b1 (Nat.le_refl _) (Nat.le_refl _)) c1 (Nat.le_refl _) (Nat.le_refl _)) e1 (Nat.le_refl _) (Nat.le_refl _)) (by rw [e2, c2, b2, had]) e3 hl'
end LK
theorem lk_folk (l : Launch) {D : va_G} {ρ : xx_Y} {tys : List (ClassId × FieldType)} {cs : xx_C} {w : xx_W} {nk o a4 pp p4 : Nat} {fs l4 : List xx_V} (sz : Nat) (hin : xx_in ρ cs) (hwW : xx_wfW cs.length nk w) (hnk : nk ≤ xx_scr) (har : xx_ar ρ tys w) (hfo : xx_fnd w o 0 = some (pp, .inr (7, fs))) (hbank : fs[29]? = some (.inl (.ofNat 0))) (f4 : fs[11]? = some (.inr (.inr (.inl (some a4))))) (g4 : xx_fnd w a4 0 = some (p4, .inl (0, (2, some (.inl (.ofNat 0) :: l4))))) :
    Met l yX7_folk (Cond.code yX7_folk cX7_folk 1 (some .int) :: xx_TB) { frames := 0, cells := 0, slots := 0, locals := 0 } (xx_Pc D ρ tys w [.ref (ρ.2.1 o)] sz) (xx_Qc D [(cs, (w, (nk, some (.inl (.ofNat 0)))))] ρ cs.length nk (va_A (xx_gW ρ w) sz)) 0 0 (va_A (xx_gW ρ w) sz) := by
  refine Met.ofW (cc := cX7_folk) (maxL := 1) (ret := some .int) (by decide +kernel) rfl ?_
  intro p e s m args below meth c s₁ B hml hv
  obtain ⟨rfl, hsz, hP, hK, hD0, hN, hAO⟩ := hv
  have hx := B.exec
  have hb := B.bytes
  have hr := B.returns
  have hts0 := atoms_spec (ws := Cond.code yX7_folk cX7_folk 1 (some .int) :: xx_TB) B.pre
  have hts : ∀ w ∈ xx_TB, w.before #[Value.ref (ρ.2.1 o)] s = true := fun w hw => hts0 w (List.mem_cons_of_mem _ hw)
  have hown : s.vm.findClass RX7 = some m.cls := findClass_of_methodNamed B.named
  have hlocks := B.notSynchronized
  subst hsz
  have hD := hD0.self (sz := s.heap.size)
  have hS : va_S (va_A (xx_gW ρ w) s.heap.size) s.heap s.heap [] := va_S.rf
  have hl := lv_entry ([.ref (ρ.2.1 o)]) (n := 1) (Nat.le_of_ble_eq_true rfl)
  have eF : entryFrame m ([.ref (ρ.2.1 o)] : List Value).toArray 1 = _ := lg_entry_eq m [.ref (ρ.2.1 o)] 1
  rw [eF]
  generalize (lg_sl ([.ref (ρ.2.1 o)]) ++ List.replicate (1 - (lg_sl ([.ref (ρ.2.1 o)])).length) Slot.unset).toArray = ls at hl ⊢
  have hl : lv_has ls 1 [(0, .ref (ρ.2.1 o))] := hl
  have hcl : xx_cl[7]? = some (RX7, TX7, 62) := rfl
  have hato := xx_fnd_at hfo
  have hat4 := xx_fnd_at g4
  obtain ⟨t0, ht0⟩ := har a4 0 2 _ (List.mem_of_getElem? hat4)
  refine lv_aload_n hx hb dX7_folk_0 rfl (lv_at hl 0 rfl) ?_
  refine va_get (D := D) (cl := xx_cl) hx hb hts (xx_cl_in hcl) hown hK hP pp (xx_gW_at (ρ := ρ) hato) hcl 11 (by decide) (hts _ (xx_inTB (p := 1132) (by decide +kernel) rfl)) (fun _ h9 => h9) (v := .ref (ρ.2.1 a4)) (by rw [List.getElem?_map, f4]; rfl) dX7_folk_1 ?_
  refine lv_aload_n hx hb dX7_folk_4 rfl (lv_at hl 0 rfl) ?_
  refine va_get (D := D) (cl := xx_cl) hx hb hts (xx_cl_in hcl) hown hK hP pp (xx_gW_at (ρ := ρ) hato) hcl 29 (by decide) (hts _ (xx_inTB (p := 1150) (by decide +kernel) rfl)) (fun _ h9 => h9) (v := .int (Int32.ofInt (.ofNat 0))) (by rw [List.getElem?_map, hbank]; rfl) dX7_folk_5 ?_
  refine va_iald (D := D) (cl := xx_cl) hx hb hK hP p4 t0 (f := fun j => xx_i ρ ((.inl (.ofNat 0) :: l4 : List xx_V).getD j (.inl 0))) (xx_gW_at (ρ := ρ) hat4) ht0 (by unfold vp_in; decide +kernel) dX7_folk_8 ?_
  have e0 : xx_i ρ ((.inl (.ofNat 0) :: l4 : List xx_V).getD (Int32.ofInt (.ofNat 0)).toNatClampNeg (.inl 0)) = Int32.ofInt (.ofNat 0) := by
    have : (Int32.ofInt (.ofNat 0)).toNatClampNeg = 0 := by decide +kernel
    rw [this]
    rfl
  rw [e0]
  exact W.iret (v := Int32.ofInt (.ofNat 0)) hx hb hr (fun t ht hW => ⟨⟨_, List.mem_singleton.mpr rfl, _, rfl, ρ, tys, xx_ag_rf _ _ _, Nat.le_refl _, Nat.le_refl _, rfl, hin, hwW, (fun u hu => by rw [List.mem_singleton.mp hu]; trivial), hnk, va_K.moved hW.alike hK, har, by rw [ht]; exact hP, hD⟩, hS.F ht⟩) hS.2.2 dX7_folk_9
theorem lk_all (l : Launch) : xx_LKok l := by
  intro D ρ tys cs w nk o sz hlk hin hwW hnk har
  obtain ⟨pp, fs, a1, a2, a3, a4, p1, p2, p3, p4, l4, hfo, hbank, f1, f2, f3, f4, g1, g2, g3, g4⟩ := xx_lk_ok hlk
  refine Met.ofW (cc := cX7_layKnowledge) (maxL := 4) (ret := none) (by decide +kernel) rfl ?_
  intro p e s m args below meth c s₁ B hml hv
  obtain ⟨rfl, hsz, hP, hK, hD0, hN, hAO⟩ := hv
  have hx := B.exec
  have hb := B.bytes
  have hr := B.returns
  have hts0 := atoms_spec (ws := Cond.code yX7_layKnowledge cX7_layKnowledge 4 none :: xx_TB) B.pre
  have hts : ∀ w ∈ xx_TB, w.before #[Value.ref (ρ.2.1 o)] s = true := fun w hw => hts0 w (List.mem_cons_of_mem _ hw)
  have hown : s.vm.findClass RX7 = some m.cls := findClass_of_methodNamed B.named
  have hlocks := B.notSynchronized
  subst hsz
  have hD := hD0.self (sz := s.heap.size)
  have hA : ∀ q : Nat, s.heap.size ≤ q → va_A (xx_gW ρ w) s.heap.size q := fun q h => Or.inr h
  have hS : va_S (va_A (xx_gW ρ w) s.heap.size) s.heap s.heap [] := va_S.rf
  have hl := lv_entry ([.ref (ρ.2.1 o)]) (n := 4) (Nat.le_of_ble_eq_true rfl)
  have eF : entryFrame m ([.ref (ρ.2.1 o)] : List Value).toArray 4 = _ := lg_entry_eq m [.ref (ρ.2.1 o)] 4
  rw [eF]
  generalize (lg_sl ([.ref (ρ.2.1 o)]) ++ List.replicate (4 - (lg_sl ([.ref (ρ.2.1 o)])).length) Slot.unset).toArray = ls at hl ⊢
  have hl : lv_has ls 4 [(0, .ref (ρ.2.1 o))] := hl
  have hC : xx_ctx p xx_rmL s m #[Value.ref (ρ.2.1 o)] meth c lk_M (va_A (xx_gW ρ w) s.heap.size) := ⟨hx, hb, hml, hown, hts, hN, hAO, hA, ⟨Nat.le_refl _, Nat.le_refl _, Nat.le_refl _, Nat.le_refl _⟩, fun h9 => absurd h9 (by decide +kernel)⟩
  have ho : xx_ok s (va_A (xx_gW ρ w) s.heap.size) D ρ tys cs w nk [] [] s.heap [] := ⟨hin, hwW, (fun q hq => by cases hq), (fun q hq => by cases hq), hnk, hK, har, hP, hD, hS⟩
  refine lv_iconst (v := nI 0) hx hb dX7_layKnowledge_0 (by decide +kernel) ?_
  refine lv_istore_n (lv' := [(1, .int (nI 0)), (0, .ref (ρ.2.1 o))]) hx hb dX7_layKnowledge_1 rfl hl (by decide) rfl (fun ls hl => ?_)
  refine lk_loop (R := xx_rmL) hC hfo f1 f2 f3 g1 g2 g3 (fun ρ2 H2 locs2 lsA2 hag had ho2 hl2 => ?_) 384 0 ρ s.heap [] ls rfl (xx_ag_rf _ _ _) rfl ho hl
  refine lv_iconst (v := nI 0) hx hb dX7_layKnowledge_37 (by decide +kernel) ?_
  refine lv_istore_n (lv' := [(1, .int (nI 0)), (0, .ref (ρ2.2.1 o))]) hx hb dX7_layKnowledge_38 rfl hl2 (by decide) rfl (fun ls3 hl3 => ?_)
  refine lv_iload_n hx hb dX7_layKnowledge_39 rfl (lv_at hl3 0 rfl) ?_
  refine lv_aload_n hx hb dX7_layKnowledge_40 rfl (lv_at hl3 1 rfl) ?_
  obtain ⟨z1, z2, z3, z4, z5, zK, zar, zP, zD, zS⟩ := id ho2
  have met := lk_folk l (D := D) H2.size z1 z2 z5 zar hfo hbank f4 g4
  have hgv := xx_given (vs := [.inr (.inr (.inl (some o)))]) hC ho2
  have hcl : xx_cl[7]? = some (RX7, TX7, 62) := rfl
  have hrecv := va_recv zK zP hcl (xx_gW_at (ρ := ρ2) (xx_fnd_at hfo))
  have hwds : ∀ w ∈ (Cond.code yX7_folk cX7_folk 1 (some .int) :: xx_TB), ∀ (a' : Array Value) (U : State), s.WarmedH U.vm → w.before a' U = true := by
    refine pay_in (big := xx_TB) hts (fun w hw => ?_)
    rcases List.mem_cons.mp hw with h9 | h9
    · subst h9
      exact xx_goodTB _ (xx_inTB (p := 1107) (by decide +kernel) rfl)
    · exact xx_goodTB w h9
  have hpar : ∀ sig, parseMethodDescriptor yX7_folk.desc = some sig → 0 = sig.parameters.length := fun sig h9 => by
    have h8 : (parseMethodDescriptor yX7_folk.desc).map (fun d => d.parameters.length) = some 0 := by decide +kernel
    rw [h9] at h8
    exact (Option.some.inj h8).symm
  refine xx_call (va_runV (As := []) (rest := [.int (nI 0)]) (b := ρ2.2.1 o) (C := RX7) (n := 0) ⟨hx, hb, hml, hown, hts⟩ met ⟨⟨rfl, rfl, by decide, by decide, hwds, List.mem_cons_self, hts _ (xx_inTB (p := 1107) (by decide +kernel) rfl), hts _ (xx_inTB (p := 145) (w := .initialized RX7) (by decide +kernel) rfl), ⟨by decide +kernel, by decide +kernel⟩, hpar, hts _ (xx_inTB (p := 1104) (by decide +kernel) rfl)⟩, hts _ (xx_inTB (p := 1106) (by decide +kernel) rfl), hts _ (xx_inTB (p := 71) (by decide +kernel) rfl)⟩ ⟨hgv.1, hrecv, hgv.2⟩ rfl rfl hl3.1 rfl (lv_room (Nat.le_of_ble_eq_true rfl)) dX7_layKnowledge_41 ⟨Nat.le_refl _, Nat.le_refl _⟩) (fun v st₀ t H1 L q0 q1 q2 q3 q4 => ?_)
  obtain ⟨⟨o9, hoo, v', hv', hQo⟩, hF⟩ := q3
  cases hv'
  have ho9 := List.mem_singleton.mp hoo
  subst ho9
  obtain ⟨ρ', tys', b1, b2, b3, b4, b5⟩ := xx_after (rest := []) ho2 hA (fun u hu => by cases hu) q0 q1 q2 hQo hF q4
  rw [b4]
  show W _ _ _ _ _ _ _ _ _ _ _ _ _ _ _ (F0 m (41 + 3) ls3 [.int (Int32.ofInt (.ofNat 0)), .int (nI 0)])
  refine lv_icmp_ge (tgt := 120) hx hb dX7_layKnowledge_44 (by decide) (fun _ => ?_) (fun h9 => absurd (by decide +kernel) h9)
  obtain ⟨y1, y2, y3, y4, y5, yK, yar, yP, yD, yS⟩ := b5
  exact W.vret hx hb hr (fun t ht hW => ⟨⟨_, List.mem_singleton.mpr rfl, _, rfl, ρ', tys', xx_ag_tr hag b1 (Nat.le_refl _) (Nat.le_refl _), Nat.le_refl _, Nat.le_refl _, rfl, y1, y2, (fun u hu => by cases hu), y5, va_K.moved hW.alike yK, yar, by rw [ht]; exact yP, yD⟩, yS.F ht⟩) yS.2.2 dX7_layKnowledge_120
