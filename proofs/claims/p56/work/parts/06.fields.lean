theorem xx_fit_ok {t : FieldType} {v : xx_V} (ρ : xx_Y) (h : xx_fit t v = true) : narrow t (xx_g ρ v) = xx_g ρ v ∧ fits t (xx_g ρ v) = true := by
  cases t with
  | int =>
    rw [xx_g_isI h]
    exact ⟨rfl, rfl⟩
  | boolean =>
    rcases v with c | ⟨q, d⟩ | x
    · simp only [xx_fit, Bool.or_eq_true, xx_eqI_iff] at h
      rcases h with rfl | rfl
      · exact ⟨by show narrow .boolean (.int (Int32.ofInt 0)) = .int (Int32.ofInt 0); decide +kernel, by show fits .boolean (.int (Int32.ofInt 0)) = true; decide +kernel⟩
      · exact ⟨by show narrow .boolean (.int (Int32.ofInt 1)) = .int (Int32.ofInt 1); decide +kernel, by show fits .boolean (.int (Int32.ofInt 1)) = true; decide +kernel⟩
    · cases h
    · cases h
  | long =>
    rw [xx_g_isL h]
    exact ⟨rfl, rfl⟩
  | object C =>
    rcases v with c | ⟨q, d⟩ | (_ | i) | x
    · cases h
    · cases h
    · exact ⟨rfl, rfl⟩
    · exact ⟨rfl, rfl⟩
    · cases h
  | array t =>
    rcases v with c | ⟨q, d⟩ | (_ | i) | x
    · cases h
    · cases h
    · exact ⟨rfl, rfl⟩
    · exact ⟨rfl, rfl⟩
    · cases h
  | _ => cases h
/-- a field's row: its word, by its place -/
def xx_okF (M : xx_M) (idx : Nat) (ops : List Nat) (put : Bool) : Bool := match ops with
  | [ci, f, q, mode] => match xx_cl[ci]? with
    | some (_, T, N) => Nat.blt f N && (match mode with
      | 0 => decide (lw_tbl[q]? = some (.fieldLink M.1.cls idx (T f).1 (T f).2.1 (T f).2.2.1)) && (!put || !(T f).2.2.2)
      | 1 => decide (lw_tbl[q]? = some (.fieldLinkNest M.1.cls idx (T f).1 (T f).2.1 (T f).2.2.1 RX6)) && (!put || !(T f).2.2.2)
      | 2 => decide (lw_tbl[q]? = some (.fieldLink M.1.cls idx (T f).1 (T f).2.1 (T f).2.2.1)) && (put && (decide (M.1.name = "<init>") && (decide ((T f).1 = M.1.cls) && (T f).2.2.2)))
      | _ => false)
    | none => false
  | _ => false
section XF
variable {p : Program} {l : Launch} {e : Env} {R : Room} {s : State} {m : MethodId} {args : Array Value} {below : List Frame} {meth : Method} {c : Code} {Q : State → Prop} {M : xx_M} {A : Nat → Prop} {D : va_G} {k : xx_G} {outs : List xx_O} {cs : xx_C} {w : xx_W} {nk nc ns : Nat} {ls : xx_L} {st : List xx_V} {ρ : xx_Y} {tys : List (ClassId × FieldType)} {H : Heap} {locs : List Loc} {lsA : Array Slot} {pc scr : Nat} {ops : List Nat}
theorem xx_hgetf_ok {idx : Nat} (hC : xx_ctx p R s m args meth c M A) (hd : decode M.2.1 pc = .ok (.getfield idx, 3)) (hF : xx_okF M idx ops false = true)
    (ho : xx_ok s A D ρ tys cs w nk ls st H locs) (hv : lv_has lsA M.2.2.1 (xx_gL ρ ls)) (h : xx_hgetf M scr ops cs w nk nc ns ls st k = some outs) (kk : xx_KK p l e R s m args below meth c Q M A D k outs cs nk ρ (pc + 3)) : W p l e R s m args below meth c H locs nc ns Q (F0 m pc lsA (st.map (xx_g ρ))) := by
  obtain ⟨hx, hb, hml, hown, hts, hN, hAO, hA, hR, hin⟩ := hC
  obtain ⟨hi, hwW, hwl, hws, hnk, hK, har, hP, hD, hS⟩ := id ho
  simp only [xx_hgetf] at h
  split at h
  · rename_i ci f q mode
    split at h
    · rename_i i rest
      split at h
      · rename_i pp cj fs hf
        split at h
        · rename_i hcj
          have hcj := Nat.eq_of_beq_eq_true hcj
          subst hcj
          split at h
          · rename_i v hfv
            have hat := xx_fnd_at hf
            have hg := xx_gW_at (ρ := ρ) hat
            have hwf : xx_wf cs.length nk v := (hwW _ (List.mem_of_getElem? hat)).2 v (List.mem_of_getElem? hfv)
            have hk2 := kk.same ho h hwl (xx_wfs_cons hwf (xx_wfs_tl hws)) hv
            have hfv' : (fs.map (xx_g ρ))[f]? = some (xx_g ρ v) := by rw [List.getElem?_map, hfv]; rfl
            simp only [xx_okF] at hF
            split at hF
            · rename_i C T N hcl
              rw [Bool.and_eq_true] at hF
              obtain ⟨hF1, hF2⟩ := hF
              have hfN : f < N := Nat.lt_of_lt_of_le (Nat.lt_succ_self _) (Nat.le_of_ble_eq_true hF1)
              split at hF2
              · rw [Bool.and_eq_true] at hF2
                exact va_get (D := D) (cl := xx_cl) hx hb hts (xx_cl_in hcl) hown hK hP pp hg hcl f hfN (hts _ (xx_inTB (of_decide_eq_true hF2.1) rfl)) (fun _ h9 => h9) hfv' hd hk2
              · rw [Bool.and_eq_true] at hF2
                exact va_getN (D := D) (cl := xx_cl) hx hb hts (xx_cl_in hcl) hown hK hP pp hg hcl f hfN (va_Nw.use rfl (hN _ (xx_inNL (of_decide_eq_true hF2.1) rfl))) (fun _ h9 => h9) hfv' hd hk2
              · rw [Bool.and_eq_true] at hF2
                exact va_get (D := D) (cl := xx_cl) hx hb hts (xx_cl_in hcl) hown hK hP pp hg hcl f hfN (hts _ (xx_inTB (of_decide_eq_true hF2.1) rfl)) (fun _ h9 => h9) hfv' hd hk2
              · cases hF2
            · cases hF
          · cases h
        · cases h
      · cases h
    · cases h
  · cases h
/-- a cell's change that keeps all the rest -/
theorem xx_ok.setc {i pp : Nat} {e0 e1 : xx_E} {rest : List xx_V} {H1 : Heap} {locs1 : List Loc} (ho : xx_ok s A D ρ tys cs w nk ls st H locs) (hat : w[pp]? = some (i, e0)) (hw1 : xx_wfE cs.length nk e1) (hrest : xx_wfs cs.length nk rest) (har : ∀ kd n ct, e1 = .inl (kd, (n, ct)) → ∃ n0 ct0, e0 = .inl (kd, (n0, ct0)))
    (hP : va_P D xx_cl (xx_gW ρ (w.set pp (i, e1))) H1) (hD : va_D A (xx_gW ρ (w.set pp (i, e1)))) (hS : va_S A s.heap H1 locs1) : xx_ok s A D ρ tys cs (w.set pp (i, e1)) nk ls rest H1 locs1 := by
  obtain ⟨q1, q2, q3, q4, q5, q6, q7, q8, q9, q10⟩ := ho
  have hi : i < nk := (q2 _ (List.mem_of_getElem? hat)).1
  refine ⟨q1, fun q hq => ?_, q3, hrest, q5, q6, ?_, hP, hD, hS⟩
  · rcases List.mem_or_eq_of_mem_set hq with h | h
    · exact q2 q h
    · rw [h]
      exact ⟨hi, hw1⟩
  · intro j kd n ct hm
    rcases List.mem_or_eq_of_mem_set hm with h | h
    · exact q7 j kd n ct h
    · cases h
      obtain ⟨n0, ct0, he⟩ := har kd n ct rfl
      rw [he] at hat
      exact q7 i kd n0 ct0 (List.mem_of_getElem? hat)
theorem xx_hputf_ok {idx : Nat} (hC : xx_ctx p R s m args meth c M A) (hd : decode M.2.1 pc = .ok (.putfield idx, 3)) (hF : xx_okF M idx ops true = true)
    (ho : xx_ok s A D ρ tys cs w nk ls st H locs) (hv : lv_has lsA M.2.2.1 (xx_gL ρ ls)) (h : xx_hputf M scr ops cs w nk nc ns ls st k = some outs) (kk : xx_KK p l e R s m args below meth c Q M A D k outs cs nk ρ (pc + 3)) : W p l e R s m args below meth c H locs nc ns Q (F0 m pc lsA (st.map (xx_g ρ))) := by
  obtain ⟨hx, hb, hml, hown, hts, hN, hAO, hA, hR, hin⟩ := hC
  obtain ⟨hi, hwW, hwl, hws, hnk, hK, har, hP, hD, hS⟩ := id ho
  simp only [xx_hputf] at h
  split at h
  · rename_i ci f q mode
    split at h
    · rename_i v i rest
      split at h
      · rename_i pp cj fs hf
        split at h
        · rename_i hcj
          rw [Bool.and_eq_true, Bool.and_eq_true] at hcj
          obtain ⟨hcj, hlen, hfit⟩ := hcj
          have hcj := Nat.eq_of_beq_eq_true hcj
          subst hcj
          have hlen' : f < fs.length := Nat.lt_of_lt_of_le (Nat.lt_succ_self _) (Nat.le_of_ble_eq_true hlen)
          simp only [xx_set_eq] at h
          have hat := xx_fnd_at hf
          have hg := xx_gW_at (ρ := ρ) hat
          obtain ⟨hn1, hn2⟩ := xx_fit_ok ρ hfit
          have hwe : xx_wfE cs.length nk (.inr (cj, fs.set f v)) := fun u hu => by
            rcases List.mem_or_eq_of_mem_set hu with h9 | h9
            · exact (hwW _ (List.mem_of_getElem? hat)).2 u h9
            · rw [h9]
              exact xx_wfs_hd hws
          have hset : (xx_gW ρ w).set pp (ρ.2.1 i, .inr (cj, (fs.map (xx_g ρ)).set f (xx_g ρ v))) = xx_gW ρ (w.set pp (i, .inr (cj, fs.set f v))) := by
            rw [← xx_gW_set]
            congr 2
            show _ = Sum.inr (cj, (fs.set f v).map (xx_g ρ))
            rw [List.map_set]
          have next : ∀ (H1 : Heap) (locs1 : List Loc), va_P D xx_cl ((xx_gW ρ w).set pp (ρ.2.1 i, .inr (cj, (fs.map (xx_g ρ)).set f (xx_g ρ v)))) H1 → va_D A ((xx_gW ρ w).set pp (ρ.2.1 i, .inr (cj, (fs.map (xx_g ρ)).set f (xx_g ρ v)))) → va_S A s.heap H1 locs1 → W p l e R s m args below meth c H1 locs1 nc ns Q (F0 m (pc + 3) lsA (rest.map (xx_g ρ))) := by
            intro H1 locs1 hP1 hD1 hS1
            rw [hset] at hP1 hD1
            exact kk _ _ _ _ _ _ _ ρ tys H1 locs1 lsA h (xx_ag_rf _ _ _) (Nat.le_refl _) (Nat.le_refl _) (ho.setc hat hwe (xx_wfs_tl (xx_wfs_tl hws)) (fun _ _ _ h9 => by cases h9) hP1 hD1 hS1) hv
          have hlm : f < (fs.map (xx_g ρ)).length := by rw [List.length_map]; exact hlen'
          simp only [xx_okF] at hF
          split at hF
          · rename_i C T N hcl
            rw [Bool.and_eq_true] at hF
            obtain ⟨hF1, hF2⟩ := hF
            have hfN : f < N := Nat.lt_of_lt_of_le (Nat.lt_succ_self _) (Nat.le_of_ble_eq_true hF1)
            split at hF2
            · rw [Bool.and_eq_true] at hF2
              have hfin : (T f).2.2.2 = false := by simpa using hF2.2
              exact va_put (D := D) (cl := xx_cl) hx hb hts (xx_cl_in hcl) (xx_ty cj) (xx_cl_ty hcl) (xx_cl_nm hcl) hown hK hP hD hS pp hg hcl f hfN (hts _ (xx_inTB (of_decide_eq_true hF2.1) rfl)) (fun _ h9 => h9) hfin (xx_cl_ty hcl f hfN) hn1 hn2 hlm hd next
            · rw [Bool.and_eq_true] at hF2
              have hfin : (T f).2.2.2 = false := by simpa using hF2.2
              exact va_putN (D := D) (cl := xx_cl) hx hb hts (xx_cl_in hcl) (xx_ty cj) (xx_cl_ty hcl) (xx_cl_nm hcl) hown hK hP hD hS pp hg hcl f hfN (va_Nw.use rfl (hN _ (xx_inNL (of_decide_eq_true hF2.1) rfl))) (fun _ h9 => h9) hfin (xx_cl_ty hcl f hfN) hn1 hn2 hlm hd next
            · rw [Bool.and_eq_true, Bool.and_eq_true, Bool.and_eq_true, Bool.and_eq_true] at hF2
              obtain ⟨g1, g2, g3, g4, g5⟩ := hF2
              exact va_putF (D := D) (cl := xx_cl) hx hb hts (xx_cl_in hcl) (xx_ty cj) (xx_cl_ty hcl) (xx_cl_nm hcl) hown hK hP hD hS pp hg hcl f hfN (hts _ (xx_inTB (of_decide_eq_true g1) rfl)) (fun _ h9 => h9) g5 (hin (of_decide_eq_true g3)) (of_decide_eq_true g4) (xx_cl_ty hcl f hfN) hn1 hn2 hlm hd next
            · cases hF2
          · cases hF
        · cases h
      · cases h
    · cases h
  · cases h
end XF
