/-! arrays, statics, lengths -/
section YA
variable {p : Program} {l : Launch} {e : Env} {R : Room} {s : State} {m : MethodId} {args : Array Value} {below : List Frame} {meth : Method} {c : Code} {Q : State → Prop} {M : xx_M} {A : Nat → Prop} {D : va_G} {ls : yy_L} {st : List yy_U} {tys : List (ClassId × FieldType)} {H : Heap} {locs : List Loc} {lsA : Array Slot} {pc d nc ns : Nat} {ops : List Nat} {P : yy_P} {α : Nat → Nat} {cls : Nat → ClassId} {ω : yy_O}
theorem yy_iald_ok {pc' : Nat} {ls' : yy_L} {st' : List yy_U} {ω' : yy_O} (hC : yy_ctx p R s m args c M A P α d nc ns) (hd : decode M.2.1 pc = .ok (.iaload, 1)) (hr : yy_rep P.1 s A D α cls tys ω H locs) (hv : lv_has lsA M.2.2.1 (yy_gL α ls))
    (h : yy_hiald P M d pc 1 ops ls st ω = some (.inl (pc', (ls', (st', ω'))))) (kk : yy_KK p l e R s m args below meth c Q M A D tys P α cls nc ns pc' ls' st' ω') : W p l e R s m args below meth c H locs nc ns Q (F0 m pc lsA (st.map (yy_g α))) := by
  obtain ⟨hx, hb, hml, hown, hts, hN, hA, hR, hE, hsc⟩ := hC
  obtain ⟨hK, har, hP, hD, hS⟩ := id hr
  simp only [yy_hiald] at h
  split at h
  · rename_i x k rest
    split at h
    · rename_i hk
      have hk := Nat.eq_of_beq_eq_true hk
      subst hk
      split at h
      · rename_i L xs hscr
        split at h
        · rename_i hix
          obtain ⟨rfl, rfl, rfl, rfl⟩ := yy_nx_eq h
          rw [hscr] at hsc
          exact va_sld hx hb hsc.1 hsc.2.1 hsc.2.2 hS (yy_ix_ok hix) hd (kk H locs lsA hr hv)
        · cases h
      · cases h
    · split at h
      · rename_i n rs hG
        split at h
        · rename_i hix
          obtain ⟨rfl, rfl, rfl, rfl⟩ := yy_nx_eq h
          obtain ⟨t0, ht0⟩ := har _ _ _ _ hG
          exact va_iald (D := D) (cl := xx_cl) hx hb hK hP k t0 (yy_gW_at hG) ht0 (yy_ix_ok hix) hd (kk H locs lsA hr hv)
        · cases h
      · cases h
  · cases h
theorem yy_bald_ok {pc' : Nat} {ls' : yy_L} {st' : List yy_U} {ω' : yy_O} (hC : yy_ctx p R s m args c M A P α d nc ns) (hd : decode M.2.1 pc = .ok (.baload, 1)) (hr : yy_rep P.1 s A D α cls tys ω H locs) (hv : lv_has lsA M.2.2.1 (yy_gL α ls))
    (h : yy_hbald P M d pc 1 ops ls st ω = some (.inl (pc', (ls', (st', ω'))))) (kk : yy_KK p l e R s m args below meth c Q M A D tys P α cls nc ns pc' ls' st' ω') : W p l e R s m args below meth c H locs nc ns Q (F0 m pc lsA (st.map (yy_g α))) := by
  obtain ⟨hx, hb, hml, hown, hts, hN, hA, hR, hE, hsc⟩ := hC
  obtain ⟨hK, har, hP, hD, hS⟩ := id hr
  simp only [yy_hbald] at h
  split at h
  · rename_i x k rest
    split at h
    · rename_i hk
      have hk := Nat.eq_of_beq_eq_true hk
      subst hk
      split at h
      · rename_i hix
        obtain ⟨rfl, rfl, rfl, rfl⟩ := yy_nx_eq h
        obtain ⟨z1, z2, z3, z4, z5⟩ := hE
        obtain ⟨o1, o2, o3, o4⟩ := z5.1 0 (by decide)
        exact va_tb hx hb o4 hS (yy_ix_ok hix) rfl hd (kk H locs lsA hr hv)
      · cases h
    · split at h
      · rename_i kd n rs hG
        obtain ⟨t0, ht0⟩ := har _ _ _ _ hG
        split at h
        · split at h
          · rename_i hix
            rw [Bool.and_eq_true] at hix
            have hkd := Nat.eq_of_beq_eq_true hix.1
            subst hkd
            obtain ⟨rfl, rfl, rfl, rfl⟩ := yy_nx_eq h
            exact va_bald (D := D) (cl := xx_cl) hx hb hK hP k t0 (yy_gW_at hG) ht0 (yy_ix_ok hix.2) hd (kk H locs lsA hr hv)
          · cases h
        · split at h
          · rename_i hix
            rw [Bool.and_eq_true] at hix
            have hkd := Nat.eq_of_beq_eq_true hix.1
            subst hkd
            obtain ⟨rfl, rfl, rfl, rfl⟩ := yy_nx_eq h
            exact va_zald (D := D) (cl := xx_cl) hx hb hK hP k t0 (yy_gW_at hG) ht0 (yy_ix_ok hix.2) hd (kk H locs lsA hr hv)
          · cases h
        · cases h
      · cases h
  · cases h
theorem yy_lald_ok {pc' : Nat} {ls' : yy_L} {st' : List yy_U} {ω' : yy_O} (hC : yy_ctx p R s m args c M A P α d nc ns) (hd : decode M.2.1 pc = .ok (.laload, 1)) (hr : yy_rep P.1 s A D α cls tys ω H locs) (hv : lv_has lsA M.2.2.1 (yy_gL α ls))
    (h : yy_hlald P M d pc 1 ops ls st ω = some (.inl (pc', (ls', (st', ω'))))) (kk : yy_KK p l e R s m args below meth c Q M A D tys P α cls nc ns pc' ls' st' ω') : W p l e R s m args below meth c H locs nc ns Q (F0 m pc lsA (st.map (yy_g α))) := by
  obtain ⟨hx, hb, hml, hown, hts, hN, hA, hR, hE, hsc⟩ := hC
  obtain ⟨hK, har, hP, hD, hS⟩ := id hr
  simp only [yy_hlald] at h
  split at h
  · rename_i x k rest
    split at h
    · rename_i hk
      have hk := Nat.eq_of_beq_eq_true hk
      subst hk
      split at h
      · rename_i hix
        obtain ⟨rfl, rfl, rfl, rfl⟩ := yy_nx_eq h
        obtain ⟨z1, z2, z3, z4, z5⟩ := hE
        exact va_tl hx hb z2 hS (yy_ix_ok hix) rfl hd (kk H locs lsA hr hv)
      · cases h
    · split at h
      · rename_i n rs hG
        split at h
        · rename_i hix
          obtain ⟨rfl, rfl, rfl, rfl⟩ := yy_nx_eq h
          obtain ⟨t0, ht0⟩ := har _ _ _ _ hG
          exact va_lald (D := D) (cl := xx_cl) hx hb hK hP k t0 (yy_gW_at hG) ht0 (yy_ix_ok hix) hd (kk H locs lsA hr hv)
        · cases h
      · cases h
  · cases h
theorem yy_aald_ok {pc' : Nat} {ls' : yy_L} {st' : List yy_U} {ω' : yy_O} (hC : yy_ctx p R s m args c M A P α d nc ns) (hd : decode M.2.1 pc = .ok (.aaload, 1)) (hr : yy_rep P.1 s A D α cls tys ω H locs) (hv : lv_has lsA M.2.2.1 (yy_gL α ls))
    (h : yy_haald P M d pc 1 ops ls st ω = some (.inl (pc', (ls', (st', ω'))))) (kk : yy_KK p l e R s m args below meth c Q M A D tys P α cls nc ns pc' ls' st' ω') : W p l e R s m args below meth c H locs nc ns Q (F0 m pc lsA (st.map (yy_g α))) := by
  obtain ⟨hx, hb, hml, hown, hts, hN, hA, hR, hE, hsc⟩ := hC
  obtain ⟨hK, har, hP, hD, hS⟩ := id hr
  simp only [yy_haald] at h
  split at h
  · rename_i x k rest
    split at h
    · rename_i n rs hG
      split at h
      · rename_i hix
        obtain ⟨rfl, rfl, rfl, rfl⟩ := yy_nx_eq h
        obtain ⟨t0, ht0⟩ := har _ _ _ _ hG
        exact va_aldq (D := D) (cl := xx_cl) hx hb hK hP k t0 (yy_gW_at hG) ht0 (yy_ix_ok hix) hd (kk H locs lsA hr hv)
      · cases h
    · cases h
  · cases h
theorem yy_iast_ok {pc' : Nat} {ls' : yy_L} {st' : List yy_U} {ω' : yy_O} (hC : yy_ctx p R s m args c M A P α d nc ns) (hd : decode M.2.1 pc = .ok (.iastore, 1)) (hr : yy_rep P.1 s A D α cls tys ω H locs) (hv : lv_has lsA M.2.2.1 (yy_gL α ls))
    (h : yy_hiast P M d pc 1 ops ls st ω = some (.inl (pc', (ls', (st', ω'))))) (kk : yy_KK p l e R s m args below meth c Q M A D tys P α cls nc ns pc' ls' st' ω') : W p l e R s m args below meth c H locs nc ns Q (F0 m pc lsA (st.map (yy_g α))) := by
  obtain ⟨hx, hb, hml, hown, hts, hN, hA, hR, hE, hsc⟩ := hC
  obtain ⟨hK, har, hP, hD, hS⟩ := id hr
  simp only [yy_hiast] at h
  split at h
  · rename_i v x k rest
    split at h
    · rename_i n rs hG
      split at h
      · rename_i hix
        obtain ⟨rfl, rfl, rfl, rfl⟩ := yy_nx_eq h
        obtain ⟨t0, ht0⟩ := har _ _ _ _ hG
        exact va_iast (D := D) (cl := xx_cl) hx hb hK hP hD hS k t0 (yy_gW_at hG) ht0 (yy_ix_ok hix) hd (fun H1 locs1 hP1 hD1 hS1 => kk H1 locs1 lsA (hr.set hG (by rw [yy_gE_arr (by decide), yy_uI_at]) (fun i d' hi => yy_gE_uI hi) hP1 hD1 hS1) hv)
      · cases h
    · cases h
  · cases h
theorem yy_bast_ok {pc' : Nat} {ls' : yy_L} {st' : List yy_U} {ω' : yy_O} (hC : yy_ctx p R s m args c M A P α d nc ns) (hd : decode M.2.1 pc = .ok (.bastore, 1)) (hr : yy_rep P.1 s A D α cls tys ω H locs) (hv : lv_has lsA M.2.2.1 (yy_gL α ls))
    (h : yy_hbast P M d pc 1 ops ls st ω = some (.inl (pc', (ls', (st', ω'))))) (kk : yy_KK p l e R s m args below meth c Q M A D tys P α cls nc ns pc' ls' st' ω') : W p l e R s m args below meth c H locs nc ns Q (F0 m pc lsA (st.map (yy_g α))) := by
  obtain ⟨hx, hb, hml, hown, hts, hN, hA, hR, hE, hsc⟩ := hC
  obtain ⟨hK, har, hP, hD, hS⟩ := id hr
  simp only [yy_hbast] at h
  split at h
  · rename_i v x k rest
    split at h
    · rename_i kd n rs hG
      obtain ⟨t0, ht0⟩ := har _ _ _ _ hG
      split at h
      · split at h
        · rename_i hix
          rw [Bool.and_eq_true] at hix
          have hkd := Nat.eq_of_beq_eq_true hix.1
          subst hkd
          obtain ⟨rfl, rfl, rfl, rfl⟩ := yy_nx_eq h
          exact va_bast (D := D) (cl := xx_cl) hx hb hK hP hD hS k t0 (yy_gW_at hG) ht0 (yy_ix_ok hix.2) hd (fun H1 locs1 hP1 hD1 hS1 => kk H1 locs1 lsA (hr.set hG (by rw [yy_gE_arr (by decide), yy_uI_at, vp_nar_byte]) (fun i d' hi => yy_gE_uI hi) hP1 hD1 hS1) hv)
        · cases h
      · split at h
        · rename_i hix
          rw [Bool.and_eq_true, Bool.and_eq_true] at hix
          have hkd := Nat.eq_of_beq_eq_true hix.1
          subst hkd
          obtain ⟨rfl, rfl, rfl, rfl⟩ := yy_nx_eq h
          have hnv : vp_nar .boolean v = v := by
            unfold vp_nar
            rw [yy_bool (of_decide_eq_true hix.2.2)]
          exact va_zast (D := D) (cl := xx_cl) hx hb hK hP hD hS k t0 (yy_gW_at hG) ht0 (yy_ix_ok hix.2.1) hd (fun H1 locs1 hP1 hD1 hS1 => kk H1 locs1 lsA (hr.set hG (by rw [yy_gE_arr (by decide), yy_uI_at, hnv]) (fun i d' hi => yy_gE_uI hi) hP1 hD1 hS1) hv)
        · cases h
      · cases h
    · cases h
  · cases h
theorem yy_last_ok {pc' : Nat} {ls' : yy_L} {st' : List yy_U} {ω' : yy_O} (hC : yy_ctx p R s m args c M A P α d nc ns) (hd : decode M.2.1 pc = .ok (.lastore, 1)) (hr : yy_rep P.1 s A D α cls tys ω H locs) (hv : lv_has lsA M.2.2.1 (yy_gL α ls))
    (h : yy_hlast P M d pc 1 ops ls st ω = some (.inl (pc', (ls', (st', ω'))))) (kk : yy_KK p l e R s m args below meth c Q M A D tys P α cls nc ns pc' ls' st' ω') : W p l e R s m args below meth c H locs nc ns Q (F0 m pc lsA (st.map (yy_g α))) := by
  obtain ⟨hx, hb, hml, hown, hts, hN, hA, hR, hE, hsc⟩ := hC
  obtain ⟨hK, har, hP, hD, hS⟩ := id hr
  simp only [yy_hlast] at h
  split at h
  · rename_i v x k rest
    split at h
    · rename_i n rs hG
      split at h
      · rename_i hix
        obtain ⟨rfl, rfl, rfl, rfl⟩ := yy_nx_eq h
        obtain ⟨t0, ht0⟩ := har _ _ _ _ hG
        exact va_last (D := D) (cl := xx_cl) hx hb hK hP hD hS k t0 (yy_gW_at hG) ht0 (yy_ix_ok hix) hd (fun H1 locs1 hP1 hD1 hS1 => kk H1 locs1 lsA (hr.set hG (by show Sum.inl (cls k, (n, Sum.inr (Sum.inl ((yy_uL ω k x.toNatClampNeg v).2 k)))) = _; rw [yy_uL_at]) (fun i d' hi => yy_gE_uL hi) hP1 hD1 hS1) hv)
      · cases h
    · cases h
  · cases h
theorem yy_len_ok {pc' : Nat} {ls' : yy_L} {st' : List yy_U} {ω' : yy_O} (hC : yy_ctx p R s m args c M A P α d nc ns) (hd : decode M.2.1 pc = .ok (.arraylength, 1)) (hr : yy_rep P.1 s A D α cls tys ω H locs) (hv : lv_has lsA M.2.2.1 (yy_gL α ls))
    (h : yy_hlen P M d pc 1 ops ls st ω = some (.inl (pc', (ls', (st', ω'))))) (kk : yy_KK p l e R s m args below meth c Q M A D tys P α cls nc ns pc' ls' st' ω') : W p l e R s m args below meth c H locs nc ns Q (F0 m pc lsA (st.map (yy_g α))) := by
  obtain ⟨hx, hb, hml, hown, hts, hN, hA, hR, hE, hsc⟩ := hC
  obtain ⟨hK, har, hP, hD, hS⟩ := id hr
  simp only [yy_hlen] at h
  split at h
  · rename_i k rest
    split at h
    · rename_i hk
      have hk := Nat.eq_of_beq_eq_true hk
      subst hk
      split at h
      · rename_i L xs hscr
        obtain ⟨rfl, rfl, rfl, rfl⟩ := yy_nx_eq h
        rw [hscr] at hsc
        exact va_slen hx hb hsc.1 hsc.2.1 hsc.2.2 hS hd (kk H locs lsA hr hv)
      · cases h
    · split at h
      · rename_i hk
        have hk := Nat.eq_of_beq_eq_true hk
        subst hk
        obtain ⟨rfl, rfl, rfl, rfl⟩ := yy_nx_eq h
        obtain ⟨z1, z2, z3, z4, z5⟩ := hE
        obtain ⟨o1, o2, o3, o4⟩ := z5.1 0 (by decide)
        exact va_tlen hx hb o4 hS rfl hd (kk H locs lsA hr hv)
      · split at h
        · rename_i kd n rs hG
          obtain ⟨rfl, rfl, rfl, rfl⟩ := yy_nx_eq h
          obtain ⟨t0, ht0⟩ := har _ _ _ _ hG
          exact va_alen (D := D) (cl := xx_cl) hx hb hK hP k t0 (yy_gW_at hG) ht0 (v := Int32.ofNat n) rfl hd (kk H locs lsA hr hv)
        · cases h
  · cases h
theorem yy_gets_ok {T9 : List xx_M} {len idx pc' : Nat} {ls' : yy_L} {st' : List yy_U} {ω' : yy_O} (hC : yy_ctx p R s m args c M A P α d nc ns) (hd : decode M.2.1 pc = .ok (.getstatic idx, len)) (hW : yy_okW T9 M (.getstatic idx) len ops = true) (hr : yy_rep P.1 s A D α cls tys ω H locs) (hv : lv_has lsA M.2.2.1 (yy_gL α ls))
    (h : yy_hgets P M d pc len ops ls st ω = some (.inl (pc', (ls', (st', ω'))))) (kk : yy_KK p l e R s m args below meth c Q M A D tys P α cls nc ns pc' ls' st' ω') : W p l e R s m args below meth c H locs nc ns Q (F0 m pc lsA (st.map (yy_g α))) := by
  obtain ⟨hx, hb, hml, hown, hts, hN, hA, hR, hE, hsc⟩ := hC
  obtain ⟨hK, har, hP, hD, hS⟩ := id hr
  obtain ⟨z1, z2, z3, z4, z5⟩ := hE
  simp only [yy_okW, Bool.and_eq_true] at hW
  have hl3 := Nat.eq_of_beq_eq_true hW.1
  subst hl3
  have hW2 := hW.2
  clear hW
  simp only [yy_hgets] at h
  split at h
  · rename_i a b
    obtain ⟨rfl, rfl, rfl, rfl⟩ := yy_nx_eq h
    split at hW2
    · rename_i heq
      cases heq
      exact va_gets hx hb z1 hS hown (hts _ (xx_inTB (of_decide_eq_true hW2) rfl)) (fun _ h9 => h9) hd (kk H locs lsA hr hv)
    · rename_i heq
      cases heq
    · cases of_decide_eq_true hW2
  · rename_i a b
    obtain ⟨rfl, rfl, rfl, rfl⟩ := yy_nx_eq h
    split at hW2
    · rename_i heq
      cases heq
    · rename_i heq
      cases heq
      exact va_gets hx hb z3.1 hS hown (hts _ (xx_inTB (of_decide_eq_true hW2) rfl)) (fun _ h9 => h9) hd (kk H locs lsA hr hv)
    · cases of_decide_eq_true hW2
  · cases h
theorem yy_copy_ok {idx a b d1 d2 : Nat} {tl : List Nat} {pc' : Nat} {ls' : yy_L} {st' : List yy_U} {ω' : yy_O} (hC : yy_ctx p R s m args c M A P α d nc ns) (hd : decode M.2.1 pc = .ok (.invokestatic idx, 3)) (f1 : lw_tbl[a]? = some (.methodLink M.1.cls idx arraycopyName)) (f2 : lw_tbl[b]? = some (.native arraycopyName)) (f3 : lw_tbl[d1]? = some (.static arraycopyName)) (f4 : lw_tbl[d2]? = some (.initialized "java/lang/System"))
    (hr : yy_rep P.1 s A D α cls tys ω H locs) (hv : lv_has lsA M.2.2.1 (yy_gL α ls)) (h : yy_hstat P M d pc 3 (9 :: tl) ls st ω = some (.inl (pc', (ls', (st', ω'))))) (kk : yy_KK p l e R s m args below meth c Q M A D tys P α cls nc ns pc' ls' st' ω') : W p l e R s m args below meth c H locs nc ns Q (F0 m pc lsA (st.map (yy_g α))) := by
  obtain ⟨hx, hb, hml, hown, hts, hN, hA, hR, hE, hsc⟩ := hC
  obtain ⟨hK, har, hP, hD, hS⟩ := id hr
  simp only [yy_hstat] at h
  split at h
  · rename_i n dp k1 sp k0 rest
    split at h
    · rename_i n0 rs0 hG0
      split at h
      · rename_i n1 rs1 hG1
        split at h
        · rename_i hq
          simp only [Bool.and_eq_true] at hq
          obtain ⟨e1, e2, e3, e4, e5, e6, e7⟩ := hq
          obtain ⟨rfl, rfl, rfl, rfl⟩ := yy_nx_eq h
          have e1 := of_decide_eq_true e1
          have e2 := of_decide_eq_true e2
          have e3 := of_decide_eq_true e3
          have e4 := Nat.eq_of_beq_eq_true e4
          subst e1 e2 e4
          have e5 := xx_blt e5
          obtain ⟨t0, ht0⟩ := har _ _ _ _ hG0
          obtain ⟨t1, ht1⟩ := har _ _ _ _ hG1
          have hcl : n.toNatClampNeg = n0 := by
            show n.toInt.toNat = n0
            rw [e3]
            rfl
          have h00 : (0 : Int32).toNatClampNeg = 0 := by decide +kernel
          have hn0 : ¬ (0 : Int32) < 0 := by decide +kernel
          refine va_copyi (D := D) (cl := xx_cl) hx hb (hml.trans hv.1.symm) hown (hts _ (xx_inTB f1 rfl)) (hts _ (xx_inTB f2 rfl)) (hts _ (xx_inTB f3 rfl)) (hts _ (xx_inTB f4 rfl)) hK hP hD hS k0 k1 t0 t1 (yy_gW_at hG0) (yy_gW_at hG1) ht0 ht1 rfl hn0 hn0 ?_ ?_ ?_ (fun _ _ => rfl) (Nat.le_trans (Nat.le_of_ble_eq_true e6) hR.1) ?_ hd (fun H1 locs1 hP1 hD1 hS1 => ?_)
          · intro hq
            have : n.toInt < 0 := by
              have := Int32.lt_iff_toInt_lt.mp hq
              simpa using this
            omega
          · rw [h00, hcl]
            omega
          · rw [h00, hcl]
            omega
          · rw [yy_sum_ok]
            have := Nat.le_of_ble_eq_true e7
            have := Nat.le_of_ble_eq_true e6
            have := hR.2.1
            have := xx_nfw
            omega
          · rw [h00, hcl] at hP1 hD1
            refine kk H1 locs1 lsA (hr.set hG1 ?_ (fun i d' hi => yy_gE_uA hi) hP1 hD1 hS1) hv
            rw [yy_gE_arr (by decide), yy_uA_at]
            congr 4
            funext j
            unfold va_cpy
            simp only [Nat.zero_le, true_and, Nat.zero_add, Nat.sub_zero]
        · cases h
      · cases h
    · cases h
  · cases h
theorem yy_chk_ok {idx a b d1 d2 : Nat} {tl : List Nat} {pc' : Nat} {ls' : yy_L} {st' : List yy_U} {ω' : yy_O} (hC : yy_ctx p R s m args c M A P α d nc ns) (hd : decode M.2.1 pc = .ok (.invokestatic idx, 3)) (f1 : lw_tbl[a]? = some (.methodLink M.1.cls idx yJ0_checkIndex_df160)) (f2 : lw_tbl[b]? = some (.static yJ0_checkIndex_df160)) (f3 : lw_tbl[d1]? = some (.initialized yJ0_checkIndex_df160.cls)) (f4 : lw_tbl[d2]? = some (.code yJ0_checkIndex_df160 cJ0_checkIndex_df160 2 none))
    (hr : yy_rep P.1 s A D α cls tys ω H locs) (hv : lv_has lsA M.2.2.1 (yy_gL α ls)) (h : yy_hstat P M d pc 3 (7 :: tl) ls st ω = some (.inl (pc', (ls', (st', ω'))))) (kk : yy_KK p l e R s m args below meth c Q M A D tys P α cls nc ns pc' ls' st' ω') : W p l e R s m args below meth c H locs nc ns Q (F0 m pc lsA (st.map (yy_g α))) := by
  obtain ⟨hx, hb, hml, hown, hts, hN, hA, hR, hE, hsc⟩ := hC
  obtain ⟨hK, har, hP, hD, hS⟩ := id hr
  obtain ⟨z1, z2, z3, z4, z5⟩ := hE
  simp only [yy_hstat] at h
  split at h
  · rename_i n x rest
    split at h
    · rename_i hq
      simp only [Bool.and_eq_true] at hq
      obtain ⟨q1, q2, q3⟩ := hq
      obtain ⟨rfl, rfl, rfl, rfl⟩ := yy_nx_eq h
      have q1 := of_decide_eq_true q1
      have q2 := Nat.le_of_ble_eq_true q2
      have q3 := Nat.le_of_ble_eq_true q3
      obtain ⟨hfr, hlo, hce, hsl⟩ := hR
      refine xx_call (mc := 0) (ms := 0) (rest := st'.map (yy_g α)) (va_runS (As := [.int x, .int n]) (rest := st'.map (yy_g α)) (n := 2) (own := M.1.cls) (index := idx) (Ts := xx_TB) ⟨hx, hb, hml, hown, hts⟩ (yy_fy_met x n q1.1 q1.2) ⟨⟨rfl, rfl, by show 1 + 1 ≤ _; omega, by show 8 + (2 + 11) + 22 ≤ _; omega, ?_, List.mem_cons_self, hts _ (xx_inTB f4 rfl), hts _ (xx_inTB f3 rfl), ?_, ?_, hts _ (xx_inTB f1 rfl)⟩, hts _ (xx_inTB f2 rfl)⟩ ⟨?_, fun U hU hW => ⟨rfl, ?_⟩⟩ rfl rfl hv.1 rfl (lv_room (by rw [yy_sum_ok]; exact q3)) hd ⟨hce, hsl⟩) ?_
      · refine pay_in (big := xx_TB) hts (fun w hw => ?_)
        rcases List.mem_cons.mp hw with h | h
        · subst h
          exact xx_goodTB _ (xx_inTB f4 rfl)
        · exact xx_goodTB w h
      · exact ⟨by decide +kernel, by decide +kernel⟩
      · intro sig h9
        have h8 : (parseMethodDescriptor yJ0_checkIndex_df160.desc).map (fun d => d.parameters.length) = some 2 := by decide +kernel
        rw [h9] at h8
        exact (Option.some.inj h8).symm
      · intro a U g mk q
        exact ⟨q.1, va_Zq.moved (u := U) (U := U.calling g mk a) (Vm.Alike.refl U.vm) q.2⟩
      · show va_Zq _ _ _ _ U U.heap
        rw [hU]
        exact ((va_Zq.moved hW.alike z3.2).kept hS.2.1).narrow (fun _ h9 => h9.elim)
      · intro v st₀ t H1 L e0 e1 e2 hq9 hL
        obtain ⟨g1, g2⟩ := hq9
        cases g1
        have hL0 : L = [] := List.eq_nil_iff_forall_not_mem.mpr (fun q hq => hL q hq)
        subst hL0
        have hH : H1 = H := by rw [← e1, g2, e0]
        subst hH
        rw [List.append_nil]
        exact kk H1 locs lsA hr hv
    · cases h
  · cases h
theorem yy_max_ok {idx a b d1 d2 : Nat} {tl : List Nat} {pc' : Nat} {ls' : yy_L} {st' : List yy_U} {ω' : yy_O} (hC : yy_ctx p R s m args c M A P α d nc ns) (hd : decode M.2.1 pc = .ok (.invokestatic idx, 3)) (f1 : lw_tbl[a]? = some (.methodLink M.1.cls idx Lib.Math.max.name)) (f2 : lw_tbl[b]? = some (.static Lib.Math.max.name)) (f3 : lw_tbl[d1]? = some (.initialized "java/lang/Math")) (f4 : lw_tbl[d2]? = some (.code Lib.Math.max.name Lib.Math.max.code 2 (some .int)))
    (hr : yy_rep P.1 s A D α cls tys ω H locs) (hv : lv_has lsA M.2.2.1 (yy_gL α ls)) (h : yy_hstat P M d pc 3 (6 :: 0 :: tl) ls st ω = some (.inl (pc', (ls', (st', ω'))))) (kk : yy_KK p l e R s m args below meth c Q M A D tys P α cls nc ns pc' ls' st' ω') : W p l e R s m args below meth c H locs nc ns Q (F0 m pc lsA (st.map (yy_g α))) := by
  obtain ⟨hx, hb, hml, hown, hts, hN, hA, hR, hE, hsc⟩ := hC
  simp only [yy_hstat] at h
  split at h
  · rename_i y x rest
    split at h
    · rename_i hq
      simp only [Bool.and_eq_true] at hq
      obtain ⟨q2, q3⟩ := hq
      obtain ⟨rfl, rfl, rfl, rfl⟩ := yy_nx_eq h
      have q2 := Nat.le_of_ble_eq_true q2
      have q3 := Nat.le_of_ble_eq_true q3
      obtain ⟨hfr, hlo, hce, hsl⟩ := hR
      refine va_mmax hx hb (hml.trans hv.1.symm) hown (hts _ (xx_inTB f1 rfl)) (hts _ (xx_inTB f2 rfl)) (hts _ (xx_inTB f3 rfl)) (hts _ (xx_inTB f4 rfl)) (by omega) (by rw [yy_sum_ok]; omega) hce hsl hd ?_
      have hk := kk H locs lsA hr hv
      have e9 : (if x < y then y else x) = (match yy_rel .lt (x).toInt (y).toInt with
          | true => y
          | false => x) := by
        cases hq : yy_rel .lt (x).toInt (y).toInt with
        | true => exact if_pos (Int32.lt_iff_toInt_lt.mpr (yy_rel_ok.1 hq))
        | false => exact if_neg (fun h9 => yy_rel_ok.2 hq (Int32.lt_iff_toInt_lt.mp h9))
      rw [e9]
      exact hk
    · cases h
  · cases h
theorem yy_min_ok {idx a b d1 d2 : Nat} {tl : List Nat} {pc' : Nat} {ls' : yy_L} {st' : List yy_U} {ω' : yy_O} (hC : yy_ctx p R s m args c M A P α d nc ns) (hd : decode M.2.1 pc = .ok (.invokestatic idx, 3)) (f1 : lw_tbl[a]? = some (.methodLink M.1.cls idx Lib.Math.min.name)) (f2 : lw_tbl[b]? = some (.static Lib.Math.min.name)) (f3 : lw_tbl[d1]? = some (.initialized "java/lang/Math")) (f4 : lw_tbl[d2]? = some (.code Lib.Math.min.name Lib.Math.min.code 2 (some .int)))
    (hr : yy_rep P.1 s A D α cls tys ω H locs) (hv : lv_has lsA M.2.2.1 (yy_gL α ls)) (h : yy_hstat P M d pc 3 (6 :: 1 :: tl) ls st ω = some (.inl (pc', (ls', (st', ω'))))) (kk : yy_KK p l e R s m args below meth c Q M A D tys P α cls nc ns pc' ls' st' ω') : W p l e R s m args below meth c H locs nc ns Q (F0 m pc lsA (st.map (yy_g α))) := by
  obtain ⟨hx, hb, hml, hown, hts, hN, hA, hR, hE, hsc⟩ := hC
  simp only [yy_hstat] at h
  split at h
  · rename_i y x rest
    split at h
    · rename_i hq
      simp only [Bool.and_eq_true] at hq
      obtain ⟨q2, q3⟩ := hq
      obtain ⟨rfl, rfl, rfl, rfl⟩ := yy_nx_eq h
      have q2 := Nat.le_of_ble_eq_true q2
      have q3 := Nat.le_of_ble_eq_true q3
      obtain ⟨hfr, hlo, hce, hsl⟩ := hR
      refine va_mmin hx hb (hml.trans hv.1.symm) hown (hts _ (xx_inTB f1 rfl)) (hts _ (xx_inTB f2 rfl)) (hts _ (xx_inTB f3 rfl)) (hts _ (xx_inTB f4 rfl)) (by omega) (by rw [yy_sum_ok]; omega) hce hsl hd ?_
      have hk := kk H locs lsA hr hv
      have e9 : (if y < x then y else x) = (match yy_rel .lt (y).toInt (x).toInt with
          | true => y
          | false => x) := by
        cases hq : yy_rel .lt (y).toInt (x).toInt with
        | true => exact if_pos (Int32.lt_iff_toInt_lt.mpr (yy_rel_ok.1 hq))
        | false => exact if_neg (fun h9 => yy_rel_ok.2 hq (Int32.lt_iff_toInt_lt.mp h9))
      rw [e9]
      exact hk
    · cases h
  · cases h
end YA
