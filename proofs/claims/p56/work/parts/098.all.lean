/-- Model.layKnowledge() where nobody is there -/
def xx_rmL : Room := { frames := 3, cells := 0, slots := 0, locals := 77 }
def xx_LKok (l : Launch) : Prop := ∀ (D : va_G) (ρ : xx_Y) (tys : List (ClassId × FieldType)) (cs : xx_C) (w : xx_W) (nk o sz : Nat), xx_lk w o = true → xx_in ρ cs → xx_wfW cs.length nk w → nk ≤ xx_scr → xx_ar ρ tys w →
  Met l yX7_layKnowledge (Cond.code yX7_layKnowledge cX7_layKnowledge 4 none :: xx_TB) xx_rmL (xx_Pc D ρ tys w [.ref (ρ.2.1 o)] sz) (xx_Qc D [(cs, (w, (nk, none)))] ρ cs.length nk (va_A (xx_gW ρ w) sz)) 0 0 (va_A (xx_gW ρ w) sz)
theorem xx_spl_ok {cs : xx_C} {w : xx_W} {ix v : xx_V} {i n : Nat} {lo : Int} (h : xx_spl cs w ix i = some (v, (lo, n))) : ∃ r, xx_iv cs v = some r ∧ lo = r.1 ∧ r.2 < lo + n := by
  simp only [xx_spl] at h
  split at h
  · split at h
    · split at h
      · rename_i r hr
        split at h
        · rename_i n0 hn0
          split at h
          · cases h
            refine ⟨r, hr, rfl, ?_⟩
            have : r.2 - r.1 = (n0 : Int) := hn0
            omega
          · cases h
        · cases h
      · cases h
    · cases h
  · cases h
theorem xx_pick_ok {b : Bool} {cs : xx_C} {w : xx_W} {st : List xx_V} {v : xx_V} {n : Nat} {lo : Int} (h : xx_pick b cs w st = some (v, (lo, n))) : ∃ r, xx_iv cs v = some r ∧ lo = r.1 ∧ r.2 < lo + n := by
  simp only [xx_pick] at h
  split at h
  · split at h
    · exact xx_spl_ok h
    · cases h
  · split at h
    · exact xx_spl_ok h
    · cases h
set_option maxHeartbeats 4000000 in
theorem xx_sound {l : Launch} {T : List xx_M} (hT : ∀ M ∈ T, xx_okM T M = true) (hLK : xx_LKok l) : ∀ n, xx_Snd l T n := by
  intro n
  induction n with
  | zero =>
    intro M hM p e R s m args below meth c Q A D hC scr ct outs0 ρ0 nS0 nR0 hct KR KC pc cur cs w nk nc ns ls st outs ρ tys H locs lsA h
    cases h
  | succ n IH =>
    intro M hM p e R s m args below meth c Q A D hC scr ct outs0 ρ0 nS0 nR0 hct KR KC pc cur cs w nk nc ns ls st outs ρ tys H locs lsA h hcur hout hag hS0 hR0 hsc ho hv
    have hrow : ∀ z ∈ M.2.2.2.2.2, xx_okI T M z = true := by
      have hM2 := hM
      unfold xx_okM at hM2
      rw [Bool.and_eq_true, Bool.and_eq_true] at hM2
      exact List.all_eq_true.mp hM2.2.1
    have go : ∀ {pc' : Nat} {cur' : List xx_I} {cs' : xx_C} {w' : xx_W} {nk' nc' ns' : Nat} {ls' : xx_L} {st' : List xx_V} {outs' : List xx_O} {ρ' : xx_Y} {tys' : List (ClassId × FieldType)} {H' : Heap} {locs' : List Loc} {lsA' : Array Slot}, xx_exec T n M scr ct pc' cur' cs' w' nk' nc' ns' ls' st' = some outs' → (∀ z ∈ cur', z ∈ M.2.2.2.2.2) → (∀ o ∈ outs', o ∈ outs) → xx_ag cs.length nk ρ ρ' → cs.length ≤ cs'.length → nk ≤ nk' → xx_ok s A D ρ' tys' cs' w' nk' ls' st' H' locs' → lv_has lsA' M.2.2.1 (xx_gL ρ' ls') → W p l e R s m args below meth c H' locs' nc' ns' Q (F0 m pc' lsA' (st'.map (xx_g ρ'))) :=
      fun h1 h2 h3 h4 h5 h6 h7 h8 => IH M hM p e R s m args below meth c Q A D hC scr ct outs0 ρ0 nS0 nR0 hct KR KC _ _ _ _ _ _ _ _ _ _ _ _ _ _ _ h1 h2 (fun o ho => hout o (h3 o ho)) (xx_ag_tr hag h4 hS0 hR0) (Nat.le_trans hS0 h5) (Nat.le_trans hR0 h6) (hsc.go h4 h5) h7 h8
    have hx := hC.1
    have hb := hC.2.1
    obtain ⟨hin, hwW, hwl, hws, hnk, hwo⟩ := id ho
    simp only [xx_exec, xx_row] at h
    split at h
    · cases h
    · rename_i ent tl
      split at h
      · cases h
      · rename_i hpcb
        have hpc := Nat.eq_of_beq_eq_true hpcb
        clear hpcb
        revert h
        have hent := hrow ent (hcur ent List.mem_cons_self)
        have htl : ∀ z ∈ tl, z ∈ M.2.2.2.2.2 := fun z hz => hcur z (List.mem_cons_of_mem _ hz)
        obtain ⟨epc, i, len, ops0⟩ := ent
        have hpc2 : epc = pc := hpc
        clear hpc
        subst hpc2
        unfold xx_okI at hent
        rw [Bool.and_eq_true, Bool.and_eq_true] at hent
        have hd : decode M.2.1 epc = .ok (i, len) := of_decide_eq_true hent.1
        have hW0 : xx_okW T M i len (xx_ops ops0) = true := hent.2.1
        have hT0 : xx_okT epc i = true := hent.2.2
        clear hent
        -- a way of a test or switch
        have nxt : ∀ {cs' : xx_C} {o' : List xx_O} {st' : List xx_V} {pc' : Nat}, xx_nx (xx_exec T n) M scr ct pc' tl cs' w nk nc ns ls st' = some o' → xx_in ρ cs' → cs'.length = cs.length → (∀ z ∈ o', z ∈ outs) → xx_wfs cs.length nk st' → W p l e R s m args below meth c H locs nc ns Q (F0 m pc' lsA (st'.map (xx_g ρ))) := by
          intro cs' o' st' pc' h1 h2 h3 h4 h5
          simp only [xx_nx, xx_fN_eq] at h1
          exact go h1 htl h4 (xx_ag_rf _ _ _) (by omega) (Nat.le_refl _) (ho.cs' h2 h3 h5) hv
        have far : ∀ {cs' : xx_C} {o' : List xx_O} {st' : List xx_V} {t : Int}, xx_to (xx_exec T n) M scr ct t cs' w nk nc ns ls st' = some o' → xx_in ρ cs' → cs'.length = cs.length → (∀ z ∈ o', z ∈ outs) → xx_wfs cs.length nk st' → ∃ tgt : Nat, t = (tgt : Int) ∧ W p l e R s m args below meth c H locs nc ns Q (F0 m tgt lsA (st'.map (xx_g ρ))) := by
          intro cs' o' st' t h1 h2 h3 h4 h5
          cases t with
          | ofNat tg =>
            simp only [xx_to, xx_fN_eq] at h1
            exact ⟨tg, rfl, go h1 (xx_from_sub _ _) h4 (xx_ag_rf _ _ _) (by omega) (Nat.le_refl _) (ho.cs' h2 h3 h5) hv⟩
          | negSucc tg => cases h1
        have calle : ∀ {M' : xx_M} {vs rest : List xx_V} {Qr : (∀ (mc ms : Nat) (Qa : State → Outcome → State → Prop) (free : Addr → Prop), Prop)}, xx_okM T M' = true → xx_callee (xx_exec T n) M M' scr ct vs rest epc tl cs w nk nc ns ls = some outs → xx_wfs cs.length nk vs → xx_wfs cs.length nk rest → len = 3 →
            (∀ {outs1 : List xx_O}, Met l M'.1 (xx_ws M') (xx_rm M') (xx_Pc D ρ tys w (vs.map (xx_g ρ)) H.size) (xx_Qc D outs1 ρ cs.length nk (va_A (xx_gW ρ w) H.size)) M'.2.2.2.2.1.2.2.1 M'.2.2.2.2.1.2.2.2 (va_A (xx_gW ρ w) H.size) → xx_fits M M' nc ns vs rest = true → va_Run p l e R s m args below meth c H locs nc ns M'.2.2.2.2.1.2.2.1 M'.2.2.2.2.1.2.2.2 (F0 m epc lsA (st.map (xx_g ρ))) (rest.map (xx_g ρ)) (xx_Qc D outs1 ρ cs.length nk (va_A (xx_gW ρ w) H.size) (vs.map (xx_g ρ)).toArray) (va_A (xx_gW ρ w) H.size)) → W p l e R s m args below meth c H locs nc ns Q (F0 m epc lsA (st.map (xx_g ρ))) := by
          intro M' vs rest _ hM' h1 hvs hrest hlen run
          simp only [xx_callee] at h1
          split at h1
          · rename_i hfit
            rw [xx_args_eq] at h1
            split at h1
            · rename_i outs1 hex
              simp only [xx_fN_eq] at h1
              have hsum : xx_sum vs ≤ M'.2.2.1 := by
                simp only [xx_fits, Bool.and_eq_true] at hfit
                exact Nat.le_of_ble_eq_true hfit.2.2.2.2.2
              have met := xx_met IH hM' (D := D) (ρ := ρ) (tys := tys) H.size hex hin hwW hvs hnk hwo.2.1 hsum
              refine xx_call (run met hfit) (fun v st₀ t H1 L g0 g1 g2 g3 g4 => ?_)
              obtain ⟨⟨o, hoo, v', hv', hQo⟩, hF⟩ := g3
              cases hv'
              obtain ⟨ρ', tys', a1, a2, a3, a4, a5⟩ := xx_after ho hC.2.2.2.2.2.2.2.1 hrest g0 g1 g2 hQo hF g4
              obtain ⟨x, hx9, sx⟩ := xx_all_ok h1 o hoo
              have hlv : lv_has lsA M.2.2.1 (xx_gL ρ' ls) := by rw [xx_gL_ag a1 hwl]; exact hv
              obtain ⟨oc, ow, onk, ov⟩ := o
              cases ov with
              | none =>
                simp only [xx_back, xx_nx, xx_fN_eq] at hx9
                have := go hx9 htl sx a1 a2 a3 a5 hlv
                rw [a4]
                have e9 : rest.map (xx_g ρ') = rest.map (xx_g ρ) := xx_gs_ag a1 hrest
                show W _ _ _ _ _ _ _ _ _ _ _ _ _ _ _ (F0 m (epc + 3) lsA (rest.map (xx_g ρ)))
                rw [← e9]
                exact this
              | some u =>
                simp only [xx_back, xx_nx, xx_fN_eq] at hx9
                have := go hx9 htl sx a1 a2 a3 a5 hlv
                rw [a4]
                have e9 : rest.map (xx_g ρ') = rest.map (xx_g ρ) := xx_gs_ag a1 hrest
                show W _ _ _ _ _ _ _ _ _ _ _ _ _ _ _ (F0 m (epc + 3) lsA (xx_g ρ' u :: rest.map (xx_g ρ)))
                rw [← e9]
                exact this
            · cases h1
          · cases h1
        have arr : ∀ {hh : xx_H} {b : Bool} {ops : List Nat}, xx_karr hh b (xx_exec T n) T M scr ct ops epc (epc, (i, (len, ops0))) tl cs w nk nc ns ls st = some outs → (hh M scr ops cs w nk nc ns ls st (xx_nx (xx_exec T n) M scr ct (epc + len) tl) = some outs → W p l e R s m args below meth c H locs nc ns Q (F0 m epc lsA (st.map (xx_g ρ)))) → W p l e R s m args below meth c H locs nc ns Q (F0 m epc lsA (st.map (xx_g ρ))) := by
          intro hh b ops h1 row
          simp only [xx_karr] at h1
          split at h1
          · rename_i v lo nn hpk
            obtain ⟨r, g1, g2, g3⟩ := xx_pick_ok hpk
            obtain ⟨-, b1, b2, -, -⟩ := xx_iv_ok hin g1
            obtain ⟨cs', o', a1, a2, a3, a4⟩ := xx_upto_ok hin g1 nn lo outs (by omega) (by omega) h1
            exact go a3 hcur a4 (xx_ag_rf _ _ _) (by omega) (Nat.le_refl _) (ho.cs' a1 a2 hws) hv
          · exact row h1
        have kk0 : xx_KK p l e R s m args below meth c Q M A D (xx_nx (xx_exec T n) M scr ct (epc + len) tl) outs cs nk ρ (epc + len) := by
          intro cs' w' nk' nc' ns' ls' st' ρ' tys' H' locs' lsA' h1 h2 h3 h4 h5 h6
          simp only [xx_nx, xx_fN_eq] at h1
          exact go h1 htl (fun o ho => ho) h2 h3 h4 h5 h6
        have main : ∀ ops : List Nat, xx_ops ops0 = ops → xx_go (xx_exec T n) T M scr ct ops epc (epc, (i, (len, ops0))) tl cs w nk nc ns ls st = some outs → W p l e R s m args below meth c H locs nc ns Q (F0 m epc lsA (st.map (xx_g ρ))) := by
          intro ops hops h
          rw [hops] at hW0
          simp only [xx_go] at h
          split at h
          · rename_i hd9 hdisp
            exact xx_step_ok hC hd hW0 hdisp hsc ho hv h kk0
          · rename_i kd9 hdisp
            cases i
            case goto off =>
              cases hdisp
              have hl3 := Nat.eq_of_beq_eq_true hW0
              subst hl3
              obtain ⟨tgt, ht, hgo⟩ := far h hin rfl (fun z hz => hz) hws
              exact lv_goto hx hb hd ht hgo
            case ifCond cnd off =>
              cases hdisp
              have hl3 := Nat.eq_of_beq_eq_true hW0
              subst hl3
              simp only [xx_kif] at h
              split at h
              · rename_i a rest
                obtain ⟨i1, i2, k1, k2⟩ := xx_br_ok hin h
                rw [List.map_cons, xx_g_isI i1]
                have z0 : (xx_i ρ (.inl 0)).toInt = 0 := by show (Int32.ofInt 0).toInt = 0; decide +kernel
                rw [z0] at k1 k2
                · obtain ⟨tgt, htgt⟩ := Int.eq_ofNat_of_zero_le ((xx_le_iff _ _).mp hT0)
                  refine xx_ifc hx hb hd htgt (fun hr => ?_) (fun hr => ?_)
                  · obtain ⟨cs', o', g1, g2, g3, g4⟩ := k1 hr
                    obtain ⟨t2, ht2, hgo⟩ := far g3 g1 g2 g4 (xx_wfs_tl hws)
                    have : t2 = tgt := by omega
                    subst this
                    exact hgo
                  · obtain ⟨cs', o', g1, g2, g3, g4⟩ := k2 hr
                    exact nxt g3 g1 g2 g4 (xx_wfs_tl hws)
              · cases h
            case if_icmp cnd off =>
              cases hdisp
              have hl3 := Nat.eq_of_beq_eq_true hW0
              subst hl3
              simp only [xx_kicmp] at h
              split at h
              · rename_i b a rest
                obtain ⟨i1, i2, k1, k2⟩ := xx_br_ok hin h
                rw [List.map_cons, List.map_cons, xx_g_isI i1, xx_g_isI i2]
                · obtain ⟨tgt, htgt⟩ := Int.eq_ofNat_of_zero_le ((xx_le_iff _ _).mp hT0)
                  refine xx_icmp hx hb hd htgt (fun hr => ?_) (fun hr => ?_)
                  · obtain ⟨cs', o', g1, g2, g3, g4⟩ := k1 hr
                    obtain ⟨t2, ht2, hgo⟩ := far g3 g1 g2 g4 (xx_wfs_tl (xx_wfs_tl hws))
                    have : t2 = tgt := by omega
                    subst this
                    exact hgo
                  · obtain ⟨cs', o', g1, g2, g3, g4⟩ := k2 hr
                    exact nxt g3 g1 g2 g4 (xx_wfs_tl (xx_wfs_tl hws))
              · cases h
            case tableswitch d lo hi offs =>
              cases hdisp
              simp only [xx_ktab] at h
              split at h
              · rename_i v0 rest
                split at h
                · rename_i r hr
                  split at h
                  · rename_i hc
                    rw [Bool.and_eq_true, xx_eqI_iff] at hc
                    obtain ⟨n1, n2, n3⟩ := xx_nrm_ok hin v0
                    have hi1 := (xx_iv_ok hin hr).1
                    rw [n3] at hi1
                    obtain ⟨cs', o', g1, g2, g3, g4⟩ := xx_sw_ok hin hr _ _ _ hc.1 (xx_rng _).1 h
                    obtain ⟨tgt, ht, hgo⟩ := far g3 g1 g2 g4 (xx_wfs_tl hws)
                    rw [n2] at ht
                    rw [List.map_cons, xx_g_isI hi1]
                    by_cases hlt : (xx_i ρ v0).toInt < lo ∨ hi < (xx_i ρ v0).toInt
                    · have hoff := xx_prs_off (d := d) (x := (xx_i ρ v0).toInt) offs.toList lo (fun j hj => by have := hj.1; have := hj.2; have := hc.2; omega)
                      rw [hoff] at ht
                      exact lv_tableOut hx hb hd hlt ht hgo
                    · have h9 : ¬ (xx_i ρ v0).toInt < lo := fun q => hlt (Or.inl q)
                      have h8 : ¬ hi < (xx_i ρ v0).toInt := fun q => hlt (Or.inr q)
                      have hj : ((xx_i ρ v0).toInt - lo).toNat < offs.toList.length := by have := hc.2; omega
                      have hat : offs.toList[((xx_i ρ v0).toInt - lo).toNat]? = some (offs.toList[((xx_i ρ v0).toInt - lo).toNat]) := List.getElem?_eq_getElem hj
                      have hoff := xx_prs_at (d := d) (x := (xx_i ρ v0).toInt) offs.toList lo _ _ hat (by omega)
                      rw [hoff] at ht
                      exact lv_tableIn hx hb hd h9 h8 (by rw [← Array.getElem?_toList]; exact hat) ht hgo
                  · cases h
                · cases h
              · cases h
            case lookupswitch d ps =>
              cases hdisp
              simp only [xx_klook] at h
              split at h
              · rename_i v0 rest
                split at h
                · rename_i r hr
                  split at h
                  · rename_i hc
                    obtain ⟨n1, n2, n3⟩ := xx_nrm_ok hin v0
                    have hi1 := (xx_iv_ok hin hr).1
                    rw [n3] at hi1
                    obtain ⟨cs', o', g1, g2, g3, g4⟩ := xx_sw_ok hin hr _ _ _ hc (xx_rng _).1 h
                    obtain ⟨tgt, ht, hgo⟩ := far g3 g1 g2 g4 (xx_wfs_tl hws)
                    rw [n2] at ht
                    rw [List.map_cons, xx_g_isI hi1]
                    exact lv_lookup hx hb hd hW0 rfl ht hgo
                  · cases h
                · cases h
              · cases h
            case ireturn =>
              cases hdisp
              have hl3 := Nat.eq_of_beq_eq_true hW0
              subst hl3
              simp only [xx_kiret] at h
              split at h
              · rename_i v
                split at h
                · rename_i r hr
                  split at h
                  · rename_i hc
                    rw [Bool.and_eq_true] at hc
                    simp only [xx_room, Bool.and_eq_true] at hc
                    simp only [xx_fV_eq] at h
                    cases h
                    obtain ⟨n1, n2, n3⟩ := xx_nrm_ok hin v
                    obtain ⟨i1, b1, b2, -, -⟩ := xx_iv_ok hin hr
                    have hwv := xx_wfs_hd hws
                    have := KR _ (hout _ List.mem_cons_self) ρ tys H locs nc ns lsA epc hag hS0 hR0 (ho.via (fun q hq => by cases hq) (xx_wfs_cons (xx_nrm_wf hwv) (fun u hu => by cases hu))) (Nat.le_of_ble_eq_true hc.1.1) (Nat.le_of_ble_eq_true hc.1.2) (Or.inl ⟨by rw [n3]; exact i1, hd, by
                      have h2 := hc.2
                      unfold xx_rI at h2
                      split at h2
                      · rename_i q9
                        exact Or.inl q9
                      · rename_i q9
                        rw [Bool.and_eq_true, xx_le_iff, xx_le_iff] at h2
                        exact Or.inr ⟨q9, by rw [n2]; omega, by rw [n2]; omega⟩
                      · cases h2⟩)
                    have e9 : [xx_nrm cs v].map (xx_g ρ) = [v].map (xx_g ρ) := by rw [List.map_cons, List.map_cons, n1]
                    rw [← e9]
                    exact this
                  · cases h
                · cases h
              · cases h
            case lreturn =>
              cases hdisp
              have hl3 := Nat.eq_of_beq_eq_true hW0
              subst hl3
              simp only [xx_klret] at h
              split at h
              · rename_i x
                split at h
                · rename_i hc
                  rw [Bool.and_eq_true] at hc
                  simp only [xx_room, Bool.and_eq_true] at hc
                  cases h
                  exact KR _ (hout _ List.mem_cons_self) ρ tys H locs nc ns lsA epc hag hS0 hR0 (ho.via (fun q hq => by cases hq) hws) (Nat.le_of_ble_eq_true hc.1.1) (Nat.le_of_ble_eq_true hc.1.2) (Or.inr ⟨rfl, hd, by
                    have h2 := hc.2
                    unfold xx_rL at h2
                    split at h2
                    · rename_i q9
                      exact q9
                    · cases h2⟩)
                · cases h
              · cases h
            case return_ =>
              cases hdisp
              have hl3 := Nat.eq_of_beq_eq_true hW0
              subst hl3
              simp only [xx_kvret] at h
              split at h
              · split at h
                · rename_i hc
                  rw [Bool.and_eq_true] at hc
                  simp only [xx_room, Bool.and_eq_true] at hc
                  cases h
                  exact KR _ (hout _ List.mem_cons_self) ρ tys H locs nc ns lsA epc hag hS0 hR0 (ho.via (fun q hq => by cases hq) hws) (Nat.le_of_ble_eq_true hc.1.1) (Nat.le_of_ble_eq_true hc.1.2) ⟨hd, by
                    have h2 := hc.2
                    unfold xx_rV at h2
                    split at h2
                    · rename_i q9
                      exact q9
                    · cases h2⟩
                · cases h
              · cases h
            case iaload =>
              cases hdisp
              have hl3 := Nat.eq_of_beq_eq_true hW0
              subst hl3
              exact arr h (fun h1 => xx_hiald_ok hx hb hd hsc ho hv h1 kk0)
            case baload =>
              cases hdisp
              have hl3 := Nat.eq_of_beq_eq_true hW0
              subst hl3
              refine arr h (fun h1 => ?_)
              simp only [xx_hbald] at h1
              split at h1
              · split at h1
                · split at h1
                  · rename_i hk9
                    rw [Bool.or_eq_true] at hk9
                    rcases hk9 with hk9 | hk9
                    · have hk9 := Nat.eq_of_beq_eq_true hk9
                      subst hk9
                      exact xx_load_ok (kd := 1) (by decide) (fun g1 g2 g3 k9 => va_bald (D := D) (cl := xx_cl) hx hb hwo.1 hwo.2.2.1 _ _ g1 g2 g3 hd k9) ho hv h1 kk0
                    · have hk9 := Nat.eq_of_beq_eq_true hk9
                      subst hk9
                      exact xx_load_ok (kd := 2) (by decide) (fun g1 g2 g3 k9 => va_zald (D := D) (cl := xx_cl) hx hb hwo.1 hwo.2.2.1 _ _ g1 g2 g3 hd k9) ho hv h1 kk0
                  · cases h1
                · cases h1
              · cases h1
            case aaload =>
              cases hdisp
              have hl3 := Nat.eq_of_beq_eq_true hW0
              subst hl3
              refine arr h (fun h1 => ?_)
              simp only [xx_hald] at h1
              split at h1
              · exact xx_load_ok4 hx hb hd ho hv h1 kk0
              · cases h1
            case iastore =>
              cases hdisp
              have hl3 := Nat.eq_of_beq_eq_true hW0
              subst hl3
              refine arr h (fun h1 => ?_)
              simp only [xx_hast] at h1
              split at h1
              · exact xx_store_ok (kd := 0) (nar := fun x => x) (by decide) (fun _ _ => rfl) (fun _ _ => rfl) (fun g1 g2 g3 k9 => va_iast (D := D) (cl := xx_cl) hx hb hwo.1 hwo.2.2.1 hwo.2.2.2.1 hwo.2.2.2.2 _ _ g1 g2 g3 hd k9) ho hv h1 kk0
              · cases h1
            case bastore =>
              cases hdisp
              have hl3 := Nat.eq_of_beq_eq_true hW0
              subst hl3
              refine arr h (fun h1 => ?_)
              simp only [xx_hbast] at h1
              split at h1
              · split at h1
                · rename_i v ix i9 rest
                  split at h1
                  · rename_i hk9
                    rw [Bool.or_eq_true] at hk9
                    rcases hk9 with hk9 | hk9
                    · have hk9 := Nat.eq_of_beq_eq_true hk9
                      subst hk9
                      exact xx_store_ok (kd := 1) (nar := fun x => vp_nar .byte x) (by decide) (fun q => by cases q) (fun q => by cases q) (fun g1 g2 g3 k9 => va_bast (D := D) (cl := xx_cl) hx hb hwo.1 hwo.2.2.1 hwo.2.2.2.1 hwo.2.2.2.2 _ _ g1 g2 g3 hd k9) ho hv h1 kk0
                    · have hk9 := Nat.eq_of_beq_eq_true hk9
                      subst hk9
                      refine xx_store_ok (kd := 2) (nar := fun x => vp_nar .boolean x) (by decide) (fun q => by cases q) (fun _ hfit => ?_) (fun g1 g2 g3 k9 => va_zast (D := D) (cl := xx_cl) hx hb hwo.1 hwo.2.2.1 hwo.2.2.2.1 hwo.2.2.2.2 _ _ g1 g2 g3 hd k9) ho hv h1 kk0
                      rcases v with x | ⟨q, d⟩ | x
                      · have := (xx_fit_ok ρ hfit).1
                        have e9 : narrow .boolean (.int (Int32.ofInt x)) = .int (Int32.ofInt x) := this
                        show vp_nar .boolean (Int32.ofInt x) = Int32.ofInt x
                        unfold vp_nar
                        rw [e9]
                      · cases hfit
                      · cases hfit
                  · cases h1
                · cases h1
              · cases h1
            case invokevirtual idx =>
              cases hdisp
              simp only [xx_okW, Bool.and_eq_true] at hW0
              have hl3 := Nat.eq_of_beq_eq_true hW0.1
              subst hl3
              have hW1 := hW0.2
              simp only [xx_kvirt] at h
              split at h
              · rename_i t nn ci tl9
                split at h
                · rename_i M' hM9
                  split at h
                  · rename_i args9 o rest hpop
                    split at h
                    · rename_i pj cj fsj hfo
                      split at h
                      · rename_i hcj
                        have hcj := Nat.eq_of_beq_eq_true hcj
                        subst hcj
                        have hokC : xx_okC T M idx (0 :: t :: nn :: cj :: tl9) 0 = true := by
                          rw [Bool.or_eq_true, Bool.or_eq_true] at hW1
                          rcases hW1 with h9 | h9 | h9
                          · exact h9
                          · cases h9
                          · exact absurd (of_decide_eq_true h9) (by intro q; cases q)
                        obtain ⟨b9, hb1, hb2, hb3⟩ := xx_pop_ok (ρ := ρ) nn [] st hpop
                        rw [List.append_nil] at hb1
                        subst hb1
                        have hrest : xx_wfs cs.length nk rest := fun u hu => hws u (by rw [hb3]; exact List.mem_append_right _ (List.mem_cons_of_mem _ hu))
                        have hvs : xx_wfs cs.length nk (.inr (.inr (.inl (some o))) :: args9) := xx_wfs_cons (hws _ (by rw [hb3]; exact List.mem_append_right _ List.mem_cons_self)) (fun u hu => hws u (by rw [hb3]; exact List.mem_append_left _ (List.mem_reverse.mpr hu)))
                        simp only [xx_okC] at hokC
                        split at hokC
                        · rename_i a9 mode b8 d9 f9 g9 heq9
                          cases heq9
                          rw [hM9] at hokC
                          simp only [Bool.and_eq_true] at hokC
                          obtain ⟨c1, c2, c3, c4, c5, c6, c7, c8, c9⟩ := hokC
                          have hcj : ∃ T9 N9, xx_cl[cj]? = some (M'.1.cls, T9, N9) := by
                            split at c9
                            · rename_i q9 hq9
                              obtain ⟨C9, T9, N9⟩ := q9
                              have : C9 = M'.1.cls := of_decide_eq_true c9
                              subst this
                              exact ⟨T9, N9, hq9⟩
                            · cases c9
                          obtain ⟨T9, N9, hcl⟩ := hcj
                          refine calle (Qr := fun _ _ _ _ => True) (hT M' (List.mem_of_getElem? hM9)) h hvs hrest rfl (fun {outs1} met hfit => ?_)
                          simp only [xx_fits, Bool.and_eq_true] at hfit
                          obtain ⟨t1, t2, t3, t4, t5, t6⟩ := hfit
                          have hR := hC.2.2.2.2.2.2.2.2.1
                          have hwds := xx_words (M := M) (nc := nc) (ns := ns) (Or.inr trivial) hC (of_decide_eq_true c3)
                          have hcode := hC.2.2.2.2.1 _ (xx_inTB (of_decide_eq_true c3) rfl)
                          have hini := hC.2.2.2.2.1 _ (xx_inTB (of_decide_eq_true c2) rfl)
                          have hinst := hC.2.2.2.2.1 _ (xx_inTB (of_decide_eq_true c7) rfl)
                          have hsel := hC.2.2.2.2.1 _ (xx_inTB (of_decide_eq_true c8) rfl)
                          have hpar : ∀ sig, parseMethodDescriptor M'.1.desc = some sig → nn = sig.parameters.length := fun sig h9 => by
                            have h8 := of_decide_eq_true c6
                            rw [h9] at h8
                            exact (Option.some.inj h8).symm
                          have hgv := xx_given (vs := .inr (.inr (.inl (some o))) :: args9) hC ho
                          have hrecv := va_recv hwo.1 hwo.2.2.1 hcl (xx_gW_at (ρ := ρ) (xx_fnd_at hfo))
                          have hstk : st.map (xx_g ρ) = (args9.map (xx_g ρ)).reverse ++ .ref (ρ.2.1 o) :: rest.map (xx_g ρ) := by
                            rw [hb3, List.map_append, List.map_reverse]
                            rfl
                          have hne := And.intro (of_decide_eq_true c4) (of_decide_eq_true c5)
                          have hsz := And.intro (Nat.le_trans (Nat.le_of_ble_eq_true t3) hR.2.2.1) (Nat.le_trans (Nat.le_of_ble_eq_true t4) hR.2.2.2)
                          have hrm : (rest.map (xx_g ρ) |>.map fun v => v.category).sum ≤ 8 := by rw [xx_sum_ok]; exact Nat.le_of_ble_eq_true t5
                          split at c1
                          · exact va_runV (As := args9.map (xx_g ρ)) (rest := rest.map (xx_g ρ)) (b := ρ.2.1 o) (C := M'.1.cls) (n := nn) ⟨hx, hb, hC.2.2.1, hC.2.2.2.1, hC.2.2.2.2.1⟩ met ⟨⟨rfl, rfl, Nat.le_trans (Nat.le_of_ble_eq_true t1) hR.1, Nat.le_trans (Nat.le_of_ble_eq_true t2) hR.2.1, hwds, List.mem_cons_self, hcode, hini, hne, hpar, hC.2.2.2.2.1 _ (xx_inTB (of_decide_eq_true c1) rfl)⟩, hinst, hsel⟩ ⟨hgv.1, hrecv, hgv.2⟩ rfl (by rw [List.length_map]; exact hb2) hv.1 hstk (lv_room hrm) hd hsz
                          · exact va_runVN (As := args9.map (xx_g ρ)) (rest := rest.map (xx_g ρ)) (b := ρ.2.1 o) (C := M'.1.cls) (n := nn) ⟨hx, hb, hC.2.2.1, hC.2.2.2.1, hC.2.2.2.2.1⟩ met ⟨⟨⟨rfl, rfl, Nat.le_trans (Nat.le_of_ble_eq_true t1) hR.1, Nat.le_trans (Nat.le_of_ble_eq_true t2) hR.2.1, hwds, List.mem_cons_self⟩, hcode, hini, hne, hpar, va_Nw.use rfl (hC.2.2.2.2.2.1 _ (xx_inNL (of_decide_eq_true c1) rfl))⟩, hinst, hsel⟩ ⟨hgv.1, hrecv, hgv.2⟩ rfl (by rw [List.length_map]; exact hb2) hv.1 hstk (lv_room hrm) hd hsz
                          · cases c1
                        · cases hokC
                      · cases h
                    · cases h
                  · cases h
                · cases h
              · rename_i tl9
                split at h
                · rename_i o rest
                  split at h
                  · rename_i hc
                    simp only [Bool.and_eq_true] at hc
                    obtain ⟨d1, d2, d3, d4, d5⟩ := hc
                    have hokL : xx_okL M idx (5 :: tl9) = true := by
                      rw [Bool.or_eq_true, Bool.or_eq_true] at hW1
                      rcases hW1 with h9 | h9 | h9
                      · cases h9
                      · exact h9
                      · exact absurd (of_decide_eq_true h9) (by intro q; cases q)
                    simp only [xx_okL] at hokL
                    split at hokL
                    · rename_i a9 b8 d9 f9 g9 _
                      simp only [Bool.and_eq_true] at hokL
                      obtain ⟨c1, c2, c3, c4, c5⟩ := hokL
                      have hR := hC.2.2.2.2.2.2.2.2.1
                      have hgv := xx_given (vs := [.inr (.inr (.inl (some o)))]) hC ho
                      have met := hLK D ρ tys cs w nk o H.size d1 hin hwW hnk hwo.2.1
                      have hts := hC.2.2.2.2.1
                      have hcl : xx_cl[7]? = some (RX7, TX7, 62) := rfl
                      have hob : ∃ pp fs, xx_fnd w o 0 = some (pp, .inr (7, fs)) := by
                        unfold xx_lk at d1
                        split at d1
                        · rename_i pp fs hf
                          exact ⟨_, _, hf⟩
                        · cases d1
                      obtain ⟨pp, fs, hfo⟩ := hob
                      have hrecv := va_recv hwo.1 hwo.2.2.1 hcl (xx_gW_at (ρ := ρ) (xx_fnd_at hfo))
                      have hrest := xx_wfs_tl hws
                      have hwds : ∀ w ∈ (Cond.code yX7_layKnowledge cX7_layKnowledge 4 none :: xx_TB), ∀ (a' : Array Value) (U : State), s.WarmedH U.vm → w.before a' U = true := by
                        refine pay_in (big := xx_TB) hts (fun w hw => ?_)
                        rcases List.mem_cons.mp hw with h9 | h9
                        · subst h9
                          exact xx_goodTB _ (xx_inTB (of_decide_eq_true c5) rfl)
                        · exact xx_goodTB w h9
                      have hfr : 3 + 1 ≤ R.frames := Nat.le_trans (Nat.le_of_ble_eq_true d2) hR.1
                      have hlo : 8 + (4 + 11) + 77 ≤ R.locals := Nat.le_trans (Nat.le_of_ble_eq_true d3) hR.2.1
                      have hpar : ∀ sig, parseMethodDescriptor yX7_layKnowledge.desc = some sig → 0 = sig.parameters.length := fun sig h9 => by
                        have h8 : (parseMethodDescriptor yX7_layKnowledge.desc).map (fun d => d.parameters.length) = some 0 := by decide +kernel
                        rw [h9] at h8
                        exact (Option.some.inj h8).symm
                      have hsz : nc + 0 ≤ R.cells ∧ ns + 0 ≤ R.slots := by
                        simp only [xx_room, Bool.and_eq_true] at d5
                        exact ⟨Nat.le_trans (Nat.le_of_ble_eq_true d5.1) hR.2.2.1, Nat.le_trans (Nat.le_of_ble_eq_true d5.2) hR.2.2.2⟩
                      refine xx_call (va_runV (As := []) (rest := rest.map (xx_g ρ)) (b := ρ.2.1 o) (C := RX7) (n := 0) ⟨hx, hb, hC.2.2.1, hC.2.2.2.1, hts⟩ met ⟨⟨rfl, rfl, hfr, hlo, hwds, List.mem_cons_self, hts _ (xx_inTB (of_decide_eq_true c5) rfl), hts _ (xx_inTB (of_decide_eq_true c4) rfl), ⟨by decide +kernel, by decide +kernel⟩, hpar, hts _ (xx_inTB (of_decide_eq_true c1) rfl)⟩, hts _ (xx_inTB (of_decide_eq_true c2) rfl), hts _ (xx_inTB (of_decide_eq_true c3) rfl)⟩ ⟨hgv.1, hrecv, hgv.2⟩ rfl rfl hv.1 rfl (lv_room (by rw [xx_sum_ok]; exact Nat.le_of_ble_eq_true d4)) hd hsz) (fun v st₀ t H1 L g0 g1 g2 g3 g4 => ?_)
                      obtain ⟨⟨o9, hoo, v', hv', hQo⟩, hF⟩ := g3
                      cases hv'
                      have ho9 := List.mem_singleton.mp hoo
                      subst ho9
                      obtain ⟨ρ', tys', a1, a2, a3, a4, a5⟩ := xx_after ho hC.2.2.2.2.2.2.2.1 hrest g0 g1 g2 hQo hF g4
                      simp only [xx_nx, xx_fN_eq] at h
                      have := go h htl (fun o ho => ho) a1 a2 a3 a5 (by rw [xx_gL_ag a1 hwl]; exact hv)
                      rw [a4]
                      have e9 : rest.map (xx_g ρ') = rest.map (xx_g ρ) := xx_gs_ag a1 hrest
                      show W _ _ _ _ _ _ _ _ _ _ _ _ _ _ _ (F0 m (epc + 3) lsA (rest.map (xx_g ρ)))
                      rw [← e9]
                      exact this
                    · cases hokL
                  · cases h
                · cases h
              · cases h
            case invokespecial idx =>
              cases hdisp
              simp only [xx_okW, Bool.and_eq_true] at hW0
              have hl3 := Nat.eq_of_beq_eq_true hW0.1
              subst hl3
              have hW1 := hW0.2
              simp only [xx_kspec] at h
              split at h
              · rename_i t nn tl9
                split at h
                · rename_i M' hM9
                  split at h
                  · rename_i args9 o rest hpop
                    have hokC : xx_okC T M idx (0 :: t :: nn :: tl9) 1 = true := by
                      rw [Bool.or_eq_true] at hW1
                      rcases hW1 with h9 | h9
                      · exact h9
                      · cases h9
                    obtain ⟨b9, hb1, hb2, hb3⟩ := xx_pop_ok (ρ := ρ) nn [] st hpop
                    rw [List.append_nil] at hb1
                    subst hb1
                    have hrest : xx_wfs cs.length nk rest := fun u hu => hws u (by rw [hb3]; exact List.mem_append_right _ (List.mem_cons_of_mem _ hu))
                    have hvs : xx_wfs cs.length nk (.inr (.inr (.inl (some o))) :: args9) := xx_wfs_cons (hws _ (by rw [hb3]; exact List.mem_append_right _ List.mem_cons_self)) (fun u hu => hws u (by rw [hb3]; exact List.mem_append_left _ (List.mem_reverse.mpr hu)))
                    simp only [xx_okC] at hokC
                    split at hokC
                    · rename_i ci a9 mode b8 d9 f9 g9 heq9
                      cases heq9
                      rw [hM9] at hokC
                      simp only [Bool.and_eq_true] at hokC
                      obtain ⟨c1, c2, c3, c4, c5, c6, c7, c8, c9⟩ := hokC
                      refine calle (Qr := fun _ _ _ _ => True) (hT M' (List.mem_of_getElem? hM9)) h hvs hrest rfl (fun {outs1} met hfit => ?_)
                      simp only [xx_fits, Bool.and_eq_true] at hfit
                      obtain ⟨t1, t2, t3, t4, t5, t6⟩ := hfit
                      have hR := hC.2.2.2.2.2.2.2.2.1
                      have hret0 : M'.2.2.2.1 = none := of_decide_eq_true c9
                      have hwds := xx_words (M := M) (nc := nc) (ns := ns) (Or.inr trivial) hC (of_decide_eq_true c3)
                      have hcode := hC.2.2.2.2.1 _ (xx_inTB (of_decide_eq_true c3) rfl)
                      have hini := hC.2.2.2.2.1 _ (xx_inTB (of_decide_eq_true c2) rfl)
                      have hinst := hC.2.2.2.2.1 _ (xx_inTB (of_decide_eq_true c7) rfl)
                      have hpar : ∀ sig, parseMethodDescriptor M'.1.desc = some sig → nn = sig.parameters.length := fun sig h9 => by
                        have h8 := of_decide_eq_true c6
                        rw [h9] at h8
                        exact (Option.some.inj h8).symm
                      have hgv := xx_given (vs := .inr (.inr (.inl (some o))) :: args9) hC ho
                      have hstk : st.map (xx_g ρ) = (args9.map (xx_g ρ)).reverse ++ .ref (ρ.2.1 o) :: rest.map (xx_g ρ) := by
                        rw [hb3, List.map_append, List.map_reverse]
                        rfl
                      have hne := And.intro (of_decide_eq_true c4) (of_decide_eq_true c5)
                      have hsz := And.intro (Nat.le_trans (Nat.le_of_ble_eq_true t3) hR.2.2.1) (Nat.le_trans (Nat.le_of_ble_eq_true t4) hR.2.2.2)
                      have hrm : (rest.map (xx_g ρ) |>.map fun v => v.category).sum ≤ 8 := by rw [xx_sum_ok]; exact Nat.le_of_ble_eq_true t5
                      rw [hret0] at hcode
                      have hmem : Cond.code M'.1 M'.2.1 M'.2.2.1 none ∈ xx_ws M' := by
                        unfold xx_ws
                        rw [hret0]
                        exact List.mem_cons_self
                      split at c1
                      · exact va_runI (As := args9.map (xx_g ρ)) (rest := rest.map (xx_g ρ)) (b := ρ.2.1 o) (n := nn) ⟨hx, hb, hC.2.2.1, hC.2.2.2.1, hC.2.2.2.2.1⟩ met ⟨⟨rfl, rfl, Nat.le_trans (Nat.le_of_ble_eq_true t1) hR.1, Nat.le_trans (Nat.le_of_ble_eq_true t2) hR.2.1, hwds, hmem, hcode, hini, hne, hpar, hC.2.2.2.2.1 _ (xx_inTB (of_decide_eq_true c1) rfl)⟩, of_decide_eq_true c8, hinst⟩ hgv rfl (by rw [List.length_map]; exact hb2) hv.1 hstk (lv_room hrm) hd hsz
                      · exact va_runIN (As := args9.map (xx_g ρ)) (rest := rest.map (xx_g ρ)) (b := ρ.2.1 o) (n := nn) ⟨hx, hb, hC.2.2.1, hC.2.2.2.1, hC.2.2.2.2.1⟩ met ⟨⟨⟨rfl, rfl, Nat.le_trans (Nat.le_of_ble_eq_true t1) hR.1, Nat.le_trans (Nat.le_of_ble_eq_true t2) hR.2.1, hwds, hmem⟩, hcode, hini, hne, hpar, va_Nw.use rfl (hC.2.2.2.2.2.1 _ (xx_inNL (of_decide_eq_true c1) rfl))⟩, of_decide_eq_true c8, hinst⟩ hgv rfl (by rw [List.length_map]; exact hb2) hv.1 hstk (lv_room hrm) hd hsz
                      · cases c1
                    · cases hokC
                  · cases h
                · cases h
              · rename_i tl9
                rw [Bool.or_eq_true] at hW1
                rcases hW1 with h9 | h9
                · cases h9
                · split at h9
                  · rename_i a9 b9 d9
                    rename_i heq9
                    simp only [Bool.and_eq_true] at h9
                    exact xx_hobj_ok hC hd (of_decide_eq_true h9.1) (of_decide_eq_true h9.2.1) (of_decide_eq_true h9.2.2) ho hv h kk0
                  · rename_i heq9
                    cases heq9
                  · cases h9
              · cases h
            case invokestatic idx =>
              cases hdisp
              simp only [xx_okW, Bool.and_eq_true] at hW0
              have hl3 := Nat.eq_of_beq_eq_true hW0.1
              subst hl3
              have hW1 := hW0.2
              simp only [xx_kstat] at h
              split at h
              · rename_i t nn tl9
                split at h
                · rename_i M' hM9
                  split at h
                  · rename_i args9 rest hpop
                    have hokC : xx_okC T M idx (0 :: t :: nn :: tl9) 2 = true := by
                      rw [Bool.or_eq_true] at hW1
                      rcases hW1 with h9 | h9
                      · exact h9
                      · cases h9
                    obtain ⟨b9, hb1, hb2, hb3⟩ := xx_pop_ok (ρ := ρ) nn [] st hpop
                    rw [List.append_nil] at hb1
                    subst hb1
                    have hrest : xx_wfs cs.length nk rest := fun u hu => hws u (by rw [hb3]; exact List.mem_append_right _ hu)
                    have hvs : xx_wfs cs.length nk args9 := fun u hu => hws u (by rw [hb3]; exact List.mem_append_left _ (List.mem_reverse.mpr hu))
                    simp only [xx_okC] at hokC
                    split at hokC
                    · rename_i ci a9 mode b8 d9 f9 g9 heq9
                      cases heq9
                      rw [hM9] at hokC
                      simp only [Bool.and_eq_true] at hokC
                      obtain ⟨c1, c2, c3, c4, c5, c6, c7⟩ := hokC
                      refine calle (Qr := fun _ _ _ _ => True) (hT M' (List.mem_of_getElem? hM9)) h hvs hrest rfl (fun {outs1} met hfit => ?_)
                      simp only [xx_fits, Bool.and_eq_true] at hfit
                      obtain ⟨t1, t2, t3, t4, t5, t6⟩ := hfit
                      have hR := hC.2.2.2.2.2.2.2.2.1
                      have hwds := xx_words (M := M) (nc := nc) (ns := ns) (Or.inr trivial) hC (of_decide_eq_true c3)
                      have hcode := hC.2.2.2.2.1 _ (xx_inTB (of_decide_eq_true c3) rfl)
                      have hini := hC.2.2.2.2.1 _ (xx_inTB (of_decide_eq_true c2) rfl)
                      have hstat := hC.2.2.2.2.1 _ (xx_inTB (of_decide_eq_true c7) rfl)
                      have hpar : ∀ sig, parseMethodDescriptor M'.1.desc = some sig → nn = sig.parameters.length := fun sig h9 => by
                        have h8 := of_decide_eq_true c6
                        rw [h9] at h8
                        exact (Option.some.inj h8).symm
                      have hgv := xx_given (vs := args9) hC ho
                      have hstk : st.map (xx_g ρ) = (args9.map (xx_g ρ)).reverse ++ rest.map (xx_g ρ) := by
                        rw [hb3, List.map_append, List.map_reverse]
                      have hne := And.intro (of_decide_eq_true c4) (of_decide_eq_true c5)
                      have hsz := And.intro (Nat.le_trans (Nat.le_of_ble_eq_true t3) hR.2.2.1) (Nat.le_trans (Nat.le_of_ble_eq_true t4) hR.2.2.2)
                      have hrm : (rest.map (xx_g ρ) |>.map fun v => v.category).sum ≤ 8 := by rw [xx_sum_ok]; exact Nat.le_of_ble_eq_true t5
                      split at c1
                      · exact va_runS (As := args9.map (xx_g ρ)) (rest := rest.map (xx_g ρ)) (n := nn) ⟨hx, hb, hC.2.2.1, hC.2.2.2.1, hC.2.2.2.2.1⟩ met ⟨⟨rfl, rfl, Nat.le_trans (Nat.le_of_ble_eq_true t1) hR.1, Nat.le_trans (Nat.le_of_ble_eq_true t2) hR.2.1, hwds, List.mem_cons_self, hcode, hini, hne, hpar, hC.2.2.2.2.1 _ (xx_inTB (of_decide_eq_true c1) rfl)⟩, hstat⟩ hgv rfl (by rw [List.length_map]; exact hb2) hv.1 hstk (lv_room hrm) hd hsz
                      · exact va_runSN (As := args9.map (xx_g ρ)) (rest := rest.map (xx_g ρ)) (n := nn) ⟨hx, hb, hC.2.2.1, hC.2.2.2.1, hC.2.2.2.2.1⟩ met ⟨⟨⟨rfl, rfl, Nat.le_trans (Nat.le_of_ble_eq_true t1) hR.1, Nat.le_trans (Nat.le_of_ble_eq_true t2) hR.2.1, hwds, List.mem_cons_self⟩, hcode, hini, hne, hpar, va_Nw.use rfl (hC.2.2.2.2.2.1 _ (xx_inNL (of_decide_eq_true c1) rfl))⟩, hstat, trivial⟩ hgv rfl (by rw [List.length_map]; exact hb2) hv.1 hstk (lv_room hrm) hd hsz
                      · cases c1
                    · cases hokC
                  · cases h
                · cases h
              · rename_i tl9
                rw [Bool.or_eq_true] at hW1
                rcases hW1 with h9 | h9
                · cases h9
                · split at h9
                  · simp only [Bool.and_eq_true] at h9
                    exact xx_hcopy_ok hC hd (of_decide_eq_true h9.1) (of_decide_eq_true h9.2.1) (of_decide_eq_true h9.2.2.1) (of_decide_eq_true h9.2.2.2) ho hv h kk0
                  · rename_i heq9
                    cases heq9
                  · cases h9
              · cases h
            all_goals (cases hdisp)
        intro h
        split at h
        · rename_i ops hops
          have hops : ops0 = 77 :: ops := hops
          split at h
          · rename_i hc
            cases h
            obtain ⟨q, hq, hqpc, himp⟩ := xx_cut_ok (fun q hq => (hct q hq).1) hc
            obtain ⟨z1, z2, z3, z4, z5, z6⟩ := xx_imp_ok (M := M) (hct q hq).1 himp ho hv
            have := KC q hq ρ tys H locs lsA hag (by
              rcases hsc with h9 | ⟨L, xs, g0, g1, g2, g3, g4, g5⟩
              · exact Or.inl h9
              · exact Or.inr ⟨L, xs, g0, g1, g2, g3, by have := (hct q hq).2; omega, g5⟩) z1 z2
            rw [hqpc, ← z5] at this
            exact W.widen z3 z4 this
          · exact main ops (by rw [hops]; rfl) h
        · rename_i hne
          exact main ops0 (by
            unfold xx_ops
            split
            · exact (hne _ rfl).elim
            · rfl) h
