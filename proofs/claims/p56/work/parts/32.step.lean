/-! a row's words hold in the tables -/
def yy_okC (T : List xx_M) (M : xx_M) (idx : Nat) (ops : List Nat) (kind : Nat) : Bool := match ops with
  | [0, t, n, ci, a, mode, b, d, f, g] => match T[t]? with
    | some M' => (match mode with
        | 0 => xx_wd a (.methodLink M.1.cls idx M'.1)
        | 1 => xx_wd a (.methodLinkNest M.1.cls idx M'.1 RX6)
        | _ => false) && (xx_wd f (.initialized M'.1.cls) && (xx_wd g (.code M'.1 M'.2.1 M'.2.2.1 M'.2.2.2.1) && (decide (M'.1.cls ≠ "java/lang/invoke/MethodHandle") && (decide (M'.1.cls ≠ "java/lang/invoke/VarHandle") && (decide ((parseMethodDescriptor M'.1.desc).map (fun d => d.parameters.length) = some n) && (match kind with
        | 0 => xx_wd b (.instanceMethod M'.1) && (xx_wd d (.selects M'.1.cls M'.1 M'.1) && (match ci with
          | 99 => decide (M'.1.cls = "java/lang/String")
          | _ => match xx_cl[ci]? with
            | some q => decide (q.1 = M'.1.cls)
            | none => false))
        | 2 => xx_wd b (.static M'.1)
        | _ => false))))))
    | none => false
  | _ => false
def yy_okW (T : List xx_M) (M : xx_M) (i : Instr) (len : Nat) (ops : List Nat) : Bool := match i with
  | .getstatic idx => Nat.beq len 3 && (match ops with
    | [0, q, 0] => xx_wd q (.fieldLink M.1.cls idx RX6 "KEEPING" "[J")
    | [1, q, 0] => xx_wd q (.fieldLink M.1.cls idx "java/lang/String" "COMPACT_STRINGS" "Z")
    | _ => decide (ops = []))
  | .ldc idx => Nat.beq len 2 && (match ops with
    | [q, g, n] => xx_wd q (.constant M.1.cls idx (Int32.ofInt (xx_sgn g n)))
    | [_] => decide (M.1.cls = RX3) && Nat.beq idx 189
    | _ => decide (ops = []))
  | .getfield idx => Nat.beq len 3 && (match ops with
    | [ci, f, q, mode] => xx_okF M idx [ci, f, q, mode] false
    | [0, q] => xx_wd q (.fieldLink M.1.cls idx "java/lang/String" "coder" "B")
    | [1, q] => xx_wd q (.fieldLink M.1.cls idx "java/lang/String" "value" "[B")
    | _ => decide (ops = []))
  | .putfield idx => Nat.beq len 3 && (match ops with
    | [ci, f, q, mode] => xx_okF M idx [ci, f, q, mode] true && Nat.blt mode 2
    | _ => decide (ops = []))
  | .invokevirtual idx => Nat.beq len 3 && (yy_okC T M idx ops 0 || decide (ops = []))
  | .invokestatic idx => Nat.beq len 3 && (yy_okC T M idx ops 2 || (match ops with
    | [9, a, b, d, f] => xx_wd a (.methodLink M.1.cls idx arraycopyName) && (xx_wd b (.native arraycopyName) && (xx_wd d (.static arraycopyName) && xx_wd f (.initialized "java/lang/System")))
    | [7, a, b, f, g] => xx_wd a (.methodLink M.1.cls idx yJ0_checkIndex_df160) && (xx_wd b (.static yJ0_checkIndex_df160) && (xx_wd f (.initialized yJ0_checkIndex_df160.cls) && xx_wd g (.code yJ0_checkIndex_df160 cJ0_checkIndex_df160 2 none)))
    | [6, 0, a, b, f, g] => xx_wd a (.methodLink M.1.cls idx Lib.Math.max.name) && (xx_wd b (.static Lib.Math.max.name) && (xx_wd f (.initialized "java/lang/Math") && xx_wd g (.code Lib.Math.max.name Lib.Math.max.code 2 (some .int))))
    | [6, 1, a, b, f, g] => xx_wd a (.methodLink M.1.cls idx Lib.Math.min.name) && (xx_wd b (.static Lib.Math.min.name) && (xx_wd f (.initialized "java/lang/Math") && xx_wd g (.code Lib.Math.min.name Lib.Math.min.code 2 (some .int))))
    | _ => decide (ops = [])))
  | .invokespecial _ => decide (ops = [])
  | .new _ => decide (ops = [])
  | .i2c => Nat.beq len 1
  | i => xx_okW [] M i len ops
def yy_okI (T : List xx_M) (M : xx_M) (e : xx_I) : Bool := decide (decode M.2.1 e.1 = .ok (e.2.1, e.2.2.1)) && (yy_okW T M e.2.1 e.2.2.1 (xx_ops e.2.2.2) && xx_okT e.1 e.2.1)
def yy_okM (T : List xx_M) (M : xx_M) : Bool := plainName M.1.cls && M.2.2.2.2.2.all (yy_okI T M)
theorem yy_rel_ok {c : xx_B} {x y : Int} : (yy_rel c x y = true → xx_rel c x y) ∧ (yy_rel c x y = false → ¬ xx_rel c x y) := by
  cases c <;> simp only [yy_rel, xx_rel] <;> exact ⟨of_decide_eq_true, of_decide_eq_false⟩
theorem yy_bool {x : Int32} (h : x = 0 ∨ x = 1) : narrow .boolean (.int x) = .int x := by
  rcases h with rfl | rfl <;> decide +kernel
section YS
variable {p : Program} {l : Launch} {e : Env} {R : Room} {s : State} {m : MethodId} {args : Array Value} {below : List Frame} {meth : Method} {c : Code} {Q : State → Prop} {M : xx_M} {A : Nat → Prop} {D : va_G} {ls : yy_L} {st : List yy_U} {tys : List (ClassId × FieldType)} {H : Heap} {locs : List Loc} {lsA : Array Slot} {pc len d nc ns : Nat} {ops : List Nat} {P : yy_P} {T9 : List xx_M} {α : Nat → Nat} {cls : Nat → ClassId} {ω : yy_O}
/-- what comes next holds -/
def yy_KK (p : Program) (l : Launch) (e : Env) (R : Room) (s : State) (m : MethodId) (args : Array Value) (below : List Frame) (meth : Method) (c : Code) (Q : State → Prop) (M : xx_M) (A : Nat → Prop) (D : va_G) (tys : List (ClassId × FieldType)) (P : yy_P) (α : Nat → Nat) (cls : Nat → ClassId) (nc ns : Nat) (pc' : Nat) (ls' : yy_L) (st' : List yy_U) (ω' : yy_O) : Prop :=
  ∀ (H' : Heap) (locs' : List Loc) (lsA' : Array Slot), yy_rep P.1 s A D α cls tys ω' H' locs' → lv_has lsA' M.2.2.1 (yy_gL α ls') → W p l e R s m args below meth c H' locs' nc ns Q (F0 m pc' lsA' (st'.map (yy_g α)))
theorem yy_nx_eq {pc pc' : Nat} {ls ls' : yy_L} {st st' : List yy_U} {ω ω' : yy_O} (h : yy_nx pc ls st ω = some (.inl (pc', (ls', (st', ω'))))) : pc' = pc ∧ ls' = ls ∧ st' = st ∧ ω' = ω := by
  cases h
  exact ⟨rfl, rfl, rfl, rfl⟩
theorem yy_to_eq {t : Int} {pc' : Nat} {ls ls' : yy_L} {st st' : List yy_U} {ω ω' : yy_O} (h : yy_to t ls st ω = some (.inl (pc', (ls', (st', ω'))))) : t = (pc' : Int) ∧ ls' = ls ∧ st' = st ∧ ω' = ω := by
  unfold yy_to at h
  split at h
  · cases h
    exact ⟨rfl, rfl, rfl, rfl⟩
  · cases h
/-- a cell changed -/
theorem yy_rep.set {ω' : yy_O} {k : Nat} {dd : yy_D} {e1 : va_E} {H1 : Heap} {locs1 : List Loc} (hr : yy_rep P.1 s A D α cls tys ω H locs) (hG : P.1[k]? = some dd) (hk : yy_gE α cls ω' k dd = e1) (ho : ∀ (i : Nat) (d' : yy_D), i ≠ k → yy_gE α cls ω' i d' = yy_gE α cls ω i d') (hP : va_P D xx_cl ((yy_gW P.1 α cls ω).set k (α k, e1)) H1) (hD : va_D A ((yy_gW P.1 α cls ω).set k (α k, e1))) (hS : va_S A s.heap H1 locs1) : yy_rep P.1 s A D α cls tys ω' H1 locs1 := by
  rw [yy_gW_set hG hk ho] at hP hD
  exact ⟨hr.1, hr.2.1, hP, hD, hS⟩
theorem yy_getf_ok {idx pc' : Nat} {ls' : yy_L} {st' : List yy_U} {ω' : yy_O} (hC : yy_ctx p R s m args c M A P α d nc ns) (hd : decode M.2.1 pc = .ok (.getfield idx, len)) (hW : yy_okW T9 M (.getfield idx) len ops = true) (hr : yy_rep P.1 s A D α cls tys ω H locs) (hv : lv_has lsA M.2.2.1 (yy_gL α ls))
    (h : yy_hgetf P M d pc len ops ls st ω = some (.inl (pc', (ls', (st', ω'))))) (kk : yy_KK p l e R s m args below meth c Q M A D tys P α cls nc ns pc' ls' st' ω') : W p l e R s m args below meth c H locs nc ns Q (F0 m pc lsA (st.map (yy_g α))) := by
  obtain ⟨hx, hb, hml, hown, hts, hN, hA, hR, hE, hsc⟩ := hC
  obtain ⟨hK, har, hP, hD, hS⟩ := id hr
  simp only [yy_okW, Bool.and_eq_true] at hW
  have hl3 := Nat.eq_of_beq_eq_true hW.1
  subst hl3
  have hW2 := hW.2
  clear hW
  simp only [yy_hgetf] at h
  split at h
  · rename_i k rest
    split at h
    · rename_i ci f q mode
      split at h
      · rename_i cj rs hG
        split at h
        · rename_i hcj
          have hcj := Nat.eq_of_beq_eq_true hcj
          subst hcj
          obtain ⟨rfl, rfl, rfl, rfl⟩ := yy_nx_eq h
          have hk2 := kk H locs lsA hr hv
          have hg : (yy_gW P.1 α cls ω')[k]? = some (α k, .inr (cj, (List.range (xx_num cj)).map (fun f => yy_g α (yy_fu ω' k rs f (xx_ty cj f))))) := yy_gW_at hG
          have hF : xx_okF M idx [cj, f, q, mode] false = true := hW2
          simp only [xx_okF] at hF
          split at hF
          · rename_i C T N hcl
            have hnum : xx_num cj = N := by unfold xx_num; rw [hcl]
            rw [Bool.and_eq_true] at hF
            obtain ⟨hF1, hF2⟩ := hF
            have hfN : f < N := xx_blt hF1
            have hfv' : ((List.range (xx_num cj)).map (fun f => yy_g α (yy_fu ω' k rs f (xx_ty cj f))))[f]? = some (yy_g α (yy_fu ω' k rs f (xx_ty cj f))) := by
              rw [List.getElem?_map, List.getElem?_range (by rw [hnum]; exact hfN)]
              rfl
            split at hF2
            · rw [Bool.and_eq_true] at hF2
              exact va_get (D := D) (cl := xx_cl) hx hb hts (xx_cl_in hcl) hown hK hP k hg hcl f hfN (hts _ (xx_inTB (of_decide_eq_true hF2.1) rfl)) (fun _ h9 => h9) hfv' hd hk2
            · rw [Bool.and_eq_true] at hF2
              exact va_getN (D := D) (cl := xx_cl) hx hb hts (xx_cl_in hcl) hown hK hP k hg hcl f hfN (va_Nw.use rfl (hN _ (xx_inNL (of_decide_eq_true hF2.1) rfl))) (fun _ h9 => h9) hfv' hd hk2
            · rw [Bool.and_eq_true] at hF2
              exact va_get (D := D) (cl := xx_cl) hx hb hts (xx_cl_in hcl) hown hK hP k hg hcl f hfN (hts _ (xx_inTB (of_decide_eq_true hF2.1) rfl)) (fun _ h9 => h9) hfv' hd hk2
            · cases hF2
          · cases hF
        · cases h
      · cases h
    · rename_i w q
      split at h
      · rename_i hk
        have hk := Nat.eq_of_beq_eq_true hk
        subst hk
        obtain ⟨z1, z2, z3, z4, z5⟩ := hE
        obtain ⟨o1, o2, o3, o4⟩ := z5.1 0 (by decide)
        split at h
        · obtain ⟨rfl, rfl, rfl, rfl⟩ := yy_nx_eq h
          exact vk_getf hx hb o2 hS hown (hts _ (xx_inTB (of_decide_eq_true hW2) rfl)) (fun _ h9 => h9) hd (kk H locs lsA hr hv)
        · obtain ⟨rfl, rfl, rfl, rfl⟩ := yy_nx_eq h
          exact vk_getf hx hb o3 hS hown (hts _ (xx_inTB (of_decide_eq_true hW2) rfl)) (fun _ h9 => h9) hd (kk H locs lsA hr hv)
        · cases h
      · cases h
    · cases h
  · cases h
theorem yy_putf_ok {idx pc' : Nat} {ls' : yy_L} {st' : List yy_U} {ω' : yy_O} (hC : yy_ctx p R s m args c M A P α d nc ns) (hd : decode M.2.1 pc = .ok (.putfield idx, len)) (hW : yy_okW T9 M (.putfield idx) len ops = true) (hr : yy_rep P.1 s A D α cls tys ω H locs) (hv : lv_has lsA M.2.2.1 (yy_gL α ls))
    (h : yy_hputf P M d pc len ops ls st ω = some (.inl (pc', (ls', (st', ω'))))) (kk : yy_KK p l e R s m args below meth c Q M A D tys P α cls nc ns pc' ls' st' ω') : W p l e R s m args below meth c H locs nc ns Q (F0 m pc lsA (st.map (yy_g α))) := by
  obtain ⟨hx, hb, hml, hown, hts, hN, hA, hR, hE, hsc⟩ := hC
  obtain ⟨hK, har, hP, hD, hS⟩ := id hr
  simp only [yy_okW, Bool.and_eq_true] at hW
  have hl3 := Nat.eq_of_beq_eq_true hW.1
  subst hl3
  have hW2 := hW.2
  clear hW
  simp only [yy_hputf] at h
  split at h
  · rename_i v k rest
    split at h
    · rename_i ci f q mode
      split at h
      · rename_i cj rs hG
        split at h
        · rename_i hcj
          have hcj := Nat.eq_of_beq_eq_true hcj
          subst hcj
          split at h
          · rename_i ω1 hput
            obtain ⟨rfl, rfl, rfl, rfl⟩ := yy_nx_eq h
            have hg : (yy_gW P.1 α cls ω)[k]? = some (α k, .inr (cj, (List.range (xx_num cj)).map (fun f => yy_g α (yy_fu ω k rs f (xx_ty cj f))))) := yy_gW_at hG
            have hF0 : (xx_okF M idx [cj, f, q, mode] true && Nat.blt mode 2) = true := hW2
            rw [Bool.and_eq_true] at hF0
            obtain ⟨hF, hmode⟩ := hF0
            simp only [xx_okF] at hF
            split at hF
            · rename_i C T N hcl
              have hnum : xx_num cj = N := by unfold xx_num; rw [hcl]
              rw [Bool.and_eq_true] at hF
              obtain ⟨hF1, hF2⟩ := hF
              have hfN : f < N := xx_blt hF1
              obtain ⟨g1, g2, g3, g4⟩ := yy_put_ok (α := α) (cls := cls) (rs := rs) hput (by rw [hnum]; exact hfN)
              have next : ∀ (H1 : Heap) (locs1 : List Loc), va_P D xx_cl ((yy_gW P.1 α cls ω).set k (α k, .inr (cj, ((List.range (xx_num cj)).map (fun f => yy_g α (yy_fu ω k rs f (xx_ty cj f)))).set f (yy_g α v)))) H1 → va_D A ((yy_gW P.1 α cls ω).set k (α k, .inr (cj, ((List.range (xx_num cj)).map (fun f => yy_g α (yy_fu ω k rs f (xx_ty cj f)))).set f (yy_g α v)))) → va_S A s.heap H1 locs1 → W p l e R s m args below meth c H1 locs1 nc ns Q (F0 m (pc + 3) lsA (st'.map (yy_g α))) := fun H1 locs1 hP1 hD1 hS1 => kk H1 locs1 lsA (hr.set hG g4 g3 hP1 hD1 hS1) hv
              have hlm : f < ((List.range (xx_num cj)).map (fun f => yy_g α (yy_fu ω k rs f (xx_ty cj f)))).length := by rw [List.length_map, List.length_range, hnum]; exact hfN
              split at hF2
              · rw [Bool.and_eq_true] at hF2
                have hfin : (T f).2.2.2 = false := by simpa using hF2.2
                exact va_put (D := D) (cl := xx_cl) hx hb hts (xx_cl_in hcl) (xx_ty cj) (xx_cl_ty hcl) (xx_cl_nm hcl) hown hK hP hD hS k hg hcl f hfN (hts _ (xx_inTB (of_decide_eq_true hF2.1) rfl)) (fun _ h9 => h9) hfin (xx_cl_ty hcl f hfN) g1 g2 hlm hd next
              · rw [Bool.and_eq_true] at hF2
                have hfin : (T f).2.2.2 = false := by simpa using hF2.2
                exact va_putN (D := D) (cl := xx_cl) hx hb hts (xx_cl_in hcl) (xx_ty cj) (xx_cl_ty hcl) (xx_cl_nm hcl) hown hK hP hD hS k hg hcl f hfN (va_Nw.use rfl (hN _ (xx_inNL (of_decide_eq_true hF2.1) rfl))) (fun _ h9 => h9) hfin (xx_cl_ty hcl f hfN) g1 g2 hlm hd next
              · cases hmode
              · cases hF2
            · cases hF
          · cases h
        · cases h
      · cases h
    · cases h
  · cases h
end YS
