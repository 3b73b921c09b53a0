/-! every row -/
def yy_ret (M : xx_M) (v : Option yy_U) (pc : Nat) : Prop := match v with
  | none => decode M.2.1 pc = .ok (.return_, 1) ∧ M.2.2.2.1 = none
  | some (.inl x) => decode M.2.1 pc = .ok (.ireturn, 1) ∧ ∃ ty, M.2.2.2.1 = some ty ∧ (ty = .int ∨ narrow ty (.int x) = .int x)
  | some (.inr (.inl _)) => decode M.2.1 pc = .ok (.lreturn, 1) ∧ M.2.2.2.1 = some .long
  | some (.inr (.inr _)) => False
section YR
variable {p : Program} {l : Launch} {e : Env} {R : Room} {s : State} {m : MethodId} {args : Array Value} {below : List Frame} {meth : Method} {c : Code} {Q : State → Prop} {M : xx_M} {A : Nat → Prop} {D : va_G} {ls : yy_L} {st : List yy_U} {tys : List (ClassId × FieldType)} {H : Heap} {locs : List Loc} {lsA : Array Slot} {pc len d nc ns : Nat} {ops : List Nat} {P : yy_P} {α : Nat → Nat} {cls : Nat → ClassId} {ω : yy_O} {pc' : Nat} {ls' : yy_L} {st' : List yy_U} {ω' : yy_O}
set_option maxHeartbeats 4000000 in
theorem yy_row_ok {T : List xx_M} {i : Instr} (hC : yy_ctx p R s m args c M A P α d nc ns) (hd : decode M.2.1 pc = .ok (i, len)) (hW : yy_okW T M i len ops = true) (hT : xx_okT pc i = true) (hr : yy_rep P.1 s A D α cls tys ω H locs) (hv : lv_has lsA M.2.2.1 (yy_gL α ls))
    (h : yy_disp i P M d pc len ops ls st ω = some (.inl (pc', (ls', (st', ω'))))) (kk : yy_KK p l e R s m args below meth c Q M A D tys P α cls nc ns pc' ls' st' ω') : W p l e R s m args below meth c H locs nc ns Q (F0 m pc lsA (st.map (yy_g α))) := by
  have hx := hC.1
  have hb := hC.2.1
  have hown := hC.2.2.2.1
  have hts := hC.2.2.2.2.1
  cases i
  case iconst n =>
    have hl := Nat.eq_of_beq_eq_true hW
    subst hl
    exact yy_hp_ok (d := d) (ops := ops) (fun kk9 => lv_iconst (v := Int32.ofInt n) hx hb hd rfl kk9) hr hv h kk
  case bipush n =>
    simp only [yy_okW, xx_okW, Bool.and_eq_true] at hW
    have hl := Nat.eq_of_beq_eq_true hW.1
    subst hl
    exact yy_hp_ok (d := d) (ops := ops) (fun kk9 => lv_bipush (v := Int32.ofInt n) hx hb hd (of_decide_eq_true hW.2) kk9) hr hv h kk
  case sipush n =>
    simp only [yy_okW, xx_okW, Bool.and_eq_true] at hW
    have hl := Nat.eq_of_beq_eq_true hW.1
    subst hl
    exact yy_hp_ok (d := d) (ops := ops) (fun kk9 => lv_sipush (v := Int32.ofInt n) hx hb hd (of_decide_eq_true hW.2) kk9) hr hv h kk
  case lconst n =>
    simp only [yy_okW, xx_okW, Bool.and_eq_true] at hW
    have hl := Nat.eq_of_beq_eq_true hW.1
    subst hl
    exact yy_hp_ok (d := d) (ops := ops) (fun kk9 => lv_lconst (v := Int64.ofInt (n.val : Int)) hx hb hd (of_decide_eq_true hW.2) kk9) hr hv h kk
  case ldc idx =>
    simp only [yy_okW, xx_okW, Bool.and_eq_true] at hW
    have hl := Nat.eq_of_beq_eq_true hW.1
    subst hl
    have hW2 := hW.2
    simp only [yy_disp, yy_hldc] at h
    split at h
    · rename_i q g n
      obtain ⟨rfl, rfl, rfl, rfl⟩ := yy_nx_eq h
      exact lv_ldc hx hb hown (hts _ (xx_inTB (of_decide_eq_true hW2) rfl)) hd (kk H locs lsA hr hv)
    · rename_i q
      obtain ⟨rfl, rfl, rfl, rfl⟩ := yy_nx_eq h
      simp only [Bool.and_eq_true] at hW2
      have e1 := of_decide_eq_true hW2.1
      have e2 := Nat.eq_of_beq_eq_true hW2.2
      subst e2
      obtain ⟨z1, z2, z3, z4, z5⟩ := hC.2.2.2.2.2.2.2.2.1
      exact va_ldcS hx hb (by rw [← e1]; exact hown) z4 hd (kk H locs lsA hr hv)
    · cases h
  case ldc_w idx =>
    simp only [yy_okW, xx_okW, Bool.and_eq_true] at hW
    have hl := Nat.eq_of_beq_eq_true hW.1
    subst hl
    have hW2 := hW.2
    simp only [yy_disp, yy_hldc] at h
    split at h
    · rename_i q g n
      obtain ⟨rfl, rfl, rfl, rfl⟩ := yy_nx_eq h
      exact lv_ldcw hx hb hown (hts _ (xx_inTB (of_decide_eq_true hW2) rfl)) hd (kk H locs lsA hr hv)
    · cases hW2
    · cases h
  case ldc2_w idx =>
    simp only [yy_okW, xx_okW, Bool.and_eq_true] at hW
    have hl := Nat.eq_of_beq_eq_true hW.1
    subst hl
    have hW2 := hW.2
    simp only [yy_disp, yy_hldc2] at h
    split at h
    · rename_i q g n
      obtain ⟨rfl, rfl, rfl, rfl⟩ := yy_nx_eq h
      exact lv_ldc2 hx hb hown (hts _ (xx_inTB (of_decide_eq_true hW2) rfl)) hd (kk H locs lsA hr hv)
    · cases h
  case iload_n n =>
    have hl := Nat.eq_of_beq_eq_true hW
    subst hl
    exact yy_hil_ok (d := d) (ops := ops) (fun hg kk9 => lv_iload_n hx hb hd rfl hg kk9) hr hv h kk
  case iload n =>
    have hl := Nat.eq_of_beq_eq_true hW
    subst hl
    exact yy_hil_ok (d := d) (ops := ops) (fun hg kk9 => lv_iload hx hb hd hg kk9) hr hv h kk
  case lload_n n =>
    have hl := Nat.eq_of_beq_eq_true hW
    subst hl
    exact yy_hll_ok (d := d) (ops := ops) (fun hg kk9 => lv_lload_n hx hb hd rfl hg kk9) hr hv h kk
  case lload n =>
    have hl := Nat.eq_of_beq_eq_true hW
    subst hl
    exact yy_hll_ok (d := d) (ops := ops) (fun hg kk9 => lv_lload hx hb hd hg kk9) hr hv h kk
  case aload_n n =>
    have hl := Nat.eq_of_beq_eq_true hW
    subst hl
    exact yy_hal_ok (d := d) (ops := ops) (fun hg kk9 => lv_aload_n hx hb hd rfl hg kk9) hr hv h kk
  case aload n =>
    have hl := Nat.eq_of_beq_eq_true hW
    subst hl
    exact yy_hal_ok (d := d) (ops := ops) (fun hg kk9 => lv_aload hx hb hd hg kk9) hr hv h kk
  case istore_n n =>
    have hl := Nat.eq_of_beq_eq_true hW
    subst hl
    exact yy_his_ok (d := d) (ops := ops) (fun hn he kk9 => lv_istore_n hx hb hd rfl hv hn he kk9) hr h kk
  case istore n =>
    have hl := Nat.eq_of_beq_eq_true hW
    subst hl
    exact yy_his_ok (d := d) (ops := ops) (fun hn he kk9 => lv_istore hx hb hd hv hn he kk9) hr h kk
  case lstore_n n =>
    have hl := Nat.eq_of_beq_eq_true hW
    subst hl
    exact yy_hls_ok (d := d) (ops := ops) (fun hn he kk9 => lv_lstore_n hx hb hd rfl hv hn he kk9) hr h kk
  case lstore n =>
    have hl := Nat.eq_of_beq_eq_true hW
    subst hl
    exact yy_hls_ok (d := d) (ops := ops) (fun hn he kk9 => lv_lstore hx hb hd hv hn he kk9) hr h kk
  case astore_n n =>
    have hl := Nat.eq_of_beq_eq_true hW
    subst hl
    exact yy_has_ok (d := d) (ops := ops) (fun hn he kk9 => lv_astore_n hx hb hd rfl hv hn he kk9) hr h kk
  case iinc j n =>
    have hl := Nat.eq_of_beq_eq_true hW
    subst hl
    exact yy_hinc_ok (d := d) (ops := ops) hx hb hd hr hv h kk
  case iadd =>
    have hl := Nat.eq_of_beq_eq_true hW
    subst hl
    exact yy_h2_ok (d := d) (ops := ops) (fun kk9 => lv_iadd hx hb hd kk9) hr hv h kk
  case isub =>
    have hl := Nat.eq_of_beq_eq_true hW
    subst hl
    exact yy_h2_ok (d := d) (ops := ops) (fun kk9 => lv_isub hx hb hd kk9) hr hv h kk
  case imul =>
    have hl := Nat.eq_of_beq_eq_true hW
    subst hl
    exact yy_h2_ok (d := d) (ops := ops) (fun kk9 => lv_imul hx hb hd kk9) hr hv h kk
  case iand =>
    have hl := Nat.eq_of_beq_eq_true hW
    subst hl
    exact yy_h2_ok (d := d) (ops := ops) (fun kk9 => lv_iand hx hb hd kk9) hr hv h kk
  case ior =>
    have hl := Nat.eq_of_beq_eq_true hW
    subst hl
    exact yy_h2_ok (d := d) (ops := ops) (fun kk9 => lv_ior hx hb hd kk9) hr hv h kk
  case ixor =>
    have hl := Nat.eq_of_beq_eq_true hW
    subst hl
    exact yy_h2_ok (d := d) (ops := ops) (fun kk9 => lv_ixor hx hb hd kk9) hr hv h kk
  case ishl =>
    have hl := Nat.eq_of_beq_eq_true hW
    subst hl
    exact yy_h2_ok (d := d) (ops := ops) (fun kk9 => lv_ishl hx hb hd kk9) hr hv h kk
  case ishr =>
    have hl := Nat.eq_of_beq_eq_true hW
    subst hl
    exact yy_h2_ok (d := d) (ops := ops) (fun kk9 => lv_ishr hx hb hd kk9) hr hv h kk
  case iushr =>
    have hl := Nat.eq_of_beq_eq_true hW
    subst hl
    exact yy_h2_ok (d := d) (ops := ops) (fun kk9 => lv_iushr hx hb hd rfl kk9) hr hv h kk
  case idiv =>
    have hl := Nat.eq_of_beq_eq_true hW
    subst hl
    exact yy_hdv_ok (d := d) (ops := ops) (fun hz kk9 => lv_idiv hx hb hd hz kk9) hr hv h kk
  case irem =>
    have hl := Nat.eq_of_beq_eq_true hW
    subst hl
    exact yy_hdv_ok (d := d) (ops := ops) (fun hz kk9 => lv_irem hx hb hd hz kk9) hr hv h kk
  case ineg =>
    have hl := Nat.eq_of_beq_eq_true hW
    subst hl
    exact yy_h1_ok (d := d) (ops := ops) (fun kk9 => lv_ineg hx hb hd kk9) hr hv h kk
  case i2b =>
    have hl := Nat.eq_of_beq_eq_true hW
    subst hl
    exact yy_h1_ok (d := d) (ops := ops) (fun kk9 => lv_i2b hx hb hd rfl kk9) hr hv h kk
  case i2c =>
    have hl := Nat.eq_of_beq_eq_true hW
    subst hl
    exact yy_h1_ok (d := d) (ops := ops) (fun kk9 => lv_i2c hx hb hd rfl kk9) hr hv h kk
  case ladd =>
    have hl := Nat.eq_of_beq_eq_true hW
    subst hl
    exact yy_hl2_ok (d := d) (ops := ops) (fun kk9 => lv_ladd hx hb hd kk9) hr hv h kk
  case lsub =>
    have hl := Nat.eq_of_beq_eq_true hW
    subst hl
    exact yy_hl2_ok (d := d) (ops := ops) (fun kk9 => lv_lsub hx hb hd kk9) hr hv h kk
  case land =>
    have hl := Nat.eq_of_beq_eq_true hW
    subst hl
    exact yy_hl2_ok (d := d) (ops := ops) (fun kk9 => lv_land hx hb hd kk9) hr hv h kk
  case lor =>
    have hl := Nat.eq_of_beq_eq_true hW
    subst hl
    exact yy_hl2_ok (d := d) (ops := ops) (fun kk9 => lv_lor hx hb hd kk9) hr hv h kk
  case lxor =>
    have hl := Nat.eq_of_beq_eq_true hW
    subst hl
    exact yy_hl2_ok (d := d) (ops := ops) (fun kk9 => lv_lxor hx hb hd kk9) hr hv h kk
  case lshl =>
    have hl := Nat.eq_of_beq_eq_true hW
    subst hl
    exact yy_hlsh_ok (d := d) (ops := ops) (fun kk9 => lv_lshl hx hb hd rfl kk9) hr hv h kk
  case lushr =>
    have hl := Nat.eq_of_beq_eq_true hW
    subst hl
    exact yy_hlsh_ok (d := d) (ops := ops) (fun kk9 => lv_lushr hx hb hd rfl kk9) hr hv h kk
  case lshr =>
    have hl := Nat.eq_of_beq_eq_true hW
    subst hl
    exact yy_hlsh_ok (d := d) (ops := ops) (fun kk9 => lv_lshr hx hb hd rfl kk9) hr hv h kk
  case lcmp =>
    have hl := Nat.eq_of_beq_eq_true hW
    subst hl
    simp only [yy_disp, yy_hlcmp] at h
    split at h
    · obtain ⟨rfl, rfl, rfl, rfl⟩ := yy_nx_eq h
      exact W.lcmp hx hb hd (kk H locs lsA hr hv)
    · cases h
  case i2l =>
    have hl := Nat.eq_of_beq_eq_true hW
    subst hl
    simp only [yy_disp, yy_hi2l] at h
    split at h
    · obtain ⟨rfl, rfl, rfl, rfl⟩ := yy_nx_eq h
      exact lv_i2l hx hb hd rfl (kk H locs lsA hr hv)
    · cases h
  case l2i =>
    have hl := Nat.eq_of_beq_eq_true hW
    subst hl
    simp only [yy_disp, yy_hl2i] at h
    split at h
    · obtain ⟨rfl, rfl, rfl, rfl⟩ := yy_nx_eq h
      exact lv_l2i hx hb hd rfl (kk H locs lsA hr hv)
    · cases h
  case dup =>
    have hl := Nat.eq_of_beq_eq_true hW
    subst hl
    exact yy_hdup_ok (d := d) (ops := ops) (fun hc kk9 => lv_dup hx hb hd hc kk9) hr hv h kk
  case pop =>
    have hl := Nat.eq_of_beq_eq_true hW
    subst hl
    exact yy_hpop_ok (d := d) (ops := ops) (fun hc kk9 => lv_pop hx hb hd hc kk9) hr hv h kk
  case dup2 =>
    have hl := Nat.eq_of_beq_eq_true hW
    subst hl
    simp only [yy_disp, yy_hdup2] at h
    split at h
    · rename_i v u rest
      split at h
      · rename_i hc
        obtain ⟨rfl, rfl, rfl, rfl⟩ := yy_nx_eq h
        exact lv_dup2_2 hx hb hd (by rw [yy_g_cat]; exact Nat.eq_of_beq_eq_true hc) (kk H locs lsA hr hv)
      · rename_i hc
        split at h
        · rename_i hu
          obtain ⟨rfl, rfl, rfl, rfl⟩ := yy_nx_eq h
          have hc1 : yy_cat v = 1 := by
            have := Nat.ne_of_beq_eq_false hc
            rcases v with x | x | x
            · rfl
            · exact absurd rfl this
            · rfl
          exact lv_dup2_11 hx hb hd (by rw [yy_g_cat]; exact hc1) (by rw [yy_g_cat]; exact Nat.eq_of_beq_eq_true hu) (kk H locs lsA hr hv)
        · cases h
    · cases h
  case getfield idx =>
    exact yy_getf_ok hC hd hW hr hv h kk
  case putfield idx =>
    exact yy_putf_ok hC hd hW hr hv h kk
  case getstatic idx =>
    exact yy_gets_ok hC hd hW hr hv h kk
  case iaload =>
    have hl := Nat.eq_of_beq_eq_true hW
    subst hl
    exact yy_iald_ok (ops := ops) hC hd hr hv h kk
  case baload =>
    have hl := Nat.eq_of_beq_eq_true hW
    subst hl
    exact yy_bald_ok (ops := ops) hC hd hr hv h kk
  case laload =>
    have hl := Nat.eq_of_beq_eq_true hW
    subst hl
    exact yy_lald_ok (ops := ops) hC hd hr hv h kk
  case aaload =>
    have hl := Nat.eq_of_beq_eq_true hW
    subst hl
    exact yy_aald_ok (ops := ops) hC hd hr hv h kk
  case iastore =>
    have hl := Nat.eq_of_beq_eq_true hW
    subst hl
    exact yy_iast_ok (ops := ops) hC hd hr hv h kk
  case bastore =>
    have hl := Nat.eq_of_beq_eq_true hW
    subst hl
    exact yy_bast_ok (ops := ops) hC hd hr hv h kk
  case lastore =>
    have hl := Nat.eq_of_beq_eq_true hW
    subst hl
    exact yy_last_ok (ops := ops) hC hd hr hv h kk
  case arraylength =>
    have hl := Nat.eq_of_beq_eq_true hW
    subst hl
    exact yy_len_ok (ops := ops) hC hd hr hv h kk
  case goto off =>
    have hl := Nat.eq_of_beq_eq_true hW
    subst hl
    obtain ⟨ht, rfl, rfl, rfl⟩ := yy_to_eq h
    exact lv_goto hx hb hd ht (kk H locs lsA hr hv)
  case ifCond cnd off =>
    have hl := Nat.eq_of_beq_eq_true hW
    subst hl
    simp only [yy_disp, yy_hif] at h
    split at h
    · rename_i x rest
      obtain ⟨tgt, htgt⟩ := Int.eq_ofNat_of_zero_le ((xx_le_iff _ _).mp hT)
      split at h
      · rename_i hq
        obtain ⟨ht, rfl, rfl, rfl⟩ := yy_to_eq h
        exact xx_ifc hx hb hd ht (fun _ => kk H locs lsA hr hv) (fun h9 => absurd (yy_rel_ok.1 hq) h9)
      · rename_i hq
        obtain ⟨rfl, rfl, rfl, rfl⟩ := yy_nx_eq h
        exact xx_ifc hx hb hd htgt (fun h9 => absurd h9 (yy_rel_ok.2 hq)) (fun _ => kk H locs lsA hr hv)
    · cases h
  case if_icmp cnd off =>
    have hl := Nat.eq_of_beq_eq_true hW
    subst hl
    simp only [yy_disp, yy_hicmp] at h
    split at h
    · rename_i y x rest
      obtain ⟨tgt, htgt⟩ := Int.eq_ofNat_of_zero_le ((xx_le_iff _ _).mp hT)
      split at h
      · rename_i hq
        obtain ⟨ht, rfl, rfl, rfl⟩ := yy_to_eq h
        exact xx_icmp hx hb hd ht (fun _ => kk H locs lsA hr hv) (fun h9 => absurd (yy_rel_ok.1 hq) h9)
      · rename_i hq
        obtain ⟨rfl, rfl, rfl, rfl⟩ := yy_nx_eq h
        exact xx_icmp hx hb hd htgt (fun h9 => absurd h9 (yy_rel_ok.2 hq)) (fun _ => kk H locs lsA hr hv)
    · cases h
  case tableswitch dd lo hi offs =>
    simp only [yy_disp, yy_htab] at h
    split at h
    · rename_i x rest
      split at h
      · rename_i hq
        obtain ⟨ht, rfl, rfl, rfl⟩ := yy_to_eq h
        exact lv_tableOut hx hb hd (of_decide_eq_true hq) ht (kk H locs lsA hr hv)
      · rename_i hq
        have hq := of_decide_eq_false hq
        split at h
        · rename_i o ho
          obtain ⟨ht, rfl, rfl, rfl⟩ := yy_to_eq h
          exact lv_tableIn hx hb hd (fun q => hq (Or.inl q)) (fun q => hq (Or.inr q)) ho ht (kk H locs lsA hr hv)
        · cases h
    · cases h
  case lookupswitch dd ps =>
    simp only [yy_disp, yy_hlook] at h
    split at h
    · rename_i x rest
      obtain ⟨ht, rfl, rfl, rfl⟩ := yy_to_eq h
      exact lv_lookup hx hb hd hW rfl ht (kk H locs lsA hr hv)
    · cases h
  case ireturn =>
    simp only [yy_disp, yy_hiret] at h
    split at h
    · split at h
      · cases h
      · split at h <;> cases h
      · split at h <;> cases h
      · split at h <;> cases h
      · cases h
    · cases h
  case lreturn =>
    simp only [yy_disp, yy_hlret] at h
    split at h
    · split at h <;> cases h
    · cases h
  case return_ =>
    simp only [yy_disp, yy_hvret] at h
    split at h
    · split at h <;> cases h
    · cases h
  case invokevirtual idx =>
    simp only [yy_disp, yy_hvirt] at h
    split at h
    · split at h
      · split at h <;> cases h
      · cases h
    · cases h
  case invokestatic idx =>
    simp only [yy_okW, Bool.and_eq_true] at hW
    have hl := Nat.eq_of_beq_eq_true hW.1
    subst hl
    have hW2 := hW.2
    have h0 := h
    simp only [yy_disp, yy_hstat] at h
    split at h
    · split at h <;> cases h
    · rename_i tl
      rw [Bool.or_eq_true] at hW2
      rcases hW2 with h9 | h9
      · cases h9
      · split at h9
        · rename_i a b d1 f1 heq
          simp only [Bool.and_eq_true] at h9
          exact yy_copy_ok (tl := tl) hC hd (of_decide_eq_true h9.1) (of_decide_eq_true h9.2.1) (of_decide_eq_true h9.2.2.1) (of_decide_eq_true h9.2.2.2) hr hv h0 kk
        · rename_i heq
          cases heq
        · rename_i heq
          cases heq
        · rename_i heq
          cases heq
        · cases of_decide_eq_true h9
    · rename_i tl
      rw [Bool.or_eq_true] at hW2
      rcases hW2 with h9 | h9
      · cases h9
      · split at h9
        · rename_i heq
          cases heq
        · rename_i a b d1 f1 heq
          simp only [Bool.and_eq_true] at h9
          exact yy_chk_ok (tl := tl) hC hd (of_decide_eq_true h9.1) (of_decide_eq_true h9.2.1) (of_decide_eq_true h9.2.2.1) (of_decide_eq_true h9.2.2.2) hr hv h0 kk
        · rename_i heq
          cases heq
        · rename_i heq
          cases heq
        · cases of_decide_eq_true h9
    · rename_i w9 tl
      rw [Bool.or_eq_true] at hW2
      rcases hW2 with h9 | h9
      · cases h9
      · split at h9
        · rename_i heq
          cases heq
        · rename_i heq
          cases heq
        · rename_i a b d1 f1 heq
          cases heq
          simp only [Bool.and_eq_true] at h9
          exact yy_max_ok (tl := [a, b, d1, f1]) hC hd (of_decide_eq_true h9.1) (of_decide_eq_true h9.2.1) (of_decide_eq_true h9.2.2.1) (of_decide_eq_true h9.2.2.2) hr hv h0 kk
        · rename_i a b d1 f1 heq
          cases heq
          simp only [Bool.and_eq_true] at h9
          exact yy_min_ok (tl := [a, b, d1, f1]) hC hd (of_decide_eq_true h9.1) (of_decide_eq_true h9.2.1) (of_decide_eq_true h9.2.2.1) (of_decide_eq_true h9.2.2.2) hr hv h0 kk
        · cases of_decide_eq_true h9
    · cases h
  all_goals (cases h)
end YR
