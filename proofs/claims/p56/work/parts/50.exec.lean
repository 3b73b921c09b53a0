/-! the engine's walks are sound -/
section ZI
variable {E : zz_E} {Φ : zz_Ph} {P : yy_P} {M : xx_M} {d pc len : Nat} {ops : List Nat} {D : zz_D} {sc : Bool} {ω0 ω : yy_O} {ρ : zz_P} {cs : zz_C} {nL : Nat} {ca : zz_A} {fl : zz_B} {ls : zz_L} {st : List zz_V} {lsC : yy_L} {stC : List yy_U} {k : zz_G}
theorem zz_inl_ok {i : Instr} {hd9 : zz_H} (hE : zz_env E Φ) (hfb : ∀ ci f q m, ops = [ci, f, q, m] → f < 1000000) (hP : P.1 = E.2.1) (hsc : zz_scm sc P.2.1 ρ D ω0) (ho : zz_ok E.2.2.1 Φ ρ ω cs nL ca fl ls st lsC stC) (hf : zz_fr D ω0 ω) (hdisp : zz_disp i = .inl hd9) (h : hd9 E M ops D sc cs nL ca fl ls st k = true) : zz_Nx E.2.2.1 Φ D ω0 k ρ (yy_disp i P M d pc len ops lsC stC ω) (pc + len) := by
  cases i
  case iconst n =>
    cases hdisp
    exact zz_hp_ok (P := P) (d := d) (fun ρ => rfl) ho hf h
  case bipush n =>
    cases hdisp
    exact zz_hp_ok (P := P) (d := d) (fun ρ => rfl) ho hf h
  case sipush n =>
    cases hdisp
    exact zz_hp_ok (P := P) (d := d) (fun ρ => rfl) ho hf h
  case lconst n =>
    cases hdisp
    exact zz_hp_ok (P := P) (d := d) (fun ρ => rfl) ho hf h
  case ldc idx =>
    cases hdisp
    exact zz_hldc_ok (P := P) (d := d) ho hf h
  case ldc_w idx =>
    cases hdisp
    exact zz_hldc_ok (P := P) (d := d) ho hf h
  case ldc2_w idx =>
    cases hdisp
    exact zz_hldc2_ok (P := P) (d := d) ho hf h
  case iload_n n =>
    cases hdisp
    exact zz_hil_ok (P := P) (d := d) ho hf h
  case iload n =>
    cases hdisp
    exact zz_hil_ok (P := P) (d := d) ho hf h
  case lload_n n =>
    cases hdisp
    exact zz_hll_ok (P := P) (d := d) ho hf h
  case lload n =>
    cases hdisp
    exact zz_hll_ok (P := P) (d := d) ho hf h
  case aload_n n =>
    cases hdisp
    exact zz_hal_ok (P := P) (d := d) ho hf h
  case aload n =>
    cases hdisp
    exact zz_hal_ok (P := P) (d := d) ho hf h
  case istore_n n =>
    cases hdisp
    exact zz_his_ok (P := P) (d := d) ho hf h
  case istore n =>
    cases hdisp
    exact zz_his_ok (P := P) (d := d) ho hf h
  case lstore_n n =>
    cases hdisp
    exact zz_hls_ok (P := P) (d := d) ho hf h
  case lstore n =>
    cases hdisp
    exact zz_hls_ok (P := P) (d := d) ho hf h
  case astore_n n =>
    cases hdisp
    exact zz_has_ok (P := P) (d := d) ho hf h
  case iinc j n =>
    cases hdisp
    exact zz_hinc_ok (P := P) (d := d) ho hf h
  case iadd =>
    cases hdisp
    exact zz_h2_ok (P := P) (d := d) zz_tadd_ok (fun _ => rfl) (fun h9 => by cases h9) (fun k hk ρ va vb x y h1 h2 => by cases hk; exact ⟨x, y, h1, h2, rfl⟩) ho hf h
  case isub =>
    cases hdisp
    exact zz_h2_ok (P := P) (d := d) zz_tsub_ok (fun h9 => by cases h9) (fun _ => rfl) (fun k hk ρ va vb x y h1 h2 => by cases hk; exact ⟨x, y, h1, h2, rfl⟩) ho hf h
  case imul =>
    cases hdisp
    exact zz_h2_ok (P := P) (d := d) zz_tmul_ok (fun h9 => by cases h9) (fun h9 => by cases h9) (fun k hk ρ va vb x y h1 h2 => by cases hk; exact ⟨x, y, h1, h2, rfl⟩) ho hf h
  case iand =>
    cases hdisp
    exact zz_h2_ok (P := P) (d := d) zz_tand_ok (fun h9 => by cases h9) (fun h9 => by cases h9) (fun k hk ρ va vb x y h1 h2 => by cases hk; exact ⟨x, y, h1, h2, rfl⟩) ho hf h
  case ior =>
    cases hdisp
    exact zz_h2_ok (P := P) (d := d) zz_tor_ok (fun h9 => by cases h9) (fun h9 => by cases h9) (fun k hk ρ va vb x y h1 h2 => by cases hk; exact ⟨x, y, h1, h2, rfl⟩) ho hf h
  case ixor =>
    cases hdisp
    exact zz_h2_ok (P := P) (d := d) (zz_tno_ok _) (fun h9 => by cases h9) (fun h9 => by cases h9) (fun k hk ρ va vb x y h1 h2 => by cases hk; exact ⟨x, y, h1, h2, rfl⟩) ho hf h
  case ishl =>
    cases hdisp
    exact zz_h2_ok (P := P) (d := d) (zz_tno_ok _) (fun h9 => by cases h9) (fun h9 => by cases h9) (fun k hk ρ va vb x y h1 h2 => by cases hk; exact ⟨x, y, h1, h2, rfl⟩) ho hf h
  case ishr =>
    cases hdisp
    exact zz_h2_ok (P := P) (d := d) (zz_tno_ok _) (fun h9 => by cases h9) (fun h9 => by cases h9) (fun k hk => by cases hk) ho hf h
  case iushr =>
    cases hdisp
    exact zz_h2_ok (P := P) (d := d) (zz_tno_ok _) (fun h9 => by cases h9) (fun h9 => by cases h9) (fun k hk => by cases hk) ho hf h
  case idiv =>
    cases hdisp
    exact zz_hdv_ok (P := P) (d := d) zz_tdiv_ok (fun h9 => by cases h9) (fun h9 => by cases h9) (fun k hk => by cases hk) ho hf h
  case irem =>
    cases hdisp
    exact zz_hdv_ok (P := P) (d := d) zz_trem_ok (fun h9 => by cases h9) (fun h9 => by cases h9) (fun k hk => by cases hk) ho hf h
  case ineg =>
    cases hdisp
    exact zz_h1_ok (P := P) (d := d) (fun x => xx_rng _) ho hf h
  case i2b =>
    cases hdisp
    exact zz_h1_ok (P := P) (d := d) (fun x => zz_b8 x) ho hf h
  case i2c =>
    cases hdisp
    exact zz_hi2c_ok (P := P) (d := d) ho hf h
  case ladd =>
    cases hdisp
    exact zz_hl2_ok (P := P) (d := d) ho hf h
  case lsub =>
    cases hdisp
    exact zz_hl2_ok (P := P) (d := d) ho hf h
  case land =>
    cases hdisp
    exact zz_hl2_ok (P := P) (d := d) ho hf h
  case lor =>
    cases hdisp
    exact zz_hl2_ok (P := P) (d := d) ho hf h
  case lxor =>
    cases hdisp
    exact zz_hl2_ok (P := P) (d := d) ho hf h
  case lshl =>
    cases hdisp
    exact zz_hlsh_ok (P := P) (d := d) ho hf h
  case lushr =>
    cases hdisp
    exact zz_hlsh_ok (P := P) (d := d) ho hf h
  case lshr =>
    cases hdisp
    exact zz_hlsh_ok (P := P) (d := d) ho hf h
  case lcmp =>
    cases hdisp
    exact zz_hlcmp_ok (P := P) (d := d) ho hf h
  case i2l =>
    cases hdisp
    exact zz_hi2l_ok (P := P) (d := d) ho hf h
  case l2i =>
    cases hdisp
    exact zz_hl2i_ok (P := P) (d := d) ho hf h
  case dup =>
    cases hdisp
    exact zz_hdup_ok (P := P) (d := d) ho hf h
  case dup2 =>
    cases hdisp
    exact zz_hdup2_ok (P := P) (d := d) ho hf h
  case pop =>
    cases hdisp
    exact zz_hpop_ok (P := P) (d := d) ho hf h
  case getfield idx =>
    cases hdisp
    exact zz_hgetf_ok (P := P) (d := d) hfb hP ho hf h
  case putfield idx =>
    cases hdisp
    exact zz_hputf_ok (P := P) (d := d) hE hfb hP ho hf h
  case getstatic idx =>
    cases hdisp
    exact zz_hgets_ok (P := P) (d := d) ho hf h
  case iaload =>
    cases hdisp
    exact zz_hiald_ok (P := P) (d := d) hE hP hsc ho hf h
  case baload =>
    cases hdisp
    exact zz_hbald_ok (P := P) (d := d) hE hP ho hf h
  case laload =>
    cases hdisp
    exact zz_hlald_ok (P := P) (d := d) hP ho hf h
  case iastore =>
    cases hdisp
    exact zz_hiast_ok (P := P) (d := d) hE hP ho hf h
  case bastore =>
    cases hdisp
    exact zz_hbast_ok (P := P) (d := d) hE hP ho hf h
  case lastore =>
    cases hdisp
    exact zz_hlast_ok (P := P) (d := d) hE hP ho hf h
  case arraylength =>
    cases hdisp
    exact zz_hlen_ok (P := P) (d := d) hP hsc ho hf h
  all_goals first
    | (cases hdisp; done)
    | (cases hdisp; cases h; done)
end ZI
/-! ranks -/
def zz_vi (ρ : zz_P) (v : zz_V) : Int := match zz_val ρ v with
  | some (.inl x) => x.toInt
  | _ => 0
def zz_dg (ρ : zz_P) (p : Bool × zz_V) : Nat := match p.1 with
  | true => (xx_hi - zz_vi ρ p.2).toNat
  | false => (zz_vi ρ p.2 - xx_lo).toNat
def zz_mu (ρ : zz_P) : zz_Q → Nat
  | [] => 0
  | p :: r => zz_dg ρ p * 4294967296 ^ r.length + zz_mu ρ r
theorem zz_vi_rng (ρ : zz_P) (v : zz_V) : xx_lo ≤ zz_vi ρ v ∧ zz_vi ρ v ≤ xx_hi := by
  unfold zz_vi
  split
  · exact xx_rng _
  · exact ⟨by decide, by decide⟩
theorem zz_dg_lt (ρ : zz_P) (p : Bool × zz_V) : zz_dg ρ p < 4294967296 := by
  have := zz_vi_rng ρ p.2
  unfold zz_dg
  unfold xx_lo xx_hi at *
  split <;> omega
theorem zz_mu_lt (ρ : zz_P) : ∀ q : zz_Q, zz_mu ρ q < 4294967296 ^ q.length
  | [] => Nat.lt_succ_self 0
  | p :: r => by
    have h1 := zz_mu_lt ρ r
    have h2 := zz_dg_lt ρ p
    have h3 : (zz_dg ρ p + 1) * 4294967296 ^ r.length ≤ 4294967296 * 4294967296 ^ r.length := Nat.mul_le_mul_right _ h2
    rw [Nat.add_mul, Nat.one_mul] at h3
    simp only [zz_mu, List.length_cons, Nat.pow_succ]
    rw [Nat.mul_comm (4294967296 ^ r.length)]
    omega
theorem zz_lex_ok {ρ' σ ρs : zz_P} {cs : zz_C} {bI bL : List zz_V} (hc : zz_csm ρ' cs) (hb : zz_bm ρ' bI bL σ) (he : zz_ex ρs ρ') : ∀ {q s : zz_Q}, q.length = s.length → (∀ p ∈ s, ∃ x, zz_val ρs p.2 = some (.inl x)) → zz_lex cs bI bL q s = true → zz_mu σ q < zz_mu ρs s
  | [], _, _, _, h => by cases h
  | _ :: _, [], hl, _, _ => by cases hl
  | (g, v) :: d, (h9, w) :: s, hl, hs, h => by
    have hl : d.length = s.length := Nat.succ.inj hl
    obtain ⟨y, hy⟩ := hs _ List.mem_cons_self
    have hy : zz_val ρs w = some (.inl y) := hy
    have hy' := zz_val_ex he hy
    simp only [zz_lex] at h
    split at h
    · rename_i x hx
      obtain ⟨u, u1, u2⟩ := zz_sb_val hb hx
      have ih := zz_lex_ok hc hb he (q := d) (s := s) hl (fun p hp => hs p (List.mem_cons_of_mem _ hp))
      have m1 := zz_mu_lt σ d
      have done : ∀ {a b : Nat}, a < b → a * 4294967296 ^ d.length + zz_mu σ d < b * 4294967296 ^ s.length + zz_mu ρs s := by
        intro a b hab
        have : (a + 1) * 4294967296 ^ d.length ≤ b * 4294967296 ^ d.length := Nat.mul_le_mul_right _ hab
        rw [Nat.add_mul, Nat.one_mul] at this
        rw [← hl]
        omega
      have more : ∀ {a b : Nat}, a ≤ b → zz_mu σ d < zz_mu ρs s → a * 4294967296 ^ d.length + zz_mu σ d < b * 4294967296 ^ s.length + zz_mu ρs s := by
        intro a b hab hmu
        have : a * 4294967296 ^ d.length ≤ b * 4294967296 ^ d.length := Nat.mul_le_mul_right _ hab
        rw [← hl]
        omega
      have vw : zz_vi ρs w = y.toInt := by unfold zz_vi; rw [hy]
      have rngv := zz_vi_rng σ v
      have rngw := zz_vi_rng ρs w
      have vv : ∀ {z : Int32}, u = .inl z → zz_vi σ v = z.toInt := by
        intro z hz
        unfold zz_vi
        rw [u2, hz]
      have isI : ∀ {c : Int} {a b : zz_V}, zz_geV cs a b c = true → zz_isI a = true ∧ zz_isI b = true := by
        intro c a b hg
        simp only [zz_geV] at hg
        split at hg
        · rename_i ra hra
          split at hg
          · rename_i rb hrb
            exact ⟨zz_iv_isI hra, zz_iv_isI hrb⟩
          · cases hg
        · cases hg
      split at h
      · rw [Bool.and_eq_true, Bool.or_eq_true, Bool.and_eq_true] at h
        have eh := h.1
        subst eh
        have hxI : zz_isI x = true := by
          rcases h.2 with g1 | g1
          · exact (isI g1).1
          · exact (isI g1.1).1
        obtain ⟨z, hz⟩ := zz_isI_val u1 hxI
        rw [hz] at u1
        have e1 := vv hz
        show zz_dg σ (true, v) * _ + _ < zz_dg ρs (true, w) * _ + _
        rcases h.2 with g1 | g1
        · have := zz_geV_ok hc g1 u1 hy'
          exact done (by show (xx_hi - zz_vi σ v).toNat < (xx_hi - zz_vi ρs w).toNat; omega)
        · have := zz_geV_ok hc g1.1 u1 hy'
          exact more (by show (xx_hi - zz_vi σ v).toNat ≤ (xx_hi - zz_vi ρs w).toNat; omega) (ih g1.2)
      · rw [Bool.and_eq_true, Bool.or_eq_true, Bool.and_eq_true, Bool.not_eq_true'] at h
        have eh := h.1
        subst eh
        have hxI : zz_isI x = true := by
          rcases h.2 with g1 | g1
          · exact (isI g1).2
          · exact (isI g1.1).2
        obtain ⟨z, hz⟩ := zz_isI_val u1 hxI
        rw [hz] at u1
        have e1 := vv hz
        show zz_dg σ (false, v) * _ + _ < zz_dg ρs (false, w) * _ + _
        rcases h.2 with g1 | g1
        · have := zz_geV_ok hc g1 hy' u1
          exact done (by show (zz_vi σ v - xx_lo).toNat < (zz_vi ρs w - xx_lo).toNat; omega)
        · have := zz_geV_ok hc g1.1 hy' u1
          exact more (by show (zz_vi σ v - xx_lo).toNat ≤ (zz_vi ρs w - xx_lo).toNat; omega) (ih g1.2)
    · cases h
theorem zz_bm_pre {ρs ρ' σ : zz_P} {i l bI bL : List zz_V} (h : zz_bm ρs i l ρs) (he : zz_ex ρs ρ') (h1 : i <+: bI) (h2 : l <+: bL) (hb : zz_bm ρ' bI bL σ) : zz_ex ρs σ := by
  have gen : ∀ {α : Type} {f : α → yy_U}, (∀ a b, f a = f b → a = b) → ∀ {i b : List zz_V} {m n : List α}, i <+: b → i.map (zz_val ρ') = m.map (fun x => some (f x)) → b.map (zz_val ρ') = n.map (fun x => some (f x)) → m <+: n := by
    intro α f hf i b m n hp hi hbm
    obtain ⟨t, rfl⟩ := hp
    rw [List.map_append, hi] at hbm
    clear hi
    induction m generalizing n with
    | nil => exact List.nil_prefix
    | cons x m ih =>
      cases n with
      | nil => cases hbm
      | cons y n =>
        rw [List.map_cons, List.map_cons, List.cons_append, List.cons.injEq] at hbm
        have := hf x y (Option.some.inj hbm.1)
        subst this
        exact (List.cons_prefix_cons).mpr ⟨rfl, ih hbm.2⟩
  exact ⟨gen (f := fun x => .inl x) (fun a b h => Sum.inl.inj h) h1 (zz_map_ex he (fun x => .inl x) h.1) hb.1, gen (f := fun x => .inr (.inl x)) (fun a b h => Sum.inl.inj (Sum.inr.inj h)) h2 (zz_map_ex he (fun x => .inr (.inl x)) h.2) hb.2⟩
theorem zz_cut_ok {E : zz_E} {Φ : zz_Ph} {ω : yy_O} {ρ : zz_P} {cs : zz_C} {nL : Nat} {ca : zz_A} {fl : zz_B} {ls : zz_L} {st : List zz_V} {lsC : yy_L} {stC : List yy_U} {i0 l0 : List zz_V} {rk : Option zz_Q} {pc : Nat} (hE : zz_env E Φ) (ho : zz_ok E.2.2.1 Φ ρ ω cs nL ca fl ls st lsC stC) : ∀ {ct : zz_T}, zz_cut E i0 l0 rk cs nL ca fl ls st pc ct = true → ∃ Z q ρ' cs' bI bL σ, (pc, (Z, q)) ∈ ct ∧ zz_ex ρ ρ' ∧ zz_csm ρ' cs' ∧ i0 <+: bI ∧ l0 <+: bL ∧ zz_bm ρ' bI bL σ ∧ zz_ok E.2.2.1 Φ σ ω Z.1 Z.2.1 Z.2.2.1 Z.2.2.2.1 Z.2.2.2.2.1 Z.2.2.2.2.2 lsC stC ∧ zz_rank cs' bI bL q rk = true
  | [], h => by cases h
  | (p, (Z, q)) :: r, h => by
    have go : zz_cut E i0 l0 rk cs nL ca fl ls st pc r = true → ∃ Z' q' ρ' cs' bI bL σ, (pc, (Z', q')) ∈ (p, (Z, q)) :: r ∧ zz_ex ρ ρ' ∧ zz_csm ρ' cs' ∧ i0 <+: bI ∧ l0 <+: bL ∧ zz_bm ρ' bI bL σ ∧ zz_ok E.2.2.1 Φ σ ω Z'.1 Z'.2.1 Z'.2.2.1 Z'.2.2.2.1 Z'.2.2.2.2.1 Z'.2.2.2.2.2 lsC stC ∧ zz_rank cs' bI bL q' rk = true := by
      intro h
      obtain ⟨Z', q', ρ', cs', bI, bL, σ, a1, a2⟩ := zz_cut_ok hE ho h
      exact ⟨Z', q', ρ', cs', bI, bL, σ, List.mem_cons_of_mem _ a1, a2⟩
    simp only [zz_cut] at h
    split at h
    · rename_i hp
      have e := Nat.eq_of_beq_eq_true hp
      subst e
      rcases zz_mt_ok hE ho h with h9 | ⟨ρ', cs', nL', ca', bI, bL, σ, e1, e2, e3, e4, e5, e6, e7⟩
      · exact go h9
      · rw [Bool.or_eq_true] at e7
        rcases e7 with e7 | e7
        · exact ⟨Z, q, ρ', cs', bI, bL, σ, List.mem_cons_self, e1, e2.1, e3, e4, e5, e6, e7⟩
        · exact go e7
    · exact go h
