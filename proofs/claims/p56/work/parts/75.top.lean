/-! the top of a formula's pile -/
def zz_tZ (p n : Nat) (kp kn : Option (Nat × Int)) (pl ph nl nh : Int) (Z : zz_Z) : zz_Z := zz_yZ n nl nh kn (zz_yZ p pl ph kp Z)
def zz_nZ (ys : zz_C) (Z : zz_Z) : zz_Z := (Z.1 ++ ys, Z.2)
theorem zl_ok1 {tau : Nat → Nat → Int × Int} {Φ : zz_Ph} {σ : zz_P} {ω : yy_O} {Z : zz_Z} {lsC : yy_L} {stC : List yy_U} {y : zz_Y} {x : Int32} (ho : zz_ok tau Φ σ ω Z.1 Z.2.1 Z.2.2.1 Z.2.2.2.1 Z.2.2.2.2.1 Z.2.2.2.2.2 lsC stC) (hy : zz_ym σ y x) : zz_ex σ (σ.1 ++ [x], σ.2) ∧ zz_ok tau Φ (σ.1 ++ [x], σ.2) ω (Z.1 ++ [y]) Z.2.1 Z.2.2.1 Z.2.2.2.1 Z.2.2.2.2.1 Z.2.2.2.2.2 lsC stC ∧ zz_val (σ.1 ++ [x], σ.2) (.inr (.inl (Z.1.length, 0))) = some (.inl x) := by
  obtain ⟨e1, e2, e3⟩ := zz_csm_new ho.1 hy
  exact ⟨e1, ho.ex e1 e2 ho.2.1, e3⟩
theorem zl_ixp {σ : zz_P} {p : Nat} {x : Int32} (h : zz_val σ (.inr (.inl (p, 0))) = some (.inl x)) (h1 : 1 ≤ x.toInt) (h2 : x.toInt ≤ 100) : ∃ y, zz_val σ (.inr (.inl (p, -1))) = some (.inl y) ∧ 0 ≤ y.toInt ∧ y.toNatClampNeg = x.toInt.toNat - 1 := by
  have hv : zz_val σ (.inr (.inl (p, -1))) = some (.inl (x + Int32.ofInt (-1))) := by
    simp only [zz_val, zl_s0 h]
  have e2 : (x + Int32.ofInt (-1)).toInt = x.toInt - 1 := by
    have h9 : Int32.ofInt x.toInt = x := Int32.ofInt_toInt x
    rw [← h9, ← Int32.ofInt_add, h9]
    exact xx_ofInt (by unfold xx_lo; omega) (by unfold xx_hi; omega)
  have := zz_natc (j := x + Int32.ofInt (-1)) (by omega)
  exact ⟨_, hv, by omega, by omega⟩
theorem zl_top {kee : Nat → Int64} {tau : Nat → Nat → Int × Int} {Z : zz_Z} {b i p n N : Nat} {c u : zz_V} {pl ph nl nh : Int} {kp kn : Option (Nat × Int)} {dp dn : Option zz_F} (hb : zl_b b) (hi : Z.2.2.2.1[i]? = some (12 + b, [.inr (.inl (p, 0)), c, .inr (.inl (n, 0)), u, .inl 0])) (hp : Z.1[p]? = some (pl, (ph, (kp, dp)))) (hn : Z.1[n]? = some (nl, (nh, (kn, dn)))) (hN : Z.1.length = N) :
    zz_ho tau (zp_phi kee) Z [zz_cZ ((20, (.inr (.inl (p, -1)), .inl 8)) :: Z.2.2.1) (zz_tZ p n kp kn (zz_max pl 1) (zz_min ph 1) (zz_max nl 0) (zz_min nh 7) Z),
      zz_cZ ((20, (.inr (.inl (p, -1)), .inl 7)) :: Z.2.2.1) (zz_tZ p n kp kn (zz_max pl 2) (zz_min ph 90) (zz_max nl 1) (zz_min nh 7) Z),
      zz_cZ ((20, (.inr (.inl (p, -1)), .inl 3)) :: (19, (.inr (.inl (p, -1)), .inl 126)) :: Z.2.2.1) (zz_tZ p n kp kn (zz_max pl 2) (zz_min ph 90) (zz_max nl 1) (zz_min nh 7) Z),
      zz_cZ ((20, (.inr (.inl (p, -1)), .inl 1)) :: (19, (.inr (.inl (p, -1)), .inl 124)) :: Z.2.2.1) (zz_tZ p n kp kn (zz_max pl 2) (zz_min ph 90) (zz_max nl 0) (zz_min nh 7) Z),
      zz_cZ ((20, (.inr (.inl (p, -1)), .inl 2)) :: (19, (.inr (.inl (p, -1)), .inl 38)) :: Z.2.2.1) (zz_tZ p n kp kn (zz_max pl 2) (zz_min ph 90) (zz_max nl 0) (zz_min nh 7) Z),
      zz_cZ ((20, (.inr (.inl (p, -1)), .inr (.inl (N, 0)))) :: (19, (.inr (.inl (p, -1)), .inr (.inl (N + 1, 0)))) :: Z.2.2.1) (zz_nZ [(4, (6, (none, none))), (37, (62, (none, none)))] (zz_tZ p n kp kn (zz_max pl 2) (zz_min ph 90) (zz_max nl 0) (zz_min nh 7) Z))] := by
  intro σ ω lsC stC ho
  obtain ⟨p', c', n', u', w', h1, h2, h3, h4, h5, h6⟩ := zl_ee hb ho hi
  have hpp := zp_ee_p h6
  obtain ⟨h, m, k, fr, l, q1, q2, q3, q4, -⟩ := h6
  obtain ⟨y, y1, y2, y3⟩ := zl_ixp h1 q2 (by omega)
  have sp := zl_s0 h1
  have sn := zl_s0 h3
  have bp := ho.1.2 p _ p' hp sp
  have bn := ho.1.2 n _ n' hn sn
  have bp1 : pl ≤ p'.toInt := bp.1
  have bp2 : p'.toInt ≤ ph := bp.2.1
  have bn1 : nl ≤ n'.toInt := bn.1
  have bn2 : n'.toInt ≤ nh := bn.2.1
  have base : ∀ {a b' c9 d : Int}, a ≤ p'.toInt → p'.toInt ≤ b' → c9 ≤ n'.toInt → n'.toInt ≤ d → zz_ok tau (zp_phi kee) σ ω (zz_tZ p n kp kn a b' c9 d Z).1 (zz_tZ p n kp kn a b' c9 d Z).2.1 (zz_tZ p n kp kn a b' c9 d Z).2.2.1 (zz_tZ p n kp kn a b' c9 d Z).2.2.2.1 (zz_tZ p n kp kn a b' c9 d Z).2.2.2.2.1 (zz_tZ p n kp kn a b' c9 d Z).2.2.2.2.2 lsC stC := by
    intro a b' c9 d g1 g2 g3 g4
    refine zz_yZ_ok (zz_yZ_ok ho ?_) ?_
    · intro x hx
      rw [sp] at hx
      cases hx
      exact ⟨g1, g2, bp.2.2.1⟩
    · intro x hx
      rw [sn] at hx
      cases hx
      exact ⟨g3, g4, bn.2.2.1⟩
  have keep : ∀ {a b' c9 d : Int}, (zz_tZ p n kp kn a b' c9 d Z).2.2.1 = Z.2.2.1 := by
    intro a b' c9 d
    unfold zz_tZ zz_yZ
    split <;> split <;> rfl
  have cm : ∀ {key : Nat} {v : zz_V} {x : Int32} {σ' : zz_P}, zz_ex σ σ' → zz_val σ' v = some (.inl x) → ω.1 key (p'.toInt.toNat - 1) = x → zz_cm σ' ω (key, (.inr (.inl (p, -1)), v)) := by
    intro key v x σ' hex hv he
    refine ⟨y, zz_val_ex hex y1, y2, Or.inl ?_⟩
    show zz_val σ' v = some (.inl (ω.1 key y.toNatClampNeg))
    rw [y3, he]
    exact hv
  have put2 : ∀ {o : zz_Z} {σ' : zz_P} {q1 q2 : Nat × (zz_V × zz_V)}, o.2.2.1 = Z.2.2.1 → zz_ok tau (zp_phi kee) σ' ω o.1 o.2.1 o.2.2.1 o.2.2.2.1 o.2.2.2.2.1 o.2.2.2.2.2 lsC stC → zz_cm σ' ω q1 → zz_cm σ' ω q2 → zz_ok tau (zp_phi kee) σ' ω (zz_cZ (q1 :: q2 :: Z.2.2.1) o).1 (zz_cZ (q1 :: q2 :: Z.2.2.1) o).2.1 (zz_cZ (q1 :: q2 :: Z.2.2.1) o).2.2.1 (zz_cZ (q1 :: q2 :: Z.2.2.1) o).2.2.2.1 (zz_cZ (q1 :: q2 :: Z.2.2.1) o).2.2.2.2.1 (zz_cZ (q1 :: q2 :: Z.2.2.1) o).2.2.2.2.2 lsC stC := by
    intro o σ' r1 r2 he hok g1 g2
    refine zl_ca hok (fun q hq => ?_)
    rcases List.mem_cons.mp hq with e | e
    · exact Or.inr (by rw [e]; exact g1)
    · rcases List.mem_cons.mp e with e | e
      · exact Or.inr (by rw [e]; exact g2)
      · exact Or.inl (by rw [he]; exact e)
  have put1 : ∀ {o : zz_Z} {r1 : Nat × (zz_V × zz_V)}, o.2.2.1 = Z.2.2.1 → zz_ok tau (zp_phi kee) σ ω o.1 o.2.1 o.2.2.1 o.2.2.2.1 o.2.2.2.2.1 o.2.2.2.2.2 lsC stC → zz_cm σ ω r1 → zz_ok tau (zp_phi kee) σ ω (zz_cZ (r1 :: Z.2.2.1) o).1 (zz_cZ (r1 :: Z.2.2.1) o).2.1 (zz_cZ (r1 :: Z.2.2.1) o).2.2.1 (zz_cZ (r1 :: Z.2.2.1) o).2.2.2.1 (zz_cZ (r1 :: Z.2.2.1) o).2.2.2.2.1 (zz_cZ (r1 :: Z.2.2.1) o).2.2.2.2.2 lsC stC := by
    intro o r1 he hok g1
    refine zl_ca hok (fun q hq => ?_)
    rcases List.mem_cons.mp hq with e | e
    · exact Or.inr (by rw [e]; exact g1)
    · exact Or.inl (by rw [he]; exact e)
  obtain ⟨pp, hp9⟩ : ∃ pp, p'.toInt.toNat = pp + 1 := ⟨p'.toInt.toNat - 1, by omega⟩
  rw [hp9] at q1 cm
  have hix : pp + 1 - 1 = pp := rfl
  cases pp with
  | zero =>
    refine ⟨_, List.mem_cons_self, σ, zz_ex_rf σ, put1 keep (base (zz_mxle bp1 (by omega)) (zz_le_min bp2 (by omega)) (zz_mxle bn1 (by omega)) (zz_le_min bn2 (by omega))) (cm (zz_ex_rf σ) (x := 8) rfl q1.1)⟩
  | succ pp =>
    have P1 : zz_max pl 2 ≤ p'.toInt := zz_mxle bp1 (by omega)
    have P2 : p'.toInt ≤ zz_min ph 90 := zz_le_min bp2 (by omega)
    have N0 : zz_max nl 0 ≤ n'.toInt := zz_mxle bn1 (by omega)
    have N7 : n'.toInt ≤ zz_min nh 7 := zz_le_min bn2 (by omega)
    simp only [zp_pil] at q1
    rcases q1 with ⟨hbin, -⟩ | ⟨a1, a2, m', a3, -⟩ | ⟨a1, k', a3, -⟩
    · rcases hbin with ⟨a1, a2⟩ | ⟨a1, a2⟩ | ⟨a1, a2, a3, a4⟩
      · exact ⟨_, List.mem_cons_of_mem _ (List.mem_cons_of_mem _ (List.mem_cons_of_mem _ List.mem_cons_self)), σ, zz_ex_rf σ, put2 keep (base P1 P2 N0 N7) (cm (zz_ex_rf σ) (x := 1) rfl a1) (cm (zz_ex_rf σ) (x := 124) rfl a2)⟩
      · exact ⟨_, List.mem_cons_of_mem _ (List.mem_cons_of_mem _ (List.mem_cons_of_mem _ (List.mem_cons_of_mem _ List.mem_cons_self))), σ, zz_ex_rf σ, put2 keep (base P1 P2 N0 N7) (cm (zz_ex_rf σ) (x := 2) rfl a1) (cm (zz_ex_rf σ) (x := 38) rfl a2)⟩
      · have hb9 := base P1 P2 N0 N7
        have hlen : (zz_tZ p n kp kn (zz_max pl 2) (zz_min ph 90) (zz_max nl 0) (zz_min nh 7) Z).1.length = N := by
          rw [← hb9.1.1, ho.1.1]
          exact hN
        generalize hT : zz_tZ p n kp kn (zz_max pl 2) (zz_min ph 90) (zz_max nl 0) (zz_min nh 7) Z = Y at hb9 hlen ⊢
        have hk : Y.2.2.1 = Z.2.2.1 := by rw [← hT]; exact keep
        obtain ⟨e1, e2, e3⟩ := zl_ok1 (y := (4, (6, (none, none)))) (x := ω.1 20 (pp + 1)) hb9 ⟨a1, a2, (fun t c h => by cases h), fun f h => by cases h⟩
        obtain ⟨f1, f2, f3⟩ := zl_ok1 (Z := (Y.1 ++ [(4, (6, (none, none)))], Y.2)) (y := (37, (62, (none, none)))) (x := ω.1 19 (pp + 1)) e2 ⟨a3, a4, (fun t c h => by cases h), fun f h => by cases h⟩
        rw [hlen] at e3
        have f3 : zz_val _ (.inr (.inl ((Y.1 ++ [(4, (6, (none, none)))]).length, 0))) = _ := f3
        rw [List.length_append, hlen] at f3
        have hex := zz_ex_tr e1 f1
        have e3' := zz_val_ex f1 e3
        refine ⟨_, List.mem_cons_of_mem _ (List.mem_cons_of_mem _ (List.mem_cons_of_mem _ (List.mem_cons_of_mem _ (List.mem_cons_of_mem _ List.mem_cons_self)))), _, hex, put2 (o := zz_nZ [(4, (6, (none, none))), (37, (62, (none, none)))] Y) hk ?_ (cm hex e3' rfl) (cm hex f3 rfl)⟩
        show zz_ok tau (zp_phi kee) _ ω (Y.1 ++ [(4, (6, (none, none))), (37, (62, (none, none)))]) Y.2.1 Y.2.2.1 Y.2.2.2.1 Y.2.2.2.2.1 Y.2.2.2.2.2 lsC stC
        have : Y.1 ++ [(4, (6, (none, none))), (37, (62, (none, none)))] = (Y.1 ++ [(4, (6, (none, none)))]) ++ [((37 : Int), ((62 : Int), ((none : Option (Nat × Int)), (none : Option zz_F))))] := by
          rw [List.append_assoc]
          rfl
        rw [this]
        exact f2
    · have hm : zz_max nl 1 ≤ n'.toInt := zz_mxle bn1 (by omega)
      exact ⟨_, List.mem_cons_of_mem _ (List.mem_cons_of_mem _ List.mem_cons_self), σ, zz_ex_rf σ, put2 keep (base P1 P2 hm N7) (cm (zz_ex_rf σ) (x := 3) rfl a1) (cm (zz_ex_rf σ) (x := 126) rfl a2)⟩
    · have hm : zz_max nl 1 ≤ n'.toInt := zz_mxle bn1 (by omega)
      exact ⟨_, List.mem_cons_of_mem _ List.mem_cons_self, σ, zz_ex_rf σ, put1 keep (base P1 P2 hm N7) (cm (zz_ex_rf σ) (x := 7) rfl a1)⟩
