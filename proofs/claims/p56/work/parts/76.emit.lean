/-! single methods run by hand -/
section ZS
variable {G : List yy_D} {kee : Nat → Int64} {scr : Option (Nat × (Nat → Int32))} {M : xx_M} {d pc len : Nat} {ops : List Nat} {ls : yy_L} {rest : List yy_U} {ω : yy_O} {v x : Int32} {k n : Nat} {rs : List Nat}
theorem zs_iast (hG : G[k]? = some (.inl (0, (n, rs)))) (hx : yy_ix x n = true) : yy_step (G, (scr, kee)) M d (pc, (.iastore, (len, ops))) ls (.inl v :: .inl x :: .inr (.inr k) :: rest) ω = some (.inl (pc + len, (ls, (rest, yy_uI ω k x.toNatClampNeg v)))) := by
  simp only [yy_step, yy_disp, yy_hiast, hG, hx]
  rfl
theorem zs_iald (hk : Nat.beq k xx_scr = false) (hG : G[k]? = some (.inl (0, (n, rs)))) (hx : yy_ix x n = true) : yy_step (G, (scr, kee)) M d (pc, (.iaload, (len, ops))) ls (.inl x :: .inr (.inr k) :: rest) ω = some (.inl (pc + len, (ls, (.inl (ω.1 k x.toNatClampNeg) :: rest, ω)))) := by
  simp only [yy_step, yy_disp, yy_hiald, hk, hG, hx]
  rfl
end ZS
theorem zs_ix {x : Int32} {n : Nat} (h0 : 0 ≤ x.toInt) (h1 : x.toInt < (n : Int)) : yy_ix x n = true := decide_eq_true ⟨h0, h1⟩
/-- a row written -/
theorem zs_emit {kee : Nat → Int64} {R : Nat → Nat → Prop} (hR : ∀ k j, R k j) {d : Nat} {ω : yy_O} {a n : Int32} {Q : Option yy_U → yy_O → Prop} (h0 : 0 ≤ (ω.1 38 31).toInt) (h1 : (ω.1 38 31).toInt < 1120) (hQ : Q none (yy_uI (yy_uI (yy_uI ω 22 (ω.1 38 31).toNatClampNeg a) 21 (ω.1 38 31).toNatClampNeg n) 38 31 (ω.1 38 31 + 1))) : zz_wp zt_T zt_G kee R none d zm_X7_emit 0 (yy_arg 0 [.inr (.inr 38), .inl a, .inl n]) [] ω Q := by
  refine zz_wp_next ⟨rfl, trivial⟩ rfl ?_
  refine zz_wp_next ⟨rfl, hR _ _⟩ rfl ?_
  refine zz_wp_next ⟨rfl, trivial⟩ rfl ?_
  refine zz_wp_next ⟨rfl, hR _ _⟩ rfl ?_
  refine zz_wp_next ⟨rfl, trivial⟩ rfl ?_
  refine zz_wp_next ⟨rfl, trivial⟩ (zs_iast (n := 1120) rfl (zs_ix h0 h1)) ?_
  refine zz_wp_next ⟨rfl, trivial⟩ rfl ?_
  refine zz_wp_next ⟨rfl, hR _ _⟩ rfl ?_
  refine zz_wp_next ⟨rfl, trivial⟩ rfl ?_
  refine zz_wp_next ⟨rfl, hR _ _⟩ rfl ?_
  refine zz_wp_next ⟨rfl, trivial⟩ rfl ?_
  refine zz_wp_next ⟨rfl, trivial⟩ (zs_iast (n := 1120) rfl (zs_ix h0 h1)) ?_
  refine zz_wp_next ⟨rfl, trivial⟩ rfl ?_
  refine zz_wp_next ⟨rfl, trivial⟩ rfl ?_
  refine zz_wp_next ⟨rfl, hR _ _⟩ rfl ?_
  refine zz_wp_next ⟨rfl, trivial⟩ rfl ?_
  refine zz_wp_next ⟨rfl, trivial⟩ rfl ?_
  refine zz_wp_next ⟨rfl, trivial⟩ rfl ?_
  exact zz_wp_ret ⟨rfl, trivial⟩ rfl hQ
theorem zs_push {kee : Nat → Int64} {R : Nat → Nat → Prop} (hR : ∀ k j, R k j) {d : Nat} {ω : yy_O} {a n : Int32} {Q : Option yy_U → yy_O → Prop} (h0 : 0 ≤ (ω.1 38 33).toInt) (h1 : (ω.1 38 33).toInt < 90) (hQ : Q none (yy_uI (yy_uI (yy_uI ω 20 (ω.1 38 33).toNatClampNeg a) 19 (ω.1 38 33).toNatClampNeg n) 38 33 (ω.1 38 33 + 1))) : zz_wp zt_T zt_G kee R none d zm_X7_pushE 0 (yy_arg 0 [.inr (.inr 38), .inl a, .inl n]) [] ω Q := by
  refine zz_wp_next ⟨rfl, trivial⟩ rfl ?_
  refine zz_wp_next ⟨rfl, hR _ _⟩ rfl ?_
  refine zz_wp_next ⟨rfl, trivial⟩ rfl ?_
  refine zz_wp_next ⟨rfl, hR _ _⟩ rfl ?_
  refine zz_wp_next ⟨rfl, trivial⟩ rfl ?_
  refine zz_wp_next ⟨rfl, trivial⟩ (zs_iast (n := 90) rfl (zs_ix h0 h1)) ?_
  refine zz_wp_next ⟨rfl, trivial⟩ rfl ?_
  refine zz_wp_next ⟨rfl, hR _ _⟩ rfl ?_
  refine zz_wp_next ⟨rfl, trivial⟩ rfl ?_
  refine zz_wp_next ⟨rfl, hR _ _⟩ rfl ?_
  refine zz_wp_next ⟨rfl, trivial⟩ rfl ?_
  refine zz_wp_next ⟨rfl, trivial⟩ (zs_iast (n := 90) rfl (zs_ix h0 h1)) ?_
  refine zz_wp_next ⟨rfl, trivial⟩ rfl ?_
  refine zz_wp_next ⟨rfl, trivial⟩ rfl ?_
  refine zz_wp_next ⟨rfl, hR _ _⟩ rfl ?_
  refine zz_wp_next ⟨rfl, trivial⟩ rfl ?_
  refine zz_wp_next ⟨rfl, trivial⟩ rfl ?_
  refine zz_wp_next ⟨rfl, trivial⟩ rfl ?_
  exact zz_wp_ret ⟨rfl, trivial⟩ rfl hQ
