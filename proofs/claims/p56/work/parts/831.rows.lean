/-! a rule's rows, one by one -/
section ZC
variable {kee : Nat → Int64} {d : Nat} {ω : yy_O} {c i n x y : Int32} {k : Nat} {Q : Option yy_U → yy_O → Prop}
theorem zs_tyd18 {ω : yy_O} {j : Nat} {x : Int32} (h : zz_tyd zt_tau ω) : zz_tyd zt_tau (yy_uI ω 18 j x) := zh_tyd h (xx_rng x).1 (xx_rng x).2
theorem zs_caseN (hc : c.toInt = 126) (hn : n.toInt = ((k + 1 : Nat) : Int)) (hk : k + 1 ≤ 60) (hx : ω.1 18 k = x) (next : zz_wp zt_T zt_G kee (zz_cov (zt_ww 7)) none (d + 1) zm_X7_comes 12 [(2, .inl (i + 1)), (3, .inl c), (1, .inl n), (0, .inr (.inr 38))] [] (yy_uI ω 18 k (if x.toInt = 0 then 1 else 0)) Q) : zz_wp zt_T zt_G kee (zz_cov (zt_ww 7)) none (d + 1) zm_X7_comes 32 [(3, .inl c), (2, .inl i), (1, .inl n), (0, .inr (.inr 38))] [] ω Q := by
  obtain ⟨n2, nx⟩ := zs_ar1 hn hk
  have px : ω.1 18 (n - Int32.ofInt 1).toNatClampNeg = x := by rw [n2]; exact hx
  have q9 : (n - Int32.ofInt 1).toNatClampNeg ≤ 59 := by rw [n2]; omega
  have nt : ¬ c.toInt ≠ (Int32.ofInt 126).toInt := by rw [show (Int32.ofInt 126).toInt = 126 by decide]; exact fun h => h hc
  refine zz_wp_next ⟨rfl, trivial⟩ rfl ?_
  refine zz_wp_next ⟨rfl, trivial⟩ rfl ?_
  refine zz_wp_next ⟨rfl, trivial⟩ (zs_cf (decide_eq_false nt)) ?_
  refine zz_wp_next ⟨rfl, trivial⟩ rfl ?_
  refine zz_wp_next ⟨rfl, zs_r28⟩ rfl ?_
  refine zz_wp_next ⟨rfl, trivial⟩ rfl ?_
  refine zz_wp_next ⟨rfl, trivial⟩ rfl ?_
  refine zz_wp_next ⟨rfl, trivial⟩ rfl ?_
  refine zz_wp_next ⟨rfl, trivial⟩ rfl ?_
  refine zz_wp_next ⟨rfl, zs_r28⟩ rfl ?_
  refine zz_wp_next ⟨rfl, trivial⟩ rfl ?_
  refine zz_wp_next ⟨rfl, trivial⟩ rfl ?_
  refine zz_wp_next ⟨rfl, trivial⟩ rfl ?_
  refine zz_wp_next ⟨rfl, fun _ => zs_qp q9⟩ (zs_iald (k := 18) (n := 60) rfl rfl nx) ?_
  by_cases ex : x.toInt = 0
  · rw [if_pos ex, ← n2] at next
    refine zz_wp_next ⟨rfl, trivial⟩ (zs_iff (decide_eq_false (show ¬ (ω.1 18 (n - Int32.ofInt 1).toNatClampNeg).toInt ≠ 0 by rw [px]; exact fun h => h ex))) ?_
    refine zz_wp_next ⟨rfl, trivial⟩ rfl ?_
    refine zz_wp_next ⟨rfl, trivial⟩ rfl ?_
    refine zz_wp_next ⟨rfl, trivial⟩ (zs_iast (k := 18) (n := 60) rfl nx) ?_
    refine zz_wp_next ⟨rfl, trivial⟩ rfl ?_
    refine zz_wp_next ⟨rfl, trivial⟩ rfl ?_
    refine zz_wp_next ⟨rfl, trivial⟩ rfl ?_
    exact next
  · rw [if_neg ex, ← n2] at next
    refine zz_wp_next ⟨rfl, trivial⟩ (zs_ift (t := 60) (decide_eq_true (show (ω.1 18 (n - Int32.ofInt 1).toNatClampNeg).toInt ≠ 0 by rw [px]; exact ex)) rfl) ?_
    refine zz_wp_next ⟨rfl, trivial⟩ rfl ?_
    refine zz_wp_next ⟨rfl, trivial⟩ (zs_iast (k := 18) (n := 60) rfl nx) ?_
    refine zz_wp_next ⟨rfl, trivial⟩ rfl ?_
    refine zz_wp_next ⟨rfl, trivial⟩ rfl ?_
    refine zz_wp_next ⟨rfl, trivial⟩ rfl ?_
    exact next
theorem zs_toLet (hc : c.toInt ≠ 126) (next : zz_wp zt_T zt_G kee (zz_cov (zt_ww 7)) none (d + 1) zm_X7_comes 69 [(3, .inl c), (2, .inl i), (1, .inl n), (0, .inr (.inr 38))] [.inl (if 97 ≤ c.toInt ∧ c.toInt ≤ 122 then 1 else 0)] ω Q) : zz_wp zt_T zt_G kee (zz_cov (zt_ww 7)) none (d + 1) zm_X7_comes 32 [(3, .inl c), (2, .inl i), (1, .inl n), (0, .inr (.inr 38))] [] ω Q := by
  have nt : c.toInt ≠ (Int32.ofInt 126).toInt := by rw [show (Int32.ofInt 126).toInt = 126 by decide]; exact hc
  refine zz_wp_next ⟨rfl, trivial⟩ rfl ?_
  refine zz_wp_next ⟨rfl, trivial⟩ rfl ?_
  refine zz_wp_next ⟨rfl, trivial⟩ (zs_ct (t := 65) (decide_eq_true nt) rfl) ?_
  refine zz_wp_next ⟨rfl, trivial⟩ rfl ?_
  refine zz_wp_call (M' := zm_X7_isLetter) ⟨rfl, trivial⟩ rfl rfl rfl (zs_letter (Q := fun v ω' => v = some (.inl (if 97 ≤ c.toInt ∧ c.toInt ≤ 122 then 1 else 0)) ∧ ω' = ω) ⟨rfl, rfl⟩) ?_
  intro v ω' h
  rw [h.1, h.2]
  exact next
theorem zs_caseL {ask : Int32} (hc : c.toInt ≠ 126) (hl : 97 ≤ c.toInt ∧ c.toInt ≤ 122) (hn : n.toInt = (k : Int)) (hk : k ≤ 59) (ix : yy_ix i 1120 = true) (hi : i.toNatClampNeg ≤ 1119) (hask : zz_wp zt_T zt_G kee (zz_cov (zt_ww 7)) none d zm_X7_asked 0 (yy_arg 0 [.inr (.inr 38), .inl c, .inl (ω.1 21 i.toNatClampNeg)]) [] ω (fun v ω' => v = some (.inl ask) ∧ zz_tyd zt_tau ω' ∧ zs_eq ω ω')) (next : ∀ ω2, zs_eq ω ω2 → zz_tyd zt_tau ω2 → zz_wp zt_T zt_G kee (zz_cov (zt_ww 7)) none (d + 1) zm_X7_comes 12 [(2, .inl (i + 1)), (1, .inl (n + 1)), (3, .inl c), (0, .inr (.inr 38))] [] (yy_uI ω2 18 k ask) Q) : zz_wp zt_T zt_G kee (zz_cov (zt_ww 7)) none (d + 1) zm_X7_comes 32 [(3, .inl c), (2, .inl i), (1, .inl n), (0, .inr (.inr 38))] [] ω Q := by
  obtain ⟨n2, nx, -⟩ := zs_ar0 hn hk
  refine zs_toLet hc ?_
  rw [if_pos hl]
  refine zz_wp_next ⟨rfl, trivial⟩ (zs_iff (show yy_rel .eq (1 : Int32).toInt 0 = false by decide)) ?_
  refine zz_wp_next ⟨rfl, trivial⟩ rfl ?_
  refine zz_wp_next ⟨rfl, zs_r28⟩ rfl ?_
  refine zz_wp_next ⟨rfl, trivial⟩ rfl ?_
  refine zz_wp_next ⟨rfl, trivial⟩ rfl ?_
  refine zz_wp_next ⟨rfl, trivial⟩ rfl ?_
  refine zz_wp_next ⟨rfl, trivial⟩ rfl ?_
  refine zz_wp_next ⟨rfl, zs_r25⟩ rfl ?_
  refine zz_wp_next ⟨rfl, trivial⟩ rfl ?_
  refine zz_wp_next ⟨rfl, fun _ => zs_qn hi⟩ (zs_iald (k := 21) (n := 1120) rfl rfl ix) ?_
  refine zz_wp_call (M' := zm_X7_asked) ⟨rfl, trivial⟩ rfl rfl rfl hask ?_
  intro v ω2 h
  rw [h.1]
  refine zz_wp_next ⟨rfl, trivial⟩ (zs_iast (k := 18) (n := 60) rfl nx) ?_
  rw [n2]
  refine zz_wp_next ⟨rfl, trivial⟩ rfl ?_
  refine zz_wp_next ⟨rfl, trivial⟩ rfl ?_
  refine zz_wp_next ⟨rfl, trivial⟩ rfl ?_
  refine zz_wp_next ⟨rfl, trivial⟩ rfl ?_
  exact next ω2 h.2.2 h.2.1
theorem zs_caseB {tw : Int32} (hc : c.toInt ≠ 126) (hl : ¬ (97 ≤ c.toInt ∧ c.toInt ≤ 122)) (hn : n.toInt = ((k + 2 : Nat) : Int)) (hk : k + 2 ≤ 60) (hy : ω.1 18 (k + 1) = y) (hx : ω.1 18 k = x) (htw : zz_wp zt_T zt_G kee (zz_cov (zt_ww 7)) none d zm_X7_two 0 (yy_arg 0 [.inl c, .inl x, .inl y]) [] ω (fun v ω' => v = some (.inl tw) ∧ zz_tyd zt_tau ω' ∧ zs_eq ω ω')) (next : ∀ ω2, zs_eq ω ω2 → zz_tyd zt_tau ω2 → zz_wp zt_T zt_G kee (zz_cov (zt_ww 7)) none (d + 1) zm_X7_comes 12 [(2, .inl (i + 1)), (1, .inl (n + Int32.ofInt (-1))), (3, .inl c), (0, .inr (.inr 38))] [] (yy_uI ω2 18 k tw) Q) : zz_wp zt_T zt_G kee (zz_cov (zt_ww 7)) none (d + 1) zm_X7_comes 32 [(3, .inl c), (2, .inl i), (1, .inl n), (0, .inr (.inr 38))] [] ω Q := by
  obtain ⟨n1, n2, nx⟩ := zs_ar2 hn hk
  obtain ⟨m2, mx⟩ := zs_ar1 n1 (by omega)
  refine zs_toLet hc ?_
  rw [if_neg hl]
  refine zz_wp_next ⟨rfl, trivial⟩ (zs_ift (t := 95) (show yy_rel .eq (0 : Int32).toInt 0 = true by decide) rfl) ?_
  refine zz_wp_next ⟨rfl, trivial⟩ (st' := []) (ω' := ω) (pc' := 98) (ls' := [(1, .inl (n + Int32.ofInt (-1))), (3, .inl c), (2, .inl i), (0, .inr (.inr 38))]) rfl ?_
  generalize n + Int32.ofInt (-1) = p at n1 n2 nx m2 mx next ⊢
  have q1 : (p - Int32.ofInt 1).toNatClampNeg ≤ 59 := by rw [m2]; omega
  have q2 : p.toNatClampNeg ≤ 59 := by rw [n2]; omega
  refine zz_wp_next ⟨rfl, trivial⟩ rfl ?_
  refine zz_wp_next ⟨rfl, zs_r28⟩ rfl ?_
  refine zz_wp_next ⟨rfl, trivial⟩ rfl ?_
  refine zz_wp_next ⟨rfl, trivial⟩ rfl ?_
  refine zz_wp_next ⟨rfl, trivial⟩ rfl ?_
  refine zz_wp_next ⟨rfl, trivial⟩ rfl ?_
  refine zz_wp_next ⟨rfl, trivial⟩ rfl ?_
  refine zz_wp_next ⟨rfl, zs_r28⟩ rfl ?_
  refine zz_wp_next ⟨rfl, trivial⟩ rfl ?_
  refine zz_wp_next ⟨rfl, trivial⟩ rfl ?_
  refine zz_wp_next ⟨rfl, trivial⟩ rfl ?_
  refine zz_wp_next ⟨rfl, fun _ => zs_qp q1⟩ (zs_iald (k := 18) (n := 60) rfl rfl mx) ?_
  refine zz_wp_next ⟨rfl, trivial⟩ rfl ?_
  refine zz_wp_next ⟨rfl, zs_r28⟩ rfl ?_
  refine zz_wp_next ⟨rfl, trivial⟩ rfl ?_
  refine zz_wp_next ⟨rfl, fun _ => zs_qp q2⟩ (zs_iald (k := 18) (n := 60) rfl rfl nx) ?_
  rw [m2, n2, hx, hy]
  refine zz_wp_call (M' := zm_X7_two) ⟨rfl, trivial⟩ rfl rfl rfl htw ?_
  intro v ω2 h
  rw [h.1]
  refine zz_wp_next ⟨rfl, trivial⟩ (zs_iast (k := 18) (n := 60) rfl mx) ?_
  rw [m2]
  refine zz_wp_next ⟨rfl, trivial⟩ rfl ?_
  refine zz_wp_next ⟨rfl, trivial⟩ rfl ?_
  exact next ω2 h.2.2 h.2.1
end ZC
