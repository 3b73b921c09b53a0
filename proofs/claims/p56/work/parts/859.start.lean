/-! the start of the law's loop: bounds, facts, the loop -/
def zv_o3 (k : Nat) (fs : List xx_V) (j : Nat) : Bool := zv_b1 (zt_tau k j) (fs.getD j (.inl 0)) && !(match fs.getD j (.inl 0) with
    | .inr (.inl _) => true
    | _ => false)
def zv_a3 (k : Nat) (v : xx_V) : Bool := zv_b1 (zt_tau k 0) v && !(match v with
    | .inr (.inl _) => true
    | _ => false)
def zv_t1 (k : Nat) (e : xx_E) : Bool := match e with
  | .inl (_, (_, some l)) => xx_le (zt_tau k 0).1 0 && (xx_le 0 (zt_tau k 0).2 && l.all (zv_a3 k))
  | .inl (_, (_, none)) => zv_isf (zt_tau k 0)
  | .inr (_, fs) => (List.range 70).all (zv_o3 k fs) && Nat.ble fs.length 70
def zv_t2 : Nat → xx_W → Bool
  | _, [] => true
  | k, q :: w => zv_t1 k q.2 && zv_t2 (k + 1) w
set_option maxRecDepth 1000000 in
set_option maxHeartbeats 40000000 in
theorem zv_t2k : zv_t2 0 lz_w = true := by decide +kernel
theorem zv_t2_at : ∀ {w : xx_W} {k0 k : Nat} {q : Nat × xx_E}, zv_t2 k0 w = true → w[k]? = some q → zv_t1 (k0 + k) q.2 = true
  | [], _, _, _, _, h => by cases h
  | p :: w, k0, 0, q, h, h2 => by
    have h : (zv_t1 k0 p.2 && zv_t2 (k0 + 1) w) = true := h
    rw [Bool.and_eq_true] at h
    cases h2
    exact h.1
  | p :: w, k0, k + 1, q, h, h2 => by
    have h : (zv_t1 k0 p.2 && zv_t2 (k0 + 1) w) = true := h
    rw [Bool.and_eq_true] at h
    have := zv_t2_at (k := k) h.2 h2
    rw [show k0 + (k + 1) = k0 + 1 + k by omega]
    exact this
theorem zv_tB : zt_B.length = 157 ∧ zt_B.all (fun q => match q with
    | .inl _ => true
    | .inr l => Nat.ble l.length 70) = true := by decide +kernel
def zv_ob : List yy_D → List ((Int × Int) ⊕ List (Int × Int)) → Bool
  | [], _ => true
  | .inr _ :: g, .inr _ :: b => zv_ob g b
  | .inl _ :: g, _ :: b => zv_ob g b
  | _, _ => false
theorem zv_ob_at : ∀ {g : List yy_D} {b : List ((Int × Int) ⊕ List (Int × Int))} {k : Nat} {d : Nat × List Nat} {r : Int × Int}, zv_ob g b = true → g[k]? = some (.inr d) → b[k]? = some (.inl r) → False
  | [], _, _, _, _, _, h, _ => by cases h
  | .inr _ :: g, .inr _ :: b, 0, _, _, _, _, h => by cases h
  | .inr _ :: g, .inr _ :: b, k + 1, d, r, h, h1, h2 => zv_ob_at (g := g) (b := b) (k := k) h h1 h2
  | .inl _ :: g, _ :: b, 0, _, _, _, h, _ => by cases h
  | .inl _ :: g, _ :: b, k + 1, d, r, h, h1, h2 => zv_ob_at (g := g) (b := b) (k := k) h h1 h2
  | .inr _ :: g, [], _, _, _, h, _, _ => by cases h
  | .inr _ :: g, .inl _ :: b, _, _, _, h, _, _ => by cases h
  | .inl _ :: g, [], _, _, _, h, _, _ => by cases h
theorem zv_obk : zv_ob zt_G zt_B = true := by decide +kernel
theorem zv_noobj {k : Nat} (hk : k < 157) {d : Nat × List Nat} {r : Int × Int} (hd : zt_G[k]? = some (.inr d)) {hB : k < zt_B.length} (hq : zt_B[k] = .inl r) : False := zv_ob_at zv_obk hd (by rw [List.getElem?_eq_getElem hB, hq])
theorem zv_b1_ok {ρ : xx_Y} {r : Int × Int} {v : xx_V} (h : (zv_b1 r v && !(match v with
    | .inr (.inl _) => true
    | _ => false)) = true) : r.1 ≤ (xx_i ρ v).toInt ∧ (xx_i ρ v).toInt ≤ r.2 := by
  rw [Bool.and_eq_true] at h
  have z0 : (0 : Int32).toInt = 0 := by decide
  rcases v with c | q | v
  · have h := h.1
    simp only [zv_b1, Bool.and_eq_true, xx_le_iff] at h
    show r.1 ≤ (Int32.ofInt c).toInt ∧ (Int32.ofInt c).toInt ≤ r.2
    rw [xx_ofInt h.2.2.1 h.2.2.2]
    exact ⟨h.1, h.2.1⟩
  · cases h.2
  · have h := h.1
    simp only [zv_b1, Bool.and_eq_true, xx_le_iff] at h
    show r.1 ≤ (0 : Int32).toInt ∧ (0 : Int32).toInt ≤ r.2
    rw [z0]
    exact h
theorem zv_tyd (ρ : xx_Y) (xs : Nat → Int32) : zz_tyd zt_tau (zv_o1 ρ xs, zv_o2) := by
  intro k j
  show (zt_tau k j).1 ≤ (zv_o1 ρ xs k j).toInt ∧ (zv_o1 ρ xs k j).toInt ≤ (zt_tau k j).2
  have z0 : (0 : Int32).toInt = 0 := by decide
  have zi : xx_i ρ (.inl 0) = 0 := rfl
  rcases Nat.lt_or_ge k 157 with hk | hk
  · have hw : k < lz_w.length := by rw [zv_len.1]; exact hk
    have hg : k < zt_G.length := by rw [zv_len.2]; exact hk
    obtain ⟨i, e, a1, a2, a3⟩ := zv_at zv_k (List.getElem?_eq_getElem hg)
    have ht := zv_t2_at zv_t2k a1
    rw [Nat.zero_add] at ht
    unfold zv_o1
    rw [a1]
    rcases e with ⟨kd, n, _ | l⟩ | ⟨ci, fs⟩
    · have hG : ∃ d, zt_G[k]? = some (.inl d) := by
        rw [List.getElem?_eq_getElem hg]
        unfold zv_e1 at a3
        cases hq : zt_G[k] with
        | inl d => exact ⟨d, rfl⟩
        | inr d => rw [hq] at a3; cases a3
      obtain ⟨d, hd⟩ := hG
      rw [zp_tau k j d hd]
      have ht : zv_isf (zt_tau k 0) = true := ht
      unfold zv_isf at ht
      rw [Bool.and_eq_true, xx_le_iff, xx_le_iff] at ht
      have := xx_rng (ρ.2.2.2 i j)
      exact ⟨Int.le_trans ht.1 this.1, Int.le_trans this.2 ht.2⟩
    · have hG : ∃ d, zt_G[k]? = some (.inl d) := by
        rw [List.getElem?_eq_getElem hg]
        unfold zv_e1 at a3
        cases hq : zt_G[k] with
        | inl d => exact ⟨d, rfl⟩
        | inr d => rw [hq] at a3; cases a3
      obtain ⟨d, hd⟩ := hG
      rw [zp_tau k j d hd]
      have ht : (xx_le (zt_tau k 0).1 0 && (xx_le 0 (zt_tau k 0).2 && l.all (zv_a3 k))) = true := ht
      rw [Bool.and_eq_true, Bool.and_eq_true, xx_le_iff, xx_le_iff] at ht
      show _ ≤ (xx_i ρ (l.getD j (.inl 0))).toInt ∧ (xx_i ρ (l.getD j (.inl 0))).toInt ≤ _
      rcases Nat.lt_or_ge j l.length with hj | hj
      · have hm : l.getD j (.inl 0) ∈ l := by
          rw [List.getD_eq_getElem?_getD, List.getElem?_eq_getElem hj]
          exact List.getElem_mem hj
        exact zv_b1_ok (List.all_eq_true.mp ht.2.2 _ hm)
      · rw [List.getD_eq_getElem?_getD, List.getElem?_eq_none hj]
        show _ ≤ (xx_i ρ (.inl 0)).toInt ∧ (xx_i ρ (.inl 0)).toInt ≤ _
        rw [zi, z0]
        exact ⟨ht.1, ht.2.1⟩
    · have ht : ((List.range 70).all (zv_o3 k fs) && Nat.ble fs.length 70) = true := ht
      rw [Bool.and_eq_true] at ht
      show _ ≤ (xx_i ρ (fs.getD j (.inl 0))).toInt ∧ (xx_i ρ (fs.getD j (.inl 0))).toInt ≤ _
      rcases Nat.lt_or_ge j 70 with hj | hj
      · have := List.all_eq_true.mp ht.1 j (List.mem_range.mpr hj)
        exact zv_b1_ok this
      · have hlen := Nat.le_of_ble_eq_true ht.2
        rw [List.getD_eq_getElem?_getD, List.getElem?_eq_none (by omega)]
        show _ ≤ (xx_i ρ (.inl 0)).toInt ∧ (xx_i ρ (.inl 0)).toInt ≤ _
        rw [zi, z0]
        have hB : k < zt_B.length := by rw [zv_tB.1]; exact hk
        have hb := List.all_eq_true.mp zv_tB.2 _ (List.getElem_mem hB)
        unfold zt_tau
        rw [List.getElem?_eq_getElem hB]
        cases hq : zt_B[k] with
        | inl r =>
          exfalso
          obtain ⟨d, hd⟩ : ∃ d, zt_G[k]? = some d := ⟨_, List.getElem?_eq_getElem hg⟩
          cases d with
          | inl d =>
            rw [List.getElem?_eq_getElem hg] at hd
            have hd := Option.some.inj hd
            unfold zv_e1 at a3
            rw [hd] at a3
            cases a3
          | inr d => exact zv_noobj hk hd hq
        | inr l =>
          rw [hq] at hb
          have hb := Nat.le_of_ble_eq_true hb
          show (match l[j]? with
            | some r => r
            | none => xx_full).1 ≤ 0 ∧ 0 ≤ (match l[j]? with
            | some r => r
            | none => xx_full).2
          rw [List.getElem?_eq_none (by omega)]
          exact ⟨by decide, by decide⟩
  · have hB : zt_B[k]? = none := List.getElem?_eq_none (by rw [zv_tB.1]; exact hk)
    unfold zt_tau
    rw [hB]
    exact xx_rng _
