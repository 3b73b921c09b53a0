/-! from p1's engine's world behind the constructors to the plain machine's -/
def zv_al (ρ : xx_Y) (b ak at9 av : Nat) (k : Nat) : Nat := if k < 157 then ρ.2.1 (156 - k) else if k = xx_scr then b else if k = yy_kee then ak else if k = yy_str then at9 else av
def zv_cl (ρ : xx_Y) (k : Nat) : ClassId := ρ.2.2.1 (156 - k)
def zv_o1 (ρ : xx_Y) (xs : Nat → Int32) (k j : Nat) : Int32 := match lz_w[k]? with
  | some (_, .inl (_, (_, some l))) => xx_i ρ (l.getD j (.inl 0))
  | some (i, .inl (_, (_, none))) => ρ.2.2.2 i j
  | some (_, .inr (_, fs)) => xx_i ρ (fs.getD j (.inl 0))
  | none => if k = xx_scr then xs j else 0
def zv_o2 (k j : Nat) : Int64 := match lz_w[k]? with
  | some (_, .inl (_, (_, some l))) => xx_l (l.getD j (.inl 0))
  | some (_, .inr (_, fs)) => xx_l (fs.getD j (.inl 0))
  | _ => 0
/-- a cell of both -/
def zv_f1 (t : FieldType) (v : xx_V) (r : Nat) : Bool := match t with
  | .long => match v with
    | .inr (.inr (.inr _)) => true
    | _ => false
  | .object _ => match v with
    | .inr (.inr (.inl (some m))) => Nat.blt r 157 && Nat.beq m (156 - r)
    | _ => false
  | .array _ => match v with
    | .inr (.inr (.inl (some m))) => Nat.blt r 157 && Nat.beq m (156 - r)
    | _ => false
  | _ => match v with
    | .inl _ => true
    | _ => false
def zv_e1 (e : xx_E) (d : yy_D) : Bool := match e with
  | .inl (kd, (n, ct)) => match d with
    | .inl (kd', (n', rs)) => Nat.beq kd kd' && (Nat.beq n n' && (match kd with
      | 3 => match ct with
        | some _ => true
        | none => false
      | 4 => match ct with
        | some l => (List.range n).all (fun j => zv_f1 (.object "") (l.getD j (.inl 0)) (rs.getD j 0))
        | none => false
      | _ => true))
    | .inr _ => false
  | .inr (ci, fs) => match d with
    | .inr (ci', rs) => Nat.beq ci ci' && (Nat.beq fs.length (xx_num ci) && (List.range (xx_num ci)).all (fun f => zv_f1 (xx_ty ci f) (fs.getD f (.inl 0)) (rs.getD f 0)))
    | .inl _ => false
def zv_ck : Nat → xx_W → List yy_D → Bool
  | _, [], [] => true
  | k, (i, e) :: w, d :: g => Nat.beq (i + k) 156 && (zv_e1 e d && zv_ck (k + 1) w g)
  | _, _, _ => false
set_option maxRecDepth 1000000 in
set_option maxHeartbeats 40000000 in
theorem zv_k : zv_ck 0 lz_w zt_G = true := by decide +kernel
theorem zv_at : ∀ {w : xx_W} {g : List yy_D} {k0 k : Nat} {d : yy_D}, zv_ck k0 w g = true → g[k]? = some d → ∃ i e, w[k]? = some (i, e) ∧ i + (k0 + k) = 156 ∧ zv_e1 e d = true
  | [], [], _, _, _, _, h => by cases h
  | [], _ :: _, _, _, _, h, _ => by cases h
  | _ :: _, [], _, _, _, h, _ => by cases h
  | (i, e) :: w, d0 :: g, k0, 0, d, h, h2 => by
    simp only [zv_ck, Bool.and_eq_true] at h
    cases h2
    exact ⟨i, e, rfl, by have := Nat.eq_of_beq_eq_true h.1; omega, h.2.1⟩
  | (i, e) :: w, d0 :: g, k0, k + 1, d, h, h2 => by
    simp only [zv_ck, Bool.and_eq_true] at h
    obtain ⟨i', e', a1, a2, a3⟩ := zv_at (k := k) h.2.2 h2
    exact ⟨i', e', a1, by omega, a3⟩
theorem zv_len : lz_w.length = 157 ∧ zt_G.length = 157 := by decide +kernel
theorem zv_arr {cA : ClassId} {n : Nat} {f g : Nat → Value} (h : ∀ j, j < n → f j = g j) : arrV cA n f = arrV cA n g := by
  unfold arrV
  congr 2
  funext j
  exact h j.val j.isLt
section ZV2
variable {ρ : xx_Y} {b ak at9 av : Nat} {xs : Nat → Int32}
theorem zv_alk {k i : Nat} (h : i + k = 156) : zv_al ρ b ak at9 av k = ρ.2.1 i := by
  unfold zv_al
  rw [if_pos (by omega), show 156 - k = i by omega]
theorem zv_f1_ok {ω : yy_O} {k : Nat} {rs : List Nat} {f : Nat} {t : FieldType} {v : xx_V} (h : zv_f1 t v (rs.getD f 0) = true) (h1 : ω.1 k f = xx_i ρ v) (h2 : ω.2 k f = xx_l v) : xx_g ρ v = yy_g (zv_al ρ b ak at9 av) (yy_fu ω k rs f t) := by
  have rf : ∀ {m : Nat}, (Nat.blt (rs.getD f 0) 157 && Nat.beq m (156 - rs.getD f 0)) = true → xx_g ρ (.inr (.inr (.inl (some m)))) = yy_g (zv_al ρ b ak at9 av) (.inr (.inr (rs.getD f 0))) := by
    intro m hm
    rw [Bool.and_eq_true] at hm
    have e1 := xx_blt hm.1
    have e2 := Nat.eq_of_beq_eq_true hm.2
    show Value.ref (ρ.2.1 m) = .ref (zv_al ρ b ak at9 av (rs.getD f 0))
    rw [zv_alk (i := m) (by omega)]
  unfold zv_f1 at h
  split at h
  · split at h
    · show _ = yy_g _ (.inr (.inl (ω.2 k f)))
      rw [h2]
      rfl
    · cases h
  · split at h
    · exact rf h
    · cases h
  · split at h
    · exact rf h
    · cases h
  · rename_i n1 n2 n3
    split at h
    · rename_i c
      have : yy_fu ω k rs f t = .inl (ω.1 k f) := by
        unfold yy_fu
        split
        · exact absurd rfl n1
        · exact absurd rfl (n2 _)
        · exact absurd rfl (n3 _)
        · rfl
      rw [this, h1]
      rfl
    · cases h
theorem zv_P {D : va_G} {H : Heap} (h : va_P D xx_cl (xx_gW ρ lz_w) H) : va_P D xx_cl (yy_gW zt_G (zv_al ρ b ak at9 av) (zv_cl ρ) (zv_o1 ρ xs, zv_o2)) H := by
  intro k q hq
  unfold yy_gW at hq
  rw [List.getElem?_mapIdx] at hq
  cases hd : zt_G[k]? with
  | none => rw [hd] at hq; cases hq
  | some d =>
    rw [hd] at hq
    have hq := Option.some.inj hq
    subst hq
    obtain ⟨i, e, a1, a2, a3⟩ := zv_at zv_k hd
    have a2 : i + k = 156 := by omega
    have hx := h k (ρ.2.1 i, xx_gE ρ i e) (by unfold xx_gW; rw [List.getElem?_map, a1]; rfl)
    have hal : zv_al ρ b ak at9 av k = ρ.2.1 i := zv_alk a2
    have hcl : zv_cl ρ k = ρ.2.2.1 i := by unfold zv_cl; rw [show 156 - k = i by omega]
    unfold zv_e1 at a3
    split at a3
    · rename_i kd n ct
      split at a3
      · rename_i kd' n' rs
        simp only [Bool.and_eq_true] at a3
        obtain ⟨b1, b2, b3⟩ := a3
        have b1 := Nat.eq_of_beq_eq_true b1
        have b2 := Nat.eq_of_beq_eq_true b2
        subst b1
        subst b2
        have hx : H[ρ.2.1 i]? = some (vp_cell (ρ.2.2.1 i) (n, xx_gA ρ i kd ct)) := hx
        show H[zv_al ρ b ak at9 av k]? = some (vp_cell (zv_cl ρ k) (n, yy_gA _ _ k kd rs))
        rw [hal, hcl, hx]
        congr 1
        cases ct with
        | none =>
          have o1 : (zv_o1 ρ xs) k = ρ.2.2.2 i := by
            funext j
            unfold zv_o1
            rw [a1]
          match kd, b3 with
          | 3, b3 => cases b3
          | 4, b3 => cases b3
          | 0, _ => show vp_cell _ (n, .inl (ρ.2.2.2 i)) = vp_cell _ (n, .inl ((zv_o1 ρ xs) k)); rw [o1]
          | 1, _ => show vp_cell _ (n, .inl (ρ.2.2.2 i)) = vp_cell _ (n, .inl ((zv_o1 ρ xs) k)); rw [o1]
          | 2, _ => show vp_cell _ (n, .inl (ρ.2.2.2 i)) = vp_cell _ (n, .inl ((zv_o1 ρ xs) k)); rw [o1]
          | kd + 5, _ => show vp_cell _ (n, .inl (ρ.2.2.2 i)) = vp_cell _ (n, .inl ((zv_o1 ρ xs) k)); rw [o1]
        | some l =>
          have o1 : (zv_o1 ρ xs) k = fun j => xx_i ρ (l.getD j (.inl 0)) := by
            funext j
            unfold zv_o1
            rw [a1]
          have o2 : zv_o2 k = fun j => xx_l (l.getD j (.inl 0)) := by
            funext j
            unfold zv_o2
            rw [a1]
          match kd, b3 with
          | 3, _ => show vp_cell _ (n, .inr (.inl (fun j => xx_l (l.getD j (.inl 0))))) = vp_cell _ (n, .inr (.inl (zv_o2 k))); rw [o2]
          | 4, b3 =>
            show arrV _ n (fun j => va_rf (xx_r ρ (l.getD j (.inl 0)))) = arrV _ n (fun j => va_rf (some (zv_al ρ b ak at9 av (rs.getD j 0))))
            refine zv_arr (fun j hj => ?_)
            have hb : zv_f1 (.object "") (l.getD j (.inl 0)) (rs.getD j 0) = true := List.all_eq_true.mp b3 j (List.mem_range.mpr hj)
            generalize l.getD j (.inl 0) = v at hb ⊢
            simp only [zv_f1] at hb
            split at hb
            · rename_i m
              rw [Bool.and_eq_true] at hb
              have e1 := xx_blt hb.1
              have e2 := Nat.eq_of_beq_eq_true hb.2
              rw [zv_alk (i := m) (by omega)]
              rfl
            · cases hb
          | 0, _ => show vp_cell _ (n, .inl (fun j => xx_i ρ (l.getD j (.inl 0)))) = vp_cell _ (n, .inl ((zv_o1 ρ xs) k)); rw [o1]
          | 1, _ => show vp_cell _ (n, .inl (fun j => xx_i ρ (l.getD j (.inl 0)))) = vp_cell _ (n, .inl ((zv_o1 ρ xs) k)); rw [o1]
          | 2, _ => show vp_cell _ (n, .inl (fun j => xx_i ρ (l.getD j (.inl 0)))) = vp_cell _ (n, .inl ((zv_o1 ρ xs) k)); rw [o1]
          | kd + 5, _ => show vp_cell _ (n, .inl (fun j => xx_i ρ (l.getD j (.inl 0)))) = vp_cell _ (n, .inl ((zv_o1 ρ xs) k)); rw [o1]
      · cases a3
    · rename_i ci fs
      split at a3
      · rename_i ci' rs
        simp only [Bool.and_eq_true] at a3
        obtain ⟨b1, b2, b3⟩ := a3
        have b1 := Nat.eq_of_beq_eq_true b1
        have b2 := Nat.eq_of_beq_eq_true b2
        subst b1
        have key : fs.map (xx_g ρ) = (List.range (xx_num ci)).map (fun f => yy_g (zv_al ρ b ak at9 av) (yy_fu (zv_o1 ρ xs, zv_o2) k rs f (xx_ty ci f))) := by
          apply List.ext_getElem?
          intro f
          rw [List.getElem?_map, List.getElem?_map]
          rcases Nat.lt_or_ge f (xx_num ci) with hf | hf
          · rw [List.getElem?_range hf]
            have hl : f < fs.length := by omega
            have hg : fs[f]? = some (fs.getD f (.inl 0)) := by
              rw [List.getD_eq_getElem?_getD, List.getElem?_eq_getElem hl]
              rfl
            rw [hg]
            show some _ = some _
            congr 1
            refine zv_f1_ok (List.all_eq_true.mp b3 f (List.mem_range.mpr hf)) ?_ ?_
            · show zv_o1 ρ xs k f = _
              unfold zv_o1
              rw [a1]
            · show zv_o2 k f = _
              unfold zv_o2
              rw [a1]
          · rw [List.getElem?_eq_none (by omega), List.getElem?_eq_none (by rw [List.length_range]; omega)]
            rfl
        have hx : va_at D xx_cl (ρ.2.1 i, .inr (ci, fs.map (xx_g ρ))) H := hx
        rw [key] at hx
        show va_at D xx_cl (zv_al ρ b ak at9 av k, .inr (ci, (List.range (xx_num ci)).map (fun f => yy_g (zv_al ρ b ak at9 av) (yy_fu (zv_o1 ρ xs, zv_o2) k rs f (xx_ty ci f))))) H
        rw [hal]
        exact hx
      · cases a3
end ZV2
theorem zv_rep {ρ : xx_Y} {b ak at9 av : Nat} {xs : Nat → Int32} {s : State} {A : Nat → Prop} {D : va_G} {tys : List (ClassId × FieldType)} {H : Heap} {locs : List Loc} (h : xx_wo s A D ρ tys lz_w H locs) : yy_rep zt_G s A D (zv_al ρ b ak at9 av) (zv_cl ρ) tys (zv_o1 ρ xs, zv_o2) H locs := by
  obtain ⟨h1, h2, h3, h4, h5⟩ := h
  have at_ : ∀ {k : Nat} {q : Nat × va_E}, (yy_gW zt_G (zv_al ρ b ak at9 av) (zv_cl ρ) (zv_o1 ρ xs, zv_o2))[k]? = some q → ∃ q', (xx_gW ρ lz_w)[k]? = some q' ∧ q'.1 = q.1 := by
    intro k q hq
    unfold yy_gW at hq
    rw [List.getElem?_mapIdx] at hq
    cases hd : zt_G[k]? with
    | none => rw [hd] at hq; cases hq
    | some d =>
      rw [hd] at hq
      have hq := Option.some.inj hq
      subst hq
      obtain ⟨i, e, a1, a2, a3⟩ := zv_at zv_k hd
      refine ⟨(ρ.2.1 i, xx_gE ρ i e), by unfold xx_gW; rw [List.getElem?_map, a1]; rfl, ?_⟩
      exact (zv_alk (by omega)).symm
  refine ⟨h1, ?_, zv_P h3, ⟨?_, ?_⟩, h5⟩
  · intro k kd n rs hG
    obtain ⟨i, e, a1, a2, a3⟩ := zv_at zv_k hG
    have hcl : zv_cl ρ k = ρ.2.2.1 i := by unfold zv_cl; rw [show 156 - k = i by omega]
    rw [hcl]
    unfold zv_e1 at a3
    split at a3
    · rename_i kd' n' ct
      simp only [Bool.and_eq_true] at a3
      have := Nat.eq_of_beq_eq_true a3.1
      subst this
      exact h2 i kd' n' ct (List.mem_of_getElem? a1)
    · cases a3
  · intro i j p q hp hq he
    obtain ⟨p', p1, p2⟩ := at_ hp
    obtain ⟨q', q1, q2⟩ := at_ hq
    exact h4.1 i j p' q' p1 q1 (by rw [p2, q2]; exact he)
  · intro k q hq
    obtain ⟨q', q1, q2⟩ := at_ hq
    rw [← q2]
    exact h4.2 k q' q1
/-! bounds at the start -/
def zv_b1 (r : Int × Int) (v : xx_V) : Bool := match v with
  | .inl c => xx_le r.1 c && (xx_le c r.2 && (xx_le xx_lo c && xx_le c xx_hi))
  | _ => xx_le r.1 0 && xx_le 0 r.2
def zv_isf (r : Int × Int) : Bool := xx_le r.1 xx_lo && xx_le xx_hi r.2
def zv_tb : Nat → xx_W → Bool
  | _, [] => true
  | k, (_, .inl (_, (_, some l))) :: w => (xx_le (zt_tau k 0).1 0 && (xx_le 0 (zt_tau k 0).2 && l.all (fun v => zv_b1 (zt_tau k 0) v && !(match v with
    | .inr (.inl _) => true
    | _ => false)))) && zv_tb (k + 1) w
  | k, (_, .inl (_, (_, none))) :: w => zv_isf (zt_tau k 0) && zv_tb (k + 1) w
  | k, (_, .inr (_, fs)) :: w => (List.range 70).all (fun j => zv_b1 (zt_tau k j) (fs.getD j (.inl 0)) && !(match fs.getD j (.inl 0) with
    | .inr (.inl _) => true
    | _ => false)) && (Nat.ble fs.length 70 && zv_tb (k + 1) w)
set_option maxRecDepth 1000000 in
set_option maxHeartbeats 40000000 in
theorem zv_tk : zv_tb 0 lz_w = true := by decide +kernel
