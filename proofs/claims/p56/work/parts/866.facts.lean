/-! the start of the law's loop: its facts, its run -/
def zv_c (k j : Nat) : Option xx_V := match lz_w[k]? with
  | some (_, .inl (_, (_, some l))) => some (l.getD j (.inl 0))
  | some (_, .inr (_, fs)) => some (fs.getD j (.inl 0))
  | _ => none
theorem zv_c_ok {ρ : xx_Y} {xs : Nat → Int32} {k j : Nat} {v : xx_V} (h : zv_c k j = some v) : zv_o1 ρ xs k j = xx_i ρ v := by
  unfold zv_c at h
  unfold zv_o1
  split at h
  · rename_i heq
    rw [heq]
    exact congrArg (xx_i ρ) (Option.some.inj h)
  · rename_i heq
    rw [heq]
    exact congrArg (xx_i ρ) (Option.some.inj h)
  · cases h
theorem zv_00 : (0 : Int32) + Int32.ofInt (.ofNat 0) = 0 := by decide +kernel
theorem zv_0 {ρ : xx_Y} {xs : Nat → Int32} {k j : Nat} (h : zv_c k j = some (.inl 0)) : zv_o1 ρ xs k j = 0 := by
  rw [zv_c_ok h]
  show Int32.ofInt 0 = 0
  decide +kernel
theorem zv_1 {ρ : xx_Y} {xs : Nat → Int32} {k j : Nat} (h : zv_c k j = some (.inl 1)) : zv_o1 ρ xs k j = Int32.ofInt (.ofNat 1) := by
  rw [zv_c_ok h]
  show Int32.ofInt 1 = Int32.ofInt (.ofNat 1)
  decide +kernel
def zv_r (L : Nat) : zz_P := ([Int32.ofNat L, 0, 0, 0, 0, 0, 0], [])
def zv_l : yy_L := [(2, .inr (.inr 38)), (1, .inr (.inr 156)), (0, .inr (.inr xx_scr))]
theorem zv_v1 (L : Nat) : zz_val (zv_r L) (.inr (.inl (1, .ofNat 0))) = some (.inl 0) := by
  show some (Sum.inl ((0 : Int32) + Int32.ofInt (.ofNat 0))) = some (Sum.inl 0)
  rw [zv_00]
theorem zv_v2 (L : Nat) : zz_val (zv_r L) (.inr (.inl (2, .ofNat 0))) = some (.inl 0) := by
  show some (Sum.inl ((0 : Int32) + Int32.ofInt (.ofNat 0))) = some (Sum.inl 0)
  rw [zv_00]
theorem zv_v3 (L : Nat) : zz_val (zv_r L) (.inr (.inl (3, .ofNat 0))) = some (.inl 0) := by
  show some (Sum.inl ((0 : Int32) + Int32.ofInt (.ofNat 0))) = some (Sum.inl 0)
  rw [zv_00]
theorem zv_v4 (L : Nat) : zz_val (zv_r L) (.inr (.inl (4, .ofNat 0))) = some (.inl 0) := by
  show some (Sum.inl ((0 : Int32) + Int32.ofInt (.ofNat 0))) = some (Sum.inl 0)
  rw [zv_00]
theorem zv_v5 (L : Nat) : zz_val (zv_r L) (.inr (.inl (5, .ofNat 0))) = some (.inl 0) := by
  show some (Sum.inl ((0 : Int32) + Int32.ofInt (.ofNat 0))) = some (Sum.inl 0)
  rw [zv_00]
theorem zv_v6 (L : Nat) : zz_val (zv_r L) (.inr (.inl (6, .ofNat 0))) = some (.inl 0) := by
  show some (Sum.inl ((0 : Int32) + Int32.ofInt (.ofNat 0))) = some (Sum.inl 0)
  rw [zv_00]
theorem zv_cm {ρ : xx_Y} {xs : Nat → Int32} {L k n : Nat} {iv vv : zz_V} {j x : Int32} (hi : zz_val (zv_r L) iv = some (.inl j)) (hj : j.toInt = (n : Int)) (hv : zz_val (zv_r L) vv = some (.inl x)) (hx : zv_o1 ρ xs k n = x) : zz_cm (zv_r L) (zv_o1 ρ xs, zv_o2) (k, (iv, vv)) := by
  refine ⟨j, hi, by rw [hj]; omega, Or.inl ?_⟩
  have e : j.toNatClampNeg = n := by
    show j.toInt.toNat = n
    rw [hj]
    rfl
  show zz_val (zv_r L) vv = some (.inl (zv_o1 ρ xs k j.toNatClampNeg))
  rw [e, hx]
  exact hv
theorem zv_cam (ρ : xx_Y) (xs : Nat → Int32) (L : Nat) : zz_cam (zv_r L) (zv_o1 ρ xs, zv_o2) zw_S.2.2.1 := by
  show ∀ q ∈ zw_S.2.2.1, zz_cm (zv_r L) (zv_o1 ρ xs, zv_o2) q
  refine List.forall_mem_cons.mpr ⟨zv_cm (n := 29) (j := Int32.ofInt (.ofNat 29)) rfl (by decide +kernel) (zv_v1 L) (zv_0 (by decide +kernel)), ?_⟩
  refine List.forall_mem_cons.mpr ⟨zv_cm (n := 0) (zv_v1 L) (by decide +kernel) (zv_v2 L) (zv_0 (by decide +kernel)), ?_⟩
  refine List.forall_mem_cons.mpr ⟨zv_cm (n := 38) (j := Int32.ofInt (.ofNat 38)) rfl (by decide +kernel) (zv_v3 L) (zv_0 (by decide +kernel)), ?_⟩
  refine List.forall_mem_cons.mpr ⟨zv_cm (n := 0) (zv_v1 L) (by decide +kernel) (zv_v3 L) (zv_0 (by decide +kernel)), ?_⟩
  refine List.forall_mem_cons.mpr ⟨zv_cm (n := 0) (x := Int32.ofInt (.ofNat 1)) (zv_v3 L) (by decide +kernel) rfl (zv_1 (by decide +kernel)), ?_⟩
  refine List.forall_mem_cons.mpr ⟨zv_cm (n := 46) (j := Int32.ofInt (.ofNat 46)) rfl (by decide +kernel) (zv_v4 L) (zv_0 (by decide +kernel)), ?_⟩
  refine List.forall_mem_cons.mpr ⟨zv_cm (n := 47) (j := Int32.ofInt (.ofNat 47)) rfl (by decide +kernel) (zv_v5 L) (zv_0 (by decide +kernel)), ?_⟩
  refine List.forall_mem_cons.mpr ⟨zv_cm (n := 10) (j := Int32.ofInt (.ofNat 10)) rfl (by decide +kernel) (zv_v6 L) (zv_0 (by decide +kernel)), ?_⟩
  refine List.forall_mem_cons.mpr ⟨zv_cm (n := 58) (j := Int32.ofInt (.ofNat 58)) rfl (by decide +kernel) (zv_v6 L) (zv_0 (by decide +kernel)), ?_⟩
  intro q hq
  cases hq
theorem zv_z : (0 : Int32).toInt = 0 := by decide
theorem zv_fb {ρ : xx_Y} {xs : Nat → Int32} {x : Nat} (h : zv_c 0 x = some (.inl 0)) : zp_fb x 0 (zv_o1 ρ xs, zv_o2) := by
  refine ⟨by decide, by decide, fun h1 => ?_⟩
  have h1 : zv_o1 ρ xs 0 x = 1 := h1
  rw [zv_0 h] at h1
  exact absurd h1 (by decide)
theorem zv_sf {ρ : xx_Y} {xs : Nat → Int32} {x : Nat} (h : zv_c 24 x = some (.inl 0)) (g : zv_c 25 x = some (.inl 0)) : zp_safe x (zv_o1 ρ xs, zv_o2) := by
  refine Or.inl ?_
  show (zv_o1 ρ xs 24 x).toInt ≤ (zv_o1 ρ xs 25 x).toInt
  rw [zv_0 h, zv_0 g]
  exact Int.le_refl _
theorem zv_flm (kee : Nat → Int64) (ρ : xx_Y) (xs : Nat → Int32) (L : Nat) : zz_flm (zp_phi kee) (zv_r L) (zv_o1 ρ xs, zv_o2) zw_S.2.2.2.1 := by
  have m1 : ∀ {v1 : zz_V}, zz_val (zv_r L) v1 = some (.inl 0) → [v1].map (zz_val (zv_r L)) = ([0] : List Int32).map (fun x => some (.inl x)) := by
    intro v1 h1
    rw [List.map_cons, h1]
    rfl
  show ∀ f ∈ zw_S.2.2.2.1, zz_fm (zp_phi kee) (zv_r L) (zv_o1 ρ xs, zv_o2) f
  refine List.forall_mem_cons.mpr ⟨⟨[0, 0], ?_, ?_⟩, ?_⟩
  · show [zz_val (zv_r L) (.inr (.inl (3, .ofNat 0))), zz_val (zv_r L) (.inr (.inl (2, .ofNat 0)))] = [some (.inl 0), some (.inl 0)]
    rw [zv_v3, zv_v2]
  · show zp_tp 0 0
    exact ⟨by decide, by decide, by decide, by decide⟩
  refine List.forall_mem_cons.mpr ⟨⟨[0, 0, 0], ?_, ?_⟩, ?_⟩
  · show [zz_val (zv_r L) (.inr (.inl (3, .ofNat 0))), zz_val (zv_r L) (.inr (.inl (4, .ofNat 0))), zz_val (zv_r L) (.inr (.inl (5, .ofNat 0)))] = [some (.inl 0), some (.inl 0), some (.inl 0)]
    rw [zv_v3, zv_v4, zv_v5]
  · show zp_fw 0 0 0 _
    refine ⟨by decide, by decide, by decide, by decide, by decide, fun j hj => ?_⟩
    rw [zv_z] at hj
    omega
  refine List.forall_mem_cons.mpr ⟨⟨[0], m1 (zv_v3 L), ?_⟩, ?_⟩
  · show zp_fb 0 0 _
    exact zv_fb (by decide +kernel)
  refine List.forall_mem_cons.mpr ⟨⟨[0], m1 (zv_v3 L), ?_⟩, ?_⟩
  · show zp_fb 1 0 _
    exact zv_fb (by decide +kernel)
  refine List.forall_mem_cons.mpr ⟨⟨[0], m1 (zv_v3 L), ?_⟩, ?_⟩
  · show zp_fb 2 0 _
    exact zv_fb (by decide +kernel)
  refine List.forall_mem_cons.mpr ⟨⟨[], rfl, ?_⟩, ?_⟩
  · show zp_safe 0 _
    exact zv_sf (by decide +kernel) (by decide +kernel)
  refine List.forall_mem_cons.mpr ⟨⟨[], rfl, ?_⟩, ?_⟩
  · show zp_safe 1 _
    exact zv_sf (by decide +kernel) (by decide +kernel)
  intro q hq
  cases hq
theorem zv_csm {L : Nat} (hL : L ≤ 3072) : zz_csm (zv_r L) zw_S.1 := by
  refine ⟨rfl, fun k y x hy hx => ?_⟩
  have hl : (Int32.ofNat L).toInt = (L : Int) := Int32.toInt_ofNat_of_lt (by omega)
  have no : ∀ {a c : Int} {z : Int32}, a ≤ z.toInt → z.toInt ≤ c → zz_ym (zv_r L) (a, (c, (none, none))) z := fun h1 h2 => ⟨h1, h2, (fun t c h => by cases h), (fun f h => by cases h)⟩
  match k, hy, hx with
  | 0, hy, hx =>
    cases hy
    cases hx
    exact no (a := 0) (c := 3072) (by rw [hl]; omega) (by rw [hl]; omega)
  | 1, hy, hx => cases hy; cases hx; exact no (a := 0) (c := 1) (by decide) (by decide)
  | 2, hy, hx => cases hy; cases hx; exact no (a := 0) (c := 6) (by decide) (by decide)
  | 3, hy, hx => cases hy; cases hx; exact no (a := 0) (c := 63) (by decide) (by decide)
  | 4, hy, hx => cases hy; cases hx; exact no (a := 0) (c := 40) (by decide) (by decide)
  | 5, hy, hx => cases hy; cases hx; exact no (a := 0) (c := 40) (by decide) (by decide)
  | 6, hy, hx => cases hy; cases hx; exact no (a := 0) (c := 100000) (by decide) (by decide)
  | k + 7, hy, _ => cases hy
theorem zv_lsm (L : Nat) : zz_lsm (zv_r L) zw_S.2.2.2.2.1 zv_l := by
  intro i v h
  match i, h with
  | 0, h => exact ⟨.inr (.inr xx_scr), by rw [← Option.some.inj h]; rfl, rfl⟩
  | 1, h => exact ⟨.inr (.inr 156), by rw [← Option.some.inj h]; rfl, rfl⟩
  | 2, h => exact ⟨.inr (.inr 38), by rw [← Option.some.inj h]; rfl, rfl⟩
  | i + 3, h => cases h
theorem zv_ok (kee : Nat → Int64) (ρ : xx_Y) (xs : Nat → Int32) {L : Nat} (hL : L ≤ 3072) : zz_ok zt_tau (zp_phi kee) (zv_r L) (zv_o1 ρ xs, zv_o2) zw_S.1 zw_S.2.1 zw_S.2.2.1 zw_S.2.2.2.1 zw_S.2.2.2.2.1 zw_S.2.2.2.2.2 zv_l [] :=
  ⟨zv_csm hL, rfl, zv_tyd ρ xs, zv_cam ρ xs L, zv_flm kee ρ xs L, zv_lsm L, rfl⟩
theorem zv_dk : zw_D.all (fun q => !(Nat.beq q.1 1000000)) = true := by decide +kernel
theorem zv_scm (ρ : xx_Y) (xs : Nat → Int32) {L : Nat} (hL : L ≤ 3072) : zz_scm true (some (L, xs)) (zv_r L) zw_D (zv_o1 ρ xs, zv_o2) := by
  intro _
  refine ⟨L, xs, rfl, by omega, rfl, fun j => ⟨?_, ?_⟩⟩
  · show zv_o1 ρ xs xx_scr j = xs j
    unfold zv_o1
    rw [List.getElem?_eq_none (by rw [zv_len.1]; exact Nat.le_of_ble_eq_true rfl)]
    exact if_pos rfl
  · intro ⟨q, hq, h⟩
    have hk : (!(Nat.beq q.1 1000000)) = true := List.all_eq_true.mp zv_dk q hq
    rcases h with ⟨h, -⟩ | ⟨-, h⟩
    · have h : q.1 = 1000000 := h
      rw [h] at hk
      exact absurd hk (by decide)
    · have h : 2000000 ≤ 1000000 := h
      exact absurd h (by decide)
set_option maxRecDepth 1000000 in
theorem zv_lr : zz_rows zm_LAW = true := by decide +kernel
theorem zv_run (kee : Nat → Int64) (ρ : xx_Y) (xs : Nat → Int32) {L : Nat} (hL : L ≤ 3072) : ∃ n ω', yy_run zt_T zt_G kee n (some (L, xs)) 66 zm_LAW 16 zv_l [] (zv_o1 ρ xs, zv_o2) = some (some (.inl 1), ω') := by
  have hR : ∀ M ∈ zt_E.1, zz_rows M = true := fun M hM => List.all_eq_true.mp zy_rows M hM
  have hS : zz_Snd zt_E (zp_phi kee) kee 331 6000 := zz_sound (zp_env kee) (zy_HOK kee) hR (zA_331 kee) 6000
  obtain ⟨n, v, ω', h1, o, ho, ρ', -, hok, -⟩ := zz_walk (scr := some (L, xs)) (zp_env kee) hS zv_lr zw_ck (zv_ok kee ρ xs hL) (zv_scm ρ xs hL)
  have ho := List.mem_singleton.mp ho
  subst ho
  have h9 : zz_stm ρ' [.inl (.ofNat 1)] v.toList := hok.2.2.2.2.2.2
  have hv : v = some (.inl 1) := by
    cases v with
    | none => cases h9
    | some u =>
      have h8 : some (Sum.inl (Int32.ofInt (.ofNat 1))) = some u := (List.cons.inj h9).1
      have h7 : Int32.ofInt (.ofNat 1) = 1 := by decide +kernel
      rw [h7] at h8
      exact h8.symm
  subst hv
  exact ⟨n, ω', yy_tr_run h1⟩
