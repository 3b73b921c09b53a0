/-! THE CLAIM OUT OF ONE WALK OF THE LAW'S BODY. Your part is whole_start (and what it stands on); all else here is the same for every law, but numbers. -/
def R_law : String := "StinkhornParishLaw"
def lw_P (b : Addr) (xs : List Int32) (args : Array Value) (s : State) : Prop := args = #[.ref b] ∧ s.IntsAt b xs ∧ xs.length ≤ 6 ∧ (Jvm.Cond.and given_1 narrow_1).before args s = true
def lw_Q (_ : Array Value) (s : State) (o : Outcome) (t : State) : Prop := o = .returned (some (.int 1)) ∧ Framed s o t [] 600000 7302249
def lw_Z (below : List Frame) (a : Array Value) (s : State) : State → Prop := fun t => ∃ o, t.status = .running ∧ Ended t below o ∧ lw_Q a s o t
/-- the law's own end, with 1 on the stack, nothing written that was there before, its room as the claim has it -/
theorem lw_ret {p : Program} {l : Launch} {e : Env} {s : State} {m : MethodId} {below : List Frame} {meth : Method} {c : Code} {b : Nat} (hx : p.tables.exec = Jvm.exec) (hb : c.code = code) (hr : meth.sig.returnType = ret) (hlocks : meth.locks = false) {pc : Nat} {H : Heap} {ls : Array Slot} (hdg : decode code pc = .ok (.ireturn, 1)) : W p l e room_1 s m #[Value.ref b] below meth c H [] 600000 7302249 (lw_Z below #[Value.ref b] s) (F0 m pc ls [.int 1]) := by
  intro T hT X
  obtain ⟨fs, hret, hrun, hended, hW, hframe⟩ := X.leave (v := some (.int 1)) (hlocks := hlocks) (fun h => by rw [hr] at h; cases h)
  have hmeth' : T.vm.method? m = some meth := X.method'
  refine ⟨T.setFrames fs, ?_, .returned (some (.int 1)), hrun, hended, rfl, ⟨_, rfl⟩, hW, hframe⟩
  jvm_step X.here [X.here.top, hx, hb, hdg, hmeth', hr, ret, narrow_b1]
  (try refine ⟨rfl, ?_⟩); (try refine ⟨rfl, ?_⟩)
  first | (intro acts; rw [hret _ acts rfl rfl rfl]) | rw [hret _ _ rfl rfl rfl]
  exact Steps.refl _
/-- what holds at the law's entry: the machine, the code, the tables' words (any of lw_tbl by 'hts w (by decide +kernel)'), the script of L ints xs at the cell b, what the Statement gives of the start (any of its parts by flat_of_before) -/
def lw_At (p : Program) (s : State) (m : MethodId) (meth : Method) (c : Code) (b L : Nat) (xs : Nat → Int32) : Prop :=
  p.tables.exec = Jvm.exec ∧ c.code = code ∧ meth.sig.returnType = ret ∧ c.maxLocals = 4 ∧ s.vm.findClass R_law = some m.cls ∧ (∀ w ∈ lw_tbl, w.before #[Value.ref b] s = true) ∧ va_X b L xs s s.heap ∧ b < s.heap.size ∧ meth.locks = false ∧ (Jvm.Cond.and given_1 narrow_1).before #[Value.ref b] s = true
/-- a walk of the law from a row, in every meaning that goes on from the start's -/
def lz_G (p : Program) (l : Launch) (e : Env) (s : State) (m : MethodId) (below : List Frame) (meth : Method) (c : Code) (b : Nat) (D : va_G) (ρ0 : xx_Y) (scr pc : Nat) (Z : xx_S) : Prop :=
  ∀ (ρ : xx_Y) (tys : List (ClassId × FieldType)) (H : Heap) (locs : List Loc) (lsA : Array Slot), xx_ag 6 0 ρ0 ρ → xx_sc scr s (fun q => s.heap.size ≤ q) ρ Z.1.length → xx_ok s (fun q => s.heap.size ≤ q) D ρ tys Z.1 Z.2.1 Z.2.2.1 Z.2.2.2.2.2.1 Z.2.2.2.2.2.2 H locs → lv_has lsA 4 (xx_gL ρ Z.2.2.2.2.2.1) →
    W p l e room_1 s m #[Value.ref b] below meth c H locs Z.2.2.2.1 Z.2.2.2.2.1 (lw_Z below #[Value.ref b] s) (F0 m pc lsA (Z.2.2.2.2.2.2.map (xx_g ρ)))
theorem lz_runs {p : Program} {l : Launch} {e : Env} {s : State} {m : MethodId} {below : List Frame} {meth : Method} {c : Code} {b : Nat} {D : va_G} {ρ0 : xx_Y} (hC : xx_ctx p room_1 s m #[Value.ref b] meth c xm_LAW (fun q => s.heap.size ≤ q)) (hr : meth.sig.returnType = ret) (hlocks : meth.locks = false) (fuel scr : Nat) (ct : xx_T) (pc : Nat) (Z : xx_S) (hchk : lz_chk fuel scr ct pc Z = true) (hct : ∀ q ∈ ct, xx_okZ q.2 = true ∧ scr ≤ q.2.1.length + 1) (h6 : 6 ≤ Z.1.length) (hK : ∀ q ∈ ct, lz_G p l e s m below meth c b D ρ0 scr q.1 q.2) : lz_G p l e s m below meth c b D ρ0 scr pc Z := by
  intro ρ tys H locs lsA hag hsc hok hlv
  unfold lz_chk at hchk
  split at hchk
  · rename_i outs hrun
    refine xx_sound xx_tabk (lk_all l) fuel xm_LAW xx_lawk p e room_1 s m _ below meth c _ _ D hC scr ct outs ρ0 6 0 hct ?_ (fun q hq ρ' tys' H' locs' lsA' g1 g2 g3 g4 => hK q hq ρ' tys' H' locs' lsA' g1 g2 g3 g4) pc _ _ _ _ _ _ _ _ outs ρ tys H locs lsA hrun (xx_from_sub _ _) (fun o ho => ho) hag h6 (Nat.zero_le _) hsc hok hlv
    intro o ho ρ' tys' H' locs' nc' ns' lsA' pc' _ _ _ hok' hnc hns hret
    have h1 := List.all_eq_true.mp hchk o ho
    obtain ⟨oc, ow, onk, ov⟩ := o
    unfold lz_one at h1
    split at h1
    · rename_i hov
      have hov : ov = some (.inl (.ofNat 1)) := hov
      subst hov
      rcases hret with ⟨-, hd, -⟩ | ⟨hL, -, -⟩
      · refine va_forget (fun q hq => hok'.2.2.2.2.2.2.2.2.2.2.2 q hq) ?_
        refine W.widen (k := 600000) (n := 7302249) hnc hns ?_
        have e1 : ((some (.inl (.ofNat 1) : xx_V)).toList.map (xx_g ρ')) = [.int 1] := by
          show [Value.int (Int32.ofInt (.ofNat 1))] = [.int 1]
          have : Int32.ofInt (.ofNat 1) = 1 := by decide +kernel
          rw [this]
        show W _ _ _ _ _ _ _ _ _ _ _ _ _ _ _ (F0 m pc' lsA' ((some (.inl (.ofNat 1) : xx_V)).toList.map (xx_g ρ')))
        rw [e1]
        exact lw_ret hC.1 hC.2.1 hr hlocks hd
      · cases hL
    · cases h1
  · cases hchk
set_option maxHeartbeats 4000000 in
set_option maxRecDepth 100000 in
theorem whole_start {p : Program} {e : Env} {s : State} {m : MethodId} {below : List Frame} {meth : Method} {c : Code} (l : Launch) (hflags : l.flags = flags0) {b L : Nat} {xs : Nat → Int32} (hL : L ≤ 6) (C0 : lw_At p s m meth c b L xs) : W p l e room_1 s m #[Value.ref b] below meth c s.heap [] 0 0 (lw_Z below #[Value.ref b] s) (entryFrame m ([Value.ref b] : List Value).toArray 4) := by
  obtain ⟨hx, hb, hr, hml, hown, hts, hX, hbl, hlocks, hgv⟩ := id C0
  obtain ⟨c0, iS0, hKn0⟩ := u_known (C := RX0) (T := TX0) (N := 5) (n := 5) hts (fun w hw => (List.mem_filter.mp (xx_cl_in (ci := 0) rfl w hw)).1) (hts (.instantiable RX0 5) (List.mem_of_getElem? (i := 313) (by decide +kernel)))
  obtain ⟨c1, iS1, hKn1⟩ := u_known (C := RX1) (T := TX1) (N := 5) (n := 5) hts (fun w hw => (List.mem_filter.mp (xx_cl_in (ci := 1) rfl w hw)).1) (hts (.instantiable RX1 5) (List.mem_of_getElem? (i := 167) (by decide +kernel)))
  obtain ⟨c2, iS2, hKn2⟩ := u_known (C := RX2) (T := TX2) (N := 3) (n := 3) hts (fun w hw => (List.mem_filter.mp (xx_cl_in (ci := 2) rfl w hw)).1) (hts (.instantiable RX2 3) (List.mem_of_getElem? (i := 248) (by decide +kernel)))
  obtain ⟨c3, iS3, hKn3⟩ := u_known (C := RX3) (T := TX3) (N := 13) (n := 13) hts (fun w hw => (List.mem_filter.mp (xx_cl_in (ci := 3) rfl w hw)).1) (hts (.instantiable RX3 13) (List.mem_of_getElem? (i := 155) (by decide +kernel)))
  obtain ⟨c4, iS4, hKn4⟩ := u_known (C := RX4) (T := TX4) (N := 10) (n := 10) hts (fun w hw => (List.mem_filter.mp (xx_cl_in (ci := 4) rfl w hw)).1) (hts (.instantiable RX4 10) (List.mem_of_getElem? (i := 340) (by decide +kernel)))
  obtain ⟨c5, iS5, hKn5⟩ := u_known (C := RX5) (T := TX5) (N := 9) (n := 9) hts (fun w hw => (List.mem_filter.mp (xx_cl_in (ci := 5) rfl w hw)).1) (hts (.instantiable RX5 9) (List.mem_of_getElem? (i := 161) (by decide +kernel)))
  obtain ⟨c6, iS6, hKn6⟩ := u_known (C := RX6) (T := TX6) (N := 11) (n := 11) hts (fun w hw => (List.mem_filter.mp (xx_cl_in (ci := 6) rfl w hw)).1) (hts (.instantiable RX6 11) (List.mem_of_getElem? (i := 147) (by decide +kernel)))
  obtain ⟨c7, iS7, hKn7⟩ := u_known (C := RX7) (T := TX7) (N := 62) (n := 62) hts (fun w hw => (List.mem_filter.mp (xx_cl_in (ci := 7) rfl w hw)).1) (hts (.instantiable RX7 62) (List.mem_of_getElem? (i := 1062) (by decide +kernel)))
  obtain ⟨dC, dI, hKc⟩ : ∃ (dC : Nat → ClassId) (dI : Nat → Nat → Nat), ∀ (k : Nat) (q : vw_C), xx_cl[k]? = some q → u_Kn s q.1 q.2.1 q.2.2 (dC k) (dI k) := by
    refine ⟨fun k => match k with | 0 => c0 | 1 => c1 | 2 => c2 | 3 => c3 | 4 => c4 | 5 => c5 | 6 => c6 | _ => c7, fun k => match k with | 0 => iS0 | 1 => iS1 | 2 => iS2 | 3 => iS3 | 4 => iS4 | 5 => iS5 | 6 => iS6 | _ => iS7, ?_⟩
    intro k q hq
    match k, hq with
    | 0, hq => cases hq; exact hKn0
    | 1, hq => cases hq; exact hKn1
    | 2, hq => cases hq; exact hKn2
    | 3, hq => cases hq; exact hKn3
    | 4, hq => cases hq; exact hKn4
    | 5, hq => cases hq; exact hKn5
    | 6, hq => cases hq; exact hKn6
    | 7, hq => cases hq; exact hKn7
    | k + 8, hq => simp [xx_cl] at hq
  have hN : ∀ n ∈ xx_NL, va_Nw n s := by
    intro n hn
    have h1 := (List.mem_filter.mp hn).2
    have h2 := hts n (List.mem_filter.mp hn).1
    cases n <;> first | (cases h1; done) | exact va_Nw.of rfl h2
  have hAO : va_AO RX1 s := va_AO.of (hts (.arrayOver (.object RX1)) (List.mem_of_getElem? (i := 319) (by decide +kernel)))
  have hC : xx_ctx p room_1 s m #[Value.ref b] meth c xm_LAW (fun q => s.heap.size ≤ q) := ⟨hx, hb, hml, hown, fun w hw => hts w (List.mem_filter.mp hw).1, hN, hAO, fun _ h => h, ⟨Nat.le_refl _, Nat.le_refl _, Nat.le_refl _, Nat.le_refl _⟩, fun h9 => absurd h9 (by decide +kernel)⟩
  obtain ⟨ρ0, hρ0⟩ : ∃ ρ0 : xx_Y, ρ0 = (xs, fun _ => b, fun _ => 0, fun _ _ => 0) := ⟨_, rfl⟩
  have run : ∀ (fuel scr : Nat) (ct : xx_T) (pc : Nat) (Z : xx_S), lz_chk fuel scr ct pc Z = true → (∀ q ∈ ct, xx_okZ q.2 = true ∧ scr ≤ q.2.1.length + 1) → 6 ≤ Z.1.length → (∀ q ∈ ct, lz_G p l e s m below meth c b (dC, dI) ρ0 scr q.1 q.2) → lz_G p l e s m below meth c b (dC, dI) ρ0 scr pc Z := fun fuel scr ct pc Z h1 h2 h3 h4 => lz_runs hC hr hlocks fuel scr ct pc Z h1 h2 h3 h4
  have nilG : ∀ {scr : Nat}, ∀ q ∈ ([] : xx_T), lz_G p l e s m below meth c b (dC, dI) ρ0 scr q.1 q.2 := fun q hq => by cases hq
  have nil7 : ∀ {scr : Nat}, ∀ q ∈ ([] : xx_T), xx_okZ q.2 = true ∧ scr ≤ q.2.1.length + 1 := fun q hq => by cases hq
  have oks : ∀ {ct : xx_T}, ct.all (fun q => xx_okZ q.2 && Nat.ble 7 (q.2.1.length + 1)) = true → ∀ q ∈ ct, xx_okZ q.2 = true ∧ 7 ≤ q.2.1.length + 1 := fun h q hq => by
    have := List.all_eq_true.mp h q hq
    rw [Bool.and_eq_true] at this
    exact ⟨this.1, Nat.le_of_ble_eq_true this.2⟩
  have w22 : lz_G p l e s m below meth c b (dC, dI) ρ0 7 798 (lz_c 22) := run 3000 7 lz_ct22 798 (lz_c 22) lz_k22 (oks lz_z22) (by decide +kernel) (by
    unfold lz_ct22
    exact List.forall_mem_cons.mpr ⟨run 3000 7 [] 812 (lz_22 1 0) lz_e22_1_0 nil7 (by decide +kernel) nilG, List.forall_mem_cons.mpr ⟨run 3000 7 [] 812 (lz_22 2 0) lz_e22_2_0 nil7 (by decide +kernel) nilG, List.forall_mem_cons.mpr ⟨run 3000 7 [] 812 (lz_22 3 0) lz_e22_3_0 nil7 (by decide +kernel) nilG, List.forall_mem_cons.mpr ⟨run 3000 7 [] 812 (lz_22 4 0) lz_e22_4_0 nil7 (by decide +kernel) nilG, List.forall_mem_cons.mpr ⟨run 3000 7 [] 812 (lz_22 5 0) lz_e22_5_0 nil7 (by decide +kernel) nilG, List.forall_mem_cons.mpr ⟨run 3000 7 [] 812 (lz_22 6 0) lz_e22_6_0 nil7 (by decide +kernel) nilG, List.forall_mem_cons.mpr ⟨run 3000 7 [] 812 (lz_22 7 0) lz_e22_7_0 nil7 (by decide +kernel) nilG, List.forall_mem_cons.mpr ⟨run 3000 7 [] 812 (lz_22 8 0) lz_e22_8_0 nil7 (by decide +kernel) nilG, List.forall_mem_cons.mpr ⟨run 3000 7 [] 812 (lz_22 9 0) lz_e22_9_0 nil7 (by decide +kernel) nilG, List.forall_mem_cons.mpr ⟨run 3000 7 [] 812 (lz_22 10 0) lz_e22_10_0 nil7 (by decide +kernel) nilG, List.forall_mem_cons.mpr ⟨run 3000 7 [] 812 (lz_22 11 0) lz_e22_11_0 nil7 (by decide +kernel) nilG, List.forall_mem_cons.mpr ⟨run 3000 7 [] 812 (lz_22 12 0) lz_e22_12_0 nil7 (by decide +kernel) nilG, List.forall_mem_cons.mpr ⟨run 3000 7 [] 812 (lz_22 13 0) lz_e22_13_0 nil7 (by decide +kernel) nilG, List.forall_mem_cons.mpr ⟨run 3000 7 [] 812 (lz_22 14 0) lz_e22_14_0 nil7 (by decide +kernel) nilG, List.forall_mem_cons.mpr ⟨run 3000 7 [] 812 (lz_22 15 0) lz_e22_15_0 nil7 (by decide +kernel) nilG, List.forall_mem_cons.mpr ⟨run 3000 7 [] 812 (lz_22 16 0) lz_e22_16_0 nil7 (by decide +kernel) nilG, List.forall_mem_cons.mpr ⟨run 3000 7 [] 812 (lz_22 17 0) lz_e22_17_0 nil7 (by decide +kernel) nilG, List.forall_mem_cons.mpr ⟨run 3000 7 [] 812 (lz_22 18 0) lz_e22_18_0 nil7 (by decide +kernel) nilG, List.forall_mem_cons.mpr ⟨run 3000 7 [] 812 (lz_22 19 0) lz_e22_19_0 nil7 (by decide +kernel) nilG, List.forall_mem_cons.mpr ⟨run 3000 7 [] 812 (lz_22 20 0) lz_e22_20_0 nil7 (by decide +kernel) nilG, List.forall_mem_cons.mpr ⟨run 3000 7 [] 812 (lz_22 21 0) lz_e22_21_0 nil7 (by decide +kernel) nilG, List.forall_mem_cons.mpr ⟨run 3000 7 [] 812 (lz_22 22 0) lz_e22_22_0 nil7 (by decide +kernel) nilG, List.forall_mem_cons.mpr ⟨run 3000 7 [] 812 (lz_22 23 0) lz_e22_23_0 nil7 (by decide +kernel) nilG, List.forall_mem_cons.mpr ⟨run 3000 7 [] 812 (lz_22 24 0) lz_e22_24_0 nil7 (by decide +kernel) nilG, List.forall_mem_cons.mpr ⟨run 3000 7 [] 812 (lz_22 25 0) lz_e22_25_0 nil7 (by decide +kernel) nilG, List.forall_mem_cons.mpr ⟨run 3000 7 [] 812 (lz_22 26 0) lz_e22_26_0 nil7 (by decide +kernel) nilG, List.forall_mem_cons.mpr ⟨run 3000 7 [] 812 (lz_22 27 0) lz_e22_27_0 nil7 (by decide +kernel) nilG, List.forall_mem_cons.mpr ⟨run 3000 7 [] 812 (lz_22 28 0) lz_e22_28_0 nil7 (by decide +kernel) nilG, List.forall_mem_cons.mpr ⟨run 3000 7 [] 812 (lz_22 29 0) lz_e22_29_0 nil7 (by decide +kernel) nilG, List.forall_mem_cons.mpr ⟨run 3000 7 [] 812 (lz_22 30 0) lz_e22_30_0 nil7 (by decide +kernel) nilG, List.forall_mem_cons.mpr ⟨run 3000 7 [] 812 (lz_22 1 1) lz_e22_1_1 nil7 (by decide +kernel) nilG, List.forall_mem_cons.mpr ⟨run 3000 7 [] 812 (lz_22 2 1) lz_e22_2_1 nil7 (by decide +kernel) nilG, List.forall_mem_cons.mpr ⟨run 3000 7 [] 812 (lz_22 3 1) lz_e22_3_1 nil7 (by decide +kernel) nilG, List.forall_mem_cons.mpr ⟨run 3000 7 [] 812 (lz_22 4 1) lz_e22_4_1 nil7 (by decide +kernel) nilG, List.forall_mem_cons.mpr ⟨run 3000 7 [] 812 (lz_22 5 1) lz_e22_5_1 nil7 (by decide +kernel) nilG, List.forall_mem_cons.mpr ⟨run 3000 7 [] 812 (lz_22 6 1) lz_e22_6_1 nil7 (by decide +kernel) nilG, List.forall_mem_cons.mpr ⟨run 3000 7 [] 812 (lz_22 7 1) lz_e22_7_1 nil7 (by decide +kernel) nilG, List.forall_mem_cons.mpr ⟨run 3000 7 [] 812 (lz_22 8 1) lz_e22_8_1 nil7 (by decide +kernel) nilG, List.forall_mem_cons.mpr ⟨run 3000 7 [] 812 (lz_22 9 1) lz_e22_9_1 nil7 (by decide +kernel) nilG, List.forall_mem_cons.mpr ⟨run 3000 7 [] 812 (lz_22 10 1) lz_e22_10_1 nil7 (by decide +kernel) nilG, List.forall_mem_cons.mpr ⟨run 3000 7 [] 812 (lz_22 11 1) lz_e22_11_1 nil7 (by decide +kernel) nilG, List.forall_mem_cons.mpr ⟨run 3000 7 [] 812 (lz_22 12 1) lz_e22_12_1 nil7 (by decide +kernel) nilG, List.forall_mem_cons.mpr ⟨run 3000 7 [] 812 (lz_22 13 1) lz_e22_13_1 nil7 (by decide +kernel) nilG, List.forall_mem_cons.mpr ⟨run 3000 7 [] 812 (lz_22 14 1) lz_e22_14_1 nil7 (by decide +kernel) nilG, List.forall_mem_cons.mpr ⟨run 3000 7 [] 812 (lz_22 15 1) lz_e22_15_1 nil7 (by decide +kernel) nilG, List.forall_mem_cons.mpr ⟨run 3000 7 [] 812 (lz_22 16 1) lz_e22_16_1 nil7 (by decide +kernel) nilG, List.forall_mem_cons.mpr ⟨run 3000 7 [] 812 (lz_22 17 1) lz_e22_17_1 nil7 (by decide +kernel) nilG, List.forall_mem_cons.mpr ⟨run 3000 7 [] 812 (lz_22 18 1) lz_e22_18_1 nil7 (by decide +kernel) nilG, List.forall_mem_cons.mpr ⟨run 3000 7 [] 812 (lz_22 19 1) lz_e22_19_1 nil7 (by decide +kernel) nilG, List.forall_mem_cons.mpr ⟨run 3000 7 [] 812 (lz_22 20 1) lz_e22_20_1 nil7 (by decide +kernel) nilG, List.forall_mem_cons.mpr ⟨run 3000 7 [] 812 (lz_22 21 1) lz_e22_21_1 nil7 (by decide +kernel) nilG, List.forall_mem_cons.mpr ⟨run 3000 7 [] 812 (lz_22 22 1) lz_e22_22_1 nil7 (by decide +kernel) nilG, List.forall_mem_cons.mpr ⟨run 3000 7 [] 812 (lz_22 23 1) lz_e22_23_1 nil7 (by decide +kernel) nilG, List.forall_mem_cons.mpr ⟨run 3000 7 [] 812 (lz_22 24 1) lz_e22_24_1 nil7 (by decide +kernel) nilG, List.forall_mem_cons.mpr ⟨run 3000 7 [] 812 (lz_22 25 1) lz_e22_25_1 nil7 (by decide +kernel) nilG, List.forall_mem_cons.mpr ⟨run 3000 7 [] 812 (lz_22 26 1) lz_e22_26_1 nil7 (by decide +kernel) nilG, List.forall_mem_cons.mpr ⟨run 3000 7 [] 812 (lz_22 27 1) lz_e22_27_1 nil7 (by decide +kernel) nilG, List.forall_mem_cons.mpr ⟨run 3000 7 [] 812 (lz_22 28 1) lz_e22_28_1 nil7 (by decide +kernel) nilG, List.forall_mem_cons.mpr ⟨run 3000 7 [] 812 (lz_22 29 1) lz_e22_29_1 nil7 (by decide +kernel) nilG, List.forall_mem_cons.mpr ⟨run 3000 7 [] 812 (lz_22 30 1) lz_e22_30_1 nil7 (by decide +kernel) nilG, fun _ h => absurd h List.not_mem_nil⟩⟩⟩⟩⟩⟩⟩⟩⟩⟩⟩⟩⟩⟩⟩⟩⟩⟩⟩⟩⟩⟩⟩⟩⟩⟩⟩⟩⟩⟩⟩⟩⟩⟩⟩⟩⟩⟩⟩⟩⟩⟩⟩⟩⟩⟩⟩⟩⟩⟩⟩⟩⟩⟩⟩⟩⟩⟩⟩⟩)
  have w23 : lz_G p l e s m below meth c b (dC, dI) ρ0 7 831 (lz_c 23) := run 3000 7 lz_ct23 831 (lz_c 23) lz_k23 (oks lz_z23) (by decide +kernel) (by
    unfold lz_ct23
    exact List.forall_mem_cons.mpr ⟨run 3000 7 [] 840 (lz_23 0) lz_e23_0 nil7 (by decide +kernel) nilG, List.forall_mem_cons.mpr ⟨run 3000 7 [] 840 (lz_23 1) lz_e23_1 nil7 (by decide +kernel) nilG, List.forall_mem_cons.mpr ⟨run 3000 7 [] 840 (lz_23 2) lz_e23_2 nil7 (by decide +kernel) nilG, List.forall_mem_cons.mpr ⟨run 3000 7 [] 840 (lz_23 3) lz_e23_3 nil7 (by decide +kernel) nilG, List.forall_mem_cons.mpr ⟨run 3000 7 [] 840 (lz_23 4) lz_e23_4 nil7 (by decide +kernel) nilG, List.forall_mem_cons.mpr ⟨run 3000 7 [] 840 (lz_23 5) lz_e23_5 nil7 (by decide +kernel) nilG, List.forall_mem_cons.mpr ⟨run 3000 7 [] 840 (lz_23 6) lz_e23_6 nil7 (by decide +kernel) nilG, List.forall_mem_cons.mpr ⟨run 3000 7 [] 840 (lz_23 7) lz_e23_7 nil7 (by decide +kernel) nilG, List.forall_mem_cons.mpr ⟨run 3000 7 [] 840 (lz_23 8) lz_e23_8 nil7 (by decide +kernel) nilG, List.forall_mem_cons.mpr ⟨run 3000 7 [] 840 (lz_23 9) lz_e23_9 nil7 (by decide +kernel) nilG, List.forall_mem_cons.mpr ⟨run 3000 7 [] 840 (lz_23 10) lz_e23_10 nil7 (by decide +kernel) nilG, List.forall_mem_cons.mpr ⟨run 3000 7 [] 840 (lz_23 11) lz_e23_11 nil7 (by decide +kernel) nilG, List.forall_mem_cons.mpr ⟨run 3000 7 [] 840 (lz_23 12) lz_e23_12 nil7 (by decide +kernel) nilG, List.forall_mem_cons.mpr ⟨run 3000 7 [] 840 (lz_23 13) lz_e23_13 nil7 (by decide +kernel) nilG, List.forall_mem_cons.mpr ⟨run 3000 7 [] 840 (lz_23 14) lz_e23_14 nil7 (by decide +kernel) nilG, List.forall_mem_cons.mpr ⟨run 3000 7 [] 840 (lz_23 15) lz_e23_15 nil7 (by decide +kernel) nilG, List.forall_mem_cons.mpr ⟨run 3000 7 [] 840 (lz_23 16) lz_e23_16 nil7 (by decide +kernel) nilG, List.forall_mem_cons.mpr ⟨run 3000 7 [] 840 (lz_23 17) lz_e23_17 nil7 (by decide +kernel) nilG, List.forall_mem_cons.mpr ⟨run 3000 7 [] 840 (lz_23 18) lz_e23_18 nil7 (by decide +kernel) nilG, List.forall_mem_cons.mpr ⟨run 3000 7 [] 840 (lz_23 19) lz_e23_19 nil7 (by decide +kernel) nilG, List.forall_mem_cons.mpr ⟨run 3000 7 [] 840 (lz_23 20) lz_e23_20 nil7 (by decide +kernel) nilG, List.forall_mem_cons.mpr ⟨run 3000 7 [] 840 (lz_23 21) lz_e23_21 nil7 (by decide +kernel) nilG, List.forall_mem_cons.mpr ⟨run 3000 7 [] 840 (lz_23 22) lz_e23_22 nil7 (by decide +kernel) nilG, List.forall_mem_cons.mpr ⟨run 3000 7 [] 840 (lz_23 23) lz_e23_23 nil7 (by decide +kernel) nilG, List.forall_mem_cons.mpr ⟨run 3000 7 [] 840 (lz_23 24) lz_e23_24 nil7 (by decide +kernel) nilG, List.forall_mem_cons.mpr ⟨run 3000 7 [] 840 (lz_23 25) lz_e23_25 nil7 (by decide +kernel) nilG, List.forall_mem_cons.mpr ⟨run 3000 7 [] 840 (lz_23 26) lz_e23_26 nil7 (by decide +kernel) nilG, List.forall_mem_cons.mpr ⟨run 3000 7 [] 840 (lz_23 27) lz_e23_27 nil7 (by decide +kernel) nilG, List.forall_mem_cons.mpr ⟨run 3000 7 [] 840 (lz_23 28) lz_e23_28 nil7 (by decide +kernel) nilG, List.forall_mem_cons.mpr ⟨run 3000 7 [] 840 (lz_23 29) lz_e23_29 nil7 (by decide +kernel) nilG, List.forall_mem_cons.mpr ⟨run 3000 7 [] 840 (lz_23 30) lz_e23_30 nil7 (by decide +kernel) nilG, fun _ h => absurd h List.not_mem_nil⟩⟩⟩⟩⟩⟩⟩⟩⟩⟩⟩⟩⟩⟩⟩⟩⟩⟩⟩⟩⟩⟩⟩⟩⟩⟩⟩⟩⟩⟩⟩)
  have g6 : lz_G p l e s m below meth c b (dC, dI) ρ0 7 16 lz_0 := run 3000 7 lz_ct 16 lz_0 lz_s6 (oks lz_zc) (by decide +kernel) (by
    unfold lz_ct
    exact List.forall_mem_cons.mpr ⟨run 3000 7 [] 292 (lz_c 0) lz_k0 nil7 (by decide +kernel) nilG, List.forall_mem_cons.mpr ⟨run 3000 7 [] 355 (lz_c 1) lz_k1 nil7 (by decide +kernel) nilG, List.forall_mem_cons.mpr ⟨run 3000 7 [] 378 (lz_c 2) lz_k2 nil7 (by decide +kernel) nilG, List.forall_mem_cons.mpr ⟨run 3000 7 [] 391 (lz_c 3) lz_k3 nil7 (by decide +kernel) nilG, List.forall_mem_cons.mpr ⟨run 3000 7 [] 414 (lz_c 4) lz_k4 nil7 (by decide +kernel) nilG, List.forall_mem_cons.mpr ⟨run 3000 7 [] 447 (lz_c 5) lz_k5 nil7 (by decide +kernel) nilG, List.forall_mem_cons.mpr ⟨run 3000 7 [] 470 (lz_c 6) lz_k6 nil7 (by decide +kernel) nilG, List.forall_mem_cons.mpr ⟨run 3000 7 [] 493 (lz_c 7) lz_k7 nil7 (by decide +kernel) nilG, List.forall_mem_cons.mpr ⟨run 3000 7 [] 506 (lz_c 8) lz_k8 nil7 (by decide +kernel) nilG, List.forall_mem_cons.mpr ⟨run 3000 7 [] 519 (lz_c 9) lz_k9 nil7 (by decide +kernel) nilG, List.forall_mem_cons.mpr ⟨run 3000 7 [] 532 (lz_c 10) lz_k10 nil7 (by decide +kernel) nilG, List.forall_mem_cons.mpr ⟨run 3000 7 [] 555 (lz_c 11) lz_k11 nil7 (by decide +kernel) nilG, List.forall_mem_cons.mpr ⟨run 3000 7 [] 578 (lz_c 12) lz_k12 nil7 (by decide +kernel) nilG, List.forall_mem_cons.mpr ⟨run 3000 7 [] 611 (lz_c 13) lz_k13 nil7 (by decide +kernel) nilG, List.forall_mem_cons.mpr ⟨run 3000 7 [] 624 (lz_c 14) lz_k14 nil7 (by decide +kernel) nilG, List.forall_mem_cons.mpr ⟨run 3000 7 [] 637 (lz_c 15) lz_k15 nil7 (by decide +kernel) nilG, List.forall_mem_cons.mpr ⟨run 3000 7 [] 670 (lz_c 16) lz_k16 nil7 (by decide +kernel) nilG, List.forall_mem_cons.mpr ⟨run 3000 7 [] 713 (lz_c 17) lz_k17 nil7 (by decide +kernel) nilG, List.forall_mem_cons.mpr ⟨run 3000 7 [] 736 (lz_c 18) lz_k18 nil7 (by decide +kernel) nilG, List.forall_mem_cons.mpr ⟨run 3000 7 [] 749 (lz_c 19) lz_k19 nil7 (by decide +kernel) nilG, List.forall_mem_cons.mpr ⟨run 3000 7 [] 772 (lz_c 20) lz_k20 nil7 (by decide +kernel) nilG, List.forall_mem_cons.mpr ⟨run 3000 7 [] 785 (lz_c 21) lz_k21 nil7 (by decide +kernel) nilG, List.forall_mem_cons.mpr ⟨w22, List.forall_mem_cons.mpr ⟨w23, List.forall_mem_cons.mpr ⟨run 3000 7 [] 854 (lz_c 24) lz_k24 nil7 (by decide +kernel) nilG, List.forall_mem_cons.mpr ⟨run 3000 7 [] 887 (lz_c 25) lz_k25 nil7 (by decide +kernel) nilG, List.forall_mem_cons.mpr ⟨run 3000 7 [] 910 (lz_c 26) lz_k26 nil7 (by decide +kernel) nilG, List.forall_mem_cons.mpr ⟨run 3000 7 [] 933 (lz_c 27) lz_k27 nil7 (by decide +kernel) nilG, List.forall_mem_cons.mpr ⟨run 3000 7 [] 956 (lz_c 28) lz_k28 nil7 (by decide +kernel) nilG, List.forall_mem_cons.mpr ⟨run 3000 7 [] 989 (lz_c 29) lz_k29 nil7 (by decide +kernel) nilG, List.forall_mem_cons.mpr ⟨run 3000 7 [] 1002 (lz_c 30) lz_k30 nil7 (by decide +kernel) nilG, List.forall_mem_cons.mpr ⟨run 3000 7 [] 1015 (lz_c 31) lz_k31 nil7 (by decide +kernel) nilG, List.forall_mem_cons.mpr ⟨run 3000 7 [] 1028 (lz_c 32) lz_k32 nil7 (by decide +kernel) nilG, List.forall_mem_cons.mpr ⟨run 3000 7 [] 1041 (lz_c 33) lz_k33 nil7 (by decide +kernel) nilG, List.forall_mem_cons.mpr ⟨run 3000 7 [] 1074 (lz_c 34) lz_k34 nil7 (by decide +kernel) nilG, List.forall_mem_cons.mpr ⟨run 3000 7 [] 1097 (lz_c 35) lz_k35 nil7 (by decide +kernel) nilG, List.forall_mem_cons.mpr ⟨run 3000 7 [] 1120 (lz_c 36) lz_k36 nil7 (by decide +kernel) nilG, List.forall_mem_cons.mpr ⟨run 3000 7 [] 1143 (lz_c 37) lz_k37 nil7 (by decide +kernel) nilG, List.forall_mem_cons.mpr ⟨run 3000 7 [] 1186 (lz_c 38) lz_k38 nil7 (by decide +kernel) nilG, List.forall_mem_cons.mpr ⟨run 3000 7 [] 1219 (lz_c 39) lz_k39 nil7 (by decide +kernel) nilG, List.forall_mem_cons.mpr ⟨run 3000 7 [] 1242 (lz_c 40) lz_k40 nil7 (by decide +kernel) nilG, List.forall_mem_cons.mpr ⟨run 3000 7 [] 1275 (lz_c 41) lz_k41 nil7 (by decide +kernel) nilG, List.forall_mem_cons.mpr ⟨run 3000 7 [] 1298 (lz_c 42) lz_k42 nil7 (by decide +kernel) nilG, List.forall_mem_cons.mpr ⟨run 3000 7 [] 1311 (lz_c 43) lz_k43 nil7 (by decide +kernel) nilG, List.forall_mem_cons.mpr ⟨run 3000 7 [] 1334 (lz_c 44) lz_k44 nil7 (by decide +kernel) nilG, List.forall_mem_cons.mpr ⟨run 3000 7 [] 1347 (lz_c 45) lz_k45 nil7 (by decide +kernel) nilG, List.forall_mem_cons.mpr ⟨run 3000 7 [] 1380 (lz_c 46) lz_k46 nil7 (by decide +kernel) nilG, List.forall_mem_cons.mpr ⟨run 3000 7 [] 1413 (lz_c 47) lz_k47 nil7 (by decide +kernel) nilG, List.forall_mem_cons.mpr ⟨run 3000 7 [] 1436 (lz_c 48) lz_k48 nil7 (by decide +kernel) nilG, List.forall_mem_cons.mpr ⟨run 3000 7 [] 1449 (lz_c 49) lz_k49 nil7 (by decide +kernel) nilG, List.forall_mem_cons.mpr ⟨run 3000 7 [] 1472 (lz_c 50) lz_k50 nil7 (by decide +kernel) nilG, List.forall_mem_cons.mpr ⟨run 3000 7 [] 1495 (lz_c 51) lz_k51 nil7 (by decide +kernel) nilG, List.forall_mem_cons.mpr ⟨run 3000 7 [] 1528 (lz_c 52) lz_k52 nil7 (by decide +kernel) nilG, List.forall_mem_cons.mpr ⟨run 3000 7 [] 1587 (lz_c 53) lz_k53 nil7 (by decide +kernel) nilG, List.forall_mem_cons.mpr ⟨run 3000 7 [] 1610 (lz_c 54) lz_k54 nil7 (by decide +kernel) nilG, List.forall_mem_cons.mpr ⟨run 3000 7 [] 1633 (lz_c 55) lz_k55 nil7 (by decide +kernel) nilG, List.forall_mem_cons.mpr ⟨run 3000 7 [] 1656 (lz_c 56) lz_k56 nil7 (by decide +kernel) nilG, List.forall_mem_cons.mpr ⟨run 3000 7 [] 1689 (lz_c 57) lz_k57 nil7 (by decide +kernel) nilG, List.forall_mem_cons.mpr ⟨run 3000 7 [] 1732 (lz_c 58) lz_k58 nil7 (by decide +kernel) nilG, List.forall_mem_cons.mpr ⟨run 3000 7 [] 1755 (lz_c 59) lz_k59 nil7 (by decide +kernel) nilG, List.forall_mem_cons.mpr ⟨run 3000 7 [] 1778 (lz_c 60) lz_k60 nil7 (by decide +kernel) nilG, fun _ h => absurd h List.not_mem_nil⟩⟩⟩⟩⟩⟩⟩⟩⟩⟩⟩⟩⟩⟩⟩⟩⟩⟩⟩⟩⟩⟩⟩⟩⟩⟩⟩⟩⟩⟩⟩⟩⟩⟩⟩⟩⟩⟩⟩⟩⟩⟩⟩⟩⟩⟩⟩⟩⟩⟩⟩⟩⟩⟩⟩⟩⟩⟩⟩⟩⟩)
  have gL : lz_G p l e s m below meth c b (dC, dI) ρ0 (L + 1) 16 lz_0 := by
    have : L = 0 ∨ L = 1 ∨ L = 2 ∨ L = 3 ∨ L = 4 ∨ L = 5 ∨ L = 6 := by omega
    rcases this with h | h | h | h | h | h | h <;> rw [h]
    · exact run 3000 1 [] 16 lz_0 lz_s0 nil7 (by decide +kernel) nilG
    · exact run 3000 2 [] 16 lz_0 lz_s1 nil7 (by decide +kernel) nilG
    · exact run 3000 3 [] 16 lz_0 lz_s2 nil7 (by decide +kernel) nilG
    · exact run 3000 4 [] 16 lz_0 lz_s3 nil7 (by decide +kernel) nilG
    · exact run 3000 5 [] 16 lz_0 lz_s4 nil7 (by decide +kernel) nilG
    · exact run 3000 6 [] 16 lz_0 lz_s5 nil7 (by decide +kernel) nilG
    · exact g6
  have g0 : lz_G p l e s m below meth c b (dC, dI) ρ0 0 16 lz_0 := by
    intro ρ tys H locs lsA hag hsc hok hlv
    refine gL ρ tys H locs lsA hag (Or.inr ⟨L, xs, rfl, ?_, ?_, ?_, ?_, fun j hj => ?_⟩) hok hlv
    · rw [hag.2.2, hρ0]; exact hX
    · rw [hag.2.2, hρ0]; exact hbl
    · rw [hag.2.2, hρ0]; exact Nat.not_le.mpr hbl
    · exact hL
    · rw [hag.1 j (by omega), hρ0]
  have gs : lz_G p l e s m below meth c b (dC, dI) ρ0 0 0 (lz_cs, ([], (0, (0, (0, ([(0, .inr (.inr (.inl (some 1000000))))], [])))))) := run 3000 0 [(16, lz_0)] 0 _ lz_r0 (fun q hq => by rw [List.mem_singleton.mp hq]; exact ⟨lz_z0, Nat.zero_le _⟩) (by decide +kernel) (fun q hq => by rw [List.mem_singleton.mp hq]; exact g0)
  have hl := lv_entry ([.ref b]) (n := 4) (Nat.le_of_ble_eq_true rfl)
  rw [lg_entry_eq]
  generalize (lg_sl ([.ref b]) ++ List.replicate (4 - (lg_sl ([.ref b])).length) Slot.unset).toArray = ls at hl ⊢
  have hl : lv_has ls 4 [(0, .ref b)] := hl
  have hK : va_K (dC, dI) xx_cl [] s := ⟨hKc, fun k q h => by simp at h⟩
  have hP : va_P (dC, dI) xx_cl [] s.heap := fun k q h => by simp at h
  have hD : va_D (fun q : Nat => s.heap.size ≤ q) [] := ⟨fun i j p q h => by simp at h, fun k q h => by simp at h⟩
  refine gs ρ0 [] s.heap [] ls (xx_ag_rf _ _ _) (Or.inl rfl) ⟨fun k r hk => ?_, (fun q hq => by cases hq), fun q hq => ?_, (fun q hq => by cases hq), Nat.zero_le _, hK, (fun i kd n ct hm => by cases hm), hP, hD, va_S.rf⟩ (by rw [hρ0]; exact hl)
  · have hr9 : r = xx_full := by
      have hm := List.mem_of_getElem? hk
      simp only [lz_cs, List.mem_cons, List.not_mem_nil, or_false] at hm
      rcases hm with h | h | h | h | h | h <;> exact h
    rw [hr9]
    exact xx_rng _
  · rw [List.mem_singleton.mp hq]
    exact Or.inr rfl
set_option maxHeartbeats 4000000 in
theorem lw_walk (l : Launch) (hflags : l.flags = flags0) (b : Addr) (xs : List Int32) : MetFree l x (headSpec (Jvm.Cond.code x code maxLocals ret :: tables_1) room_1) (lw_P b xs) (fun _ _ _ _ _ => True) lw_Q := by
  refine MetFree.of_bodyS (code := code) (maxLocals := maxLocals) (ret := ret) (by decide) ?_ ?_
  · intro args s m h hn
    obtain ⟨meth, c, h1, h2, h3, h4, h5, h6, -, -⟩ := Cond.code_spec hn (atoms_spec (ws := Jvm.Cond.code x code maxLocals ret :: tables_1) h _ List.mem_cons_self)
    exact ⟨meth, c, h1, h2, h3, h4, h5, h6⟩
  · intro p e s m args below meth c s₁ B hml0 hP _
    obtain ⟨rfl, hx, hbd, hgv⟩ := hP
    obtain ⟨scr, harrAt, hlist, hof, hsmall⟩ := hx
    obtain ⟨hcb, hkn, -, -⟩ := State.arrayAt?_spec harrAt
    have hown : s.vm.findClass R_law = some m.cls := findClass_of_methodNamed B.named
    have hts0 : ∀ c ∈ (Jvm.Cond.code x code maxLocals ret :: tables_1), c.before #[Value.ref b] s = true := atoms_spec (ws := Jvm.Cond.code x code maxLocals ret :: tables_1) B.pre
    have hts : ∀ w ∈ lw_tbl, w.before #[Value.ref b] s = true := k2_hts_sels lw_privs (fun w hw => hts0 w (List.mem_cons_of_mem _ hw)) lw_privs_ok
    have hml : c.maxLocals = 4 := B.maxLocals_eq (hts0 _ List.mem_cons_self)
    have X₀ : Stand p l e room_1 s m #[Value.ref b] below meth c s₁ [] 0 0 := Stand.of_body B
    have hh0 : s₁.heap = s.heap := by rw [B.state]; rfl
    have hsz : scr.slots.size = xs.length := by rw [← Array.length_toList, hlist, List.length_map]
    have hval : ∀ j : Nat, j < xs.length → scr.slots[j]? = some (.int (xs.getD j 0)) := fun j hj => by
      rw [← Array.getElem?_toList, hlist]
      simp [hj]
    have hbl : b < s.heap.size := (Array.getElem?_eq_some_iff.mp hcb).1
    have hX : va_X b xs.length (fun j => xs.getD j 0) s s.heap := ⟨scr, hcb, hof, hkn, hsz, hval⟩
    have K : W p l e room_1 s m #[Value.ref b] below meth c s₁.heap [] 0 0 (lw_Z below #[Value.ref b] s) (entryFrame m ([Value.ref b] : List Value).toArray 4) := by
      rw [hh0]
      exact whole_start l hflags hbd ⟨B.exec, B.bytes, B.returns, hml, hown, hts, hX, hbl, B.notSynchronized, hgv⟩
    obtain ⟨t, a1, o, b1, b2, b3⟩ := K s₁ rfl X₀
    exact ⟨t, o, a1, b1, b2, b3⟩
theorem lw_pre_spec {args : Array Value} {s : State} (h : (Jvm.Cond.and given_1 narrow_1).before args s = true) (hr : rest_1_c.before args s = true) : ∃ (b : Addr) (xs : List Int32), lw_P b xs args s := by
  have hs := flat_of_before _ h
  have hq := flat_of_before _ hr
  have hc : (Cond.count 1).before args s = true := hs _ (by decide +kernel)
  have harr : (Cond.arrayOf (.arg 0) .int).before args s = true := hs _ (by decide +kernel)
  have hle : (Cond.le (.length (.arg 0)) (.int 6)).before args s = true := hs _ (by decide +kernel)
  have hlen : (Cond.isInt (.length (.arg 0))).before args s = true := hq _ (by decide +kernel)
  have hall : (Cond.all (.arg 0) (.isInt (.elem (.arg 0) (.index 0)))).before args s = true := hq _ (by decide +kernel)
  obtain ⟨b, xs, hb, hx⟩ := State.ints_of_pre rfl harr hlen hall
  have hsm : xs.length < 2 ^ 31 := hx.choose_spec.2.2.2
  have hev : (Term.length (.arg 0)).eval args s none [] s = some (.int xs.length.toInt32) := hx.length_eval hb
  have hv := Cond.le_ints hev (show (Term.int 6).eval args s none [] s = some (.int 6) from rfl)
  have hd : xs.length.toInt32 ≤ 6 := by
    simpa [Cond.before, Cond.holds, hv] using hle
  have hN : xs.length ≤ 6 := (Int32.ofNat_le_ofNat hsm (by decide)).mp (show Int32.ofNat xs.length ≤ Int32.ofNat 6 from hd)
  exact ⟨b, xs, Cond.one_arg hc (show args[0]? = some (.ref b) from hb), hx, hN, h⟩
theorem lw_comes (l : Launch) (hflags : l.flags = flags0) : Comes l x (Jvm.Cond.code x code maxLocals ret :: tables_1) room_1 (fun tb e args s => Calls_1 tb e args s ∧ rest_1 tb e args s ∧ Pre_1 tb e args s)
    (fun _ _ args s o t => lw_Q args s o t) := by
  intro p e ha hc hk s m args below hf hfit hheap happ hpre
  obtain ⟨b, xs, hP⟩ := lw_pre_spec hpre.2.2 hpre.2.1
  obtain ⟨k, o, h1, h2, h3, hQ⟩ := lw_walk l hflags b xs p e ha hc hk s m args below hf ((Spec.applies_iff_loose hf).mp happ).1 hP trivial
  exact ⟨k, o, h1, h2, h3, hQ⟩
theorem lw_frame {s t : State} {o : Outcome} {args : Array Value} (h : Framed s o t [] 600000 7302249) :
    Framed s o t (fieldLocs frame_1_writes args s ++ arrayLocs frame_1_arrays args s ++ staticLocs frame_1_statics s) 600000 7302249 := h
theorem lw_limb (L : Cond) (hL : ∀ (args : Array Value) (s t : State), L.after args s (.returned (some (.int 1))) t = true) :
    ArmFor flags0 classFile x code maxLocals ret World_1 tables_1 room_1 Calls_1 rest_1 Pre_1
      (fun tb e a s o t => postC L tb e a s o t ∧ Framed s o t (fieldLocs frame_1_writes a s ++ arrayLocs frame_1_arrays a s ++ staticLocs frame_1_statics s) 600000 7302249) := by
  intro l hflags _ _ p e ha hc hk s m args below hf hfit hheap happ hpre
  obtain ⟨k, o, h1, h2, h3, rfl, hF⟩ := lw_comes l hflags p e ha hc hk s m args below hf hfit hheap happ hpre
  exact ⟨k, _, h1, h2, h3, hL args s _, lw_frame hF⟩
theorem i_vc : Claimed_1_1 ∧ Claimed_1_2 := ⟨lw_limb limb_1_1 (fun args s t => by simp [limb_1_1, Cond.after, Cond.holds, Cond.value]), lw_limb limb_1_2 (fun args s t => Cond.after_iff.mpr (by
  first | (rw [show limb_1_2 = Cond.eq .result (.int 1) from rfl, Cond.eq_ints (x := 1) (y := 1) rfl rfl]; simp; done) | (simp [limb_1_2, Cond.value, Term.eval]; done)))⟩

