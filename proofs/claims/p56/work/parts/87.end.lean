/-! THE CLAIM OUT OF ONE WALK OF THE LAW'S BODY. Your part is whole_start (and what it stands on); all else here is the same for every law, but numbers. -/
def R_law : String := "StinkhornParishLaw"
def lw_P (b : Addr) (xs : List Int32) (args : Array Value) (s : State) : Prop := args = #[.ref b] ∧ s.IntsAt b xs ∧ xs.length ≤ 3072 ∧ (Jvm.Cond.and given_1 narrow_1).before args s = true
def lw_Q (_ : Array Value) (s : State) (o : Outcome) (t : State) : Prop := o = .returned (some (.int 1)) ∧ Framed s o t [] 600000 7302250
def lw_Z (below : List Frame) (a : Array Value) (s : State) : State → Prop := fun t => ∃ o, t.status = .running ∧ Ended t below o ∧ lw_Q a s o t
/-- the law's own end, with 1 on the stack, nothing written that was there before, its room as the claim has it -/
theorem lw_ret {p : Program} {l : Launch} {e : Env} {s : State} {m : MethodId} {below : List Frame} {meth : Method} {c : Code} {b : Nat} (hx : p.tables.exec = Jvm.exec) (hb : c.code = code) (hr : meth.sig.returnType = ret) (hlocks : meth.locks = false) {pc : Nat} {H : Heap} {ls : Array Slot} (hdg : decode code pc = .ok (.ireturn, 1)) : W p l e room_1 s m #[Value.ref b] below meth c H [] 600000 7302250 (lw_Z below #[Value.ref b] s) (F0 m pc ls [.int 1]) := by
  intro T hT X
  obtain ⟨fs, hret, hrun, hended, hW, hframe⟩ := X.leave (v := some (.int 1)) (hlocks := hlocks) (fun h => by rw [hr] at h; cases h)
  have hmeth' : T.vm.method? m = some meth := X.method'
  refine ⟨T.setFrames fs, ?_, .returned (some (.int 1)), hrun, hended, rfl, ⟨_, rfl⟩, hW, hframe⟩
  jvm_step X.here [X.here.top, hx, hb, hdg, hmeth', hr, ret, narrow_b1]
  (try refine ⟨rfl, ?_⟩); (try refine ⟨rfl, ?_⟩)
  first | (intro acts; rw [hret _ acts rfl rfl rfl]) | rw [hret _ _ rfl rfl rfl]
  exact Steps.refl _
/-- what holds at the law's entry: the machine, the code, the tables' words (any of lw_tbl by 'hts w (by decide +kernel)'), the script of L ints xs at the cell b, what the Statement gives of the start (any of its parts by flat_of_before) -/
def lw_At (p : Program) (s : State) (m : MethodId) (meth : Method) (c : Code) (b L : Nat) (xs : Nat → Int32) : Prop :=
  p.tables.exec = Jvm.exec ∧ c.code = code ∧ meth.sig.returnType = ret ∧ c.maxLocals = 4 ∧ s.vm.findClass R_law = some m.cls ∧ (∀ w ∈ lw_tbl, w.before #[Value.ref b] s = true) ∧ va_X b L xs s s.heap ∧ b < s.heap.size ∧ meth.locks = false ∧ (Jvm.Cond.and given_1 narrow_1).before #[Value.ref b] s = true
theorem lz_chk_run {fuel scr : Nat} {ct : xx_T} {pc : Nat} {Z : xx_S} (h : lz_chk fuel scr ct pc Z = true) : lz_run fuel scr ct pc Z = some [] := by
  unfold lz_chk at h
  split at h
  · rename_i h1
    exact h1
  · cases h
/-- the law from its loop on -/
theorem lz_loop {p : Program} {l : Launch} {e : Env} {s : State} {m : MethodId} {below : List Frame} {meth : Method} {c : Code} {b L : Nat} {xs : Nat → Int32} {D : va_G} {ak at9 av : Nat} (hL : L ≤ 3072) (C0 : lw_At p s m meth c b L xs) (hTB : ∀ w ∈ xx_TB, w.before #[Value.ref b] s = true) (hN : ∀ n ∈ xx_NL, va_Nw n s) (hE : ∀ α : Nat → Nat, α yy_kee = ak → α yy_str = at9 → α yy_stv = av → yy_env α zu_kee (fun q => s.heap.size ≤ q) s s.heap)
    {ρ : xx_Y} (hρ : ρ.2.1 xx_scr = b) {tys : List (ClassId × FieldType)} {H : Heap} {locs : List Loc} {lsA : Array Slot} (hwo : xx_wo s (fun q => s.heap.size ≤ q) D ρ tys lz_w H locs) (hlv : lv_has lsA 4 (xx_gL ρ lz_l3)) : W p l e room_1 s m #[Value.ref b] below meth c H locs 157 14524 (lw_Z below #[Value.ref b] s) (F0 m 16 lsA []) := by
  obtain ⟨hx, hb, hr, hml, hown, hts, hX, hbl, hlocks, hgv⟩ := id C0
  have hrep := zv_rep (b := b) (ak := ak) (at9 := at9) (av := av) (xs := xs) hwo
  obtain ⟨n, ω', hrun⟩ := zv_run zu_kee ρ xs hL
  have a0 : zv_al ρ b ak at9 av xx_scr = b := (if_neg (by decide)).trans (if_pos rfl)
  have a1 : zv_al ρ b ak at9 av yy_kee = ak := (if_neg (by decide)).trans ((if_neg (by decide)).trans (if_pos rfl))
  have a2 : zv_al ρ b ak at9 av yy_str = at9 := (if_neg (by decide)).trans ((if_neg (by decide)).trans ((if_neg (by decide)).trans (if_pos rfl)))
  have a3 : zv_al ρ b ak at9 av yy_stv = av := (if_neg (by decide)).trans ((if_neg (by decide)).trans ((if_neg (by decide)).trans (if_neg (by decide))))
  have hC : yy_ctx p room_1 s m #[Value.ref b] c zm_LAW (fun q => s.heap.size ≤ q) (zt_G, (some (L, xs), zu_kee)) (zv_al ρ b ak at9 av) 66 157 14524 :=
    ⟨hx, hb, hml, hown, hTB, hN, fun _ h => h, ⟨Nat.le_of_ble_eq_true rfl, Nat.le_of_ble_eq_true rfl, Nat.le_of_ble_eq_true rfl, Nat.le_of_ble_eq_true rfl⟩, hE _ a1 a2 a3, by
      show va_X (zv_al ρ b ak at9 av xx_scr) L xs s s.heap ∧ zv_al ρ b ak at9 av xx_scr < s.heap.size ∧ ¬ s.heap.size ≤ zv_al ρ b ak at9 av xx_scr
      rw [a0]
      exact ⟨hX, hbl, Nat.not_le.mpr hbl⟩⟩
  have hl2 : lv_has lsA 4 (yy_gL (zv_al ρ b ak at9 av) zv_l) := by
    have e1 : yy_gL (zv_al ρ b ak at9 av) zv_l = xx_gL ρ lz_l3 := by
      show [(2, Value.ref (zv_al ρ b ak at9 av 38)), (1, Value.ref (zv_al ρ b ak at9 av 156)), (0, Value.ref (zv_al ρ b ak at9 av xx_scr))] = [(2, Value.ref (ρ.2.1 118)), (1, Value.ref (ρ.2.1 0)), (0, Value.ref (ρ.2.1 xx_scr))]
      rw [zv_alk (k := 38) (i := 118) rfl, zv_alk (k := 156) (i := 0) rfl, a0, hρ]
    rw [e1]
    exact hlv
  refine yy_sound zo_all n zm_LAW zo_LAW p e room_1 s m #[Value.ref b] below meth c _ (fun q => s.heap.size ≤ q) D tys (zv_al ρ b ak at9 av) (zv_cl ρ) (some (L, xs)) 66 157 14524 hC (some (.inl 1)) ω' ?_ 16 zv_l [] _ H locs lsA hrun hrep hl2
  intro H' locs' lsA' pc' hrep' hret
  refine va_forget (fun q hq => hrep'.2.2.2.2.2.2 q hq) ?_
  refine W.widen (k := 600000) (n := 7302250) (Nat.le_of_ble_eq_true rfl) (Nat.le_of_ble_eq_true rfl) ?_
  show W _ _ _ _ _ _ _ _ _ _ _ _ _ _ _ (F0 m pc' lsA' [.int 1])
  exact lw_ret hx hb hr hlocks hret.1
set_option maxHeartbeats 4000000 in
set_option maxRecDepth 100000 in
/-- from the entry, for every script of at most 3072 ints, the law comes to its end with true -/
theorem whole_start {p : Program} {e : Env} {s : State} {m : MethodId} {below : List Frame} {meth : Method} {c : Code} (l : Launch) (hflags : l.flags = flags0) {b L : Nat} {xs : Nat → Int32} (hL : L ≤ 3072) (C0 : lw_At p s m meth c b L xs) : W p l e room_1 s m #[Value.ref b] below meth c s.heap [] 0 0 (lw_Z below #[Value.ref b] s) (entryFrame m ([Value.ref b] : List Value).toArray 4) := by
  obtain ⟨hx, hb, hr, hml, hown, hts, hX, hbl, hlocks, hgv⟩ := id C0
  obtain ⟨c0, iS0, hKn0⟩ := u_known (C := RX0) (T := TX0) (N := 5) (n := 5) hts (fun w hw => (List.mem_filter.mp (xx_cl_in (ci := 0) rfl w hw)).1) (hts (.instantiable RX0 5) (List.mem_of_getElem? (i := 313) (by decide +kernel)))
  obtain ⟨c1, iS1, hKn1⟩ := u_known (C := RX1) (T := TX1) (N := 5) (n := 5) hts (fun w hw => (List.mem_filter.mp (xx_cl_in (ci := 1) rfl w hw)).1) (hts (.instantiable RX1 5) (List.mem_of_getElem? (i := 167) (by decide +kernel)))
  obtain ⟨c2, iS2, hKn2⟩ := u_known (C := RX2) (T := TX2) (N := 3) (n := 3) hts (fun w hw => (List.mem_filter.mp (xx_cl_in (ci := 2) rfl w hw)).1) (hts (.instantiable RX2 3) (List.mem_of_getElem? (i := 248) (by decide +kernel)))
  obtain ⟨c3, iS3, hKn3⟩ := u_known (C := RX3) (T := TX3) (N := 13) (n := 13) hts (fun w hw => (List.mem_filter.mp (xx_cl_in (ci := 3) rfl w hw)).1) (hts (.instantiable RX3 13) (List.mem_of_getElem? (i := 155) (by decide +kernel)))
  obtain ⟨c4, iS4, hKn4⟩ := u_known (C := RX4) (T := TX4) (N := 10) (n := 10) hts (fun w hw => (List.mem_filter.mp (xx_cl_in (ci := 4) rfl w hw)).1) (hts (.instantiable RX4 10) (List.mem_of_getElem? (i := 340) (by decide +kernel)))
  obtain ⟨c5, iS5, hKn5⟩ := u_known (C := RX5) (T := TX5) (N := 9) (n := 9) hts (fun w hw => (List.mem_filter.mp (xx_cl_in (ci := 5) rfl w hw)).1) (hts (.instantiable RX5 9) (List.mem_of_getElem? (i := 161) (by decide +kernel)))
  obtain ⟨c6, iS6, hKn6⟩ := u_known (C := RX6) (T := TX6) (N := 11) (n := 11) hts (fun w hw => (List.mem_filter.mp (xx_cl_in (ci := 6) rfl w hw)).1) (hts (.instantiable RX6 11) (List.mem_of_getElem? (i := 147) (by decide +kernel)))
  obtain ⟨c7, iS7, hKn7⟩ := u_known (C := RX7) (T := TX7) (N := 62) (n := 62) hts (fun w hw => (List.mem_filter.mp (xx_cl_in (ci := 7) rfl w hw)).1) (hts (.instantiable RX7 62) (List.mem_of_getElem? (i := 1062) (by decide +kernel)))
  obtain ⟨dC, dI, hKc⟩ : ∃ (dC : Nat → ClassId) (dI : Nat → Nat → Nat), ∀ (k : Nat) (q : vw_C), xx_cl[k]? = some q → u_Kn s q.1 q.2.1 q.2.2 (dC k) (dI k) := by
    refine ⟨fun k => match k with | 0 => c0 | 1 => c1 | 2 => c2 | 3 => c3 | 4 => c4 | 5 => c5 | 6 => c6 | _ => c7, fun k => match k with | 0 => iS0 | 1 => iS1 | 2 => iS2 | 3 => iS3 | 4 => iS4 | 5 => iS5 | 6 => iS6 | _ => iS7, ?_⟩
    intro k q hq
    match k, hq with
    | 0, hq => cases hq; exact hKn0
    | 1, hq => cases hq; exact hKn1
    | 2, hq => cases hq; exact hKn2
    | 3, hq => cases hq; exact hKn3
    | 4, hq => cases hq; exact hKn4
    | 5, hq => cases hq; exact hKn5
    | 6, hq => cases hq; exact hKn6
    | 7, hq => cases hq; exact hKn7
    | k + 8, hq => simp [xx_cl] at hq
  have hN : ∀ n ∈ xx_NL, va_Nw n s := by
    intro n hn
    have h1 := (List.mem_filter.mp hn).2
    have h2 := hts n (List.mem_filter.mp hn).1
    cases n <;> first | (cases h1; done) | exact va_Nw.of rfl h2
  have hAO : va_AO RX1 s := va_AO.of (hts (.arrayOver (.object RX1)) (List.mem_of_getElem? (i := 319) (by decide +kernel)))
  have hC : xx_ctx p room_1 s m #[Value.ref b] meth c xm_LAW (fun q => s.heap.size ≤ q) := ⟨hx, hb, hml, hown, fun w hw => hts w (List.mem_filter.mp hw).1, hN, hAO, fun _ h => h, ⟨Nat.le_refl _, Nat.le_refl _, Nat.le_refl _, Nat.le_of_ble_eq_true rfl⟩, fun h9 => absurd h9 (by decide +kernel)⟩
  obtain ⟨ak, at9, av, hE⟩ := zu_env hts hgv
  obtain ⟨ρ0, hρ0⟩ : ∃ ρ0 : xx_Y, ρ0 = (xs, fun _ => b, fun _ => 0, fun _ _ => 0) := ⟨_, rfl⟩
  have hr0 : xx_exec xx_tab 3000 xm_LAW 0 [(16, lz_0)] 0 (xx_from 0 xm_LAW.2.2.2.2.2) [] [] 0 0 0 [(0, .inr (.inr (.inl (some 1000000))))] [] = some [] := lz_chk_run lz_r0
  have hl := lv_entry ([.ref b]) (n := 4) (Nat.le_of_ble_eq_true rfl)
  rw [lg_entry_eq]
  generalize (lg_sl ([.ref b]) ++ List.replicate (4 - (lg_sl ([.ref b])).length) Slot.unset).toArray = ls at hl ⊢
  have hl : lv_has ls 4 [(0, .ref b)] := hl
  have hK : va_K (dC, dI) xx_cl [] s := ⟨hKc, fun k q h => by simp at h⟩
  have hP : va_P (dC, dI) xx_cl [] s.heap := fun k q h => by simp at h
  have hD : va_D (fun q : Nat => s.heap.size ≤ q) [] := ⟨fun i j p q h => by simp at h, fun k q h => by simp at h⟩
  refine xx_sound xx_tabk (lk_all l) 3000 xm_LAW xx_lawk p e room_1 s m #[Value.ref b] below meth c _ (fun q => s.heap.size ≤ q) (dC, dI) hC 0 [(16, lz_0)] [] ρ0 0 0 (fun q hq => by rw [List.mem_singleton.mp hq]; exact ⟨lz_z0, Nat.zero_le _⟩) (fun o ho => by cases ho) ?_ 0 _ [] [] 0 0 0 [(0, .inr (.inr (.inl (some 1000000))))] [] [] ρ0 [] s.heap [] ls hr0 (xx_from_sub _ _) (fun o ho => ho) (xx_ag_rf _ _ _) (Nat.zero_le _) (Nat.zero_le _) (Or.inl rfl) ⟨(fun k r hk => by cases hk), (fun q hq => by cases hq), fun q hq => ?_, (fun q hq => by cases hq), Nat.zero_le _, hK, (fun i kd n ct hm => by cases hm), hP, hD, va_S.rf⟩ (by rw [hρ0]; exact hl)
  · intro q hq ρ tys H locs lsA hag hsc hok hlv
    have hq := List.mem_singleton.mp hq
    subst hq
    exact lz_loop hL C0 (fun w hw => hts w (List.mem_filter.mp hw).1) hN hE (by rw [hag.2.2, hρ0]) hok.2.2.2.2.2 hlv
  · rw [List.mem_singleton.mp hq]
    exact Or.inr rfl
set_option maxHeartbeats 4000000 in
theorem lw_walk (l : Launch) (hflags : l.flags = flags0) (b : Addr) (xs : List Int32) : MetFree l x (headSpec (Jvm.Cond.code x code maxLocals ret :: tables_1) room_1) (lw_P b xs) (fun _ _ _ _ _ => True) lw_Q := by
  refine MetFree.of_bodyS (code := code) (maxLocals := maxLocals) (ret := ret) (by decide) ?_ ?_
  · intro args s m h hn
    obtain ⟨meth, c, h1, h2, h3, h4, h5, h6, -, -⟩ := Cond.code_spec hn (atoms_spec (ws := Jvm.Cond.code x code maxLocals ret :: tables_1) h _ List.mem_cons_self)
    exact ⟨meth, c, h1, h2, h3, h4, h5, h6⟩
  · intro p e s m args below meth c s₁ B hml0 hP _
    obtain ⟨rfl, hx, hbd, hgv⟩ := hP
    obtain ⟨scr, harrAt, hlist, hof, hsmall⟩ := hx
    obtain ⟨hcb, hkn, -, -⟩ := State.arrayAt?_spec harrAt
    have hown : s.vm.findClass R_law = some m.cls := findClass_of_methodNamed B.named
    have hts0 : ∀ c ∈ (Jvm.Cond.code x code maxLocals ret :: tables_1), c.before #[Value.ref b] s = true := atoms_spec (ws := Jvm.Cond.code x code maxLocals ret :: tables_1) B.pre
    have hts : ∀ w ∈ lw_tbl, w.before #[Value.ref b] s = true := k2_hts_sels lw_privs (fun w hw => hts0 w (List.mem_cons_of_mem _ hw)) lw_privs_ok
    have hml : c.maxLocals = 4 := B.maxLocals_eq (hts0 _ List.mem_cons_self)
    have X₀ : Stand p l e room_1 s m #[Value.ref b] below meth c s₁ [] 0 0 := Stand.of_body B
    have hh0 : s₁.heap = s.heap := by rw [B.state]; rfl
    have hsz : scr.slots.size = xs.length := by rw [← Array.length_toList, hlist, List.length_map]
    have hval : ∀ j : Nat, j < xs.length → scr.slots[j]? = some (.int (xs.getD j 0)) := fun j hj => by
      rw [← Array.getElem?_toList, hlist]
      simp [hj]
    have hbl : b < s.heap.size := (Array.getElem?_eq_some_iff.mp hcb).1
    have hX : va_X b xs.length (fun j => xs.getD j 0) s s.heap := ⟨scr, hcb, hof, hkn, hsz, hval⟩
    have K : W p l e room_1 s m #[Value.ref b] below meth c s₁.heap [] 0 0 (lw_Z below #[Value.ref b] s) (entryFrame m ([Value.ref b] : List Value).toArray 4) := by
      rw [hh0]
      exact whole_start l hflags hbd ⟨B.exec, B.bytes, B.returns, hml, hown, hts, hX, hbl, B.notSynchronized, hgv⟩
    obtain ⟨t, a1, o, b1, b2, b3⟩ := K s₁ rfl X₀
    exact ⟨t, o, a1, b1, b2, b3⟩
theorem lw_pre_spec {args : Array Value} {s : State} (h : (Jvm.Cond.and given_1 narrow_1).before args s = true) (hr : rest_1_c.before args s = true) : ∃ (b : Addr) (xs : List Int32), lw_P b xs args s := by
  have hs := flat_of_before _ h
  have hq := flat_of_before _ hr
  have hc : (Cond.count 1).before args s = true := hs _ (by decide +kernel)
  have harr : (Cond.arrayOf (.arg 0) .int).before args s = true := hs _ (by decide +kernel)
  have hle : (Cond.le (.length (.arg 0)) (.int 3072)).before args s = true := hs _ (by decide +kernel)
  have hlen : (Cond.isInt (.length (.arg 0))).before args s = true := hq _ (by decide +kernel)
  have hall : (Cond.all (.arg 0) (.isInt (.elem (.arg 0) (.index 0)))).before args s = true := hq _ (by decide +kernel)
  obtain ⟨b, xs, hb, hx⟩ := State.ints_of_pre rfl harr hlen hall
  have hsm : xs.length < 2 ^ 31 := hx.choose_spec.2.2.2
  have hev : (Term.length (.arg 0)).eval args s none [] s = some (.int xs.length.toInt32) := hx.length_eval hb
  have hv := Cond.le_ints hev (show (Term.int 3072).eval args s none [] s = some (.int 3072) from rfl)
  have hd : xs.length.toInt32 ≤ 3072 := by
    simpa [Cond.before, Cond.holds, hv] using hle
  have hN : xs.length ≤ 3072 := (Int32.ofNat_le_ofNat hsm (by decide)).mp (show Int32.ofNat xs.length ≤ Int32.ofNat 3072 from hd)
  exact ⟨b, xs, Cond.one_arg hc (show args[0]? = some (.ref b) from hb), hx, hN, h⟩
theorem lw_comes (l : Launch) (hflags : l.flags = flags0) : Comes l x (Jvm.Cond.code x code maxLocals ret :: tables_1) room_1 (fun tb e args s => Calls_1 tb e args s ∧ rest_1 tb e args s ∧ Pre_1 tb e args s)
    (fun _ _ args s o t => lw_Q args s o t) := by
  intro p e ha hc hk s m args below hf hfit hheap happ hpre
  obtain ⟨b, xs, hP⟩ := lw_pre_spec hpre.2.2 hpre.2.1
  obtain ⟨k, o, h1, h2, h3, hQ⟩ := lw_walk l hflags b xs p e ha hc hk s m args below hf ((Spec.applies_iff_loose hf).mp happ).1 hP trivial
  exact ⟨k, o, h1, h2, h3, hQ⟩
theorem lw_frame {s t : State} {o : Outcome} {args : Array Value} (h : Framed s o t [] 600000 7302250) :
    Framed s o t (fieldLocs frame_1_writes args s ++ arrayLocs frame_1_arrays args s ++ staticLocs frame_1_statics s) 600000 7302250 := h
theorem lw_limb (L : Cond) (hL : ∀ (args : Array Value) (s t : State), L.after args s (.returned (some (.int 1))) t = true) :
    ArmFor flags0 classFile x code maxLocals ret World_1 tables_1 room_1 Calls_1 rest_1 Pre_1
      (fun tb e a s o t => postC L tb e a s o t ∧ Framed s o t (fieldLocs frame_1_writes a s ++ arrayLocs frame_1_arrays a s ++ staticLocs frame_1_statics s) 600000 7302250) := by
  intro l hflags _ _ p e ha hc hk s m args below hf hfit hheap happ hpre
  obtain ⟨k, o, h1, h2, h3, rfl, hF⟩ := lw_comes l hflags p e ha hc hk s m args below hf hfit hheap happ hpre
  exact ⟨k, _, h1, h2, h3, hL args s _, lw_frame hF⟩
theorem i_vc : Claimed_1_1 ∧ Claimed_1_2 := ⟨lw_limb limb_1_1 (fun args s t => by simp [limb_1_1, Cond.after, Cond.holds, Cond.value]), lw_limb limb_1_2 (fun args s t => Cond.after_iff.mpr (by
  first | (rw [show limb_1_2 = Cond.eq .result (.int 1) from rfl, Cond.eq_ints (x := 1) (y := 1) rfl rfl]; simp; done) | (simp [limb_1_2, Cond.value, Term.eval]; done)))⟩
