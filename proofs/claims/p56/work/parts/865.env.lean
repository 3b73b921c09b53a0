/-! what the Statement gives at the start: statics, the text -/
def zu_F : List Cond := flatC (Jvm.Cond.and given_1 narrow_1)
def zu_K : Term := .static "StinkhornParish" "KEEPING" "[J"
def zu_S : Term := .string "StinkhornParish$Reader" 189
def zu_V : Term := .field zu_S "java/lang/String" "value" "[B"
def zu_kee (j : Nat) : Int64 := ([-6148914691236517206, -3689348814741910324, -1085102592571150096, -71777214294589696, -281470681808896, -4294967296] : List Int64).getD j 0
set_option maxRecDepth 1000000 in
set_option maxHeartbeats 40000000 in
theorem zu_fk : (List.range 6).all (fun j => decide (zu_F[12 + j]? = some (Cond.eq (.elem zu_K (.int (Int32.ofNat j))) (.long (zu_kee j))))) = true := by decide +kernel
set_option maxRecDepth 1000000 in
set_option maxHeartbeats 40000000 in
theorem zu_fs : (List.range 79).all (fun j => decide (zu_F[22 + j]? = some (Cond.eq (.elem zu_V (.int (Int32.ofNat j))) (.int (yy_txt.getD j 0))))) = true := by decide +kernel
theorem zu_len : yy_txt.length = 79 := by decide +kernel
set_option maxRecDepth 1000000 in
set_option maxHeartbeats 40000000 in
theorem zu_env {b : Nat} {s : State} (hts : ∀ w ∈ lw_tbl, w.before #[Value.ref b] s = true) (hgv : (Jvm.Cond.and given_1 narrow_1).before #[Value.ref b] s = true) : ∃ ak at9 av : Nat, ∀ α : Nat → Nat, α yy_kee = ak → α yy_str = at9 → α yy_stv = av → yy_env α zu_kee (fun q => s.heap.size ≤ q) s s.heap := by
  have hs := flat_of_before _ hgv
  have hA : ∀ a : Nat, a < s.heap.size → ¬ (fun q : Nat => s.heap.size ≤ q) a := fun a h => Nat.not_le.mpr h
  have ft : ∀ {k : Nat} {c : Cond}, zu_F[k]? = some c → c.before #[Value.ref b] s = true := fun h => hs _ (List.mem_of_getElem? h)
  have tb : ∀ {k : Nat} {c : Cond}, lw_tbl[k]? = some c → c.before #[Value.ref b] s = true := fun h => hts _ (List.mem_of_getElem? h)
  have i1 : (Cond.initialized "StinkhornParish").before #[Value.ref b] s = true := tb (k := 130) (by decide +kernel)
  have i2 : (Cond.initialized "java/lang/String").before #[Value.ref b] s = true := tb (k := 137) (by decide +kernel)
  have i3 : (Cond.initialized "jdk/internal/util/Preconditions").before #[Value.ref b] s = true := tb (k := 139) (by decide +kernel)
  have l1 : (Cond.laysStatic "StinkhornParish" "KEEPING" "[J").before #[Value.ref b] s = true := tb (k := 701) (by decide +kernel)
  have l2 : (Cond.laysStatic "java/lang/String" "COMPACT_STRINGS" "Z").before #[Value.ref b] s = true := tb (k := 415) (by decide +kernel)
  have l3 : (Cond.laysStatic "jdk/internal/util/Preconditions" "SIOOBE_FORMATTER" "Ljava/util/function/BiFunction;").before #[Value.ref b] s = true := tb (k := 431) (by decide +kernel)
  have l4 : (Cond.stringRef "StinkhornParish$Reader" 189 yy_tx).before #[Value.ref b] s = true := tb (k := 405) (by decide +kernel)
  have f4 : (Cond.eq (.static "java/lang/String" "COMPACT_STRINGS" "Z") (.int 1)).before #[Value.ref b] s = true := ft (k := 4) (by decide +kernel)
  have f5 : (Cond.isRef (.static "jdk/internal/util/Preconditions" "SIOOBE_FORMATTER" "Ljava/util/function/BiFunction;")).before #[Value.ref b] s = true := ft (k := 5) (by decide +kernel)
  have f10 : (Cond.arrayOf zu_K .long).before #[Value.ref b] s = true := ft (k := 10) (by decide +kernel)
  have f11 : (Cond.eq (.length zu_K) (.int (Int32.ofNat 6))).before #[Value.ref b] s = true := ft (k := 11) (by decide +kernel)
  have f18 : (Cond.exactly zu_S "java/lang/String").before #[Value.ref b] s = true := ft (k := 18) (by decide +kernel)
  have f19 : (Cond.eq (.field zu_S "java/lang/String" "coder" "B") (.int 0)).before #[Value.ref b] s = true := ft (k := 19) (by decide +kernel)
  have f20 : (Cond.arrayOf zu_V .byte).before #[Value.ref b] s = true := ft (k := 20) (by decide +kernel)
  have f21 : (Cond.eq (.length zu_V) (.int (Int32.ofNat yy_txt.length))).before #[Value.ref b] s = true := ft (k := 21) (by decide +kernel)
  obtain ⟨ak, e1, hT⟩ := va_Tof (tm := zu_K) (ty := .long) (N := 6) (f := fun j => .long (zu_kee j)) (A := fun q : Nat => s.heap.size ≤ q) (by decide) f10 (va_eqt f11) (fun j hj => va_eqtl (ft (k := 12 + j) (of_decide_eq_true (List.all_eq_true.mp zu_fk j (List.mem_range.mpr hj))))) hA
  have z0 : ∀ {i : Nat}, i < 1 → i = 0 := fun h => by omega
  obtain ⟨adK, adV, hS, hev⟩ := vk_Sof (args := #[Value.ref b]) (s := s) (N := 1) (tm := fun _ => zu_S) (len := [yy_txt.length]) (byt := [yy_txt]) (A := fun q : Nat => s.heap.size ≤ q)
    (fun i hi => by rw [z0 hi]; show yy_txt.length < 2 ^ 31; rw [zu_len]; decide) (fun _ _ => f18) (fun _ _ => f19) (fun _ _ => f20) (fun i hi => by rw [z0 hi]; exact f21)
    (fun i hi j hj => by
      rw [z0 hi] at hj ⊢
      have hj : j < yy_txt.length := hj
      rw [zu_len] at hj
      exact ft (k := 22 + j) (of_decide_eq_true (List.all_eq_true.mp zu_fs j (List.mem_range.mpr hj))))
    (fun i j hi hj h => absurd ((z0 hi).trans (z0 hj).symm) h) hA
  refine ⟨ak, adK 0, adV 0, fun α h1 h2 h3 => ?_⟩
  unfold yy_env
  rw [h1, h2, h3]
  refine ⟨va_Zof l1 i1 e1 hA, hT, ⟨va_Zof l2 i2 (va_eqi f4) hA, va_Zqof l3 i3 f5 hA⟩, vk_R.of l4 (hev 0 (by decide)), ⟨fun i hi => ?_, fun i j hi hj _ => (z0 hi).trans (z0 hj).symm⟩⟩
  rw [z0 hi]
  exact hS.1 0 (by decide)
