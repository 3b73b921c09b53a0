/-! what the engine's values mean -/
/-- symbols' numbers, cells' addresses, arrays' classes, contents of arrays of which nothing is known -/
abbrev xx_Y : Type := (Nat → Int32) × ((Nat → Nat) × ((Nat → ClassId) × (Nat → Nat → Int32)))
def xx_i (ρ : xx_Y) (v : xx_V) : Int32 := match v with
  | .inl c => Int32.ofInt c
  | .inr (.inl q) => ρ.1 q.1 + Int32.ofInt q.2
  | .inr (.inr _) => 0
def xx_l (v : xx_V) : Int64 := match v with
  | .inr (.inr (.inr c)) => Int64.ofInt c
  | _ => 0
def xx_r (ρ : xx_Y) (v : xx_V) : Option Nat := match v with
  | .inr (.inr (.inl (some i))) => some (ρ.2.1 i)
  | _ => none
def xx_g (ρ : xx_Y) (v : xx_V) : Value := match v with
  | .inl c => .int (Int32.ofInt c)
  | .inr (.inl q) => .int (ρ.1 q.1 + Int32.ofInt q.2)
  | .inr (.inr (.inl none)) => .null
  | .inr (.inr (.inl (some i))) => .ref (ρ.2.1 i)
  | .inr (.inr (.inr c)) => .long (Int64.ofInt c)
def xx_gA (ρ : xx_Y) (i kd : Nat) (ct : Option (List xx_V)) : (Nat → Int32) ⊕ (Nat → Int64) ⊕ (Nat → UInt32) ⊕ (Nat → UInt64) ⊕ (Nat → Option Nat) := match ct with
  | some l => match kd with
    | 3 => .inr (.inl (fun j => xx_l (l.getD j (.inl 0))))
    | 4 => .inr (.inr (.inr (.inr (fun j => xx_r ρ (l.getD j (.inl 0))))))
    | _ => .inl (fun j => xx_i ρ (l.getD j (.inl 0)))
  | none => .inl (ρ.2.2.2 i)
def xx_gE (ρ : xx_Y) (i : Nat) (e : xx_E) : va_E := match e with
  | .inl (kd, (n, ct)) => .inl (ρ.2.2.1 i, (n, xx_gA ρ i kd ct))
  | .inr (ci, fs) => .inr (ci, fs.map (xx_g ρ))
def xx_gW (ρ : xx_Y) (w : xx_W) : va_W := w.map (fun q => (ρ.2.1 q.1, xx_gE ρ q.1 q.2))
def xx_gL (ρ : xx_Y) (ls : xx_L) : List (Nat × Value) := ls.map (fun q => (q.1, xx_g ρ q.2))
def xx_kty (kd : Nat) : FieldType := match kd with
  | 0 => .int
  | 1 => .byte
  | 2 => .boolean
  | 3 => .long
  | _ => .object RX1
def xx_wf (nS nR : Nat) (v : xx_V) : Prop := match v with
  | .inr (.inl q) => q.1 < nS
  | .inr (.inr (.inl (some i))) => i < nR ∨ i = xx_scr
  | _ => True
def xx_wfE (nS nR : Nat) (e : xx_E) : Prop := match e with
  | .inl (_, (_, some l)) => ∀ v ∈ l, xx_wf nS nR v
  | .inl (_, (_, none)) => True
  | .inr (_, fs) => ∀ v ∈ fs, xx_wf nS nR v
def xx_wfW (nS nR : Nat) (w : xx_W) : Prop := ∀ q ∈ w, q.1 < nR ∧ xx_wfE nS nR q.2
def xx_wfs (nS nR : Nat) (st : List xx_V) : Prop := ∀ v ∈ st, xx_wf nS nR v
def xx_wfl (nS nR : Nat) (ls : xx_L) : Prop := ∀ q ∈ ls, xx_wf nS nR q.2
/-- another meaning that says the same of the first symbols and cells -/
def xx_ag (nS nR : Nat) (ρ ρ' : xx_Y) : Prop := (∀ k, k < nS → ρ'.1 k = ρ.1 k) ∧ (∀ i, i < nR → ρ'.2.1 i = ρ.2.1 i) ∧ ρ'.2.1 xx_scr = ρ.2.1 xx_scr
def xx_in (ρ : xx_Y) (cs : xx_C) : Prop := ∀ (k : Nat) (r : Int × Int), cs[k]? = some r → r.1 ≤ (ρ.1 k).toInt ∧ (ρ.1 k).toInt ≤ r.2
def xx_ar (ρ : xx_Y) (tys : List (ClassId × FieldType)) (w : xx_W) : Prop := ∀ (i kd n : Nat) (ct : Option (List xx_V)), (i, (.inl (kd, (n, ct)) : xx_E)) ∈ w → ∃ t0 : Nat, tys[t0]? = some (ρ.2.2.1 i, xx_kty kd)
/-- the cells as they are -/
def xx_wo (s : State) (A : Nat → Prop) (D : va_G) (ρ : xx_Y) (tys : List (ClassId × FieldType)) (w : xx_W) (H : Heap) (locs : List Loc) : Prop :=
  va_K D xx_cl tys s ∧ xx_ar ρ tys w ∧ va_P D xx_cl (xx_gW ρ w) H ∧ va_D A (xx_gW ρ w) ∧ va_S A s.heap H locs
def xx_ok (s : State) (A : Nat → Prop) (D : va_G) (ρ : xx_Y) (tys : List (ClassId × FieldType)) (cs : xx_C) (w : xx_W) (nk : Nat) (ls : xx_L) (st : List xx_V) (H : Heap) (locs : List Loc) : Prop :=
  xx_in ρ cs ∧ xx_wfW cs.length nk w ∧ xx_wfl cs.length nk ls ∧ xx_wfs cs.length nk st ∧ nk ≤ xx_scr ∧ xx_wo s A D ρ tys w H locs
/-! plain forms are the same -/
theorem xx_fN_eq {β : Type} (n : Nat) (k : Nat → β) : xx_fN n k = k n := by cases n <;> rfl
theorem xx_fI_eq {β : Type} (i : Int) (k : Int → β) : xx_fI i k = k i := by cases i <;> simp only [xx_fI, xx_fN_eq]
theorem xx_fV_eq {β : Type} (v : xx_V) (k : xx_V → β) : xx_fV v k = k v := by
  rcases v with c | ⟨n, d⟩ | (_ | i) | c <;> simp only [xx_fV, xx_fI_eq, xx_fN_eq]
theorem xx_fVs_eq {β : Type} (l : List xx_V) : ∀ k : List xx_V → β, xx_fVs l k = k l := by
  induction l with
  | nil => intro k; rfl
  | cons v vs ih =>
    intro k
    simp only [xx_fVs, xx_fV_eq, ih]
theorem xx_set_eq {α β : Type} (l : List α) : ∀ (p : Nat) (v : α) (k : List α → β), xx_set l p v k = k (l.set p v) := by
  induction l with
  | nil => intro p v k; cases p <;> rfl
  | cons x xs ih =>
    intro p v k
    cases p with
    | zero => rfl
    | succ q =>
      simp only [xx_set, ih, List.set_cons_succ]
theorem xx_app_eq {α β : Type} (l : List α) (v : α) : ∀ k : List α → β, xx_app l v k = k (l ++ [v]) := by
  induction l with
  | nil => intro k; rfl
  | cons x xs ih =>
    intro k
    simp only [xx_app, ih, List.cons_append]
theorem xx_rep_eq {β : Type} (n : Nat) (z : xx_V) : ∀ k : List xx_V → β, xx_rep n z k = k (List.replicate n z) := by
  induction n with
  | zero => intro k; rfl
  | succ m ih =>
    intro k
    simp only [xx_rep, ih, List.replicate_succ]
theorem xx_len_eq {α β : Type} (l : List α) : ∀ (n : Nat) (k : Nat → β), xx_len l n k = k (n + l.length) := by
  induction l with
  | nil => intro n k; exact xx_fN_eq _ _
  | cons x xs ih =>
    intro n k
    simp only [xx_len, ih, List.length_cons]
    congr 1
    omega
theorem xx_beq (a b : Nat) : Nat.beq a b = (a == b) := by
  cases h : Nat.beq a b with
  | true => have e := Nat.eq_of_beq_eq_true h; subst e; simp
  | false => have e := Nat.ne_of_beq_eq_false h; simp [e]
theorem xx_wo1_eq {β : Type} (ls : xx_L) (i : Nat) : ∀ k : xx_L → β, xx_wo1 ls i k = k (ls.filter (fun q => !(q.1 == i) && !(q.1 + 1 == i && xx_cat q.2 == 2))) := by
  induction ls with
  | nil => intro k; rfl
  | cons q qs ih =>
    intro k
    rw [List.filter_cons]
    simp only [xx_wo1, xx_beq]
    cases (!(q.1 == i) && !(q.1 + 1 == i && xx_cat q.2 == 2)) with
    | true => simp only [ih, if_true]
    | false => simp only [ih, Bool.false_eq_true, if_false]
theorem xx_wo2_eq {β : Type} (ls : xx_L) (i : Nat) : ∀ k : xx_L → β, xx_wo2 ls i k = k (ls.filter (fun q => !(q.1 == i) && (!(q.1 == i + 1) && !(q.1 + 1 == i && xx_cat q.2 == 2)))) := by
  induction ls with
  | nil => intro k; rfl
  | cons q qs ih =>
    intro k
    rw [List.filter_cons]
    simp only [xx_wo2, xx_beq]
    cases (!(q.1 == i) && (!(q.1 == i + 1) && !(q.1 + 1 == i && xx_cat q.2 == 2))) with
    | true => simp only [ih, if_true]
    | false => simp only [ih, Bool.false_eq_true, if_false]
theorem xx_le_iff (a b : Int) : xx_le a b = true ↔ a ≤ b := by
  unfold xx_le
  cases h : b - a with
  | ofNat n =>
    have : (0 : Int) ≤ Int.ofNat n := Int.natCast_nonneg n
    simp
    omega
  | negSucc n =>
    have : Int.negSucc n < 0 := Int.negSucc_lt_zero n
    simp
    omega
theorem xx_le_no (a b : Int) : xx_le a b = false ↔ b < a := by
  rw [← Bool.not_eq_true, xx_le_iff]
  omega
theorem xx_eqI_iff (a b : Int) : xx_eqI a b = true ↔ a = b := by
  unfold xx_eqI
  rw [Bool.and_eq_true, xx_le_iff, xx_le_iff]
  omega
/-! meanings -/
theorem xx_g_cat (ρ : xx_Y) (v : xx_V) : (xx_g ρ v).category = xx_cat v := by
  rcases v with c | ⟨n, d⟩ | (_ | i) | c <;> rfl
theorem xx_g_isI {ρ : xx_Y} {v : xx_V} (h : xx_isI v = true) : xx_g ρ v = .int (xx_i ρ v) := by
  rcases v with c | ⟨n, d⟩ | r
  · rfl
  · rfl
  · cases h
theorem xx_g_isL {ρ : xx_Y} {v : xx_V} (h : xx_isL v = true) : xx_g ρ v = .long (xx_l v) := by
  rcases v with c | ⟨n, d⟩ | r | c
  · cases h
  · cases h
  · cases h
  · rfl
theorem xx_g_isR {ρ : xx_Y} {v : xx_V} (h : xx_isR v = true) : xx_g ρ v = va_rf (xx_r ρ v) := by
  rcases v with c | ⟨n, d⟩ | (_ | i) | c
  · cases h
  · cases h
  · rfl
  · rfl
  · cases h
theorem xx_rng (x : Int32) : xx_lo ≤ x.toInt ∧ x.toInt ≤ xx_hi := ⟨by have := Int32.le_toInt x; unfold xx_lo; exact this, by have := Int32.toInt_lt x; unfold xx_hi; omega⟩
theorem xx_ofInt {c : Int} (h1 : xx_lo ≤ c) (h2 : c ≤ xx_hi) : (Int32.ofInt c).toInt = c := by
  unfold xx_lo at h1
  unfold xx_hi at h2
  exact Int32.toInt_ofInt_of_le (by omega) (by omega)
theorem xx_iv_ok {ρ : xx_Y} {cs : xx_C} {v : xx_V} {r : Int × Int} (hin : xx_in ρ cs) (h : xx_iv cs v = some r) : xx_isI v = true ∧ r.1 ≤ (xx_i ρ v).toInt ∧ (xx_i ρ v).toInt ≤ r.2 ∧ xx_lo ≤ r.1 ∧ r.2 ≤ xx_hi := by
  rcases v with c | ⟨k, d⟩ | x
  · simp only [xx_iv] at h
    split at h
    · rename_i hc
      rw [Bool.and_eq_true, xx_le_iff, xx_le_iff] at hc
      cases h
      have e : (xx_i ρ (.inl c)).toInt = c := xx_ofInt hc.1 hc.2
      exact ⟨rfl, by omega, by omega, hc.1, hc.2⟩
    · cases h
  · simp only [xx_iv] at h
    split at h
    · rename_i r0 h0
      split at h
      · rename_i hc
        rw [Bool.and_eq_true, xx_le_iff, xx_le_iff] at hc
        cases h
        obtain ⟨h1, h2⟩ := hin k r0 h0
        have e : (xx_i ρ (.inr (.inl (k, d)))).toInt = (ρ.1 k).toInt + d := by
          show (ρ.1 k + Int32.ofInt d).toInt = _
          have e1 : ρ.1 k + Int32.ofInt d = Int32.ofInt ((ρ.1 k).toInt + d) := by
            rw [Int32.ofInt_add, Int32.ofInt_toInt]
          rw [e1]
          have := hc.1
          have := hc.2
          exact xx_ofInt (by omega) (by omega)
        have := hc.1
        have := hc.2
        exact ⟨rfl, by omega, by omega, by omega, by omega⟩
      · cases h
    · cases h
  · cases h
theorem xx_nrm_ok {ρ : xx_Y} {cs : xx_C} (hin : xx_in ρ cs) (v : xx_V) : xx_g ρ (xx_nrm cs v) = xx_g ρ v ∧ xx_i ρ (xx_nrm cs v) = xx_i ρ v ∧ xx_isI (xx_nrm cs v) = xx_isI v := by
  rcases v with c | ⟨k, d⟩ | x
  · exact ⟨rfl, rfl, rfl⟩
  · simp only [xx_nrm]
    split
    · rename_i r hr
      split
      · rename_i he
        rw [xx_eqI_iff] at he
        obtain ⟨-, h1, h2, h3, h4⟩ := xx_iv_ok hin hr
        have e : xx_i ρ (.inr (.inl (k, d))) = Int32.ofInt r.1 := by
          rw [← Int32.toInt_inj, xx_ofInt h3 (by omega)]
          omega
        exact ⟨by show Value.int _ = Value.int _; rw [← e]; rfl, e.symm, rfl⟩
      · exact ⟨rfl, rfl, rfl⟩
    · exact ⟨rfl, rfl, rfl⟩
  · exact ⟨rfl, rfl, rfl⟩
theorem xx_wf_mono {a b c d : Nat} {v : xx_V} (h : xx_wf a b v) (h1 : a ≤ c) (h2 : b ≤ d) : xx_wf c d v := by
  rcases v with x | ⟨k, y⟩ | (_ | i) | x
  · trivial
  · exact Nat.lt_of_lt_of_le h h1
  · trivial
  · exact h.elim (fun q => Or.inl (Nat.lt_of_lt_of_le q h2)) Or.inr
  · trivial
theorem xx_wfE_mono {a b c d : Nat} {e : xx_E} (h : xx_wfE a b e) (h1 : a ≤ c) (h2 : b ≤ d) : xx_wfE c d e := by
  rcases e with ⟨kd, n, (_ | l)⟩ | ⟨ci, fs⟩
  · trivial
  · exact fun v hv => xx_wf_mono (h v hv) h1 h2
  · exact fun v hv => xx_wf_mono (h v hv) h1 h2
theorem xx_wfW_mono {a b c d : Nat} {w : xx_W} (h : xx_wfW a b w) (h1 : a ≤ c) (h2 : b ≤ d) : xx_wfW c d w := fun q hq => ⟨Nat.lt_of_lt_of_le (h q hq).1 h2, xx_wfE_mono (h q hq).2 h1 h2⟩
theorem xx_wfs_mono {a b c d : Nat} {w : List xx_V} (h : xx_wfs a b w) (h1 : a ≤ c) (h2 : b ≤ d) : xx_wfs c d w := fun q hq => xx_wf_mono (h q hq) h1 h2
theorem xx_wfl_mono {a b c d : Nat} {w : xx_L} (h : xx_wfl a b w) (h1 : a ≤ c) (h2 : b ≤ d) : xx_wfl c d w := fun q hq => xx_wf_mono (h q hq) h1 h2
theorem xx_g_ag {nS nR : Nat} {ρ ρ' : xx_Y} (h : xx_ag nS nR ρ ρ') {v : xx_V} (hv : xx_wf nS nR v) : xx_g ρ' v = xx_g ρ v := by
  rcases v with x | ⟨k, y⟩ | (_ | i) | x
  · rfl
  · show Value.int _ = Value.int _
    rw [h.1 k hv]
  · rfl
  · show Value.ref _ = Value.ref _
    rcases hv with hv | hv
    · rw [h.2.1 i hv]
    · rw [hv, h.2.2]
  · rfl
theorem xx_i_ag {nS nR : Nat} {ρ ρ' : xx_Y} (h : xx_ag nS nR ρ ρ') {v : xx_V} (hv : xx_wf nS nR v) : xx_i ρ' v = xx_i ρ v := by
  rcases v with x | ⟨k, y⟩ | x
  · rfl
  · show ρ'.1 k + _ = ρ.1 k + _
    rw [h.1 k hv]
  · rfl
theorem xx_r_ag {nS nR : Nat} {ρ ρ' : xx_Y} (h : xx_ag nS nR ρ ρ') {v : xx_V} (hv : xx_wf nS nR v) : xx_r ρ' v = xx_r ρ v := by
  rcases v with x | ⟨k, y⟩ | (_ | i) | x
  · rfl
  · rfl
  · rfl
  · show some _ = some _
    rcases hv with hv | hv
    · rw [h.2.1 i hv]
    · rw [hv, h.2.2]
  · rfl
theorem xx_gs_ag {nS nR : Nat} {ρ ρ' : xx_Y} (h : xx_ag nS nR ρ ρ') {st : List xx_V} (hv : xx_wfs nS nR st) : st.map (xx_g ρ') = st.map (xx_g ρ) := List.map_congr_left fun v hm => xx_g_ag h (hv v hm)
theorem xx_gL_ag {nS nR : Nat} {ρ ρ' : xx_Y} (h : xx_ag nS nR ρ ρ') {ls : xx_L} (hv : xx_wfl nS nR ls) : xx_gL ρ' ls = xx_gL ρ ls := List.map_congr_left fun q hm => by rw [xx_g_ag h (hv q hm)]
theorem xx_getD_wf {nS nR : Nat} {l : List xx_V} (h : ∀ v ∈ l, xx_wf nS nR v) (j : Nat) : xx_wf nS nR (l.getD j (.inl 0)) := by
  rw [List.getD_eq_getElem?_getD]
  cases hj : l[j]? with
  | none => trivial
  | some v => exact h v (List.mem_of_getElem? hj)
theorem xx_gE_ag {nS nR : Nat} {ρ ρ' : xx_Y} (h : xx_ag nS nR ρ ρ') {i : Nat} (hi : ρ'.2.2.1 i = ρ.2.2.1 i) (hf : ρ'.2.2.2 i = ρ.2.2.2 i) {e : xx_E} (he : xx_wfE nS nR e) : xx_gE ρ' i e = xx_gE ρ i e := by
  rcases e with ⟨kd, n, (_ | l)⟩ | ⟨ci, fs⟩
  · show Sum.inl (ρ'.2.2.1 i, (n, Sum.inl (ρ'.2.2.2 i))) = Sum.inl (ρ.2.2.1 i, (n, Sum.inl (ρ.2.2.2 i)))
    rw [hi, hf]
  · show Sum.inl (ρ'.2.2.1 i, (n, xx_gA ρ' i kd (some l))) = Sum.inl (ρ.2.2.1 i, (n, xx_gA ρ i kd (some l)))
    rw [hi]
    congr 3
    have h1 : (fun j => xx_i ρ' (l.getD j (.inl 0))) = (fun j => xx_i ρ (l.getD j (.inl 0))) := funext fun j => xx_i_ag h (xx_getD_wf he j)
    have h2 : (fun j => xx_r ρ' (l.getD j (.inl 0))) = (fun j => xx_r ρ (l.getD j (.inl 0))) := funext fun j => xx_r_ag h (xx_getD_wf he j)
    simp only [xx_gA]
    split
    · rfl
    · rw [h2]
    · rw [h1]
  · show Sum.inr (ci, fs.map (xx_g ρ')) = Sum.inr (ci, fs.map (xx_g ρ))
    rw [xx_gs_ag h he]
theorem xx_gW_ag {nS nR : Nat} {ρ ρ' : xx_Y} (h : xx_ag nS nR ρ ρ') {w : xx_W} (hc : ∀ i, i < nR → ρ'.2.2.1 i = ρ.2.2.1 i ∧ ρ'.2.2.2 i = ρ.2.2.2 i) (hw : xx_wfW nS nR w) : xx_gW ρ' w = xx_gW ρ w := List.map_congr_left fun q hm => by
  obtain ⟨h1, h2⟩ := hw q hm
  rw [h.2.1 q.1 h1, xx_gE_ag h (hc q.1 h1).1 (hc q.1 h1).2 h2]
theorem xx_ag_rf (nS nR : Nat) (ρ : xx_Y) : xx_ag nS nR ρ ρ := ⟨fun _ _ => rfl, fun _ _ => rfl, rfl⟩
theorem xx_ag_tr {a b c d : Nat} {ρ ρ' ρ'' : xx_Y} (h : xx_ag a b ρ ρ') (h' : xx_ag c d ρ' ρ'') (h1 : a ≤ c) (h2 : b ≤ d) : xx_ag a b ρ ρ'' := ⟨fun k hk => (h'.1 k (Nat.lt_of_lt_of_le hk h1)).trans (h.1 k hk), fun k hk => (h'.2.1 k (Nat.lt_of_lt_of_le hk h2)).trans (h.2.1 k hk), h'.2.2.trans h.2.2⟩
theorem xx_ag_mono {a b c d : Nat} {ρ ρ' : xx_Y} (h : xx_ag c d ρ ρ') (h1 : a ≤ c) (h2 : b ≤ d) : xx_ag a b ρ ρ' := ⟨fun k hk => h.1 k (Nat.lt_of_lt_of_le hk h1), fun k hk => h.2.1 k (Nat.lt_of_lt_of_le hk h2), h.2.2⟩
/-- a place found by its key -/
theorem xx_fnd_ok {w : xx_W} {k : Nat} : ∀ {p0 p : Nat} {e : xx_E}, xx_fnd w k p0 = some (p, e) → p0 ≤ p ∧ w[p - p0]? = some (k, e) := by
  induction w with
  | nil => intro p0 p e h; cases h
  | cons q w ih =>
    intro p0 p e h
    simp only [xx_fnd] at h
    split at h
    · rename_i hb
      cases h
      refine ⟨Nat.le_refl _, ?_⟩
      rw [Nat.sub_self]
      have := Nat.eq_of_beq_eq_true hb
      rw [← this]
      rfl
    · obtain ⟨h1, h2⟩ := ih h
      have : Nat.succ p0 = p0 + 1 := rfl
      refine ⟨by omega, ?_⟩
      rw [show p - p0 = (p - (p0 + 1)) + 1 by omega]
      exact h2
theorem xx_fnd_at {w : xx_W} {k p : Nat} {e : xx_E} (h : xx_fnd w k 0 = some (p, e)) : w[p]? = some (k, e) := by
  have := (xx_fnd_ok h).2
  rwa [Nat.sub_zero] at this
theorem xx_gW_at {ρ : xx_Y} {w : xx_W} {k p : Nat} {e : xx_E} (h : w[p]? = some (k, e)) : (xx_gW ρ w)[p]? = some (ρ.2.1 k, xx_gE ρ k e) := by
  unfold xx_gW
  rw [List.getElem?_map, h]
  rfl
theorem xx_gW_set {ρ : xx_Y} {w : xx_W} {k p : Nat} {e : xx_E} : (xx_gW ρ w).set p (ρ.2.1 k, xx_gE ρ k e) = xx_gW ρ (w.set p (k, e)) := by
  unfold xx_gW
  rw [List.map_set]
theorem xx_get_ok {ls : xx_L} {i : Nat} {v : xx_V} (h : xx_get ls i = some v) : (i, v) ∈ ls := by
  induction ls with
  | nil => cases h
  | cons q qs ih =>
    simp only [xx_get] at h
    split at h
    · rename_i hb
      cases h
      have := Nat.eq_of_beq_eq_true hb
      rw [← this]
      exact List.mem_cons_self
    · exact List.mem_cons_of_mem _ (ih h)
theorem xx_gL_mem {ρ : xx_Y} {ls : xx_L} {i : Nat} {v : xx_V} (h : (i, v) ∈ ls) : (i, xx_g ρ v) ∈ xx_gL ρ ls := List.mem_map.mpr ⟨(i, v), h, rfl⟩
theorem xx_gL_f1 (ρ : xx_Y) (ls : xx_L) (i : Nat) : (xx_gL ρ ls).filter (fun q => !(q.1 == i) && !(q.1 + 1 == i && q.2.category == 2)) = xx_gL ρ (ls.filter (fun q => !(q.1 == i) && !(q.1 + 1 == i && xx_cat q.2 == 2))) := by
  unfold xx_gL
  rw [List.filter_map]
  congr 1
  apply List.filter_congr
  intro q _
  simp only [Function.comp, xx_g_cat]
theorem xx_gL_f2 (ρ : xx_Y) (ls : xx_L) (i : Nat) : (xx_gL ρ ls).filter (fun q => !(q.1 == i) && (!(q.1 == i + 1) && !(q.1 + 1 == i && q.2.category == 2))) = xx_gL ρ (ls.filter (fun q => !(q.1 == i) && (!(q.1 == i + 1) && !(q.1 + 1 == i && xx_cat q.2 == 2)))) := by
  unfold xx_gL
  rw [List.filter_map]
  congr 1
  apply List.filter_congr
  intro q _
  simp only [Function.comp, xx_g_cat]
