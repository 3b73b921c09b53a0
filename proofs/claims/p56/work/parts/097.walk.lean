section XW
variable {p : Program} {l : Launch} {e : Env} {R : Room} {s : State} {m : MethodId} {args : Array Value} {below : List Frame} {meth : Method} {c : Code} {Q : State → Prop} {M : xx_M} {A : Nat → Prop} {D : va_G} {outs : List xx_O} {cs : xx_C} {w : xx_W} {nk nc ns : Nat} {ls : xx_L} {st : List xx_V} {ρ : xx_Y} {tys : List (ClassId × FieldType)} {H : Heap} {locs : List Loc} {lsA : Array Slot} {pc scr : Nat} {ops : List Nat}
theorem xx_from_sub (t : Nat) : ∀ (l : List xx_I), ∀ z ∈ xx_from t l, z ∈ l
  | [], z, h => by cases h
  | a :: as, z, h => by
    simp only [xx_from] at h
    split at h
    · exact h
    · exact List.mem_cons_of_mem _ (xx_from_sub t as z h)
theorem xx_all_ok {f : xx_O → xx_A} : ∀ {os : List xx_O} {outs : List xx_O}, xx_all f os = some outs → ∀ o ∈ os, ∃ x, f o = some x ∧ ∀ z ∈ x, z ∈ outs
  | [], _, _, o, ho => by cases ho
  | a :: as, outs, h, o, ho => by
    simp only [xx_all] at h
    split at h
    · rcases List.mem_cons.mp ho with h9 | h9
      · subst h9
        exact ⟨outs, h, fun z hz => hz⟩
      · cases h9
    · rename_i b bs
      obtain ⟨x, y, hx, hy, sx, sy⟩ := xx_cat2_ok h
      rcases List.mem_cons.mp ho with h9 | h9
      · subst h9
        exact ⟨x, hx, sx⟩
      · obtain ⟨z, hz, sz⟩ := xx_all_ok hy o h9
        exact ⟨z, hz, fun u hu => sy u (sz u hu)⟩
theorem xx_pop_ok {ρ : xx_Y} : ∀ (n : Nat) (a st : List xx_V) {x r : List xx_V}, xx_pop n a st = some (x, r) → ∃ b : List xx_V, x = b ++ a ∧ b.length = n ∧ st = b.reverse ++ r
  | 0, a, st, x, r, h => by
    cases h
    exact ⟨[], rfl, rfl, rfl⟩
  | n + 1, a, v :: st, x, r, h => by
    simp only [xx_pop] at h
    obtain ⟨b, h1, h2, h3⟩ := xx_pop_ok (ρ := ρ) n (v :: a) st h
    refine ⟨b ++ [v], by rw [h1, List.append_assoc]; rfl, by rw [List.length_append, h2]; rfl, ?_⟩
    rw [List.reverse_append, h3]
    rfl
  | _ + 1, _, [], _, _, h => by cases h
/-- what stays, with other intervals -/
theorem xx_ok.cs' {cs' : xx_C} {st' : List xx_V} (ho : xx_ok s A D ρ tys cs w nk ls st H locs) (hin : xx_in ρ cs') (hl : cs'.length = cs.length) (hs : xx_wfs cs.length nk st') : xx_ok s A D ρ tys cs' w nk ls st' H locs := by
  obtain ⟨q1, q2, q3, q4, q5, q6⟩ := ho
  exact ⟨hin, by rw [hl]; exact q2, by rw [hl]; exact q3, by rw [hl]; exact hs, q5, q6⟩
theorem xx_icmp (hx : p.tables.exec = Jvm.exec) (hb : c.code = M.2.1) {cnd : xx_B} {off : Int} {tgt : Nat} {x y : Int32} {rest : List Value} (hd : decode M.2.1 pc = .ok (.if_icmp cnd off, 3)) (ht : (pc : Int) + off = (tgt : Int)) (kt : xx_rel cnd x.toInt y.toInt → W p l e R s m args below meth c H locs nc ns Q (F0 m tgt lsA rest)) (kf : ¬ xx_rel cnd x.toInt y.toInt → W p l e R s m args below meth c H locs nc ns Q (F0 m (pc + 3) lsA rest)) : W p l e R s m args below meth c H locs nc ns Q (F0 m pc lsA (.int y :: .int x :: rest)) := by
  cases cnd with
  | eq => exact lv_icmp_eq hx hb hd ht (fun h => kt (Int32.toInt_inj.mpr h)) (fun h => kf (fun h9 => h (Int32.toInt_inj.mp h9)))
  | ne => exact lv_icmp_ne hx hb hd ht (fun h => kt (fun h9 => h (Int32.toInt_inj.mp h9))) (fun h => kf (fun h9 => h9 (Int32.toInt_inj.mpr h)))
  | lt => exact lv_icmp_lt hx hb hd ht (fun h => kt (Int32.lt_iff_toInt_lt.mp h)) (fun h => kf (fun h9 => h (Int32.lt_iff_toInt_lt.mpr h9)))
  | ge => exact lv_icmp_ge hx hb hd ht (fun h => kt (Int32.le_iff_toInt_le.mp h)) (fun h => kf (fun h9 => h (Int32.le_iff_toInt_le.mpr h9)))
  | gt => exact lv_icmp_gt hx hb hd ht (fun h => kt (Int32.lt_iff_toInt_lt.mp h)) (fun h => kf (fun h9 => h (Int32.lt_iff_toInt_lt.mpr h9)))
  | le => exact lv_icmp_le hx hb hd ht (fun h => kt (Int32.le_iff_toInt_le.mp h)) (fun h => kf (fun h9 => h (Int32.le_iff_toInt_le.mpr h9)))
theorem xx_ifc (hx : p.tables.exec = Jvm.exec) (hb : c.code = M.2.1) {cnd : xx_B} {off : Int} {tgt : Nat} {x : Int32} {rest : List Value} (hd : decode M.2.1 pc = .ok (.ifCond cnd off, 3)) (ht : (pc : Int) + off = (tgt : Int)) (kt : xx_rel cnd x.toInt 0 → W p l e R s m args below meth c H locs nc ns Q (F0 m tgt lsA rest)) (kf : ¬ xx_rel cnd x.toInt 0 → W p l e R s m args below meth c H locs nc ns Q (F0 m (pc + 3) lsA rest)) : W p l e R s m args below meth c H locs nc ns Q (F0 m pc lsA (.int x :: rest)) := by
  have z : (0 : Int32).toInt = 0 := by decide +kernel
  rw [← z] at kt kf
  cases cnd with
  | eq => exact lv_if_eq hx hb hd ht (fun h => kt (Int32.toInt_inj.mpr h)) (fun h => kf (fun h9 => h (Int32.toInt_inj.mp h9)))
  | ne => exact lv_if_ne hx hb hd ht (fun h => kt (fun h9 => h (Int32.toInt_inj.mp h9))) (fun h => kf (fun h9 => h9 (Int32.toInt_inj.mpr h)))
  | lt => exact lv_if_lt hx hb hd ht (fun h => kt (Int32.lt_iff_toInt_lt.mp h)) (fun h => kf (fun h9 => h (Int32.lt_iff_toInt_lt.mpr h9)))
  | ge => exact lv_if_ge hx hb hd ht (fun h => kt (Int32.le_iff_toInt_le.mp h)) (fun h => kf (fun h9 => h (Int32.le_iff_toInt_le.mpr h9)))
  | gt => exact lv_if_gt hx hb hd ht (fun h => kt (Int32.lt_iff_toInt_lt.mp h)) (fun h => kf (fun h9 => h (Int32.lt_iff_toInt_lt.mpr h9)))
  | le => exact lv_if_le hx hb hd ht (fun h => kt (Int32.le_iff_toInt_le.mp h)) (fun h => kf (fun h9 => h (Int32.le_iff_toInt_le.mpr h9)))
end XW
