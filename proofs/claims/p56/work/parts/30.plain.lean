/-! A PLAIN MACHINE: methods run over a fixed set of cells whose ints and longs alone change. Its walks are functions; the parts behind it show that what it answers the machine answers. -/
/-- a value: an int, a long, a cell by its place -/
abbrev yy_U : Type := Int32 ⊕ (Int64 ⊕ Nat)
/-- what the cells hold: ints and longs, by cell and place -/
abbrev yy_O : Type := (Nat → Nat → Int32) × (Nat → Nat → Int64)
/-- a cell: an array (kind, length, cells of its rows), or an object (class, the cells of its fields) -/
abbrev yy_D : Type := (Nat × (Nat × List Nat)) ⊕ (Nat × List Nat)
abbrev yy_L : Type := List (Nat × yy_U)
/-- a step's outcome: the next row; a call (method, arguments, rest of the stack); an answer -/
abbrev yy_R : Type := (Nat × (yy_L × (List yy_U × yy_O))) ⊕ ((Nat × (List yy_U × List yy_U)) ⊕ Option yy_U)
/-- the cells, the script, KEEPING -/
abbrev yy_P : Type := List yy_D × (Option (Nat × (Nat → Int32)) × (Nat → Int64))
def yy_kee : Nat := 1000001
def yy_str : Nat := 1000002
def yy_stv : Nat := 1000003
def yy_cat (v : yy_U) : Nat := match v with
  | .inr (.inl _) => 2
  | _ => 1
def yy_sum (st : List yy_U) : Nat := match st with
  | [] => 0
  | v :: vs => yy_cat v + yy_sum vs
def yy_get (ls : yy_L) (i : Nat) : Option yy_U := match ls with
  | [] => none
  | q :: qs => match Nat.beq q.1 i with
    | true => some q.2
    | false => yy_get qs i
def yy_w1 (ls : yy_L) (i : Nat) : yy_L := ls.filter (fun q => !(q.1 == i) && !(q.1 + 1 == i && yy_cat q.2 == 2))
def yy_w2 (ls : yy_L) (i : Nat) : yy_L := ls.filter (fun q => !(q.1 == i) && (!(q.1 == i + 1) && !(q.1 + 1 == i && yy_cat q.2 == 2)))
def yy_uI (ω : yy_O) (k j : Nat) (x : Int32) : yy_O := (fun a => if a = k then upd (ω.1 a) j x else ω.1 a, ω.2)
def yy_uL (ω : yy_O) (k j : Nat) (x : Int64) : yy_O := (ω.1, fun a => if a = k then vp_updL (ω.2 a) j x else ω.2 a)
def yy_uA (ω : yy_O) (k : Nat) (f : Nat → Int32) : yy_O := (fun a => if a = k then f else ω.1 a, ω.2)
abbrev yy_H : Type := yy_P → xx_M → Nat → Nat → Nat → List Nat → yy_L → List yy_U → yy_O → Option yy_R
def yy_nx (pc : Nat) (ls : yy_L) (st : List yy_U) (ω : yy_O) : Option yy_R := some (.inl (pc, (ls, (st, ω))))
def yy_hp (v : yy_U) : yy_H := fun _ _ _ pc len _ ls st ω => yy_nx (pc + len) ls (v :: st) ω
def yy_hldc : yy_H := fun _ _ _ pc len ops ls st ω => match ops with
  | [_, g, n] => yy_nx (pc + len) ls (.inl (Int32.ofInt (xx_sgn g n)) :: st) ω
  | [_] => yy_nx (pc + len) ls (.inr (.inr yy_str) :: st) ω
  | _ => none
def yy_hldc2 : yy_H := fun _ _ _ pc len ops ls st ω => match ops with
  | [_, g, n] => yy_nx (pc + len) ls (.inr (.inl (Int64.ofInt (xx_sgn g n))) :: st) ω
  | _ => none
def yy_hil (i : Nat) : yy_H := fun _ _ _ pc len _ ls st ω => match yy_get ls i with
  | some (.inl x) => yy_nx (pc + len) ls (.inl x :: st) ω
  | _ => none
def yy_hll (i : Nat) : yy_H := fun _ _ _ pc len _ ls st ω => match yy_get ls i with
  | some (.inr (.inl x)) => yy_nx (pc + len) ls (.inr (.inl x) :: st) ω
  | _ => none
def yy_hal (i : Nat) : yy_H := fun _ _ _ pc len _ ls st ω => match yy_get ls i with
  | some (.inr (.inr x)) => yy_nx (pc + len) ls (.inr (.inr x) :: st) ω
  | _ => none
def yy_his (i : Nat) : yy_H := fun _ M _ pc len _ ls st ω => match st with
  | .inl x :: rest => match Nat.blt i M.2.2.1 with
    | true => yy_nx (pc + len) ((i, .inl x) :: yy_w1 ls i) rest ω
    | false => none
  | _ => none
def yy_hls (i : Nat) : yy_H := fun _ M _ pc len _ ls st ω => match st with
  | .inr (.inl x) :: rest => match Nat.blt (i + 1) M.2.2.1 with
    | true => yy_nx (pc + len) ((i, .inr (.inl x)) :: yy_w2 ls i) rest ω
    | false => none
  | _ => none
def yy_has (i : Nat) : yy_H := fun _ M _ pc len _ ls st ω => match st with
  | .inr (.inr x) :: rest => match Nat.blt i M.2.2.1 with
    | true => yy_nx (pc + len) ((i, .inr (.inr x)) :: yy_w1 ls i) rest ω
    | false => none
  | _ => none
def yy_hinc (j : Nat) (n : Int) : yy_H := fun _ M _ pc len _ ls st ω => match yy_get ls j with
  | some (.inl x) => match Nat.blt j M.2.2.1 with
    | true => yy_nx (pc + len) ((j, .inl (x + Int32.ofInt n)) :: yy_w1 ls j) st ω
    | false => none
  | _ => none
def yy_h2 (f : Int32 → Int32 → Int32) : yy_H := fun _ _ _ pc len _ ls st ω => match st with
  | .inl y :: .inl x :: rest => yy_nx (pc + len) ls (.inl (f x y) :: rest) ω
  | _ => none
def yy_hdv (f : Int32 → Int32 → Int32) : yy_H := fun _ _ _ pc len _ ls st ω => match st with
  | .inl y :: .inl x :: rest => match decide (y = 0) with
    | true => none
    | false => yy_nx (pc + len) ls (.inl (f x y) :: rest) ω
  | _ => none
def yy_h1 (f : Int32 → Int32) : yy_H := fun _ _ _ pc len _ ls st ω => match st with
  | .inl x :: rest => yy_nx (pc + len) ls (.inl (f x) :: rest) ω
  | _ => none
def yy_hl2 (f : Int64 → Int64 → Int64) : yy_H := fun _ _ _ pc len _ ls st ω => match st with
  | .inr (.inl y) :: .inr (.inl x) :: rest => yy_nx (pc + len) ls (.inr (.inl (f x y)) :: rest) ω
  | _ => none
def yy_hlsh (f : Int64 → Int32 → Int64) : yy_H := fun _ _ _ pc len _ ls st ω => match st with
  | .inl y :: .inr (.inl x) :: rest => yy_nx (pc + len) ls (.inr (.inl (f x y)) :: rest) ω
  | _ => none
def yy_hlcmp : yy_H := fun _ _ _ pc len _ ls st ω => match st with
  | .inr (.inl y) :: .inr (.inl x) :: rest => yy_nx (pc + len) ls (.inl (lg_cmp x y) :: rest) ω
  | _ => none
def yy_hi2l : yy_H := fun _ _ _ pc len _ ls st ω => match st with
  | .inl x :: rest => yy_nx (pc + len) ls (.inr (.inl x.toInt64) :: rest) ω
  | _ => none
def yy_hl2i : yy_H := fun _ _ _ pc len _ ls st ω => match st with
  | .inr (.inl x) :: rest => yy_nx (pc + len) ls (.inl x.toInt32 :: rest) ω
  | _ => none
def yy_hdup : yy_H := fun _ _ _ pc len _ ls st ω => match st with
  | v :: rest => match Nat.beq (yy_cat v) 1 with
    | true => yy_nx (pc + len) ls (v :: v :: rest) ω
    | false => none
  | [] => none
def yy_hpop : yy_H := fun _ _ _ pc len _ ls st ω => match st with
  | v :: rest => match Nat.beq (yy_cat v) 1 with
    | true => yy_nx (pc + len) ls rest ω
    | false => none
  | [] => none
def yy_hdup2 : yy_H := fun _ _ _ pc len _ ls st ω => match st with
  | v :: u :: rest => match Nat.beq (yy_cat v) 2 with
    | true => yy_nx (pc + len) ls (v :: v :: u :: rest) ω
    | false => match Nat.beq (yy_cat u) 1 with
      | true => yy_nx (pc + len) ls (v :: u :: v :: u :: rest) ω
      | false => none
  | _ => none
def yy_fu (ω : yy_O) (k : Nat) (rs : List Nat) (f : Nat) (t : FieldType) : yy_U := match t with
  | .long => .inr (.inl (ω.2 k f))
  | .object _ => .inr (.inr (rs.getD f 0))
  | .array _ => .inr (.inr (rs.getD f 0))
  | _ => .inl (ω.1 k f)
def yy_hgetf : yy_H := fun P _ _ pc len ops ls st ω => match st with
  | .inr (.inr k) :: rest => match ops with
    | [ci, f, _, _] => match P.1[k]? with
      | some (.inr (cj, rs)) => match Nat.beq cj ci with
        | true => yy_nx (pc + len) ls (yy_fu ω k rs f (xx_ty ci f) :: rest) ω
        | false => none
      | _ => none
    | [w, _] => match Nat.beq k yy_str with
      | true => match w with
        | 0 => yy_nx (pc + len) ls (.inl 0 :: rest) ω
        | 1 => yy_nx (pc + len) ls (.inr (.inr yy_stv) :: rest) ω
        | _ => none
      | false => none
    | _ => none
  | _ => none
def yy_put (ω : yy_O) (k f : Nat) (t : FieldType) (v : yy_U) : Option yy_O := match t with
  | .int => match v with
    | .inl x => some (yy_uI ω k f x)
    | _ => none
  | .boolean => match v with
    | .inl x => match decide (x = 0 ∨ x = 1) with
      | true => some (yy_uI ω k f x)
      | false => none
    | _ => none
  | .long => match v with
    | .inr (.inl x) => some (yy_uL ω k f x)
    | _ => none
  | _ => none
def yy_hputf : yy_H := fun P _ _ pc len ops ls st ω => match st with
  | v :: .inr (.inr k) :: rest => match ops with
    | [ci, f, _, _] => match P.1[k]? with
      | some (.inr (cj, _)) => match Nat.beq cj ci with
        | true => match yy_put ω k f (xx_ty ci f) v with
          | some ω' => yy_nx (pc + len) ls rest ω'
          | none => none
        | false => none
      | _ => none
    | _ => none
  | _ => none
/-- statics: KEEPING (0), COMPACT_STRINGS (1) -/
def yy_hgets : yy_H := fun _ _ _ pc len ops ls st ω => match ops with
  | [0, _, _] => yy_nx (pc + len) ls (.inr (.inr yy_kee) :: st) ω
  | [1, _, _] => yy_nx (pc + len) ls (.inl 1 :: st) ω
  | _ => none
def yy_ix (x : Int32) (n : Nat) : Bool := decide (0 ≤ x.toInt ∧ x.toInt < (n : Int))
def yy_txt : List Int32 := ("person knows sign fog draw keeps bears shame many first last people or and not ".toList.map (fun c => Int32.ofNat c.toNat))
def yy_hiald : yy_H := fun P _ _ pc len _ ls st ω => match st with
  | .inl x :: .inr (.inr k) :: rest => match Nat.beq k xx_scr with
    | true => match P.2.1 with
      | some (L, xs) => match yy_ix x L with
        | true => yy_nx (pc + len) ls (.inl (xs x.toNatClampNeg) :: rest) ω
        | false => none
      | none => none
    | false => match P.1[k]? with
      | some (.inl (0, (n, _))) => match yy_ix x n with
        | true => yy_nx (pc + len) ls (.inl (ω.1 k x.toNatClampNeg) :: rest) ω
        | false => none
      | _ => none
  | _ => none
def yy_hbald : yy_H := fun P _ _ pc len ops ls st ω => match st with
  | .inl x :: .inr (.inr k) :: rest => match Nat.beq k yy_stv with
    | true => match yy_ix x yy_txt.length with
      | true => yy_nx (pc + len) ls (.inl (yy_txt.getD x.toNatClampNeg 0) :: rest) ω
      | false => none
    | false => match P.1[k]? with
      | some (.inl (kd, (n, _))) => match ops with
        | [1] => match Nat.beq kd 1 && yy_ix x n with
          | true => yy_nx (pc + len) ls (.inl (ω.1 k x.toNatClampNeg) :: rest) ω
          | false => none
        | [2] => match Nat.beq kd 2 && yy_ix x n with
          | true => yy_nx (pc + len) ls (.inl (ω.1 k x.toNatClampNeg) :: rest) ω
          | false => none
        | _ => none
      | _ => none
  | _ => none
def yy_hlald : yy_H := fun P _ _ pc len _ ls st ω => match st with
  | .inl x :: .inr (.inr k) :: rest => match Nat.beq k yy_kee with
    | true => match yy_ix x 6 with
      | true => yy_nx (pc + len) ls (.inr (.inl (P.2.2 x.toNatClampNeg)) :: rest) ω
      | false => none
    | false => match P.1[k]? with
      | some (.inl (3, (n, _))) => match yy_ix x n with
        | true => yy_nx (pc + len) ls (.inr (.inl (ω.2 k x.toNatClampNeg)) :: rest) ω
        | false => none
      | _ => none
  | _ => none
def yy_haald : yy_H := fun P _ _ pc len _ ls st ω => match st with
  | .inl x :: .inr (.inr k) :: rest => match P.1[k]? with
    | some (.inl (4, (n, rs))) => match yy_ix x n with
      | true => yy_nx (pc + len) ls (.inr (.inr (rs.getD x.toNatClampNeg 0)) :: rest) ω
      | false => none
    | _ => none
  | _ => none
def yy_hiast : yy_H := fun P _ _ pc len _ ls st ω => match st with
  | .inl v :: .inl x :: .inr (.inr k) :: rest => match P.1[k]? with
    | some (.inl (0, (n, _))) => match yy_ix x n with
      | true => yy_nx (pc + len) ls rest (yy_uI ω k x.toNatClampNeg v)
      | false => none
    | _ => none
  | _ => none
def yy_hbast : yy_H := fun P _ _ pc len ops ls st ω => match st with
  | .inl v :: .inl x :: .inr (.inr k) :: rest => match P.1[k]? with
    | some (.inl (kd, (n, _))) => match ops with
      | [1] => match Nat.beq kd 1 && yy_ix x n with
        | true => yy_nx (pc + len) ls rest (yy_uI ω k x.toNatClampNeg v.toInt8.toInt32)
        | false => none
      | [2] => match Nat.beq kd 2 && (yy_ix x n && decide (v = 0 ∨ v = 1)) with
        | true => yy_nx (pc + len) ls rest (yy_uI ω k x.toNatClampNeg v)
        | false => none
      | _ => none
    | _ => none
  | _ => none
def yy_hlast : yy_H := fun P _ _ pc len _ ls st ω => match st with
  | .inr (.inl v) :: .inl x :: .inr (.inr k) :: rest => match P.1[k]? with
    | some (.inl (3, (n, _))) => match yy_ix x n with
      | true => yy_nx (pc + len) ls rest (yy_uL ω k x.toNatClampNeg v)
      | false => none
    | _ => none
  | _ => none
def yy_hlen : yy_H := fun P _ _ pc len _ ls st ω => match st with
  | .inr (.inr k) :: rest => match Nat.beq k xx_scr with
    | true => match P.2.1 with
      | some (L, _) => yy_nx (pc + len) ls (.inl (Int32.ofNat L) :: rest) ω
      | none => none
    | false => match Nat.beq k yy_stv with
      | true => yy_nx (pc + len) ls (.inl (Int32.ofNat yy_txt.length) :: rest) ω
      | false => match P.1[k]? with
        | some (.inl (_, (n, _))) => yy_nx (pc + len) ls (.inl (Int32.ofNat n) :: rest) ω
        | _ => none
  | _ => none
def yy_to (t : Int) (ls : yy_L) (st : List yy_U) (ω : yy_O) : Option yy_R := match t with
  | .ofNat n => yy_nx n ls st ω
  | .negSucc _ => none
def yy_rel (c : xx_B) (x y : Int) : Bool := match c with
  | .lt => decide (x < y)
  | .ge => decide (y ≤ x)
  | .gt => decide (y < x)
  | .le => decide (x ≤ y)
  | .eq => decide (x = y)
  | .ne => decide (x ≠ y)
def yy_hgoto (off : Int) : yy_H := fun _ _ _ pc _ _ ls st ω => yy_to ((pc : Int) + off) ls st ω
def yy_hif (c : xx_B) (off : Int) : yy_H := fun _ _ _ pc _ _ ls st ω => match st with
  | .inl x :: rest => match yy_rel c x.toInt 0 with
    | true => yy_to ((pc : Int) + off) ls rest ω
    | false => yy_nx (pc + 3) ls rest ω
  | _ => none
def yy_hicmp (c : xx_B) (off : Int) : yy_H := fun _ _ _ pc _ _ ls st ω => match st with
  | .inl y :: .inl x :: rest => match yy_rel c x.toInt y.toInt with
    | true => yy_to ((pc : Int) + off) ls rest ω
    | false => yy_nx (pc + 3) ls rest ω
  | _ => none
def yy_htab (d lo hi : Int) (offs : Array Int) : yy_H := fun _ _ _ pc _ _ ls st ω => match st with
  | .inl x :: rest => match decide (x.toInt < lo ∨ hi < x.toInt) with
    | true => yy_to ((pc : Int) + d) ls rest ω
    | false => match offs[(x.toInt - lo).toNat]? with
      | some o => yy_to ((pc : Int) + o) ls rest ω
      | none => none
  | _ => none
def yy_hlook (d : Int) (ps : Array (Int × Int)) : yy_H := fun _ _ _ pc _ _ ls st ω => match st with
  | .inl x :: rest => yy_to ((pc : Int) + Op.lookupswitch.offset ps.toList d x.toInt) ls rest ω
  | _ => none
def yy_hiret : yy_H := fun _ M _ _ _ _ _ st _ => match st with
  | [.inl x] => match M.2.2.2.1 with
    | some .int => some (.inr (.inr (some (.inl x))))
    | some .char => match decide (x = x &&& 255) with
      | true => some (.inr (.inr (some (.inl x))))
      | false => none
    | some .byte => match decide (x = x.toInt8.toInt32) with
      | true => some (.inr (.inr (some (.inl x))))
      | false => none
    | some .boolean => match decide (x = 0 ∨ x = 1) with
      | true => some (.inr (.inr (some (.inl x))))
      | false => none
    | _ => none
  | _ => none
def yy_hlret : yy_H := fun _ M _ _ _ _ _ st _ => match st with
  | [.inr (.inl x)] => match M.2.2.2.1 with
    | some .long => some (.inr (.inr (some (.inr (.inl x)))))
    | _ => none
  | _ => none
def yy_hvret : yy_H := fun _ M _ _ _ _ _ st _ => match st with
  | [] => match M.2.2.2.1 with
    | none => some (.inr (.inr none))
    | some _ => none
  | _ => none
def yy_pop : Nat → List yy_U → List yy_U → Option (List yy_U × List yy_U)
  | 0, a, st => some (a, st)
  | n + 1, a, v :: st => yy_pop n (v :: a) st
  | _ + 1, _, [] => none
/-- whether a cell is an object of the class -/
def yy_isC (P : yy_P) (k ci : Nat) : Bool := match ci with
  | 99 => Nat.beq k yy_str
  | _ => match P.1[k]? with
    | some (.inr (cj, _)) => Nat.beq cj ci
    | _ => false
def yy_hvirt : yy_H := fun P _ _ _ _ ops _ st _ => match ops with
  | 0 :: t :: n :: ci :: _ => match yy_pop n [] st with
    | some (args, .inr (.inr k) :: rest) => match yy_isC P k ci with
      | true => some (.inr (.inl (t, (.inr (.inr k) :: args, rest))))
      | false => none
    | _ => none
  | _ => none
def yy_hstat : yy_H := fun P _ d pc len ops ls st ω => match ops with
  | 0 :: t :: n :: _ => match yy_pop n [] st with
    | some (args, rest) => some (.inr (.inl (t, (args, rest))))
    | none => none
  | 9 :: _ => match st with
    | .inl n :: .inl dp :: .inr (.inr k1) :: .inl sp :: .inr (.inr k0) :: rest => match P.1[k0]? with
      | some (.inl (0, (n0, _))) => match P.1[k1]? with
        | some (.inl (0, (n1, _))) => match decide (dp = 0) && (decide (sp = 0) && (decide (n.toInt = (n0 : Int)) && (Nat.beq n0 n1 && (Nat.blt n0 1000 && (Nat.ble 1 d && Nat.ble (yy_sum rest) 8))))) with
          | true => yy_nx (pc + len) ls rest (yy_uA ω k1 (fun j => if j < n0 then ω.1 k0 j else ω.1 k1 j))
          | false => none
        | _ => none
      | _ => none
    | _ => none
  | 7 :: _ => match st with
    | .inl n :: .inl x :: rest => match decide (0 ≤ x.toInt ∧ x.toInt < n.toInt) && (Nat.ble 2 d && Nat.ble (yy_sum rest) 8) with
      | true => yy_nx (pc + len) ls rest ω
      | false => none
    | _ => none
  | 6 :: w :: _ => match st with
    | .inl y :: .inl x :: rest => match Nat.ble 1 d && Nat.ble (yy_sum rest) 8 with
      | true => match w with
        | 0 => yy_nx (pc + len) ls (.inl (match yy_rel .lt x.toInt y.toInt with
          | true => y
          | false => x) :: rest) ω
        | 1 => yy_nx (pc + len) ls (.inl (match yy_rel .lt y.toInt x.toInt with
          | true => y
          | false => x) :: rest) ω
        | _ => none
      | false => none
    | _ => none
  | _ => none
def yy_none : yy_H := fun _ _ _ _ _ _ _ _ _ => none
def yy_disp (i : Instr) : yy_H := match i with
  | .iconst n => yy_hp (.inl (Int32.ofInt n))
  | .bipush n => yy_hp (.inl (Int32.ofInt n))
  | .sipush n => yy_hp (.inl (Int32.ofInt n))
  | .ldc _ => yy_hldc
  | .ldc_w _ => yy_hldc
  | .ldc2_w _ => yy_hldc2
  | .lconst n => yy_hp (.inr (.inl (Int64.ofInt (n.val : Int))))
  | .iload_n n => yy_hil n.val
  | .iload n => yy_hil n
  | .lload_n n => yy_hll n.val
  | .lload n => yy_hll n
  | .aload_n n => yy_hal n.val
  | .aload n => yy_hal n
  | .istore_n n => yy_his n.val
  | .istore n => yy_his n
  | .lstore_n n => yy_hls n.val
  | .lstore n => yy_hls n
  | .astore_n n => yy_has n.val
  | .iinc j n => yy_hinc j n
  | .iadd => yy_h2 (fun x y => x + y)
  | .isub => yy_h2 (fun x y => x - y)
  | .imul => yy_h2 (fun x y => x * y)
  | .iand => yy_h2 (fun x y => x &&& y)
  | .ior => yy_h2 (fun x y => x ||| y)
  | .ixor => yy_h2 (fun x y => x ^^^ y)
  | .ishl => yy_h2 (fun x y => x <<< (y &&& 31))
  | .ishr => yy_h2 (fun x y => x >>> (y &&& 31))
  | .iushr => yy_h2 (fun x y => (x.toUInt32 >>> (y.toUInt32 &&& Int32.toUInt32 31)).toInt32)
  | .idiv => yy_hdv (fun x y => x / y)
  | .irem => yy_hdv (fun x y => x - x / y * y)
  | .ineg => yy_h1 (fun x => -x)
  | .i2b => yy_h1 (fun x => x.toInt8.toInt32)
  | .i2c => yy_h1 (fun x => (x.toUInt32 % 65536).toInt32)
  | .ladd => yy_hl2 (fun x y => x + y)
  | .lsub => yy_hl2 (fun x y => x - y)
  | .land => yy_hl2 (fun x y => x &&& y)
  | .lor => yy_hl2 (fun x y => x ||| y)
  | .lxor => yy_hl2 (fun x y => x ^^^ y)
  | .lshl => yy_hlsh (fun x y => x <<< (y.toInt64 &&& 63))
  | .lushr => yy_hlsh (fun x y => (x.toUInt64 >>> (y.toInt64.toUInt64 &&& Int64.toUInt64 63)).toInt64)
  | .lshr => yy_hlsh (fun x y => x >>> (y.toInt64 &&& 63))
  | .lcmp => yy_hlcmp
  | .i2l => yy_hi2l
  | .l2i => yy_hl2i
  | .dup => yy_hdup
  | .dup2 => yy_hdup2
  | .pop => yy_hpop
  | .getfield _ => yy_hgetf
  | .putfield _ => yy_hputf
  | .getstatic _ => yy_hgets
  | .iaload => yy_hiald
  | .baload => yy_hbald
  | .laload => yy_hlald
  | .aaload => yy_haald
  | .iastore => yy_hiast
  | .bastore => yy_hbast
  | .lastore => yy_hlast
  | .arraylength => yy_hlen
  | .goto off => yy_hgoto off
  | .ifCond c off => yy_hif c off
  | .if_icmp c off => yy_hicmp c off
  | .tableswitch d lo hi offs => yy_htab d lo hi offs
  | .lookupswitch d ps => yy_hlook d ps
  | .ireturn => yy_hiret
  | .lreturn => yy_hlret
  | .return_ => yy_hvret
  | .invokevirtual _ => yy_hvirt
  | .invokestatic _ => yy_hstat
  | _ => yy_none
def yy_step (P : yy_P) (M : xx_M) (d : Nat) (e : xx_I) (ls : yy_L) (st : List yy_U) (ω : yy_O) : Option yy_R := yy_disp e.2.1 P M d e.1 e.2.2.1 (xx_ops e.2.2.2) ls st ω
def yy_at (rows : List xx_I) (pc : Nat) : Option xx_I := match rows with
  | [] => none
  | e :: es => match Nat.beq e.1 pc with
    | true => some e
    | false => yy_at es pc
def yy_arg : Nat → List yy_U → yy_L
  | _, [] => []
  | i, v :: vs => (i, v) :: yy_arg (i + yy_cat v) vs
/-- a call fits: the callee's locals, what stays on the stack -/
def yy_fit (M' : xx_M) (args rest : List yy_U) : Bool := Nat.ble M'.2.2.1 40 && (Nat.ble (yy_sum rest) 8 && Nat.ble (yy_sum args) M'.2.2.1)
/-- a run: d frames are left, n steps -/
def yy_run (T : List xx_M) (G : List yy_D) (kee : Nat → Int64) : Nat → Option (Nat × (Nat → Int32)) → Nat → xx_M → Nat → yy_L → List yy_U → yy_O → Option (Option yy_U × yy_O)
  | 0, _, _, _, _, _, _, _ => none
  | n + 1, scr, d, M, pc, ls, st, ω => match yy_at M.2.2.2.2.2 pc with
    | none => none
    | some e => match yy_step (G, (scr, kee)) M d e ls st ω with
      | none => none
      | some (.inl (pc', (ls', (st', ω')))) => yy_run T G kee n scr d M pc' ls' st' ω'
      | some (.inr (.inr v)) => some (v, ω)
      | some (.inr (.inl (t, (args, rest)))) => match T[t]? with
        | none => none
        | some M' => match yy_fit M' args rest with
          | false => none
          | true => match d with
            | 0 => none
            | d' + 1 => match yy_run T G kee n none d' M' 0 (yy_arg 0 args) [] ω with
              | none => none
              | some (v, ω') => yy_run T G kee n scr (d' + 1) M (pc + 3) ls (v.toList ++ rest) ω'
