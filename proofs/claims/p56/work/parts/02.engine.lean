/-! AN ENGINE: a walk of methods over values of which some are known (numbers, places in a list of cells) and some are only bounded (symbols with intervals), as a program; the parts behind it show that what it finds holds of the machine. Its steps hand on what they made to what comes next (the last argument), every number brought to its plain form first: so the kernel can run it. -/
/-- a value: a known int; a symbol plus a number; a cell by its key, or null; a known long -/
abbrev xx_V : Type := Int ⊕ ((Nat × Int) ⊕ (Option Nat ⊕ Int))
/-- a cell: an array (kind: 0 int, 1 byte, 2 boolean, 3 long, 4 rows of Day; length; contents, if known), or an object (class, fields) -/
abbrev xx_E : Type := (Nat × (Nat × Option (List xx_V))) ⊕ (Nat × List xx_V)
abbrev xx_C : Type := List (Int × Int)
abbrev xx_W : Type := List (Nat × xx_E)
abbrev xx_L : Type := List (Nat × xx_V)
abbrev xx_I : Type := Nat × (Instr × (Nat × List Nat))
/-- a method: name, bytes, locals, what it returns, its room (frames, locals, cells, slots), its rows -/
abbrev xx_M : Type := MethodName × (ByteArray × (Nat × (Option FieldType × ((Nat × (Nat × (Nat × Nat))) × List xx_I))))
/-- a way to a method's end: the symbols' intervals, the cells, the next key, the answer -/
abbrev xx_O : Type := xx_C × (xx_W × (Nat × Option xx_V))
abbrev xx_A : Type := Option (List xx_O)
/-- a state: intervals, cells, next key, cells and slots made, locals, stack -/
abbrev xx_S : Type := xx_C × (xx_W × (Nat × (Nat × (Nat × (xx_L × List xx_V)))))
/-- states at which a walk may end: by the row -/
abbrev xx_T : Type := List (Nat × xx_S)
/-- what comes next -/
abbrev xx_G : Type := xx_C → xx_W → Nat → Nat → Nat → xx_L → List xx_V → xx_A
def xx_lo : Int := -2147483648
def xx_hi : Int := 2147483647
def xx_le (a b : Int) : Bool := match b - a with
  | .ofNat _ => true
  | .negSucc _ => false
def xx_eqI (a b : Int) : Bool := xx_le a b && xx_le b a
/-! plain forms -/
def xx_fN {β : Type} (n : Nat) (k : Nat → β) : β := match n with
  | 0 => k 0
  | m + 1 => k (m + 1)
def xx_fI {β : Type} (i : Int) (k : Int → β) : β := match i with
  | .ofNat n => xx_fN n (fun n => k (.ofNat n))
  | .negSucc n => xx_fN n (fun n => k (.negSucc n))
def xx_fV {β : Type} (v : xx_V) (k : xx_V → β) : β := match v with
  | .inl c => xx_fI c (fun c => k (.inl c))
  | .inr (.inl (n, d)) => xx_fN n (fun n => xx_fI d (fun d => k (.inr (.inl (n, d)))))
  | .inr (.inr (.inl none)) => k (.inr (.inr (.inl none)))
  | .inr (.inr (.inl (some i))) => xx_fN i (fun i => k (.inr (.inr (.inl (some i)))))
  | .inr (.inr (.inr c)) => xx_fI c (fun c => k (.inr (.inr (.inr c))))
def xx_fVs {β : Type} (l : List xx_V) (k : List xx_V → β) : β := match l with
  | [] => k []
  | v :: vs => xx_fV v (fun v => xx_fVs vs (fun vs => k (v :: vs)))
def xx_fC {β : Type} (l : xx_C) (k : xx_C → β) : β := match l with
  | [] => k []
  | (a, b) :: vs => xx_fI a (fun a => xx_fI b (fun b => xx_fC vs (fun vs => k ((a, b) :: vs))))
def xx_set {α β : Type} (l : List α) (p : Nat) (v : α) (k : List α → β) : β := match l with
  | [] => k []
  | x :: xs => match p with
    | 0 => k (v :: xs)
    | q + 1 => xx_set xs q v (fun ys => k (x :: ys))
def xx_app {α β : Type} (l : List α) (v : α) (k : List α → β) : β := match l with
  | [] => k [v]
  | x :: xs => xx_app xs v (fun ys => k (x :: ys))
def xx_rep {β : Type} (n : Nat) (z : xx_V) (k : List xx_V → β) : β := match n with
  | 0 => k []
  | m + 1 => xx_rep m z (fun ys => k (z :: ys))
def xx_len {α β : Type} (l : List α) (n : Nat) (k : Nat → β) : β := match l with
  | [] => xx_fN n k
  | _ :: xs => xx_len xs (n + 1) k
def xx_iv (cs : xx_C) (v : xx_V) : Option (Int × Int) :=
  match v with
  | .inl c => if (xx_le xx_lo c && xx_le c xx_hi) = true then some (c, c) else none
  | .inr (.inl q) => match cs[q.1]? with
    | some r => if (xx_le xx_lo (r.1 + q.2) && xx_le (r.2 + q.2) xx_hi) = true then some (r.1 + q.2, r.2 + q.2) else none
    | none => none
  | .inr (.inr _) => none
def xx_nrm (cs : xx_C) (v : xx_V) : xx_V :=
  match v with
  | .inl c => .inl c
  | .inr (.inl q) => match xx_iv cs (.inr (.inl q)) with
    | some r => if xx_eqI r.1 r.2 = true then .inl r.1 else .inr (.inl q)
    | none => .inr (.inl q)
  | .inr (.inr r) => .inr (.inr r)
def xx_isI (v : xx_V) : Bool := match v with
  | .inl _ => true
  | .inr (.inl _) => true
  | .inr (.inr _) => false
def xx_isL (v : xx_V) : Bool := match v with
  | .inr (.inr (.inr _)) => true
  | _ => false
def xx_isR (v : xx_V) : Bool := match v with
  | .inr (.inr (.inl _)) => true
  | _ => false
def xx_cat (v : xx_V) : Nat := match v with
  | .inr (.inr (.inr _)) => 2
  | _ => 1
def xx_scr : Nat := 1000000
def xx_full : Int × Int := (xx_lo, xx_hi)
/-- a place and a cell, by the key -/
def xx_fnd : xx_W → Nat → Nat → Option (Nat × xx_E)
  | [], _, _ => none
  | q :: w, k, p => match Nat.beq q.1 k with
    | true => some (p, q.2)
    | false => xx_fnd w k (Nat.succ p)
def xx_get (ls : xx_L) (i : Nat) : Option xx_V := match ls with
  | [] => none
  | q :: qs => match Nat.beq q.1 i with
    | true => some q.2
    | false => xx_get qs i
/-- the locals but those that a store at i takes away -/
def xx_wo1 {β : Type} (ls : xx_L) (i : Nat) (k : xx_L → β) : β := match ls with
  | [] => k []
  | q :: qs => match !(Nat.beq q.1 i) && !(Nat.beq (q.1 + 1) i && Nat.beq (xx_cat q.2) 2) with
    | true => xx_wo1 qs i (fun ys => k (q :: ys))
    | false => xx_wo1 qs i k
def xx_wo2 {β : Type} (ls : xx_L) (i : Nat) (k : xx_L → β) : β := match ls with
  | [] => k []
  | q :: qs => match !(Nat.beq q.1 i) && (!(Nat.beq q.1 (i + 1)) && !(Nat.beq (q.1 + 1) i && Nat.beq (xx_cat q.2) 2)) with
    | true => xx_wo2 qs i (fun ys => k (q :: ys))
    | false => xx_wo2 qs i k
/-! the classes -/
abbrev xx_cl : List vw_C := [(RX0, TX0, 5), (RX1, TX1, 5), (RX2, TX2, 3), (RX3, TX3, 13), (RX4, TX4, 10), (RX5, TX5, 9), (RX6, TX6, 11), (RX7, TX7, 62)]
def xx_tys : List (Nat → FieldType) := [tyX0, tyX1, tyX2, tyX3, tyX4, tyX5, tyX6, tyX7]
def xx_ty (ci k : Nat) : FieldType := (xx_tys.getD ci (fun _ => .int)) k
def xx_dfl (t : FieldType) : xx_V := match t with
  | .long => .inr (.inr (.inr 0))
  | .object _ => .inr (.inr (.inl none))
  | .array _ => .inr (.inr (.inl none))
  | _ => .inl 0
def xx_num (ci : Nat) : Nat := match xx_cl[ci]? with
  | some q => q.2.2
  | none => 0
def xx_def (ci : Nat) : List xx_V := (List.range (xx_num ci)).map (fun k => xx_dfl (xx_ty ci k))
def xx_fit (t : FieldType) (v : xx_V) : Bool := match t with
  | .int => xx_isI v
  | .boolean => match v with
    | .inl c => xx_eqI c 0 || xx_eqI c 1
    | _ => false
  | .long => xx_isL v
  | .object _ => xx_isR v
  | .array _ => xx_isR v
  | _ => false
abbrev xx_H : Type := xx_M → Nat → List Nat → xx_C → xx_W → Nat → Nat → Nat → xx_L → List xx_V → xx_G → xx_A
/-- push a value -/
def xx_hpush (v : xx_V) : xx_H := fun _ _ _ cs w nk nc ns ls st k => xx_fV v (fun v => k cs w nk nc ns ls (v :: st))
def xx_sgn (g n : Nat) : Int := match g with
  | 0 => (n : Int)
  | _ => -(n : Int)
def xx_hldc : xx_H := fun _ _ ops cs w nk nc ns ls st k => match ops with
  | [_, g, n] => xx_fI (xx_sgn g n) (fun c => k cs w nk nc ns ls (.inl c :: st))
  | _ => none
def xx_hldc2 : xx_H := fun _ _ ops cs w nk nc ns ls st k => match ops with
  | [_, g, n] => xx_fI (xx_sgn g n) (fun c => k cs w nk nc ns ls (.inr (.inr (.inr c)) :: st))
  | _ => none
/-- loads of locals, by the test of their kind -/
def xx_hload (f : xx_V → Bool) (i : Nat) : xx_H := fun _ _ _ cs w nk nc ns ls st k => match xx_get ls i with
  | some v => match f v with
    | true => k cs w nk nc ns ls (v :: st)
    | false => none
  | none => none
def xx_isO (v : xx_V) : Bool := match v with
  | .inr (.inr (.inl (some _))) => true
  | _ => false
def xx_hst1 (f : xx_V → Bool) (i : Nat) : xx_H := fun M _ _ cs w nk nc ns ls st k => match st with
  | v :: rest => match f v && Nat.blt i M.2.2.1 with
    | true => xx_wo1 ls i (fun ls => k cs w nk nc ns ((i, v) :: ls) rest)
    | false => none
  | [] => none
def xx_hst2 (i : Nat) : xx_H := fun M _ _ cs w nk nc ns ls st k => match st with
  | v :: rest => match xx_isL v && Nat.blt (i + 1) M.2.2.1 with
    | true => xx_wo2 ls i (fun ls => k cs w nk nc ns ((i, v) :: ls) rest)
    | false => none
  | [] => none
/-- an int result: known, or a new symbol -/
abbrev xx_N : Type := xx_V ⊕ (Int × Int)
def xx_res (cs : xx_C) (r : xx_N) (k : xx_C → xx_V → xx_A) : xx_A := match r with
  | .inl v => xx_fV v (fun v => k cs v)
  | .inr (a, b) => xx_fI a (fun a => xx_fI b (fun b => xx_len cs 0 (fun n => xx_app cs (a, b) (fun ds => k ds (.inr (.inl (n, 0)))))))
def xx_zz (n : Int) : Bool := !(xx_le xx_lo n && (xx_le n xx_hi && !(xx_eqI n 0)))
/-- int operations of two operands: f the machine's; k what is found of two known numbers; y of a symbol and a number; z of others; d whether a divisor must not be 0 -/
def xx_b2 (k : Int → Int → Int) (y : Nat → Int → Int → xx_N) (z : Bool) (d : Bool) (a b : xx_V) : Option xx_N :=
  match a with
  | .inl m => match b with
    | .inl n => match d && xx_zz n with
      | true => none
      | false => some (.inl (.inl (k m n)))
    | .inr (.inl q) => match d with
      | true => none
      | false => match z with
        | true => some (.inl (.inr (.inl (q.1, q.2 + m))))
        | false => some (.inr xx_full)
    | .inr (.inr _) => none
  | .inr (.inl q) => match b with
    | .inl n => match d && xx_zz n with
      | true => none
      | false => some (y q.1 q.2 n)
    | .inr (.inl _) => match d with
      | true => none
      | false => some (.inr xx_full)
    | .inr (.inr _) => none
  | .inr (.inr _) => none
def xx_h2 (kf : Int → Int → Int) (y : Nat → Int → Int → xx_N) (z d : Bool) : xx_H := fun _ _ _ cs w nk nc ns ls st k => match st with
  | b :: a :: rest => match xx_b2 kf y z d (xx_nrm cs a) (xx_nrm cs b) with
    | some r => xx_res cs r (fun cs v => k cs w nk nc ns ls (v :: rest))
    | none => none
  | _ => none
def xx_yf : Nat → Int → Int → xx_N := fun _ _ _ => .inr xx_full
def xx_yadd : Nat → Int → Int → xx_N := fun k d n => .inl (.inr (.inl (k, d + n)))
def xx_ysub : Nat → Int → Int → xx_N := fun k d n => .inl (.inr (.inl (k, d - n)))
def xx_yand : Nat → Int → Int → xx_N := fun _ _ n => match xx_le 0 n && xx_le n xx_hi with
  | true => .inr (0, n)
  | false => .inr xx_full
def xx_kf (f : Int32 → Int32 → Int32) : Int → Int → Int := fun m n => (f (Int32.ofInt m) (Int32.ofInt n)).toInt
def xx_hinc (j : Nat) (n : Int) : xx_H := fun M _ _ cs w nk nc ns ls st k => match xx_get ls j with
  | some v => match Nat.blt j M.2.2.1 with
    | true => match xx_nrm cs v with
      | .inl c => xx_fI (c + n) (fun c => xx_wo1 ls j (fun ls => k cs w nk nc ns ((j, .inl c) :: ls) st))
      | .inr (.inl (q, d)) => xx_fI (d + n) (fun d => xx_wo1 ls j (fun ls => k cs w nk nc ns ((j, .inr (.inl (q, d))) :: ls) st))
      | .inr (.inr _) => none
    | false => none
  | none => none
def xx_h1 (f : Int32 → Int32) (r : Int × Int) : xx_H := fun _ _ _ cs w nk nc ns ls st k => match st with
  | a :: rest => match xx_nrm cs a with
    | .inl c => xx_fI (f (Int32.ofInt c)).toInt (fun c => k cs w nk nc ns ls (.inl c :: rest))
    | .inr (.inl _) => xx_res cs (.inr r) (fun cs v => k cs w nk nc ns ls (v :: rest))
    | .inr (.inr _) => none
  | [] => none
def xx_hl2 (kf : Int → Int → Int) : xx_H := fun _ _ _ cs w nk nc ns ls st k => match st with
  | .inr (.inr (.inr y)) :: .inr (.inr (.inr x)) :: rest => xx_fI (kf x y) (fun c => k cs w nk nc ns ls (.inr (.inr (.inr c)) :: rest))
  | _ => none
def xx_klf (f : Int64 → Int64 → Int64) : Int → Int → Int := fun m n => (f (Int64.ofInt m) (Int64.ofInt n)).toInt
def xx_hlsh (f : Int64 → Int32 → Int64) : xx_H := fun _ _ _ cs w nk nc ns ls st k => match st with
  | y :: .inr (.inr (.inr x)) :: rest => match xx_nrm cs y with
    | .inl c => xx_fI (f (Int64.ofInt x) (Int32.ofInt c)).toInt (fun c => k cs w nk nc ns ls (.inr (.inr (.inr c)) :: rest))
    | _ => none
  | _ => none
def xx_hlcmp : xx_H := fun _ _ _ cs w nk nc ns ls st k => match st with
  | .inr (.inr (.inr y)) :: .inr (.inr (.inr x)) :: rest => xx_fI (lg_cmp (Int64.ofInt x) (Int64.ofInt y)).toInt (fun c => k cs w nk nc ns ls (.inl c :: rest))
  | _ => none
def xx_hi2l : xx_H := fun _ _ _ cs w nk nc ns ls st k => match st with
  | v :: rest => match xx_nrm cs v with
    | .inl c => xx_fI (Int32.ofInt c).toInt64.toInt (fun c => k cs w nk nc ns ls (.inr (.inr (.inr c)) :: rest))
    | _ => none
  | [] => none
def xx_hl2i : xx_H := fun _ _ _ cs w nk nc ns ls st k => match st with
  | .inr (.inr (.inr x)) :: rest => xx_fI (Int64.ofInt x).toInt32.toInt (fun c => k cs w nk nc ns ls (.inl c :: rest))
  | _ => none
def xx_hdup : xx_H := fun _ _ _ cs w nk nc ns ls st k => match st with
  | v :: rest => match Nat.beq (xx_cat v) 1 with
    | true => k cs w nk nc ns ls (v :: v :: rest)
    | false => none
  | [] => none
def xx_hpop : xx_H := fun _ _ _ cs w nk nc ns ls st k => match st with
  | v :: rest => match Nat.beq (xx_cat v) 1 with
    | true => k cs w nk nc ns ls rest
    | false => none
  | [] => none
def xx_hdup2 : xx_H := fun _ _ _ cs w nk nc ns ls st k => match st with
  | v :: u :: rest => match Nat.beq (xx_cat v) 2 with
    | true => k cs w nk nc ns ls (v :: v :: u :: rest)
    | false => match Nat.beq (xx_cat u) 1 with
      | true => k cs w nk nc ns ls (v :: u :: v :: u :: rest)
      | false => none
  | _ => none
def xx_hgetf : xx_H := fun _ _ ops cs w nk nc ns ls st k => match ops with
  | [ci, f, _, _] => match st with
    | .inr (.inr (.inl (some i))) :: rest => match xx_fnd w i 0 with
      | some (_, .inr (cj, fs)) => match Nat.beq cj ci with
        | true => match fs[f]? with
          | some v => k cs w nk nc ns ls (v :: rest)
          | none => none
        | false => none
      | _ => none
    | _ => none
  | _ => none
def xx_hputf : xx_H := fun _ _ ops cs w nk nc ns ls st k => match ops with
  | [ci, f, _, _] => match st with
    | v :: .inr (.inr (.inl (some i))) :: rest => match xx_fnd w i 0 with
      | some (p, .inr (cj, fs)) => match Nat.beq cj ci && (Nat.blt f fs.length && xx_fit (xx_ty ci f) v) with
        | true => xx_set fs f v (fun fs => xx_set w p (i, .inr (cj, fs)) (fun w => k cs w nk nc ns ls rest))
        | false => none
      | _ => none
    | _ => none
  | _ => none
/-- an index: within 0 .. n - 1 -/
def xx_idx (cs : xx_C) (v : xx_V) (n : Nat) : Bool := match xx_iv cs v with
  | some r => xx_le 0 r.1 && xx_le (r.2 + 1) (n : Int)
  | none => false
def xx_knd (kd : Nat) (v : xx_V) : Bool := match kd with
  | 3 => xx_isL v
  | 4 => xx_isR v
  | _ => xx_isI v
def xx_load (kd : Nat) (ix : xx_V) (i : Nat) (rest : List xx_V) (cs : xx_C) (w : xx_W) (k : xx_C → List xx_V → xx_A) : xx_A :=
  match xx_fnd w i 0 with
  | some (_, .inl (kj, (n, ct))) => match Nat.beq kj kd && xx_idx cs ix n with
    | true => match ct with
      | some l => match xx_nrm cs ix with
        | .inl (.ofNat c) => match l[c]? with
          | some v => match xx_knd kd v with
            | true => k cs (v :: rest)
            | false => none
          | none => none
        | .inr (.inl _) => match Nat.ble kd 2 with
          | true => xx_res cs (.inr xx_full) (fun cs v => k cs (v :: rest))
          | false => none
        | _ => none
      | none => match Nat.ble kd 2 with
        | true => xx_res cs (.inr xx_full) (fun cs v => k cs (v :: rest))
        | false => none
    | false => none
  | _ => none
def xx_hald (kd : Nat) : xx_H := fun _ _ _ cs w nk nc ns ls st k => match st with
  | ix :: .inr (.inr (.inl (some i))) :: rest => xx_load kd ix i rest cs w (fun cs st => k cs w nk nc ns ls st)
  | _ => none
def xx_hiald : xx_H := fun _ scr _ cs w nk nc ns ls st k => match st with
  | ix :: .inr (.inr (.inl (some i))) :: rest => match Nat.beq i xx_scr with
    | true => match xx_nrm cs ix with
      | .inl (.ofNat c) => match Nat.blt (c + 1) scr && Nat.ble c 1000000 with
        | true => xx_fN c (fun c => k cs w nk nc ns ls (.inr (.inl (c, 0)) :: rest))
        | false => none
      | _ => none
    | false => xx_load 0 ix i rest cs w (fun cs st => k cs w nk nc ns ls st)
  | _ => none
def xx_hbald : xx_H := fun _ _ ops cs w nk nc ns ls st k => match ops with
  | [kd] => match st with
    | ix :: .inr (.inr (.inl (some i))) :: rest => match Nat.beq kd 1 || Nat.beq kd 2 with
      | true => xx_load kd ix i rest cs w (fun cs st => k cs w nk nc ns ls st)
      | false => none
    | _ => none
  | _ => none
def xx_store (kd : Nat) (v ix : xx_V) (i : Nat) (cs : xx_C) (w : xx_W) (k : xx_W → xx_A) : xx_A :=
  match xx_fnd w i 0 with
  | some (p, .inl (kj, (n, ct))) => match Nat.beq kj kd && (xx_idx cs ix n && xx_knd kd v) with
    | true => match ct with
      | some l => match xx_nrm cs ix with
        | .inl (.ofNat c) => match Nat.blt c l.length && (!(Nat.beq kd 1) && (!(Nat.beq kd 2) || xx_fit .boolean v)) with
          | true => xx_set l c v (fun l => xx_set w p (i, .inl (kj, (n, some l))) k)
          | false => none
        | _ => none
      | none => match Nat.ble kd 1 with
        | true => k w
        | false => none
    | false => none
  | _ => none
def xx_hast (kd : Nat) : xx_H := fun _ _ _ cs w nk nc ns ls st k => match st with
  | v :: ix :: .inr (.inr (.inl (some i))) :: rest => xx_store kd v ix i cs w (fun w => k cs w nk nc ns ls rest)
  | _ => none
def xx_hbast : xx_H := fun _ _ ops cs w nk nc ns ls st k => match ops with
  | [kd] => match st with
    | v :: ix :: .inr (.inr (.inl (some i))) :: rest => match Nat.beq kd 1 || Nat.beq kd 2 with
      | true => xx_store kd v ix i cs w (fun w => k cs w nk nc ns ls rest)
      | false => none
    | _ => none
  | _ => none
def xx_haast : xx_H := fun _ _ _ cs w nk nc ns ls st k => match st with
  | .inr (.inr (.inl (some j))) :: ix :: .inr (.inr (.inl (some i))) :: rest => match xx_fnd w j 0 with
    | some (_, .inr (cj, _)) => match Nat.beq cj 1 with
      | true => xx_store 4 (.inr (.inr (.inl (some j)))) ix i cs w (fun w => k cs w nk nc ns ls rest)
      | false => none
    | _ => none
  | _ => none
def xx_hlen : xx_H := fun _ scr _ cs w nk nc ns ls st k => match st with
  | .inr (.inr (.inl (some i))) :: rest => match Nat.beq i xx_scr with
    | true => match scr with
      | 0 => none
      | L + 1 => xx_fN L (fun n => k cs w nk nc ns ls (.inl (.ofNat n) :: rest))
    | false => match xx_fnd w i 0 with
      | some (_, .inl (_, (n, _))) => xx_fN n (fun n => k cs w nk nc ns ls (.inl (.ofNat n) :: rest))
      | _ => none
  | _ => none
/-- a new cell, before all others; its key is the next one -/
def xx_mk (M : xx_M) (e : xx_E) (n : Nat) (cs : xx_C) (w : xx_W) (nk nc ns : Nat) (ls : xx_L) (rest : List xx_V) (k : xx_G) : xx_A :=
  match Nat.ble (nc + 1) M.2.2.2.2.1.2.2.1 && (Nat.ble (ns + n) M.2.2.2.2.1.2.2.2 && Nat.blt nk xx_scr) with
  | true => xx_fN (nk + 1) (fun nk1 => xx_fN (nc + 1) (fun nc => xx_fN (ns + n) (fun ns => k cs ((nk, e) :: w) nk1 nc ns ls (.inr (.inr (.inl (some nk))) :: rest))))
  | false => none
def xx_hnew : xx_H := fun M _ ops cs w nk nc ns ls st k => match ops with
  | ci :: _ => match Nat.blt ci 8 with
    | true => xx_fVs (xx_def ci) (fun fs => xx_mk M (.inr (ci, fs)) (xx_num ci) cs w nk nc ns ls st k)
    | false => none
  | [] => none
def xx_hnewa (kd : Nat) (z : xx_V) : xx_H := fun M _ _ cs w nk nc ns ls st k => match st with
  | n :: rest => match xx_nrm cs n with
    | .inl (.ofNat c) => match Nat.ble c 100000 with
      | true => match Nat.ble c 1650 with
        | true => xx_fN c (fun c => xx_rep c z (fun l => xx_mk M (.inl (kd, (c, some l))) c cs w nk nc ns ls rest k))
        | false => match Nat.ble kd 1 with
          | true => xx_fN c (fun c => xx_mk M (.inl (kd, (c, none))) c cs w nk nc ns ls rest k)
          | false => none
      | false => none
    | _ => none
  | [] => none
def xx_sum (l : List xx_V) : Nat := match l with
  | [] => 0
  | v :: vs => xx_cat v + xx_sum vs
def xx_hobj : xx_H := fun M _ _ cs w nk nc ns ls st k => match st with
  | .inr (.inr (.inl (some _))) :: rest => match Nat.ble 1 M.2.2.2.2.1.1 && Nat.ble (xx_sum rest + 12) M.2.2.2.2.1.2.1 with
    | true => k cs w nk nc ns ls rest
    | false => none
  | _ => none
def xx_copy (c i0 i1 : Nat) (w : xx_W) (k : xx_W → xx_A) : xx_A := match xx_fnd w i0 0 with
  | some (_, .inl (k0, (n0, some l0))) => match xx_fnd w i1 0 with
    | some (p, .inl (k1, (n1, some l1))) => match Nat.beq k0 0 && (Nat.beq k1 0 && (Nat.beq n0 c && (Nat.beq n1 c && (Nat.beq l0.length c && (Nat.beq l1.length c && l0.all xx_isI))))) with
      | true => xx_set w p (i1, .inl (k1, (n1, some l0))) k
      | false => none
    | _ => none
  | _ => none
def xx_hcopy : xx_H := fun M _ _ cs w nk nc ns ls st k => match st with
  | .inl (.ofNat c) :: .inl d :: .inr (.inr (.inl (some i1))) :: .inl s :: .inr (.inr (.inl (some i0))) :: rest =>
    match xx_eqI d 0 && (xx_eqI s 0 && (Nat.ble c 100000 && (Nat.ble 1 M.2.2.2.2.1.1 && Nat.ble (xx_sum rest + 100) M.2.2.2.2.1.2.1))) with
    | true => xx_copy c i0 i1 w (fun w => k cs w nk nc ns ls rest)
    | false => none
  | _ => none
/-! branches -/
abbrev xx_B : Type := Jvm.ClassFile.Cond
def xx_neg (c : xx_B) : xx_B := match c with
  | .lt => .ge
  | .ge => .lt
  | .gt => .le
  | .le => .gt
  | .eq => .ne
  | .ne => .eq
def xx_flip (c : xx_B) : xx_B := match c with
  | .lt => .gt
  | .ge => .le
  | .gt => .lt
  | .le => .ge
  | .eq => .eq
  | .ne => .ne
def xx_dlt (a b : Int × Int) : Option Bool := match xx_le (a.2 + 1) b.1 with
  | true => some true
  | false => match xx_le b.2 a.1 with
    | true => some false
    | false => none
def xx_deq (a b : Int × Int) : Option Bool := match xx_eqI a.1 a.2 && (xx_eqI b.1 b.2 && xx_eqI a.1 b.1) with
  | true => some true
  | false => match xx_le (a.2 + 1) b.1 || xx_le (b.2 + 1) a.1 with
    | true => some false
    | false => none
def xx_not (o : Option Bool) : Option Bool := match o with
  | some b => some (!b)
  | none => none
def xx_dec (c : xx_B) (a b : Int × Int) : Option Bool := match c with
  | .lt => xx_dlt a b
  | .ge => xx_not (xx_dlt a b)
  | .gt => xx_dlt b a
  | .le => xx_not (xx_dlt b a)
  | .eq => xx_deq a b
  | .ne => xx_not (xx_deq a b)
def xx_max (a b : Int) : Int := match xx_le a b with
  | true => b
  | false => a
def xx_min (a b : Int) : Int := match xx_le a b with
  | true => a
  | false => b
def xx_alw (c : xx_B) (n : Int) : Int × Int := match c with
  | .lt => (xx_lo, n - 1)
  | .ge => (n, xx_hi)
  | .gt => (n + 1, xx_hi)
  | .le => (xx_lo, n)
  | .eq => (n, n)
  | .ne => (xx_lo, xx_hi)
def xx_ref1 {β : Type} (cs : xx_C) (c : xx_B) (v : xx_V) (n : Int) (k : xx_C → β) : β := match v with
  | .inr (.inl (q, d)) => match cs[q]? with
    | some (a, b) => xx_fI (xx_max a ((xx_alw c n).1 - d)) (fun a => xx_fI (xx_min b ((xx_alw c n).2 - d)) (fun b => xx_set cs q (a, b) k))
    | none => k cs
  | _ => k cs
def xx_ref {β : Type} (cs : xx_C) (c : xx_B) (a b : xx_V) (k : xx_C → β) : β := match b with
  | .inl n => xx_ref1 cs c a n k
  | _ => match a with
    | .inl n => xx_ref1 cs (xx_flip c) b n k
    | _ => k cs
def xx_same (c : xx_B) : Bool := match c with
  | .eq => true
  | .le => true
  | .ge => true
  | _ => false
def xx_twin (a b : xx_V) : Bool := match a with
  | .inr (.inl p) => match b with
    | .inr (.inl q) => Nat.beq p.1 q.1 && xx_eqI p.2 q.2
    | _ => false
  | _ => false
def xx_cat2 (a b : xx_A) : xx_A := match a with
  | some x => match b with
    | some y => some (x ++ y)
    | none => none
  | none => none
def xx_unl (o : Option Bool) (a : xx_A) : xx_A := match o with
  | some false => some []
  | _ => a
/-- both ways of a test that isn't decided: t when it holds, f when it doesn't -/
def xx_both (cs : xx_C) (c : xx_B) (a b : xx_V) (ra rb : Int × Int) (t f : xx_C → xx_A) : xx_A := match c with
  | .eq => xx_cat2 (xx_ref cs .eq a b t) (xx_cat2 (xx_unl (xx_dlt ra rb) (xx_ref cs .lt a b f)) (xx_unl (xx_dlt rb ra) (xx_ref cs .gt a b f)))
  | .ne => xx_cat2 (xx_ref cs .eq a b f) (xx_cat2 (xx_unl (xx_dlt ra rb) (xx_ref cs .lt a b t)) (xx_unl (xx_dlt rb ra) (xx_ref cs .gt a b t)))
  | c => xx_cat2 (xx_ref cs c a b t) (xx_ref cs (xx_neg c) a b f)
def xx_br1 (cs : xx_C) (c : xx_B) (a b : xx_V) (t f : xx_C → xx_A) : xx_A :=
  match xx_iv cs a with
  | none => none
  | some ra => match xx_iv cs b with
    | none => none
    | some rb => match xx_twin a b with
      | true => match xx_same c with
        | true => t cs
        | false => f cs
      | false => match xx_dec c ra rb with
        | some true => t cs
        | some false => f cs
        | none => xx_both cs c a b ra rb t f
def xx_br (cs : xx_C) (c : xx_B) (a b : xx_V) (t f : xx_C → xx_A) : xx_A := xx_br1 cs c (xx_nrm cs a) (xx_nrm cs b) t f
/-- a switch: the ways, each with what it says of the symbol; g: to a target -/
def xx_if (b : Bool) (a : xx_A) : xx_A := match b with
  | true => a
  | false => some []
def xx_sw (cs : xx_C) (v : xx_V) (r : Int × Int) (d : Int) (g : xx_C → Int → xx_A) : List (Int × Int) → Int → xx_A
  | [], pr => xx_if (xx_le (xx_max pr r.1) r.2) (xx_ref1 cs .ge v pr (fun cs => g cs d))
  | q :: qs, pr => xx_cat2 (xx_if (xx_le (xx_max pr r.1) (xx_min (q.1 - 1) r.2)) (xx_ref1 cs .ge v pr (fun cs => xx_ref1 cs .le v (q.1 - 1) (fun cs => g cs d)))) (xx_cat2 (xx_if (xx_le r.1 q.1 && xx_le q.1 r.2) (xx_ref1 cs .eq v q.1 (fun cs => g cs q.2))) (xx_sw cs v r d g qs (q.1 + 1)))
def xx_srt : List (Int × Int) → Int → Bool
  | [], _ => true
  | q :: qs, pr => xx_le pr q.1 && xx_srt qs (q.1 + 1)
def xx_prs : List Int → Int → List (Int × Int)
  | [], _ => []
  | o :: os, lo => (lo, o) :: xx_prs os (lo + 1)
/-- a symbol as index of known contents: one way a number -/
def xx_upto (cs : xx_C) (v : xx_V) (g : xx_C → xx_A) (lo : Int) : Nat → xx_A
  | 0 => some []
  | n + 1 => xx_cat2 (xx_ref1 cs .eq v lo g) (xx_upto cs v g (lo + 1) n)
def xx_spl (cs : xx_C) (w : xx_W) (ix : xx_V) (i : Nat) : Option (xx_V × (Int × Nat)) := match xx_fnd w i 0 with
  | some (_, .inl (_, (_, some _))) => match xx_nrm cs ix with
    | .inr (.inl q) => match xx_iv cs (.inr (.inl q)) with
      | some r => match r.2 - r.1 with
        | .ofNat n => match Nat.ble n 16 with
          | true => some (.inr (.inl q), (r.1, n + 1))
          | false => none
        | .negSucc _ => none
      | none => none
    | _ => none
  | _ => none
def xx_all (f : xx_O → xx_A) : List xx_O → xx_A
  | [] => some []
  | o :: os => match os with
    | [] => f o
    | _ :: _ => xx_cat2 (f o) (xx_all f os)
def xx_args : Nat → List xx_V → (xx_L → xx_A) → xx_A
  | _, [], k => k []
  | i, v :: vs, k => xx_fN (i + xx_cat v) (fun j => xx_args j vs (fun l => k ((i, v) :: l)))
/-- a state says no more than another one: every interval, cell, local of the other is there -/
def xx_eqV (a b : xx_V) : Bool := match a with
  | .inl m => match b with
    | .inl n => xx_eqI m n
    | _ => false
  | .inr (.inl p) => match b with
    | .inr (.inl q) => Nat.beq p.1 q.1 && xx_eqI p.2 q.2
    | _ => false
  | .inr (.inr (.inl none)) => match b with
    | .inr (.inr (.inl none)) => true
    | _ => false
  | .inr (.inr (.inl (some i))) => match b with
    | .inr (.inr (.inl (some j))) => Nat.beq i j
    | _ => false
  | .inr (.inr (.inr m)) => match b with
    | .inr (.inr (.inr n)) => xx_eqI m n
    | _ => false
def xx_eqVs : List xx_V → List xx_V → Bool
  | [], [] => true
  | a :: s, b :: t => xx_eqV a b && xx_eqVs s t
  | _, _ => false
def xx_eqE (a b : xx_E) : Bool := match a with
  | .inl p => match b with
    | .inl q => Nat.beq p.1 q.1 && (Nat.beq p.2.1 q.2.1 && (match p.2.2 with
      | some s => match q.2.2 with
        | some t => xx_eqVs s t
        | none => false
      | none => match q.2.2 with
        | some _ => false
        | none => true))
    | .inr _ => false
  | .inr p => match b with
    | .inr q => Nat.beq p.1 q.1 && xx_eqVs p.2 q.2
    | .inl _ => false
def xx_subC : xx_C → xx_C → Bool
  | _, [] => true
  | r :: cs, q :: ds => xx_le q.1 r.1 && (xx_le r.2 q.2 && xx_subC cs ds)
  | [], _ :: _ => false
def xx_subW (w : xx_W) : xx_W → Bool
  | [] => true
  | q :: qs => (match xx_fnd w q.1 0 with
    | some (_, e) => xx_eqE e q.2
    | none => false) && xx_subW w qs
def xx_subL (l : xx_L) : xx_L → Bool
  | [] => true
  | q :: qs => (match xx_get l q.1 with
    | some v => xx_eqV v q.2
    | none => false) && xx_subL l qs
/-- keys once only -/
def xx_ndk : xx_W → Bool
  | [] => true
  | q :: qs => qs.all (fun z => !(Nat.beq z.1 q.1)) && xx_ndk qs
def xx_imp (cs : xx_C) (w : xx_W) (nk nc ns : Nat) (ls : xx_L) (st : List xx_V) (Z : xx_S) : Bool := xx_subC cs Z.1 && (xx_subW w Z.2.1 && (Nat.beq nk Z.2.2.1 && (Nat.ble nc Z.2.2.2.1 && (Nat.ble ns Z.2.2.2.2.1 && (xx_subL ls Z.2.2.2.2.2.1 && xx_eqVs st Z.2.2.2.2.2.2)))))
def xx_cut (cs : xx_C) (w : xx_W) (nk nc ns : Nat) (ls : xx_L) (st : List xx_V) (pc : Nat) : xx_T → Bool
  | [] => false
  | q :: qs => match Nat.beq q.1 pc && xx_imp cs w nk nc ns ls st q.2 with
    | true => true
    | false => xx_cut cs w nk nc ns ls st pc qs
abbrev xx_R : Type := xx_M → Nat → xx_T → Nat → List xx_I → xx_G
abbrev xx_K : Type := xx_R → List xx_M → xx_M → Nat → xx_T → List Nat → Nat → xx_I → List xx_I → xx_G
def xx_from (t : Nat) : List xx_I → List xx_I
  | [] => []
  | e :: es => match Nat.beq e.1 t with
    | true => e :: es
    | false => xx_from t es
def xx_to (rec : xx_R) (M : xx_M) (scr : Nat) (ct : xx_T) (t : Int) : xx_G := fun cs w nk nc ns ls st => match t with
  | .ofNat n => xx_fN n (fun n => rec M scr ct n (xx_from n M.2.2.2.2.2) cs w nk nc ns ls st)
  | .negSucc _ => none
def xx_nx (rec : xx_R) (M : xx_M) (scr : Nat) (ct : xx_T) (pc : Nat) (tl : List xx_I) : xx_G := fun cs w nk nc ns ls st => xx_fN pc (fun pc => rec M scr ct pc tl cs w nk nc ns ls st)
def xx_kgoto (off : Int) : xx_K := fun rec _ M scr ct _ pc _ _ => xx_to rec M scr ct ((pc : Int) + off)
def xx_kif (c : xx_B) (off : Int) : xx_K := fun rec _ M scr ct _ pc _ tl cs w nk nc ns ls st => match st with
  | a :: rest => xx_br cs c a (.inl 0) (fun cs => xx_to rec M scr ct ((pc : Int) + off) cs w nk nc ns ls rest) (fun cs => xx_nx rec M scr ct (pc + 3) tl cs w nk nc ns ls rest)
  | [] => none
def xx_kicmp (c : xx_B) (off : Int) : xx_K := fun rec _ M scr ct _ pc _ tl cs w nk nc ns ls st => match st with
  | b :: a :: rest => xx_br cs c a b (fun cs => xx_to rec M scr ct ((pc : Int) + off) cs w nk nc ns ls rest) (fun cs => xx_nx rec M scr ct (pc + 3) tl cs w nk nc ns ls rest)
  | _ => none
def xx_ktab (d lo hi : Int) (offs : Array Int) : xx_K := fun rec _ M scr ct _ pc _ _ cs w nk nc ns ls st => match st with
  | v0 :: rest => match xx_iv cs (xx_nrm cs v0) with
    | some r => match xx_srt (xx_prs offs.toList lo) xx_lo && xx_eqI hi (lo + (offs.toList.length : Int) - 1) with
      | true => xx_sw cs (xx_nrm cs v0) r d (fun cs t => xx_to rec M scr ct ((pc : Int) + t) cs w nk nc ns ls rest) (xx_prs offs.toList lo) xx_lo
      | false => none
    | none => none
  | [] => none
def xx_klook (d : Int) (ps : Array (Int × Int)) : xx_K := fun rec _ M scr ct _ pc _ _ cs w nk nc ns ls st => match st with
  | v0 :: rest => match xx_iv cs (xx_nrm cs v0) with
    | some r => match xx_srt ps.toList xx_lo with
      | true => xx_sw cs (xx_nrm cs v0) r d (fun cs t => xx_to rec M scr ct ((pc : Int) + t) cs w nk nc ns ls rest) ps.toList xx_lo
      | false => none
    | none => none
  | [] => none
def xx_room (M : xx_M) (nc ns : Nat) : Bool := Nat.ble nc M.2.2.2.2.1.2.2.1 && Nat.ble ns M.2.2.2.2.1.2.2.2
def xx_rI (t : Option FieldType) (r : Int × Int) : Bool := match t with
  | some .int => true
  | some .boolean => xx_le 0 r.1 && xx_le r.2 1
  | _ => false
def xx_rL (t : Option FieldType) : Bool := match t with
  | some .long => true
  | _ => false
def xx_rV (t : Option FieldType) : Bool := match t with
  | none => true
  | some _ => false
def xx_kiret : xx_K := fun _ _ M _ _ _ _ _ _ cs w nk nc ns _ st => match st with
  | [v] => match xx_iv cs v with
    | some r => match xx_room M nc ns && xx_rI M.2.2.2.1 r with
      | true => xx_fV (xx_nrm cs v) (fun v => some [(cs, (w, (nk, some v)))])
      | false => none
    | none => none
  | _ => none
def xx_klret : xx_K := fun _ _ M _ _ _ _ _ _ cs w nk nc ns _ st => match st with
  | [.inr (.inr (.inr x))] => match xx_room M nc ns && xx_rL M.2.2.2.1 with
    | true => some [(cs, (w, (nk, some (.inr (.inr (.inr x))))))]
    | false => none
  | _ => none
def xx_kvret : xx_K := fun _ _ M _ _ _ _ _ _ cs w nk nc ns _ st => match st with
  | [] => match xx_room M nc ns && xx_rV M.2.2.2.1 with
    | true => some [(cs, (w, (nk, none)))]
    | false => none
  | _ => none
def xx_fits (M M' : xx_M) (nc ns : Nat) (args rest : List xx_V) : Bool := Nat.ble (M'.2.2.2.2.1.1 + 1) M.2.2.2.2.1.1 && (Nat.ble (8 + (M'.2.2.1 + 11) + M'.2.2.2.2.1.2.1) M.2.2.2.2.1.2.1 && (Nat.ble (nc + M'.2.2.2.2.1.2.2.1) M.2.2.2.2.1.2.2.1 && (Nat.ble (ns + M'.2.2.2.2.1.2.2.2) M.2.2.2.2.1.2.2.2 && (Nat.ble (xx_sum rest) 8 && Nat.ble (xx_sum args) M'.2.2.1))))
def xx_back (nx : xx_G) (nc ns : Nat) (ls : xx_L) (rest : List xx_V) (o : xx_O) : xx_A := match o with
  | (cs, (w, (nk, some v))) => nx cs w nk nc ns ls (v :: rest)
  | (cs, (w, (nk, none))) => nx cs w nk nc ns ls rest
def xx_callee (rec : xx_R) (M M' : xx_M) (scr : Nat) (ct : xx_T) (args rest : List xx_V) (pc : Nat) (tl : List xx_I) : xx_C → xx_W → Nat → Nat → Nat → xx_L → xx_A := fun cs w nk nc ns ls =>
  match xx_fits M M' nc ns args rest with
  | true => match xx_args 0 args (fun l => rec M' 0 [] 0 M'.2.2.2.2.2 cs w nk 0 0 l []) with
    | some outs => xx_fN (nc + M'.2.2.2.2.1.2.2.1) (fun nc => xx_fN (ns + M'.2.2.2.2.1.2.2.2) (fun ns => xx_all (xx_back (xx_nx rec M scr ct (pc + 3) tl) nc ns ls rest) outs))
    | none => none
  | false => none
/-- the first n of the stack, the last pushed one last; and the rest -/
def xx_pop : Nat → List xx_V → List xx_V → Option (List xx_V × List xx_V)
  | 0, a, st => some (a, st)
  | n + 1, a, v :: st => xx_pop n (v :: a) st
  | _ + 1, _, [] => none
/-- Model.layKnowledge() where nobody is there: three arrays are written, of which nothing is known -/
def xx_hav (w : xx_W) (v : Option xx_V) : Bool := match v with
  | some (.inr (.inr (.inl (some i)))) => match xx_fnd w i 0 with
    | some (_, .inl (0, (384, none))) => true
    | _ => false
  | _ => false
def xx_nul (w : xx_W) (v : Option xx_V) : Bool := match v with
  | some (.inr (.inr (.inl (some i)))) => match xx_fnd w i 0 with
    | some (_, .inl (0, (2, some (.inl (.ofNat 0) :: _)))) => true
    | _ => false
  | _ => false
def xx_lk (w : xx_W) (o : Nat) : Bool := match xx_fnd w o 0 with
  | some (_, .inr (7, fs)) => match (fs[29]? : Option xx_V) with
    | some (.inl (.ofNat 0)) => xx_hav w (fs[40]? : Option xx_V) && (xx_hav w (fs[41]? : Option xx_V) && (xx_hav w (fs[42]? : Option xx_V) && xx_nul w (fs[11]? : Option xx_V)))
    | _ => false
  | _ => false
def xx_kvirt : xx_K := fun rec T M scr ct ops pc _ tl cs w nk nc ns ls st => match ops with
  | 0 :: t :: n :: ci :: _ => match T[t]? with
    | some M' => match xx_pop n [] st with
      | some (args, .inr (.inr (.inl (some o))) :: rest) => match xx_fnd w o 0 with
        | some (_, .inr (cj, _)) => match Nat.beq cj ci with
          | true => xx_callee rec M M' scr ct (.inr (.inr (.inl (some o))) :: args) rest pc tl cs w nk nc ns ls
          | false => none
        | _ => none
      | _ => none
    | none => none
  | 5 :: _ => match st with
    | .inr (.inr (.inl (some o))) :: rest => match xx_lk w o && (Nat.ble 4 M.2.2.2.2.1.1 && (Nat.ble 100 M.2.2.2.2.1.2.1 && (Nat.ble (xx_sum rest) 8 && xx_room M nc ns))) with
      | true => xx_nx rec M scr ct (pc + 3) tl cs w nk nc ns ls rest
      | false => none
    | _ => none
  | _ => none
def xx_kspec : xx_K := fun rec T M scr ct ops pc e tl cs w nk nc ns ls st => match ops with
  | 0 :: t :: n :: _ => match T[t]? with
    | some M' => match xx_pop n [] st with
      | some (args, .inr (.inr (.inl (some o))) :: rest) => xx_callee rec M M' scr ct (.inr (.inr (.inl (some o))) :: args) rest pc tl cs w nk nc ns ls
      | _ => none
    | none => none
  | 8 :: _ => xx_hobj M scr ops cs w nk nc ns ls st (xx_nx rec M scr ct (pc + e.2.2.1) tl)
  | _ => none
def xx_kstat : xx_K := fun rec T M scr ct ops pc e tl cs w nk nc ns ls st => match ops with
  | 0 :: t :: n :: _ => match T[t]? with
    | some M' => match xx_pop n [] st with
      | some (args, rest) => xx_callee rec M M' scr ct args rest pc tl cs w nk nc ns ls
      | none => none
    | none => none
  | 9 :: _ => xx_hcopy M scr ops cs w nk nc ns ls st (xx_nx rec M scr ct (pc + e.2.2.1) tl)
  | _ => none
def xx_pick (b : Bool) (cs : xx_C) (w : xx_W) (st : List xx_V) : Option (xx_V × (Int × Nat)) := match b with
  | false => match st with
    | ix :: .inr (.inr (.inl (some i))) :: _ => xx_spl cs w ix i
    | _ => none
  | true => match st with
    | _ :: ix :: .inr (.inr (.inl (some i))) :: _ => xx_spl cs w ix i
    | _ => none
/-- an array's row: first one way a number, where the index is a symbol and the contents are known -/
def xx_karr (h : xx_H) (b : Bool) : xx_K := fun rec _ M scr ct ops pc e tl cs w nk nc ns ls st =>
  match xx_pick b cs w st with
  | some (v, (lo, n)) => xx_upto cs v (fun cs => rec M scr ct pc (e :: tl) cs w nk nc ns ls st) lo n
  | none => h M scr ops cs w nk nc ns ls st (xx_nx rec M scr ct (pc + e.2.2.1) tl)
def xx_none : xx_H := fun _ _ _ _ _ _ _ _ _ _ _ => none
def xx_newt (t : ArrayType) : xx_H := match t with
  | .int => xx_hnewa 0 (.inl 0)
  | .byte => xx_hnewa 1 (.inl 0)
  | .boolean => xx_hnewa 2 (.inl 0)
  | .long => xx_hnewa 3 (.inr (.inr (.inr 0)))
  | _ => xx_none
def xx_disp (i : Instr) : xx_H ⊕ xx_K := match i with
  | .iconst n => .inl (xx_hpush (.inl n))
  | .bipush n => .inl (xx_hpush (.inl n))
  | .sipush n => .inl (xx_hpush (.inl n))
  | .ldc _ => .inl xx_hldc
  | .ldc_w _ => .inl xx_hldc
  | .ldc2_w _ => .inl xx_hldc2
  | .lconst n => .inl (xx_hpush (.inr (.inr (.inr (n.val : Int)))))
  | .iload_n n => .inl (xx_hload xx_isI n.val)
  | .iload n => .inl (xx_hload xx_isI n)
  | .lload_n n => .inl (xx_hload xx_isL n.val)
  | .lload n => .inl (xx_hload xx_isL n)
  | .aload_n n => .inl (xx_hload xx_isO n.val)
  | .aload n => .inl (xx_hload xx_isO n)
  | .istore_n n => .inl (xx_hst1 xx_isI n.val)
  | .istore n => .inl (xx_hst1 xx_isI n)
  | .lstore_n n => .inl (xx_hst2 n.val)
  | .lstore n => .inl (xx_hst2 n)
  | .astore_n n => .inl (xx_hst1 xx_isO n.val)
  | .iinc j n => .inl (xx_hinc j n)
  | .iadd => .inl (xx_h2 (fun m n => m + n) xx_yadd true false)
  | .isub => .inl (xx_h2 (fun m n => m - n) xx_ysub false false)
  | .imul => .inl (xx_h2 (fun m n => m * n) xx_yf false false)
  | .iand => .inl (xx_h2 (xx_kf (fun x y => x &&& y)) xx_yand false false)
  | .ior => .inl (xx_h2 (xx_kf (fun x y => x ||| y)) xx_yf false false)
  | .ixor => .inl (xx_h2 (xx_kf (fun x y => x ^^^ y)) xx_yf false false)
  | .ishl => .inl (xx_h2 (xx_kf (fun x y => x <<< (y &&& 31))) xx_yf false false)
  | .ishr => .inl (xx_h2 (xx_kf (fun x y => x >>> (y &&& 31))) xx_yf false false)
  | .iushr => .inl (xx_h2 (xx_kf (fun x y => (x.toUInt32 >>> (y.toUInt32 &&& Int32.toUInt32 31)).toInt32)) xx_yf false false)
  | .idiv => .inl (xx_h2 (xx_kf (fun x y => x / y)) xx_yf false true)
  | .irem => .inl (xx_h2 (xx_kf (fun x y => x - x / y * y)) xx_yf false true)
  | .ineg => .inl (xx_h1 (fun x => -x) xx_full)
  | .i2b => .inl (xx_h1 (fun x => x.toInt8.toInt32) (-128, 127))
  | .ladd => .inl (xx_hl2 (fun m n => m + n))
  | .lsub => .inl (xx_hl2 (fun m n => m - n))
  | .land => .inl (xx_hl2 (xx_klf (fun x y => x &&& y)))
  | .lor => .inl (xx_hl2 (xx_klf (fun x y => x ||| y)))
  | .lxor => .inl (xx_hl2 (xx_klf (fun x y => x ^^^ y)))
  | .lshl => .inl (xx_hlsh (fun x y => x <<< (y.toInt64 &&& 63)))
  | .lushr => .inl (xx_hlsh (fun x y => (x.toUInt64 >>> (y.toInt64.toUInt64 &&& Int64.toUInt64 63)).toInt64))
  | .lshr => .inl (xx_hlsh (fun x y => x >>> (y.toInt64 &&& 63)))
  | .lcmp => .inl xx_hlcmp
  | .i2l => .inl xx_hi2l
  | .l2i => .inl xx_hl2i
  | .dup => .inl xx_hdup
  | .dup2 => .inl xx_hdup2
  | .pop => .inl xx_hpop
  | .getfield _ => .inl xx_hgetf
  | .putfield _ => .inl xx_hputf
  | .iaload => .inr (xx_karr xx_hiald false)
  | .baload => .inr (xx_karr xx_hbald false)
  | .laload => .inl (xx_hald 3)
  | .aaload => .inr (xx_karr (xx_hald 4) false)
  | .iastore => .inr (xx_karr (xx_hast 0) true)
  | .bastore => .inr (xx_karr xx_hbast true)
  | .lastore => .inl (xx_hast 3)
  | .aastore => .inl xx_haast
  | .arraylength => .inl xx_hlen
  | .new _ => .inl xx_hnew
  | .newarray t => .inl (xx_newt t)
  | .anewarray _ => .inl (xx_hnewa 4 (.inr (.inr (.inl none))))
  | .goto off => .inr (xx_kgoto off)
  | .ifCond c off => .inr (xx_kif c off)
  | .if_icmp c off => .inr (xx_kicmp c off)
  | .tableswitch d lo hi offs => .inr (xx_ktab d lo hi offs)
  | .lookupswitch d ps => .inr (xx_klook d ps)
  | .ireturn => .inr xx_kiret
  | .lreturn => .inr xx_klret
  | .return_ => .inr xx_kvret
  | .invokevirtual _ => .inr xx_kvirt
  | .invokespecial _ => .inr xx_kspec
  | .invokestatic _ => .inr xx_kstat
  | _ => .inl xx_none
def xx_go (rec : xx_R) (T : List xx_M) (M : xx_M) (scr : Nat) (ct : xx_T) (ops : List Nat) (pc : Nat) (e : xx_I) (tl : List xx_I) : xx_G := fun cs w nk nc ns ls st =>
  match xx_disp e.2.1 with
  | .inl h => h M scr ops cs w nk nc ns ls st (xx_nx rec M scr ct (pc + e.2.2.1) tl)
  | .inr k => k rec T M scr ct ops pc e tl cs w nk nc ns ls st
def xx_row (rec : xx_R) (T : List xx_M) (M : xx_M) (scr : Nat) (ct : xx_T) (pc : Nat) (cur : List xx_I) : xx_G := fun cs w nk nc ns ls st => match cur with
  | [] => none
  | e :: tl => match Nat.beq e.1 pc with
    | false => none
    | true => match e.2.2.2 with
      | 77 :: ops => match xx_cut cs w nk nc ns ls st pc ct with
        | true => some []
        | false => xx_go rec T M scr ct ops pc e tl cs w nk nc ns ls st
      | ops => xx_go rec T M scr ct ops pc e tl cs w nk nc ns ls st
def xx_exec (T : List xx_M) (n : Nat) : xx_R := match n with
  | 0 => fun _ _ _ _ _ _ _ _ _ _ _ _ => none
  | n + 1 => fun M scr ct pc cur cs w nk nc ns ls st => xx_row (xx_exec T n) T M scr ct pc cur cs w nk nc ns ls st
