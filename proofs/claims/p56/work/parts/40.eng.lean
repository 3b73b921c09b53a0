/-! AN ENGINE over the plain machine: methods walked over values of which only bounds are known; all its ways must end well (true). -/
/-- a value: a known int; a symbol plus a number; a cell; a known long; a long symbol -/
abbrev zz_V : Type := Int ⊕ ((Nat × Int) ⊕ (Nat ⊕ (Int ⊕ Nat)))
/-- what a symbol is made of -/
abbrev zz_F : Type := Nat × (zz_V × zz_V)
/-- a symbol: least, greatest; at least another symbol and a number; what it is made of -/
abbrev zz_Y : Type := Int × (Int × (Option (Nat × Int) × Option zz_F))
abbrev zz_C : Type := List zz_Y
/-- what cells hold: cell, place, value -/
abbrev zz_A : Type := List (Nat × (zz_V × zz_V))
/-- facts -/
abbrev zz_B : Type := List (Nat × List zz_V)
abbrev zz_L : Type := List (Nat × zz_V)
abbrev zz_Z : Type := zz_C × (Nat × (zz_A × (zz_B × (zz_L × List zz_V))))
/-- places: cell, from, to -/
abbrev zz_D : Type := List (Nat × (Int × Int))
abbrev zz_G : Type := zz_C → Nat → zz_A → zz_B → zz_L → List zz_V → Bool
/-- a contract: method, depth, start, ends, what is written -/
abbrev zz_K : Type := Nat × (Nat × (zz_Z × (List zz_Z × zz_D)))
/-- all that stands fast: methods; cells; bounds of places; what facts rest on; contracts; which ones to try for a method; entailments -/
abbrev zz_E : Type := List xx_M × (List yy_D × ((Nat → Nat → Int × Int) × ((Nat → zz_D) × (List zz_K × ((Nat → List Nat) × (Nat → Option (zz_Z × List zz_Z)))))))
def zz_fV {β : Type} (v : zz_V) (k : zz_V → β) : β := match v with
  | .inl c => xx_fI c (fun c => k (.inl c))
  | .inr (.inl (n, d)) => xx_fN n (fun n => xx_fI d (fun d => k (.inr (.inl (n, d)))))
  | .inr (.inr (.inl i)) => xx_fN i (fun i => k (.inr (.inr (.inl i))))
  | .inr (.inr (.inr (.inl c))) => xx_fI c (fun c => k (.inr (.inr (.inr (.inl c)))))
  | .inr (.inr (.inr (.inr i))) => xx_fN i (fun i => k (.inr (.inr (.inr (.inr i)))))
def zz_iv (cs : zz_C) (v : zz_V) : Option (Int × Int) := match v with
  | .inl c => match xx_le xx_lo c && xx_le c xx_hi with
    | true => some (c, c)
    | false => none
  | .inr (.inl (q, d)) => match cs[q]? with
    | some (lo, (hi, _)) => match xx_le xx_lo (lo + d) && xx_le (hi + d) xx_hi with
      | true => some (lo + d, hi + d)
      | false => none
    | none => none
  | .inr (.inr _) => none
def zz_isI (v : zz_V) : Bool := match v with
  | .inl _ => true
  | .inr (.inl _) => true
  | .inr (.inr _) => false
def zz_isL (v : zz_V) : Bool := match v with
  | .inr (.inr (.inr _)) => true
  | _ => false
/-- bounds of an int, at worst all -/
def zz_ivf (cs : zz_C) (v : zz_V) : Int × Int := match zz_iv cs v with
  | some r => r
  | none => xx_full
def zz_nrm (cs : zz_C) (v : zz_V) : zz_V := match v with
  | .inr (.inl q) => match zz_iv cs (.inr (.inl q)) with
    | some (a, b) => match xx_eqI a b with
      | true => .inl a
      | false => .inr (.inl q)
    | none => .inr (.inl q)
  | v => v
def zz_eqV (a b : zz_V) : Bool := match a with
  | .inl m => match b with
    | .inl n => xx_eqI m n
    | _ => false
  | .inr (.inl (p, d)) => match b with
    | .inr (.inl (q, e)) => Nat.beq p q && xx_eqI d e
    | _ => false
  | .inr (.inr (.inl i)) => match b with
    | .inr (.inr (.inl j)) => Nat.beq i j
    | _ => false
  | .inr (.inr (.inr (.inl m))) => match b with
    | .inr (.inr (.inr (.inl n))) => xx_eqI m n
    | _ => false
  | .inr (.inr (.inr (.inr i))) => match b with
    | .inr (.inr (.inr (.inr j))) => Nat.beq i j
    | _ => false
/-- alike, as far as bounds tell -/
def zz_sm (cs : zz_C) (a b : zz_V) : Bool := zz_eqV a b || zz_eqV (zz_nrm cs a) (zz_nrm cs b)
def zz_sms (cs : zz_C) : List zz_V → List zz_V → Bool
  | [], [] => true
  | a :: s, b :: t => zz_sm cs a b && zz_sms cs s t
  | _, _ => false
/-- symbol s plus d is at least symbol q plus e -/
def zz_ge (cs : zz_C) : Nat → Nat → Int → Nat → Int → Bool
  | 0, _, _, _, _ => false
  | f + 1, s, d, q, e => match Nat.beq s q && xx_le e d with
    | true => true
    | false => match cs[s]? with
      | some (lo, (_, (lk, _))) => match cs[q]? with
        | some (_, (hi, _)) => match xx_le (hi + e) (lo + d) with
          | true => true
          | false => match lk with
            | some (t, c) => zz_ge cs f t (c + d) q e
            | none => false
        | none => false
      | none => false
/-- a is at least b and c -/
def zz_geV (cs : zz_C) (a b : zz_V) (c : Int) : Bool := match zz_iv cs a with
  | some ra => match zz_iv cs b with
    | some rb => match xx_le (rb.2 + c) ra.1 with
      | true => true
      | false => match a with
        | .inr (.inl (s, d)) => match b with
          | .inr (.inl (q, e)) => zz_ge cs 12 s d q (e + c)
          | _ => false
        | _ => false
    | none => false
  | none => false
def zz_get (ls : zz_L) (i : Nat) : Option zz_V := match ls with
  | [] => none
  | q :: qs => match Nat.beq q.1 i with
    | true => some q.2
    | false => zz_get qs i
/-- without a key -/
def zz_wo {β : Type} (ls : zz_L) (i : Nat) (k : zz_L → β) : β := match ls with
  | [] => k []
  | q :: qs => match Nat.beq q.1 i with
    | true => zz_wo qs i k
    | false => zz_wo qs i (fun ys => k (q :: ys))
/-- a store at i takes a long before it away -/
def zz_wl {β : Type} (ls : zz_L) (i : Nat) (k : zz_L → β) : β := match i with
  | 0 => k ls
  | j + 1 => match zz_get ls j with
    | some v => match zz_isL v with
      | true => zz_wo ls j k
      | false => k ls
    | none => k ls
abbrev zz_H : Type := zz_E → xx_M → List Nat → zz_D → Bool → zz_C → Nat → zz_A → zz_B → zz_L → List zz_V → zz_G → Bool
def zz_new {β : Type} (cs : zz_C) (r : zz_Y) (k : zz_C → zz_V → β) : β := xx_len cs 0 (fun n => xx_app cs r (fun ds => k ds (.inr (.inl (n, 0)))))
def zz_full : zz_Y := (xx_lo, (xx_hi, (none, none)))
def zz_yy {β : Type} (a b : Int) (d : Option zz_F) (k : zz_Y → β) : β := xx_fI a (fun a => xx_fI b (fun b => k (a, (b, (none, d)))))
abbrev zz_N : Type := zz_V ⊕ (Int × (Int × Option zz_F))
def zz_fd (cs : zz_C) (f : zz_F) (n : Nat) : Option Nat := match cs with
  | [] => none
  | (_, (_, (_, some g))) :: r => match Nat.beq g.1 f.1 && (zz_eqV g.2.1 f.2.1 && zz_eqV g.2.2 f.2.2) with
    | true => some n
    | false => zz_fd r f (Nat.succ n)
  | _ :: r => zz_fd r f (Nat.succ n)
/-- a result: known, or a symbol (an old one, if one is made of the same) -/
def zz_res (cs : zz_C) (r : zz_N) (k : zz_C → zz_V → Bool) : Bool := match r with
  | .inl v => zz_fV v (fun v => k cs v)
  | .inr (a, (b, none)) => zz_yy a b none (fun y => zz_new cs y k)
  | .inr (a, (b, some f)) => match zz_fd cs f 0 with
    | some n => xx_fN n (fun n => k cs (.inr (.inl (n, 0))))
    | none => zz_yy a b (some f) (fun y => zz_new cs y k)
def zz_min (a b : Int) : Int := match xx_le a b with
  | true => a
  | false => b
def zz_max (a b : Int) : Int := match xx_le a b with
  | true => b
  | false => a
def zz_rng (a b : Int) : Int × Int := match xx_le xx_lo a && xx_le b xx_hi with
  | true => (a, b)
  | false => xx_full
def zz_tadd (a b : Int × Int) : Int × Int := zz_rng (a.1 + b.1) (a.2 + b.2)
def zz_tsub (a b : Int × Int) : Int × Int := zz_rng (a.1 - b.2) (a.2 - b.1)
def zz_tmul (a b : Int × Int) : Int × Int := match xx_le 0 a.1 && xx_le 0 b.1 with
  | true => zz_rng (a.1 * b.1) (a.2 * b.2)
  | false => xx_full
def zz_tand (a b : Int × Int) : Int × Int := match xx_le 0 a.1 with
  | true => match xx_le 0 b.1 with
    | true => (0, zz_min a.2 b.2)
    | false => (0, a.2)
  | false => match xx_le 0 b.1 with
    | true => (0, b.2)
    | false => xx_full
def zz_tor (a b : Int × Int) : Int × Int := match xx_le 0 a.1 && (xx_le 0 b.1 && (xx_le a.2 63 && xx_le b.2 63)) with
  | true => (0, 63)
  | false => xx_full
def zz_tdiv (a b : Int × Int) : Int × Int := match xx_le 0 a.1 && xx_le 1 b.1 with
  | true => (0, a.2)
  | false => xx_full
def zz_trem (a b : Int × Int) : Int × Int := match xx_le 0 a.1 && xx_le 1 b.1 with
  | true => (0, zz_min a.2 (b.2 - 1))
  | false => xx_full
def zz_tno (_ _ : Int × Int) : Int × Int := xx_full
/-- least and greatest of g over n numbers from lo on -/
def zz_enu (g : Int → Int) : Nat → Int → Int → Int → Int × Int
  | 0, _, a, b => (a, b)
  | n + 1, lo, a, b => xx_fI (g lo) (fun v => xx_fI (zz_min a v) (fun a => xx_fI (zz_max b v) (fun b => xx_fI (lo + 1) (fun lo => zz_enu g n lo a b))))
def zz_sml (r : Int × Int) : Option Nat := match r.2 - r.1 with
  | .ofNat n => match Nat.ble n 63 with
    | true => some n
    | false => none
  | .negSucc _ => none
/-- one operand small: all its numbers are tried -/
def zz_try (cs : zz_C) (g : Int → Int) (v : zz_V) : Option (Int × Int) := match zz_iv cs v with
  | some r => match zz_sml r with
    | some n => some (zz_enu g n (r.1 + 1) (g r.1) (g r.1))
    | none => none
  | none => none
/-- a new symbol, with what it is made of -/
def zz_od (o : Option Nat) (r : Int × Int) (a b : zz_V) : Option zz_N := match o with
  | some k => some (.inr (r.1, (r.2, some (k, (a, b)))))
  | none => some (.inr (r.1, (r.2, none)))
/-- what is found of an int operation: f the machine's, tr over bounds, s (1: a sum, 2: a difference), e (all numbers of a small operand are tried), o (its number as what a symbol is made of) -/
def zz_b2 (f : Int32 → Int32 → Int32) (tr : Int × Int → Int × Int → Int × Int) (s : Nat) (e : Bool) (o : Option Nat) (cs : zz_C) (a b : zz_V) : Option zz_N := match a with
  | .inl m => match b with
    | .inl n => some (.inl (.inl (f (Int32.ofInt m) (Int32.ofInt n)).toInt))
    | .inr (.inl (q, d)) => match s with
      | 1 => some (.inl (.inr (.inl (q, d + m))))
      | _ => match e with
        | true => match zz_try cs (fun x => (f (Int32.ofInt m) (Int32.ofInt x)).toInt) (.inr (.inl (q, d))) with
          | some r => zz_od o r (.inl m) (.inr (.inl (q, d)))
          | none => zz_od o (tr (zz_ivf cs (.inl m)) (zz_ivf cs (.inr (.inl (q, d))))) (.inl m) (.inr (.inl (q, d)))
        | false => zz_od o (tr (zz_ivf cs (.inl m)) (zz_ivf cs (.inr (.inl (q, d))))) (.inl m) (.inr (.inl (q, d)))
    | .inr (.inr _) => none
  | .inr (.inl (q, d)) => match b with
    | .inl n => match s with
      | 1 => some (.inl (.inr (.inl (q, d + n))))
      | 2 => some (.inl (.inr (.inl (q, d - n))))
      | _ => match e with
        | true => match zz_try cs (fun x => (f (Int32.ofInt x) (Int32.ofInt n)).toInt) (.inr (.inl (q, d))) with
          | some r => zz_od o r (.inr (.inl (q, d))) (.inl n)
          | none => zz_od o (tr (zz_ivf cs (.inr (.inl (q, d)))) (zz_ivf cs (.inl n))) (.inr (.inl (q, d))) (.inl n)
        | false => zz_od o (tr (zz_ivf cs (.inr (.inl (q, d)))) (zz_ivf cs (.inl n))) (.inr (.inl (q, d))) (.inl n)
    | .inr (.inl (q', d')) => zz_od o (tr (zz_ivf cs (.inr (.inl (q, d)))) (zz_ivf cs (.inr (.inl (q', d'))))) (.inr (.inl (q, d))) (.inr (.inl (q', d')))
    | .inr (.inr _) => none
  | .inr (.inr _) => none
def zz_nz (cs : zz_C) (v : zz_V) : Bool := match zz_iv cs v with
  | some r => xx_le 1 r.1 || xx_le r.2 (-1)
  | none => false
def zz_h2 (f : Int32 → Int32 → Int32) (tr : Int × Int → Int × Int → Int × Int) (s : Nat) (e : Bool) (o : Option Nat) (z : Bool) : zz_H := fun _ _ _ _ _ cs nL ca fl ls st k => match st with
  | b :: a :: rest => match !z || zz_nz cs b with
    | true => match zz_b2 f tr s e o cs (zz_nrm cs a) (zz_nrm cs b) with
      | some r => zz_res cs r (fun cs v => k cs nL ca fl ls (v :: rest))
      | none => false
    | false => false
  | _ => false
def zz_h1 (f : Int32 → Int32) (r : Int × Int) : zz_H := fun _ _ _ _ _ cs nL ca fl ls st k => match st with
  | a :: rest => match zz_nrm cs a with
    | .inl c => xx_fI (f (Int32.ofInt c)).toInt (fun c => k cs nL ca fl ls (.inl c :: rest))
    | .inr (.inl _) => zz_res cs (.inr (r.1, (r.2, none))) (fun cs v => k cs nL ca fl ls (v :: rest))
    | .inr (.inr _) => false
  | [] => false
/-- i2c of a number below 65536 -/
def zz_hi2c : zz_H := fun _ _ _ _ _ cs nL ca fl ls st k => match st with
  | a :: rest => match zz_iv cs a with
    | some r => match xx_le 0 r.1 && xx_le r.2 65535 with
      | true => k cs nL ca fl ls (a :: rest)
      | false => false
    | none => false
  | [] => false
def zz_hp (v : zz_V) : zz_H := fun _ _ _ _ _ cs nL ca fl ls st k => zz_fV v (fun v => k cs nL ca fl ls (v :: st))
def zz_hldc : zz_H := fun _ _ ops _ _ cs nL ca fl ls st k => match ops with
  | [_, g, n] => xx_fI (xx_sgn g n) (fun c => k cs nL ca fl ls (.inl c :: st))
  | [_] => k cs nL ca fl ls (.inr (.inr (.inl yy_str)) :: st)
  | _ => false
def zz_hldc2 : zz_H := fun _ _ ops _ _ cs nL ca fl ls st k => match ops with
  | [_, g, n] => xx_fI (xx_sgn g n) (fun c => k cs nL ca fl ls (.inr (.inr (.inr (.inl c))) :: st))
  | _ => false
def zz_isR (v : zz_V) : Bool := match v with
  | .inr (.inr (.inl _)) => true
  | _ => false
def zz_hload (t : zz_V → Bool) (i : Nat) : zz_H := fun _ _ _ _ _ cs nL ca fl ls st k => match zz_get ls i with
  | some v => match t v with
    | true => k cs nL ca fl ls (v :: st)
    | false => false
  | none => false
def zz_hst1 (t : zz_V → Bool) (i : Nat) : zz_H := fun _ M _ _ _ cs nL ca fl ls st k => match st with
  | v :: rest => match t v && Nat.blt i M.2.2.1 with
    | true => zz_wl ls i (fun ls => zz_wo ls i (fun ls => k cs nL ca fl ((i, v) :: ls) rest))
    | false => false
  | [] => false
def zz_hst2 (i : Nat) : zz_H := fun _ M _ _ _ cs nL ca fl ls st k => match st with
  | v :: rest => match zz_isL v && Nat.blt (i + 1) M.2.2.1 with
    | true => zz_wl ls i (fun ls => zz_wo ls i (fun ls => zz_wo ls (i + 1) (fun ls => k cs nL ca fl ((i, v) :: ls) rest)))
    | false => false
  | [] => false
def zz_hinc (j : Nat) (n : Int) : zz_H := fun _ M _ _ _ cs nL ca fl ls st k => match zz_get ls j with
  | some v => match Nat.blt j M.2.2.1 with
    | true => match zz_nrm cs v with
      | .inl c => xx_fI (Int32.ofInt c + Int32.ofInt n).toInt (fun c => zz_wl ls j (fun ls => zz_wo ls j (fun ls => k cs nL ca fl ((j, .inl c) :: ls) st)))
      | .inr (.inl (q, d)) => xx_fI (d + n) (fun d => zz_wl ls j (fun ls => zz_wo ls j (fun ls => k cs nL ca fl ((j, .inr (.inl (q, d))) :: ls) st)))
      | .inr (.inr _) => false
    | false => false
  | none => false
/-- a long that nothing is known of -/
def zz_lng {β : Type} (nL : Nat) (k : Nat → zz_V → β) : β := xx_fN nL (fun n => xx_fN (n + 1) (fun m => k m (.inr (.inr (.inr (.inr n))))))
def zz_hl2 : zz_H := fun _ _ _ _ _ cs nL ca fl ls st k => match st with
  | y :: x :: rest => match zz_isL x && zz_isL y with
    | true => zz_lng nL (fun nL v => k cs nL ca fl ls (v :: rest))
    | false => false
  | _ => false
def zz_hlsh : zz_H := fun _ _ _ _ _ cs nL ca fl ls st k => match st with
  | y :: x :: rest => match zz_isL x && zz_isI y with
    | true => zz_lng nL (fun nL v => k cs nL ca fl ls (v :: rest))
    | false => false
  | _ => false
def zz_hlcmp : zz_H := fun _ _ _ _ _ cs nL ca fl ls st k => match st with
  | y :: x :: rest => match zz_isL x && zz_isL y with
    | true => zz_res cs (.inr (-1, (1, some (1, (x, y))))) (fun cs v => k cs nL ca fl ls (v :: rest))
    | false => false
  | _ => false
def zz_hi2l : zz_H := fun _ _ _ _ _ cs nL ca fl ls st k => match st with
  | x :: rest => match zz_isI x with
    | true => zz_lng nL (fun nL v => k cs nL ca fl ls (v :: rest))
    | false => false
  | _ => false
def zz_hl2i : zz_H := fun _ _ _ _ _ cs nL ca fl ls st k => match st with
  | x :: rest => match zz_isL x with
    | true => zz_res cs (.inr (xx_lo, (xx_hi, none))) (fun cs v => k cs nL ca fl ls (v :: rest))
    | false => false
  | _ => false
def zz_hdup : zz_H := fun _ _ _ _ _ cs nL ca fl ls st k => match st with
  | v :: rest => match zz_isL v with
    | true => false
    | false => k cs nL ca fl ls (v :: v :: rest)
  | [] => false
def zz_hpop : zz_H := fun _ _ _ _ _ cs nL ca fl ls st k => match st with
  | v :: rest => match zz_isL v with
    | true => false
    | false => k cs nL ca fl ls rest
  | [] => false
def zz_hdup2 : zz_H := fun _ _ _ _ _ cs nL ca fl ls st k => match st with
  | v :: u :: rest => match zz_isL v with
    | true => k cs nL ca fl ls (v :: v :: u :: rest)
    | false => match zz_isL u with
      | true => false
      | false => k cs nL ca fl ls (v :: u :: v :: u :: rest)
  | _ => false
/-! cells -/
/-- what a place holds, if that is kept -/
def zz_fnd (cs : zz_C) (ca : zz_A) (key : Nat) (ix : zz_V) : Option zz_V := match ca with
  | [] => none
  | (k, (i, v)) :: r => match Nat.beq k key && zz_sm cs i ix with
    | true => some v
    | false => zz_fnd cs r key ix
/-- an int's place read -/
def zz_rdI (E : zz_E) (cs : zz_C) (ca : zz_A) (key : Nat) (ix : zz_V) (r : Int × Int) (k : zz_C → zz_A → zz_V → Bool) : Bool := match zz_fnd cs ca key ix with
  | some v => match zz_isI v with
    | true => k cs ca v
    | false => false
  | none => zz_yy r.1 r.2 none (fun y => zz_new cs y (fun cs v => k cs ((key, (ix, v)) :: ca) v))
def zz_rdL (cs : zz_C) (nL : Nat) (ca : zz_A) (key : Nat) (ix : zz_V) (k : Nat → zz_A → zz_V → Bool) : Bool := match zz_fnd cs ca key ix with
  | some v => match zz_isL v with
    | true => k nL ca v
    | false => false
  | none => zz_lng nL (fun nL v => k nL ((key, (ix, v)) :: ca) v)
/-- two places of one cell are others -/
def zz_apart (cs : zz_C) (a b : zz_V) : Bool := zz_geV cs a b 1 || zz_geV cs b a 1
/-- what is kept but what may be written over -/
def zz_drop {β : Type} (cs : zz_C) (ca : zz_A) (key : Nat) (ix : zz_V) (k : zz_A → β) : β := match ca with
  | [] => k []
  | (q, (i, v)) :: r => match Nat.beq q key && !(zz_apart cs i ix) with
    | true => zz_drop cs r key ix k
    | false => zz_drop cs r key ix (fun ys => k ((q, (i, v)) :: ys))
/-- places [a, b] of a cell meet one of these -/
def zz_hit (D : zz_D) (key : Nat) (r : Int × Int) : Bool := match D with
  | [] => false
  | (q, (a, b)) :: t => (Nat.beq q key && (xx_le a r.2 && xx_le r.1 b)) || ((Nat.beq q 3000000 && Nat.ble 2000000 key) || zz_hit t key r)
/-- places [a, b] of a cell lie in one of these -/
def zz_may (D : zz_D) (key : Nat) (r : Int × Int) : Bool := match D with
  | [] => false
  | (q, (a, b)) :: t => (Nat.beq q key && (xx_le a r.1 && xx_le r.2 b)) || ((Nat.beq q 3000000 && Nat.ble 2000000 key) || zz_may t key r)
/-- facts that don't rest on what is written -/
def zz_keep {β : Type} (E : zz_E) (fl : zz_B) (key : Nat) (r : Int × Int) (k : zz_B → β) : β := match fl with
  | [] => k []
  | f :: t => match zz_hit (E.2.2.2.1 f.1) key r with
    | true => zz_keep E t key r k
    | false => zz_keep E t key r (fun ys => k (f :: ys))
/-- a place written -/
def zz_wr (E : zz_E) (D : zz_D) (cs : zz_C) (ca : zz_A) (fl : zz_B) (key : Nat) (ix v : zz_V) (k : zz_A → zz_B → Bool) : Bool := match zz_iv cs ix with
  | some r => match zz_may D key r with
    | true => zz_keep E fl key r (fun fl => zz_drop cs ca key ix (fun ca => k ((key, (ix, v)) :: ca) fl))
    | false => false
  | none => false
def zz_has (cs : zz_C) (v : zz_V) : Bool := match v with
  | .inl _ => true
  | .inr (.inl (k, _)) => match cs[k]? with
    | some _ => true
    | none => false
  | .inr (.inr _) => false
def zz_in (cs : zz_C) (v : zz_V) (r : Int × Int) : Bool := match zz_iv cs v with
  | some q => xx_le r.1 q.1 && xx_le q.2 r.2
  | none => xx_le r.1 xx_lo && (xx_le xx_hi r.2 && zz_has cs v)
def zz_hgetf : zz_H := fun E _ ops _ _ cs nL ca fl ls st k => match st with
  | .inr (.inr (.inl key)) :: rest => match ops with
    | [ci, f, _, _] => match E.2.1[key]? with
      | some (.inr (cj, rs)) => match Nat.beq cj ci with
        | true => match xx_ty ci f with
          | .long => zz_rdL cs nL ca key (.inl (f : Int)) (fun nL ca v => k cs nL ca fl ls (v :: rest))
          | .object _ => xx_fN (rs.getD f 0) (fun i => k cs nL ca fl ls (.inr (.inr (.inl i)) :: rest))
          | .array _ => xx_fN (rs.getD f 0) (fun i => k cs nL ca fl ls (.inr (.inr (.inl i)) :: rest))
          | _ => zz_rdI E cs ca key (.inl (f : Int)) (E.2.2.1 key f) (fun cs ca v => k cs nL ca fl ls (v :: rest))
        | false => false
      | _ => false
    | [w, _] => match Nat.beq key yy_str with
      | true => match w with
        | 0 => k cs nL ca fl ls (.inl 0 :: rest)
        | 1 => k cs nL ca fl ls (.inr (.inr (.inl yy_stv)) :: rest)
        | _ => false
      | false => false
    | _ => false
  | _ => false
def zz_hputf : zz_H := fun E _ ops D _ cs nL ca fl ls st k => match st with
  | v :: .inr (.inr (.inl key)) :: rest => match ops with
    | [ci, f, _, _] => match E.2.1[key]? with
      | some (.inr (cj, _)) => match Nat.beq cj ci with
        | true => match xx_ty ci f with
          | .long => match zz_isL v with
            | true => zz_wr E D cs ca fl key (.inl (f : Int)) v (fun ca fl => k cs nL ca fl ls rest)
            | false => false
          | .int => match zz_in cs v (E.2.2.1 key f) with
            | true => zz_wr E D cs ca fl key (.inl (f : Int)) v (fun ca fl => k cs nL ca fl ls rest)
            | false => false
          | .boolean => match zz_in cs v (0, 1) && zz_in cs v (E.2.2.1 key f) with
            | true => zz_wr E D cs ca fl key (.inl (f : Int)) v (fun ca fl => k cs nL ca fl ls rest)
            | false => false
          | _ => false
        | false => false
      | _ => false
    | _ => false
  | _ => false
def zz_hgets : zz_H := fun _ _ ops _ _ cs nL ca fl ls st k => match ops with
  | [0, _, _] => k cs nL ca fl ls (.inr (.inr (.inl yy_kee)) :: st)
  | [1, _, _] => k cs nL ca fl ls (.inl 1 :: st)
  | _ => false
def zz_idx (cs : zz_C) (v : zz_V) (n : Nat) : Bool := zz_in cs v (0, (n : Int) - 1) && Nat.ble 1 n
def zz_hiald : zz_H := fun E _ _ _ sc cs nL ca fl ls st k => match st with
  | ix :: .inr (.inr (.inl key)) :: rest => match Nat.beq key xx_scr with
    | true => match sc && (zz_in cs ix (0, 1000000) && zz_geV cs (.inr (.inl (0, 0))) ix 1) with
      | true => zz_rdI E cs ca key (zz_nrm cs ix) (xx_lo, xx_hi) (fun cs ca v => k cs nL ca fl ls (v :: rest))
      | false => false
    | false => match E.2.1[key]? with
      | some (.inl (0, (n, _))) => match zz_idx cs ix n with
        | true => zz_rdI E cs ca key (zz_nrm cs ix) (E.2.2.1 key 0) (fun cs ca v => k cs nL ca fl ls (v :: rest))
        | false => false
      | _ => false
  | _ => false
def zz_hbald : zz_H := fun E _ ops _ _ cs nL ca fl ls st k => match st with
  | ix :: .inr (.inr (.inl key)) :: rest => match Nat.beq key yy_stv with
    | true => match zz_idx cs ix 79 with
      | true => zz_res cs (.inr (32, (122, none))) (fun cs v => k cs nL ca fl ls (v :: rest))
      | false => false
    | false => match E.2.1[key]? with
      | some (.inl (kd, (n, _))) => match ops with
        | [o] => match (Nat.beq o 1 || Nat.beq o 2) && (Nat.beq kd o && zz_idx cs ix n) with
          | true => zz_rdI E cs ca key (zz_nrm cs ix) (E.2.2.1 key 0) (fun cs ca v => k cs nL ca fl ls (v :: rest))
          | false => false
        | _ => false
      | _ => false
  | _ => false
def zz_hlald : zz_H := fun E _ _ _ _ cs nL ca fl ls st k => match st with
  | ix :: .inr (.inr (.inl key)) :: rest => match Nat.beq key yy_kee with
    | true => match zz_idx cs ix 6 with
      | true => zz_lng nL (fun nL v => k cs nL ca fl ls (v :: rest))
      | false => false
    | false => match E.2.1[key]? with
      | some (.inl (3, (n, _))) => match zz_idx cs ix n with
        | true => zz_lng nL (fun nL v => k cs nL ca fl ls (v :: rest))
        | false => false
      | _ => false
  | _ => false
/-- a cell of a row, at a known place -/
def zz_haald : zz_H := fun E _ _ _ _ cs nL ca fl ls st k => match st with
  | ix :: .inr (.inr (.inl key)) :: rest => match E.2.1[key]? with
    | some (.inl (4, (n, rs))) => match zz_idx cs ix n with
      | true => match zz_nrm cs ix with
        | .inl (.ofNat c) => xx_fN (rs.getD c 0) (fun i => k cs nL ca fl ls (.inr (.inr (.inl i)) :: rest))
        | _ => false
      | false => false
    | _ => false
  | _ => false
def zz_hiast : zz_H := fun E _ _ D _ cs nL ca fl ls st k => match st with
  | v :: ix :: .inr (.inr (.inl key)) :: rest => match E.2.1[key]? with
    | some (.inl (0, (n, _))) => match zz_idx cs ix n && zz_in cs v (E.2.2.1 key 0) with
      | true => zz_wr E D cs ca fl key (zz_nrm cs ix) v (fun ca fl => k cs nL ca fl ls rest)
      | false => false
    | _ => false
  | _ => false
def zz_hbast : zz_H := fun E _ ops D _ cs nL ca fl ls st k => match st with
  | v :: ix :: .inr (.inr (.inl key)) :: rest => match E.2.1[key]? with
    | some (.inl (kd, (n, _))) => match ops with
      | [1] => match Nat.beq kd 1 && (zz_idx cs ix n && (zz_isI v && (xx_le (E.2.2.1 key 0).1 (-128) && xx_le 127 (E.2.2.1 key 0).2))) with
        | true => zz_yy (-128) 127 none (fun y => zz_new cs y (fun cs v => zz_wr E D cs ca fl key (zz_nrm cs ix) v (fun ca fl => k cs nL ca fl ls rest)))
        | false => false
      | [2] => match Nat.beq kd 2 && (zz_idx cs ix n && (zz_in cs v (0, 1) && zz_in cs v (E.2.2.1 key 0))) with
        | true => zz_wr E D cs ca fl key (zz_nrm cs ix) v (fun ca fl => k cs nL ca fl ls rest)
        | false => false
      | _ => false
    | _ => false
  | _ => false
def zz_hlast : zz_H := fun E _ _ D _ cs nL ca fl ls st k => match st with
  | v :: ix :: .inr (.inr (.inl key)) :: rest => match E.2.1[key]? with
    | some (.inl (3, (n, _))) => match zz_idx cs ix n && zz_isL v with
      | true => zz_wr E D cs ca fl key (zz_nrm cs ix) v (fun ca fl => k cs nL ca fl ls rest)
      | false => false
    | _ => false
  | _ => false
def zz_hlen : zz_H := fun E _ _ _ sc cs nL ca fl ls st k => match st with
  | .inr (.inr (.inl key)) :: rest => match Nat.beq key xx_scr with
    | true => match sc with
      | true => k cs nL ca fl ls (.inr (.inl (0, 0)) :: rest)
      | false => false
    | false => match Nat.beq key yy_stv with
      | true => k cs nL ca fl ls (.inl 79 :: rest)
      | false => match E.2.1[key]? with
        | some (.inl (_, (n, _))) => match Nat.ble n 1000000 with
          | true => xx_fN n (fun n => k cs nL ca fl ls (.inl (.ofNat n) :: rest))
          | false => false
        | _ => false
  | _ => false
