/-! tests -/
def zz_ref1 (cs : zz_C) (c : xx_B) (v : zz_V) (n : Int) (k : zz_C → Bool) : Bool := match v with
  | .inr (.inl (q, d)) => match cs[q]? with
    | some (a, (b, r)) => xx_fI (zz_max a ((xx_alw c n).1 - d)) (fun a => xx_fI (zz_min b ((xx_alw c n).2 - d)) (fun b => match xx_le a b with
      | true => xx_set cs q (a, (b, r)) (fun cs => match r.1 with
        | some (t, c) => match cs[t]? with
          | some (a2, (b2, r2)) => xx_fI (zz_min b2 (b - c)) (fun b2 => xx_set cs t (a2, (b2, r2)) k)
          | none => k cs
        | none => k cs)
      | false => true))
    | none => k cs
  | _ => k cs
/-- x is at least y and c: kept with x's symbol, if nothing is yet -/
def zz_lnk (cs : zz_C) (x y : zz_V) (c : Int) (k : zz_C → Bool) : Bool := match x with
  | .inr (.inl (s, d)) => match y with
    | .inr (.inl (q, e)) => match cs[s]? with
      | some (lo, (hi, (none, df))) => match Nat.beq s q with
        | true => k cs
        | false => xx_fI (c + e - d) (fun c => xx_set cs s (lo, (hi, (some (q, c), df))) k)
      | _ => k cs
    | _ => k cs
  | _ => k cs
def zz_rf (cs : zz_C) (c : xx_B) (a b : zz_V) (ra rb : Int × Int) (k : zz_C → Bool) : Bool := match b with
  | .inl n => zz_ref1 cs c a n k
  | _ => match a with
    | .inl n => zz_ref1 cs (xx_flip c) b n k
    | _ => match c with
      | .lt => zz_ref1 cs .lt a rb.2 (fun cs => zz_ref1 cs .gt b ra.1 (fun cs => zz_lnk cs b a 1 k))
      | .ge => zz_ref1 cs .ge a rb.1 (fun cs => zz_ref1 cs .le b ra.2 (fun cs => zz_lnk cs a b 0 k))
      | .gt => zz_ref1 cs .gt a rb.1 (fun cs => zz_ref1 cs .lt b ra.2 (fun cs => zz_lnk cs a b 1 k))
      | .le => zz_ref1 cs .le a rb.2 (fun cs => zz_ref1 cs .ge b ra.1 (fun cs => zz_lnk cs b a 0 k))
      | .eq => zz_ref1 cs .ge a rb.1 (fun cs => zz_ref1 cs .le a rb.2 (fun cs => zz_ref1 cs .ge b ra.1 (fun cs => zz_ref1 cs .le b ra.2 (fun cs => zz_lnk cs a b 0 (fun cs => zz_lnk cs b a 0 k)))))
      | .ne => k cs
def zz_lt (cs : zz_C) (a b : zz_V) : Option Bool := match zz_geV cs a b 0 with
  | true => some false
  | false => match zz_geV cs b a 1 with
    | true => some true
    | false => none
def zz_eq (cs : zz_C) (a b : zz_V) : Option Bool := match zz_geV cs a b 0 && zz_geV cs b a 0 with
  | true => some true
  | false => match zz_geV cs a b 1 || zz_geV cs b a 1 with
    | true => some false
    | false => none
def zz_not (o : Option Bool) : Option Bool := match o with
  | some true => some false
  | some false => some true
  | none => none
def zz_dc (cs : zz_C) (c : xx_B) (a b : zz_V) : Option Bool := match c with
  | .lt => zz_lt cs a b
  | .ge => zz_not (zz_lt cs a b)
  | .gt => zz_lt cs b a
  | .le => zz_not (zz_lt cs b a)
  | .eq => zz_eq cs a b
  | .ne => zz_not (zz_eq cs a b)
def zz_br (cs : zz_C) (c : xx_B) (a b : zz_V) (t f : zz_C → Bool) : Bool := match zz_iv cs a with
  | some ra => match zz_iv cs b with
    | some rb => match zz_dc cs c a b with
      | some true => t cs
      | some false => f cs
      | none => match c with
        | .eq => zz_rf cs .eq a b ra rb t && (zz_rf cs .lt a b ra rb f && zz_rf cs .gt a b ra rb f)
        | .ne => zz_rf cs .eq a b ra rb f && (zz_rf cs .lt a b ra rb t && zz_rf cs .gt a b ra rb t)
        | c => zz_rf cs c a b ra rb t && zz_rf cs (xx_neg c) a b ra rb f
    | none => zz_isI b && (t cs && f cs)
  | none => zz_isI a && (zz_isI b && (t cs && f cs))
def zz_sw (cs : zz_C) (v : zz_V) (r : Int × Int) (d : Int) (g : zz_C → Int → Bool) : List (Int × Int) → Int → Bool
  | [], pr => match xx_le (zz_max pr r.1) r.2 with
    | true => zz_ref1 cs .ge v pr (fun cs => g cs d)
    | false => true
  | (m, t) :: qs, pr => (match xx_le (zz_max pr r.1) (zz_min (m - 1) r.2) with
      | true => zz_ref1 cs .ge v pr (fun cs => zz_ref1 cs .le v (m - 1) (fun cs => g cs d))
      | false => true) && ((match xx_le r.1 m && xx_le m r.2 with
      | true => zz_ref1 cs .eq v m (fun cs => g cs t)
      | false => true) && xx_fI (m + 1) (fun m => zz_sw cs v r d g qs m))
/-- one way a number -/
def zz_upto (cs : zz_C) (v : zz_V) (g : zz_C → Bool) : Nat → Int → Bool
  | 0, _ => true
  | n + 1, lo => zz_ref1 cs .eq v lo g && xx_fI (lo + 1) (fun lo => zz_upto cs v g n lo)
/-! states held against states -/
def zz_sh (w : zz_V) (d : Int) : zz_V := match w with
  | .inl c => .inl (c + d)
  | .inr (.inl (q, e)) => .inr (.inl (q, e + d))
  | w => w
/-- a value of the pattern, by what its symbols are here -/
def zz_sb (bI bL : List zz_V) (v : zz_V) : Option zz_V := match v with
  | .inr (.inl (k, d)) => match bI[k]? with
    | some w => some (zz_sh w d)
    | none => none
  | .inr (.inr (.inr (.inr k))) => bL[k]?
  | v => some v
def zz_bd (bI bL : List zz_V) (v a : zz_V) (k : List zz_V → List zz_V → Bool) : Bool := match v with
  | .inr (.inl (s, d)) => xx_len bI 0 (fun n => match Nat.beq n s && (xx_eqI d 0 && zz_isI a) with
    | true => xx_app bI a (fun bI => k bI bL)
    | false => k bI bL)
  | .inr (.inr (.inr (.inr s))) => xx_len bL 0 (fun n => match Nat.beq n s && zz_isL a with
    | true => xx_app bL a (fun bL => k bI bL)
    | false => k bI bL)
  | _ => k bI bL
def zz_bds (bI bL : List zz_V) : List zz_V → List zz_V → (List zz_V → List zz_V → Bool) → Bool
  | v :: vs, a :: as, k => zz_bd bI bL v a (fun bI bL => zz_bds bI bL vs as k)
  | _, _, k => k bI bL
def zz_bls (ls : zz_L) (bI bL : List zz_V) : zz_L → (List zz_V → List zz_V → Bool) → Bool
  | (i, v) :: r, k => match zz_get ls i with
    | some a => zz_bd bI bL v a (fun bI bL => zz_bls ls bI bL r k)
    | none => zz_bls ls bI bL r k
  | [], k => k bI bL
/-- bounds of a place -/
def zz_tyv (E : zz_E) (key : Nat) (ix : zz_V) : Int × Int := match ix with
  | .inl (.ofNat n) => E.2.2.1 key n
  | _ => match E.2.1[key]? with
    | some (.inl _) => E.2.2.1 key 0
    | _ => xx_full
/-- what the pattern holds of cells: read here if it isn't kept -/
def zz_bca (E : zz_E) : zz_C → Nat → zz_A → List zz_V → List zz_V → zz_A → (zz_C → Nat → zz_A → List zz_V → List zz_V → Bool) → Bool
  | cs, nL, ca, bI, bL, (key, (ix, v)) :: r, k => match zz_sb bI bL ix with
    | some jx => zz_fV (zz_nrm cs jx) (fun jx => match zz_fnd cs ca key jx with
      | some a => zz_bd bI bL v a (fun bI bL => zz_bca E cs nL ca bI bL r k)
      | none => match zz_in cs jx (0, xx_hi) with
        | false => zz_bca E cs nL ca bI bL r k
        | true => match zz_isL v with
          | true => zz_lng nL (fun nL a => zz_bd bI bL v a (fun bI bL => zz_bca E cs nL ((key, (jx, a)) :: ca) bI bL r k))
          | false => match zz_tyv E key jx with
            | (lo, hi) => zz_yy lo hi none (fun y => zz_new cs y (fun cs a => zz_bd bI bL v a (fun bI bL => zz_bca E cs nL ((key, (jx, a)) :: ca) bI bL r k))))
    | none => zz_bca E cs nL ca bI bL r k
  | cs, nL, ca, bI, bL, [], k => k cs nL ca bI bL
/-- as far as the pattern's symbols are known, these are the same -/
def zz_fit1 (cs : zz_C) (bI bL : List zz_V) : List zz_V → List zz_V → Bool
  | [], [] => true
  | v :: vs, a :: as => (match zz_sb bI bL v with
    | some w => zz_sm cs w a
    | none => true) && zz_fit1 cs bI bL vs as
  | _, _ => false
def zz_ffl (cs : zz_C) (bI bL : List zz_V) (fl : zz_B) (i : Nat) (vs : List zz_V) : Option (List zz_V) := match fl with
  | [] => none
  | f :: r => match Nat.beq f.1 i && zz_fit1 cs bI bL vs f.2 with
    | true => some f.2
    | false => zz_ffl cs bI bL r i vs
def zz_bfl (cs : zz_C) (fl : zz_B) (bI bL : List zz_V) : zz_B → (List zz_V → List zz_V → Bool) → Bool
  | (i, vs) :: r, k => match zz_ffl cs bI bL fl i vs with
    | some as => zz_bds bI bL vs as (fun bI bL => zz_bfl cs fl bI bL r k)
    | none => zz_bfl cs fl bI bL r k
  | [], k => k bI bL
/-! the pattern holds -/
def zz_sbq (cs : zz_C) (bI bL : List zz_V) (v a : zz_V) : Bool := match zz_sb bI bL v with
  | some w => zz_sm cs w a
  | none => false
def zz_sbs (cs : zz_C) (bI bL : List zz_V) : List zz_V → List zz_V → Bool
  | [], [] => true
  | v :: vs, a :: as => zz_sbq cs bI bL v a && zz_sbs cs bI bL vs as
  | _, _ => false
def zz_cls (cs : zz_C) (ls : zz_L) (bI bL : List zz_V) : zz_L → Bool
  | [] => true
  | (i, v) :: r => (match zz_get ls i with
    | some a => zz_sbq cs bI bL v a
    | none => false) && zz_cls cs ls bI bL r
def zz_cca (cs : zz_C) (ca : zz_A) (bI bL : List zz_V) : zz_A → Bool
  | [] => true
  | (key, (ix, v)) :: r => (match zz_sb bI bL ix with
    | some jx => match zz_fnd cs ca key (zz_nrm cs jx) with
      | some a => zz_sbq cs bI bL v a
      | none => false
    | none => false) && zz_cca cs ca bI bL r
def zz_cfl1 (cs : zz_C) (bI bL : List zz_V) (i : Nat) (vs : List zz_V) : zz_B → Bool
  | [] => false
  | f :: r => (Nat.beq f.1 i && zz_sbs cs bI bL vs f.2) || zz_cfl1 cs bI bL i vs r
def zz_cfl (cs : zz_C) (fl : zz_B) (bI bL : List zz_V) : zz_B → Bool
  | [] => true
  | (i, vs) :: r => zz_cfl1 cs bI bL i vs fl && zz_cfl cs fl bI bL r
def zz_cdf (cs : zz_C) (bI bL : List zz_V) (df : Option zz_F) (b : zz_V) : Bool := match df with
  | none => true
  | some (o, (x, y)) => match b with
    | .inr (.inl (s, .ofNat 0)) => match cs[s]? with
      | some (_, (_, (_, some (o', (x', y'))))) => Nat.beq o o' && (zz_sbq cs bI bL x x' && zz_sbq cs bI bL y y')
      | _ => false
    | _ => false
def zz_clk (cs : zz_C) (bI : List zz_V) (lk : Option (Nat × Int)) (b : zz_V) : Bool := match lk with
  | none => true
  | some (t, c) => match bI[t]? with
    | some w => zz_geV cs b w c
    | none => false
/-- the symbols of the pattern and what they are here -/
def zz_ccs (cs : zz_C) (bI bL : List zz_V) : zz_C → List zz_V → Bool
  | [], [] => true
  | (lo, (hi, (lk, df))) :: r, b :: bs => zz_in cs b (lo, hi) && (zz_clk cs bI lk b && (zz_cdf cs bI bL df b && zz_ccs cs bI bL r bs))
  | _, _ => false
def zz_hasL (nL : Nat) (v : zz_V) : Bool := match v with
  | .inr (.inr (.inr (.inl _))) => true
  | .inr (.inr (.inr (.inr k))) => Nat.blt k nL
  | _ => false
def zz_cnt (nL n : Nat) (l : List zz_V) : Bool := match l with
  | [] => Nat.beq n 0
  | v :: r => match n with
    | 0 => false
    | m + 1 => zz_hasL nL v && zz_cnt nL m r
/-- a state says all that the pattern says -/
def zz_ent (cs : zz_C) (nL : Nat) (ca : zz_A) (fl : zz_B) (ls : zz_L) (st : List zz_V) (bI bL : List zz_V) (Z : zz_Z) : Bool :=
  zz_ccs cs bI bL Z.1 bI && (zz_cnt nL Z.2.1 bL && (zz_cls cs ls bI bL Z.2.2.2.2.1 && (zz_sbs cs bI bL Z.2.2.2.2.2 st && (zz_cca cs ca bI bL Z.2.2.1 && zz_cfl cs fl bI bL Z.2.2.2.1))))
/-- what the pattern's symbols are here is found, then all is held against it -/
def zz_mt (E : zz_E) (i0 l0 : List zz_V) (cs : zz_C) (nL : Nat) (ca : zz_A) (fl : zz_B) (ls : zz_L) (st : List zz_V) (Z : zz_Z) (ok : zz_C → Nat → zz_A → List zz_V → List zz_V → Bool) (no : Bool) : Bool :=
  zz_bls ls i0 l0 Z.2.2.2.2.1 (fun bI bL => zz_bds bI bL Z.2.2.2.2.2 st (fun bI bL => zz_bca E cs nL ca bI bL Z.2.2.1 (fun cs nL ca bI bL => zz_bfl cs fl bI bL Z.2.2.2.1 (fun bI bL => match zz_ent cs nL ca fl ls st bI bL Z with
    | true => ok cs nL ca bI bL
    | false => no))))
/-! loops' ranks -/
abbrev zz_Q : Type := List (Bool × zz_V)
def zz_lex (cs : zz_C) (bI bL : List zz_V) : zz_Q → zz_Q → Bool
  | (g, v) :: d, (h, w) :: s => match zz_sb bI bL v with
    | some x => match g with
      | true => h && (zz_geV cs x w 1 || (zz_geV cs x w 0 && zz_lex cs bI bL d s))
      | false => !h && (zz_geV cs w x 1 || (zz_geV cs w x 0 && zz_lex cs bI bL d s))
    | none => false
  | _, _ => false
def zz_rank (cs : zz_C) (bI bL : List zz_V) (d : zz_Q) (s : Option zz_Q) : Bool := match s with
  | none => true
  | some s => Nat.beq d.length s.length && zz_lex cs bI bL d s
abbrev zz_T : Type := List (Nat × (zz_Z × zz_Q))
/-- a loop's state is reached -/
def zz_cut (E : zz_E) (i0 l0 : List zz_V) (rk : Option zz_Q) (cs : zz_C) (nL : Nat) (ca : zz_A) (fl : zz_B) (ls : zz_L) (st : List zz_V) (pc : Nat) : zz_T → Bool
  | [] => false
  | (p, (Z, q)) :: r => match Nat.beq p pc with
    | true => zz_mt E i0 l0 cs nL ca fl ls st Z (fun cs' _ _ bI bL => zz_rank cs' bI bL q rk || zz_cut E i0 l0 rk cs nL ca fl ls st pc r) (zz_cut E i0 l0 rk cs nL ca fl ls st pc r)
    | false => zz_cut E i0 l0 rk cs nL ca fl ls st pc r
/-- one of the ends is met -/
def zz_end (E : zz_E) (i0 l0 : List zz_V) (cs : zz_C) (nL : Nat) (ca : zz_A) (fl : zz_B) (st : List zz_V) : List zz_Z → Bool
  | [] => false
  | Z :: r => zz_mt E i0 l0 cs nL ca fl [] st Z (fun _ _ _ _ _ => true) (zz_end E i0 l0 cs nL ca fl st r)
/-! contracts used -/
def zz_subD (D : zz_D) : zz_D → Bool
  | [] => true
  | (k, r) :: t => zz_may D k r && zz_subD D t
def zz_dropD {β : Type} (cs : zz_C) (D : zz_D) (ca : zz_A) (k : zz_A → β) : β := match ca with
  | [] => k []
  | (q, (i, v)) :: r => match zz_hit D q (zz_ivf cs i) with
    | true => zz_dropD cs D r k
    | false => zz_dropD cs D r (fun ys => k ((q, (i, v)) :: ys))
def zz_hits (W D : zz_D) : Bool := match W with
  | [] => false
  | (k, r) :: t => Nat.ble 2000000 k || (zz_hit D k r || zz_hits t D)
def zz_keepD {β : Type} (E : zz_E) (D : zz_D) (fl : zz_B) (k : zz_B → β) : β := match fl with
  | [] => k []
  | f :: t => match zz_hits (E.2.2.2.1 f.1) D with
    | true => zz_keepD E D t k
    | false => zz_keepD E D t (fun ys => k (f :: ys))
def zz_lk2 (cs : zz_C) (bI : List zz_V) (lk : Option (Nat × Int)) : Option (Nat × Int) := match lk with
  | none => none
  | some (t, c) => match bI[t]? with
    | some (.inr (.inl (q, e))) => match zz_iv cs (.inr (.inl (q, e))) with
      | some _ => some (q, e + c)
      | none => none
    | _ => none
/-- the symbols that an end has beyond the start's: new ones here -/
def zz_addc (cs0 : zz_C) : zz_C → List zz_V → zz_C → (zz_C → List zz_V → Bool) → Bool
  | cs, bI, [], k => k cs bI
  | cs, bI, (lo, (hi, (lk, _))) :: r, k => match zz_lk2 cs bI lk with
    | some (q, c) => xx_fN q (fun q => xx_fI c (fun c => zz_new cs (lo, (hi, (some (q, c), none))) (fun cs v => xx_app bI v (fun bI => zz_addc cs0 cs bI r k))))
    | none => zz_new cs (lo, (hi, (none, none))) (fun cs v => xx_app bI v (fun bI => zz_addc cs0 cs bI r k))
def zz_addl : Nat → Nat → List zz_V → (Nat → List zz_V → Bool) → Bool
  | 0, nL, bL, k => k nL bL
  | n + 1, nL, bL, k => zz_lng nL (fun nL v => xx_app bL v (fun bL => zz_addl n nL bL k))
def zz_sbl (bI bL : List zz_V) : List zz_V → (List zz_V → Bool) → Bool
  | [], k => k []
  | v :: vs, k => match zz_sb bI bL v with
    | some w => zz_fV w (fun w => zz_sbl bI bL vs (fun ws => k (w :: ws)))
    | none => false
def zz_sba (cs : zz_C) (bI bL : List zz_V) (ca : zz_A) : zz_A → (zz_A → Bool) → Bool
  | [], k => k ca
  | (key, (ix, v)) :: r, k => match zz_sb bI bL ix with
    | some jx => match zz_sb bI bL v with
      | some w => zz_fV (zz_nrm cs jx) (fun jx => zz_fV w (fun w => zz_sba cs bI bL ((key, (jx, w)) :: ca) r k))
      | none => false
    | none => false
def zz_sbf (bI bL : List zz_V) (fl : zz_B) : zz_B → (zz_B → Bool) → Bool
  | [], k => k fl
  | (i, vs) :: r, k => zz_sbl bI bL vs (fun ws => zz_sbf bI bL ((i, ws) :: fl) r k)
/-- what is so behind a call: all its ends -/
def zz_outs (E : zz_E) (N NL : Nat) (D : zz_D) (cs : zz_C) (nL : Nat) (ca : zz_A) (fl : zz_B) (bI bL : List zz_V) (k : zz_C → Nat → zz_A → zz_B → List zz_V → Bool) : List zz_Z → Bool
  | [] => true
  | o :: r => zz_addc cs cs bI (o.1.drop N) (fun cs' bI' => zz_addl (o.2.1 - NL) nL bL (fun nL' bL' => zz_dropD cs D ca (fun ca' => zz_keepD E D fl (fun fl' => zz_sba cs' bI' bL' ca' o.2.2.1 (fun ca' => zz_sbf bI' bL' fl' o.2.2.2.1 (fun fl' => zz_sbl bI' bL' o.2.2.2.2.2 (fun rs => k cs' nL' ca' fl' rs))))))) && zz_outs E N NL D cs nL ca fl bI bL k r
/-- the first contract that fits -/
def zz_use (E : zz_E) (lim d t : Nat) (D : zz_D) (cs : zz_C) (nL : Nat) (ca : zz_A) (fl : zz_B) (args : List zz_V) (k : zz_C → Nat → zz_A → zz_B → List zz_V → Bool) : List Nat → Bool
  | [] => false
  | i :: r => match E.2.2.2.2.1[i]? with
    | some (t', (d', (Z, (os, D')))) => match Nat.blt i lim && (Nat.beq t t' && (Nat.ble d' d && zz_subD D D')) with
      | true => zz_mt E [] [] cs nL ca fl [] args Z (fun cs nL ca bI bL => zz_outs E Z.1.length Z.2.1 D' cs nL ca fl bI bL k os) (zz_use E lim d t D cs nL ca fl args k r)
      | false => zz_use E lim d t D cs nL ca fl args k r
    | none => false
def zz_pop : Nat → List zz_V → List zz_V → Option (List zz_V × List zz_V)
  | 0, a, st => some (a, st)
  | n + 1, a, v :: st => zz_pop n (v :: a) st
  | _ + 1, _, [] => none
def zz_cat (v : zz_V) : Nat := match v with
  | .inr (.inr (.inr _)) => 2
  | _ => 1
def zz_sum (st : List zz_V) : Nat := match st with
  | [] => 0
  | v :: vs => zz_cat v + zz_sum vs
def zz_args {β : Type} : Nat → List zz_V → (zz_L → β) → β
  | _, [], k => k []
  | i, v :: vs, k => xx_fN i (fun i => zz_args (i + zz_cat v) vs (fun l => k ((i, v) :: l)))
def zz_fit (M' : xx_M) (args rest : List zz_V) : Bool := Nat.ble M'.2.2.1 40 && (Nat.ble (zz_sum rest) 8 && Nat.ble (zz_sum args) M'.2.2.1)
def zz_isC (E : zz_E) (k ci : Nat) : Bool := match ci with
  | 99 => Nat.beq k yy_str
  | _ => match E.2.1[k]? with
    | some (.inr (cj, _)) => Nat.beq cj ci
    | _ => false
/-- the walk's own: depth, script, what may be written, loops' states, entailments (row, number), the rank it came from, the first symbols and longs of the contract, those of the walk -/
abbrev zz_X : Type := Nat × (Bool × (zz_D × (zz_T × (List (Nat × Nat) × (Option zz_Q × ((List zz_V × List zz_V) × (List zz_V × List zz_V)))))))
abbrev zz_KR : Type := zz_C → Nat → zz_A → zz_B → List zz_V → Bool
abbrev zz_R : Type := xx_M → zz_X → Bool → zz_KR → Nat → List xx_I → zz_G
def zz_to (rec : zz_R) (M : xx_M) (X : zz_X) (kr : zz_KR) (t : Int) : zz_G := fun cs nL ca fl ls st => match t with
  | .ofNat n => xx_fN n (fun n => rec M X false kr n (xx_from n M.2.2.2.2.2) cs nL ca fl ls st)
  | .negSucc _ => false
def zz_nx (rec : zz_R) (M : xx_M) (X : zz_X) (kr : zz_KR) (pc : Nat) (tl : List xx_I) : zz_G := fun cs nL ca fl ls st => xx_fN pc (fun pc => rec M X false kr pc tl cs nL ca fl ls st)
abbrev zz_W : Type := zz_R → zz_E → Nat → xx_M → zz_X → zz_KR → List Nat → Nat → xx_I → List xx_I → zz_G
def zz_kgoto (off : Int) : zz_W := fun rec _ _ M X kr _ pc _ _ => zz_to rec M X kr ((pc : Int) + off)
def zz_kif (c : xx_B) (off : Int) : zz_W := fun rec _ _ M X kr _ pc _ tl cs nL ca fl ls st => match st with
  | a :: rest => zz_br cs c (zz_nrm cs a) (.inl 0) (fun cs => zz_to rec M X kr ((pc : Int) + off) cs nL ca fl ls rest) (fun cs => zz_nx rec M X kr (pc + 3) tl cs nL ca fl ls rest)
  | [] => false
def zz_kicmp (c : xx_B) (off : Int) : zz_W := fun rec _ _ M X kr _ pc _ tl cs nL ca fl ls st => match st with
  | b :: a :: rest => zz_br cs c (zz_nrm cs a) (zz_nrm cs b) (fun cs => zz_to rec M X kr ((pc : Int) + off) cs nL ca fl ls rest) (fun cs => zz_nx rec M X kr (pc + 3) tl cs nL ca fl ls rest)
  | _ => false
def zz_ktab (d lo hi : Int) (offs : Array Int) : zz_W := fun rec _ _ M X kr _ pc _ _ cs nL ca fl ls st => match st with
  | v :: rest => match zz_iv cs (zz_nrm cs v) with
    | some r => match xx_srt (xx_prs offs.toList lo) xx_lo && xx_eqI hi (lo + (offs.toList.length : Int) - 1) with
      | true => zz_sw cs (zz_nrm cs v) r d (fun cs t => zz_to rec M X kr ((pc : Int) + t) cs nL ca fl ls rest) (xx_prs offs.toList lo) xx_lo
      | false => false
    | none => false
  | [] => false
def zz_klook (d : Int) (ps : Array (Int × Int)) : zz_W := fun rec _ _ M X kr _ pc _ _ cs nL ca fl ls st => match st with
  | v :: rest => match zz_iv cs (zz_nrm cs v) with
    | some r => match xx_srt ps.toList xx_lo with
      | true => zz_sw cs (zz_nrm cs v) r d (fun cs t => zz_to rec M X kr ((pc : Int) + t) cs nL ca fl ls rest) ps.toList xx_lo
      | false => false
    | none => false
  | [] => false
def zz_kiret : zz_W := fun _ _ _ M _ kr _ _ _ _ cs nL ca fl _ st => match st with
  | [v] => match (match M.2.2.2.1 with
      | some .int => zz_isI v
      | some .boolean => zz_in cs v (0, 1)
      | some .char => zz_in cs v (0, 255)
      | some .byte => zz_in cs v (-128, 127)
      | _ => false) with
    | true => zz_fV (zz_nrm cs v) (fun v => kr cs nL ca fl [v])
    | false => false
  | _ => false
def zz_klret : zz_W := fun _ _ _ M _ kr _ _ _ _ cs nL ca fl _ st => match st with
  | [v] => match M.2.2.2.1 with
    | some .long => match zz_isL v with
      | true => kr cs nL ca fl [v]
      | false => false
    | _ => false
  | _ => false
def zz_kvret : zz_W := fun _ _ _ M _ kr _ _ _ _ cs nL ca fl _ st => match st with
  | [] => match M.2.2.2.1 with
    | none => kr cs nL ca fl []
    | some _ => false
  | _ => false
/-- a call: by a contract, or walked -/
def zz_call (rec : zz_R) (E : zz_E) (lim : Nat) (M : xx_M) (X : zz_X) (kr : zz_KR) (t pc : Nat) (tl : List xx_I) (args rest : List zz_V) : zz_C → Nat → zz_A → zz_B → zz_L → Bool := fun cs nL ca fl ls => match E.1[t]? with
  | some M' => match zz_fit M' args rest with
    | true => match X.1 with
      | 0 => false
      | d + 1 => match E.2.2.2.2.2.1 t with
        | [] => zz_args 0 args (fun l => rec M' (d, (false, (X.2.2.1, ([], ([], (none, X.2.2.2.2.2.2)))))) false (fun cs nL ca fl rs => zz_nx rec M X kr (pc + 3) tl cs nL ca fl ls (rs ++ rest)) 0 M'.2.2.2.2.2 cs nL ca fl l [])
        | i :: is => zz_use E lim d t X.2.2.1 cs nL ca fl args (fun cs nL ca fl rs => zz_nx rec M X kr (pc + 3) tl cs nL ca fl ls (rs ++ rest)) (i :: is)
    | false => false
  | none => false
def zz_kvirt : zz_W := fun rec E lim M X kr ops pc _ tl cs nL ca fl ls st => match ops with
  | 0 :: t :: n :: ci :: _ => match zz_pop n [] st with
    | some (args, .inr (.inr (.inl k)) :: rest) => match zz_isC E k ci with
      | true => zz_call rec E lim M X kr t pc tl (.inr (.inr (.inl k)) :: args) rest cs nL ca fl ls
      | false => false
    | _ => false
  | _ => false
def zz_kstat : zz_W := fun rec E lim M X kr ops pc e tl cs nL ca fl ls st => match ops with
  | 0 :: t :: n :: _ => match zz_pop n [] st with
    | some (args, rest) => zz_call rec E lim M X kr t pc tl args rest cs nL ca fl ls
    | none => false
  | 9 :: _ => match st with
    | n :: dp :: .inr (.inr (.inl k1)) :: sp :: .inr (.inr (.inl k0)) :: rest => match E.2.1[k0]? with
      | some (.inl (0, (n0, _))) => match E.2.1[k1]? with
        | some (.inl (0, (n1, _))) => match zz_eqV dp (.inl 0) && (zz_eqV sp (.inl 0) && (zz_eqV n (.inl (n0 : Int)) && (Nat.beq n0 n1 && (Nat.blt n0 1000 && (Nat.ble 1 X.1 && (Nat.ble (zz_sum rest) 8 && (xx_le (E.2.2.1 k1 0).1 (E.2.2.1 k0 0).1 && (xx_le (E.2.2.1 k0 0).2 (E.2.2.1 k1 0).2 && zz_may X.2.2.1 k1 (0, 1000))))))))) with
          | true => zz_keep E fl k1 (0, 1000) (fun fl => zz_dropD cs [(k1, (xx_lo, xx_hi))] ca (fun ca => zz_nx rec M X kr (pc + e.2.2.1) tl cs nL ca fl ls rest))
          | false => false
        | _ => false
      | _ => false
    | _ => false
  | 7 :: _ => match st with
    | n :: x :: rest => match zz_in cs x (0, xx_hi) && (zz_in cs n (0, xx_hi) && (zz_geV cs n x 1 && (Nat.ble 2 X.1 && Nat.ble (zz_sum rest) 8))) with
      | true => zz_nx rec M X kr (pc + e.2.2.1) tl cs nL ca fl ls rest
      | false => false
    | _ => false
  | 6 :: w :: _ => match st with
    | y :: x :: rest => match Nat.ble 1 X.1 && Nat.ble (zz_sum rest) 8 with
      | true => match w with
        | 0 => zz_br cs .lt (zz_nrm cs x) (zz_nrm cs y) (fun cs => zz_nx rec M X kr (pc + e.2.2.1) tl cs nL ca fl ls (y :: rest)) (fun cs => zz_nx rec M X kr (pc + e.2.2.1) tl cs nL ca fl ls (x :: rest))
        | 1 => zz_br cs .lt (zz_nrm cs y) (zz_nrm cs x) (fun cs => zz_nx rec M X kr (pc + e.2.2.1) tl cs nL ca fl ls (y :: rest)) (fun cs => zz_nx rec M X kr (pc + e.2.2.1) tl cs nL ca fl ls (x :: rest))
        | _ => false
      | false => false
    | _ => false
  | _ => false
/-- a row's cell at a symbol: one way a number first -/
def zz_kaald : zz_W := fun rec E _ M X kr ops pc e tl cs nL ca fl ls st => match st with
  | ix :: _ => match zz_nrm cs ix with
    | .inr (.inl q) => match zz_iv cs (.inr (.inl q)) with
      | some r => match zz_sml r with
        | some n => zz_upto cs (.inr (.inl q)) (fun cs => rec M X true kr pc (e :: tl) cs nL ca fl ls st) (n + 1) r.1
        | none => false
      | none => false
    | _ => zz_haald E M ops X.2.2.1 X.2.1 cs nL ca fl ls st (zz_nx rec M X kr (pc + e.2.2.1) tl)
  | [] => false
def zz_none : zz_H := fun _ _ _ _ _ _ _ _ _ _ _ _ => false
def zz_disp (i : Instr) : zz_H ⊕ zz_W := match i with
  | .iconst n => .inl (zz_hp (.inl n))
  | .bipush n => .inl (zz_hp (.inl n))
  | .sipush n => .inl (zz_hp (.inl n))
  | .ldc _ => .inl zz_hldc
  | .ldc_w _ => .inl zz_hldc
  | .ldc2_w _ => .inl zz_hldc2
  | .lconst n => .inl (zz_hp (.inr (.inr (.inr (.inl (n.val : Int))))))
  | .iload_n n => .inl (zz_hload zz_isI n.val)
  | .iload n => .inl (zz_hload zz_isI n)
  | .lload_n n => .inl (zz_hload zz_isL n.val)
  | .lload n => .inl (zz_hload zz_isL n)
  | .aload_n n => .inl (zz_hload zz_isR n.val)
  | .aload n => .inl (zz_hload zz_isR n)
  | .istore_n n => .inl (zz_hst1 zz_isI n.val)
  | .istore n => .inl (zz_hst1 zz_isI n)
  | .lstore_n n => .inl (zz_hst2 n.val)
  | .lstore n => .inl (zz_hst2 n)
  | .astore_n n => .inl (zz_hst1 zz_isR n.val)
  | .iinc j n => .inl (zz_hinc j n)
  | .iadd => .inl (zz_h2 (fun x y => x + y) zz_tadd 1 false (some 0) false)
  | .isub => .inl (zz_h2 (fun x y => x - y) zz_tsub 2 false (some 2) false)
  | .imul => .inl (zz_h2 (fun x y => x * y) zz_tmul 0 false (some 6) false)
  | .iand => .inl (zz_h2 (fun x y => x &&& y) zz_tand 0 false (some 3) false)
  | .ior => .inl (zz_h2 (fun x y => x ||| y) zz_tor 0 true (some 5) false)
  | .ixor => .inl (zz_h2 (fun x y => x ^^^ y) zz_tno 0 true (some 7) false)
  | .ishl => .inl (zz_h2 (fun x y => x <<< (y &&& 31)) zz_tno 0 true (some 4) false)
  | .ishr => .inl (zz_h2 (fun x y => x >>> (y &&& 31)) zz_tno 0 true none false)
  | .iushr => .inl (zz_h2 (fun x y => (x.toUInt32 >>> (y.toUInt32 &&& Int32.toUInt32 31)).toInt32) zz_tno 0 true none false)
  | .idiv => .inl (zz_h2 (fun x y => x / y) zz_tdiv 0 true none true)
  | .irem => .inl (zz_h2 (fun x y => x - x / y * y) zz_trem 0 false none true)
  | .ineg => .inl (zz_h1 (fun x => -x) xx_full)
  | .i2b => .inl (zz_h1 (fun x => x.toInt8.toInt32) (-128, 127))
  | .i2c => .inl zz_hi2c
  | .ladd => .inl zz_hl2
  | .lsub => .inl zz_hl2
  | .land => .inl zz_hl2
  | .lor => .inl zz_hl2
  | .lxor => .inl zz_hl2
  | .lshl => .inl zz_hlsh
  | .lushr => .inl zz_hlsh
  | .lshr => .inl zz_hlsh
  | .lcmp => .inl zz_hlcmp
  | .i2l => .inl zz_hi2l
  | .l2i => .inl zz_hl2i
  | .dup => .inl zz_hdup
  | .dup2 => .inl zz_hdup2
  | .pop => .inl zz_hpop
  | .getfield _ => .inl zz_hgetf
  | .putfield _ => .inl zz_hputf
  | .getstatic _ => .inl zz_hgets
  | .iaload => .inl zz_hiald
  | .baload => .inl zz_hbald
  | .laload => .inl zz_hlald
  | .aaload => .inr zz_kaald
  | .iastore => .inl zz_hiast
  | .bastore => .inl zz_hbast
  | .lastore => .inl zz_hlast
  | .arraylength => .inl zz_hlen
  | .goto off => .inr (zz_kgoto off)
  | .ifCond c off => .inr (zz_kif c off)
  | .if_icmp c off => .inr (zz_kicmp c off)
  | .tableswitch d lo hi offs => .inr (zz_ktab d lo hi offs)
  | .lookupswitch d ps => .inr (zz_klook d ps)
  | .ireturn => .inr zz_kiret
  | .lreturn => .inr zz_klret
  | .return_ => .inr zz_kvret
  | .invokevirtual _ => .inr zz_kvirt
  | .invokestatic _ => .inr zz_kstat
  | _ => .inl zz_none
/-- what a row reads lies in the places that may be read -/
def zz_rix (D : zz_D) (cs : zz_C) (st : List zz_V) : Bool := match st with
  | ix :: .inr (.inr (.inl key)) :: _ => match zz_iv cs ix with
    | some r => xx_fN (2000000 + key) (fun k => zz_may D k r)
    | none => false
  | _ => false
def zz_rdk (D : zz_D) (cs : zz_C) (i : Instr) (ops : List Nat) (st : List zz_V) : Bool := match i with
  | .getfield _ => match st with
    | .inr (.inr (.inl key)) :: _ => match ops with
      | [_, f, _, _] => xx_fN (2000000 + key) (fun k => zz_may D k ((f : Int), (f : Int)))
      | _ => true
    | _ => false
  | .iaload => zz_rix D cs st
  | .baload => zz_rix D cs st
  | .laload => zz_rix D cs st
  | .invokestatic _ => match ops with
    | 9 :: _ => zz_may D 3000000 (0, 0)
    | _ => true
  | _ => true
def zz_go (rec : zz_R) (E : zz_E) (lim : Nat) (M : xx_M) (X : zz_X) (kr : zz_KR) (ops : List Nat) (pc : Nat) (e : xx_I) (tl : List xx_I) : zz_G := fun cs nL ca fl ls st => match zz_rdk X.2.2.1 cs e.2.1 ops st with
  | true => match zz_disp e.2.1 with
    | .inl h => h E M ops X.2.2.1 X.2.1 cs nL ca fl ls st (zz_nx rec M X kr (pc + e.2.2.1) tl)
    | .inr w => w rec E lim M X kr ops pc e tl cs nL ca fl ls st
  | false => false
def zz_all (f : zz_Z → Bool) : List zz_Z → Bool
  | [] => true
  | o :: r => f o && zz_all f r
/-- entailments that stand at this row: the first that fits -/
def zz_hint (rec : zz_R) (E : zz_E) (M : xx_M) (X : zz_X) (kr : zz_KR) (pc : Nat) (cur : List xx_I) (cs : zz_C) (nL : Nat) (ca : zz_A) (fl : zz_B) (ls : zz_L) (st : List zz_V) (no : Bool) : List (Nat × Nat) → Bool
  | [] => no
  | (p, i) :: r => match Nat.beq p pc with
    | false => zz_hint rec E M X kr pc cur cs nL ca fl ls st no r
    | true => match E.2.2.2.2.2.2 i with
      | none => zz_hint rec E M X kr pc cur cs nL ca fl ls st no r
      | some (Z, os) => zz_mt E X.2.2.2.2.2.2.2.1 X.2.2.2.2.2.2.2.2 cs nL ca fl ls st Z (fun _ _ _ _ _ => zz_all (fun o => rec M X true kr pc cur o.1 o.2.1 o.2.2.1 o.2.2.2.1 o.2.2.2.2.1 o.2.2.2.2.2) os) (zz_hint rec E M X kr pc cur cs nL ca fl ls st no r)
def zz_row (rec : zz_R) (E : zz_E) (lim : Nat) (M : xx_M) (X : zz_X) (sk : Bool) (kr : zz_KR) (pc : Nat) (cur : List xx_I) : zz_G := fun cs nL ca fl ls st => match cur with
  | [] => false
  | e :: tl => match Nat.beq e.1 pc with
    | false => false
    | true => match sk with
      | true => zz_go rec E lim M X kr (xx_ops e.2.2.2) pc e tl cs nL ca fl ls st
      | false => match (match e.2.2.2 with
          | 77 :: _ => zz_cut E X.2.2.2.2.2.2.1.1 X.2.2.2.2.2.2.1.2 X.2.2.2.2.2.1 cs nL ca fl ls st pc X.2.2.2.1
          | _ => false) with
        | true => true
        | false => zz_hint rec E M X kr pc (e :: tl) cs nL ca fl ls st (zz_go rec E lim M X kr (xx_ops e.2.2.2) pc e tl cs nL ca fl ls st) X.2.2.2.2.1
def zz_exec (E : zz_E) (lim n : Nat) : zz_R := match n with
  | 0 => fun _ _ _ _ _ _ _ _ _ _ _ _ => false
  | n + 1 => fun M X sk kr pc cur cs nL ca fl ls st => zz_row (zz_exec E lim n) E lim M X sk kr pc cur cs nL ca fl ls st
