/-! the second executor: values, memory, steps -/
/-- an int; none: a long; (false, o): the cell o; (true, k): the outer thing k -/
abbrev sx_V : Type := sx_e ⊕ Option (Bool × Nat)
abbrev sx_L : Type := List (Nat × sx_V)
/-- what some places hold: place = 65536 cell + slot -/
abbrev sx_Tr : Type := List (Nat × sx_e)
/-- number of words, units written, clauses that don't hold now, places, facts -/
abbrev sx_Me : Type := Nat × Nat × Nat × sx_Tr × sx_Fa
abbrev sx_Fr : Type := ex_T × List ex_E × Nat × Nat × Nat × Nat × sx_L × List sx_V
abbrev sx_K : Type := ex_T → List ex_E → Nat → Nat → Nat → Nat → sx_L → List sx_V → List sx_Fr → sx_Me → Bool
/-- segments of a cell: length, least, greatest, unit -/
abbrev sx_Sg : Type := List (Nat × Int × Int × Nat)
/-- a clause: number, cell, the counting slot, first slot, how many: of those below the count each is 1 at least -/
abbrev sx_Cl : Type := Nat × Nat × Nat × Nat × Nat
/-- the tables: segments, modulus of a cell (what it holds at k is at most k mod m) and slope (a, b: what it holds at k, and a k, is at most b), shapes, references, clauses, other clauses (number, cell, from, to), which cells are forked over -/
abbrev sx_Z : Type := (Nat → sx_Sg) × (Nat → Nat × Nat × Int) × (Nat → ex_F) × (Nat → Nat → Option Nat) × List sx_Cl × List (Nat × Nat × Nat × Nat) × (Nat → Bool)
abbrev sx_w (w : Nat) : sx_e := (.ofNat 0, [(.ofNat 1, w)])
abbrev sx_lo : Int := .negSucc 2147483647
abbrev sx_up : Int := .ofNat 2147483647
def sx_bit (m n : Nat) : Bool := (Nat.land 1 (Nat.shiftRight m n)).beq 1
def sx_atl (sg : sx_Sg) (k : Nat) : Option (Int × Int × Nat) := match sg with
  | [] => none
  | (n, lo, hi, u) :: t => if k < n then some (lo, hi, u) else sx_atl t (k - n)
noncomputable def sx_at (sg : sx_Sg) (k : Nat) (K : Int → Int → Nat → Bool) : Bool := List.rec (motive := fun _ => Nat → Bool) (fun _ => false) (fun q _ ih k => bif k.blt q.1 then K q.2.1 q.2.2.1 q.2.2.2 else ex_fN (k - q.1) ih) sg k
/-- all segments that meet the slots from a to b -/
noncomputable def sx_over (sg : sx_Sg) (a b : Nat) (F : Int → Int → Nat → Bool) : Bool := List.rec (motive := fun _ => Nat → Nat → Bool) (fun _ _ => false) (fun q _ ih a b => (bif a.blt q.1 then F q.2.1 q.2.2.1 q.2.2.2 else true) && (bif b.blt q.1 then true else ex_fN (a - q.1) fun a => ex_fN (b - q.1) fun b => ih a b)) sg a b
/-- the hull of the segments that meet a .. b -/
noncomputable def sx_hullr (K : Int → Int → Bool) (sg : sx_Sg) : Nat → Nat → Option (Int × Int) → Bool := List.rec (motive := fun _ => Nat → Nat → Option (Int × Int) → Bool) (fun _ _ _ => false) (fun q _ ih a b acc => (match acc with
  | none => bif a.blt q.1 then (bif b.blt q.1 then K q.2.1 q.2.2.1 else ex_fN (b - q.1) fun b => ih 0 b (some (q.2.1, q.2.2.1))) else ex_fN (a - q.1) fun a => ex_fN (b - q.1) fun b => ih a b none
  | some (lo, hi) => sx_min lo q.2.1 fun lo => sx_max hi q.2.2.1 fun hi => bif b.blt q.1 then K lo hi else ex_fN (b - q.1) fun b => ih 0 b (some (lo, hi)))) sg
noncomputable def sx_hull (sg : sx_Sg) (a b : Nat) (K : Int → Int → Bool) : Bool := sx_hullr K sg a b none
/-- the units of the segments that meet a .. b -/
noncomputable def sx_units (sg : sx_Sg) (a b : Nat) (md : Nat) (K : Nat → Bool) : Bool := List.rec (motive := fun _ => Nat → Nat → Nat → Bool) (fun _ _ _ => false) (fun q _ ih a b md => (bif a.blt q.1 then ex_fN (Nat.lor md (Nat.shiftLeft 1 q.2.2.2)) else ex_fN md) fun md => bif b.blt q.1 then K md else ex_fN (a - q.1) fun a => ex_fN (b - q.1) fun b => ih a b md) sg a b md
/-! places -/
noncomputable def sx_trg (tr : sx_Tr) (key : Nat) (K1 : sx_e → Bool) (K0 : Bool) : Bool := List.rec (motive := fun _ => Bool) K0 (fun q _ ih => bif q.1.beq key then K1 q.2 else ih) tr
noncomputable def sx_filt (tr : sx_Tr) (F : Nat → Bool) (K : sx_Tr → Bool) : Bool := List.rec (motive := fun _ => (sx_Tr → Bool) → Bool) (fun K => K []) (fun q _ ih K => bif F q.1 then ih (fun r => K (q :: r)) else ih K) tr K
/-- a word that is new -/
noncomputable def sx_new (me : sx_Me) (lo hi : Int) (K : sx_Me → sx_e → Bool) : Bool := match me with
  | (nw, md, xm, tr, fa) => ex_fN (nw + 1) fun n1 => K (n1, md, xm, tr, ([(.ofNat 1, nw)], lo, hi) :: fa) (sx_w nw)
/-- an int that may have left its range -/
noncomputable def sx_wrap (me : sx_Me) (e : sx_e) (K : sx_Me → sx_e → Bool) : Bool := match e with
  | (c, []) => bif sx_ile sx_lo c && sx_ile c sx_up then K me (c, []) else false
  | (c, q :: l) => match me with
    | (nw, md, xm, tr, fa) => sx_lb fa (q :: l) fun lo hi => bif sx_ile sx_lo (c + lo) && sx_ile (c + hi) sx_up then K (nw, md, xm, tr, fa) (c, q :: l) else
      bif (ex_fI (c - sx_up) fun c1 => sx_le0 1 fa (c1, q :: l)) && (sx_negA (q :: l) fun m => ex_fI (sx_lo - c) fun c2 => sx_le0 1 fa (c2, m)) then K (nw, md, xm, tr, fa) (c, q :: l) else sx_new (nw, md, xm, tr, fa) sx_lo sx_up K
/-- lies between -/
noncomputable def sx_in (fa : sx_Fa) (e : sx_e) (lo hi : Int) : Bool := (sx_ile lo sx_lo || (sx_lin (-1) e (lo, []) fun d => sx_leq fa d)) && (sx_ile sx_up hi || (sx_lin 1 e (-hi, []) fun d => sx_leq fa d))
noncomputable def sx_inx (fa : sx_Fa) (e : sx_e) (lo hi : Int) : Bool := (sx_lin (-1) e (lo, []) fun d => sx_leq fa d) && (sx_lin 1 e (-hi, []) fun d => sx_leq fa d)
/-- a number, by trying all -/
noncomputable def sx_conc (me : sx_Me) (e : sx_e) (K : sx_Me → Int → Bool) : Bool := match e with
  | (c, []) => K me c
  | (c, [(a, w)]) => (match me with
    | (nw, md, xm, tr, fa) => sx_wb fa w fun lo hi => bif sx_ile (hi - lo) 64 then ex_all ((hi - lo).toNat + 1) lo (fun v => sx_fact fa [(.ofNat 1, w)] v v fun fa => ex_fI (c + a * v) fun x => K (nw, md, xm, tr, fa) x) else false)
  | (c, q :: l) => match me with
    | (nw, md, xm, tr, fa) => sx_lb fa (q :: l) fun lo hi => bif sx_ile (hi - lo) 64 then ex_all ((hi - lo).toNat + 1) lo (fun v => sx_fact fa (q :: l) v v fun fa => ex_fI (c + v) fun x => K (nw, md, xm, tr, fa) x) else false
/-! the clauses -/
/-- does a clause let the int be 1 at least that stands at a slot? -/
noncomputable def sx_cl1 (Z : sx_Z) (me : sx_Me) (o : Nat) (e : sx_e) : Bool := List.rec (motive := fun _ => Bool) false (fun c _ ih => (c.2.1.beq o && (!sx_bit me.2.2.1 c.1 && (ex_fN (65536 * o + c.2.2.1) fun key => sx_trg me.2.2.2.1 key (fun f => (sx_lin (-1) f e fun d => ex_fI (d.1 + (1 - .ofNat c.2.2.2.1)) fun c0 => sx_le0 1 me.2.2.2.2 (c0, d.2)) && (sx_in me.2.2.2.2 e (.ofNat c.2.2.2.1) (.ofNat c.2.2.2.1 + .ofNat c.2.2.2.2 - 1))) false))) || ih) Z.2.2.2.2.1
/-- does the clause stay true when e is written to slot k? -/
noncomputable def sx_keeps (me : sx_Me) (c : sx_Cl) (k : Nat) (e : sx_e) : Bool :=
  bif k.beq c.2.2.1 then ex_fN (65536 * c.2.1 + c.2.2.1) (fun ka => ex_all c.2.2.2.2 0 (fun j => sx_in me.2.2.2.2 e sx_lo j || ((ex_fN (65536 * c.2.1 + (c.2.2.2.1 + j.toNat)) fun kb => sx_trg me.2.2.2.1 kb (fun f => sx_in me.2.2.2.2 f 1 sx_up) false) || sx_trg me.2.2.2.1 ka (fun f => sx_in me.2.2.2.2 f (j + 1) sx_up) false)))
  else bif c.2.2.2.1.ble k && k.blt (c.2.2.2.1 + c.2.2.2.2) then sx_in me.2.2.2.2 e 1 sx_up || (ex_fN (65536 * c.2.1 + c.2.2.1) fun ka => sx_trg me.2.2.2.1 ka (fun f => sx_in me.2.2.2.2 f sx_lo (.ofNat (k - c.2.2.2.1))) false)
  else true
noncomputable def sx_xm1 (cl : List sx_Cl) (me : sx_Me) (o k : Nat) (e : sx_e) (xm : Nat) (K : Nat → Bool) : Bool := List.rec (motive := fun _ => Nat → Bool) K (fun c _ ih xm => bif c.2.1.beq o then (bif sx_keeps me c k e then ih xm else ex_fN (Nat.lor xm (Nat.shiftLeft 1 c.1)) ih) else ih xm) cl xm
noncomputable def sx_xm2 (cu : List (Nat × Nat × Nat × Nat)) (o a b : Nat) (xm : Nat) (K : Nat → Bool) : Bool := List.rec (motive := fun _ => Nat → Bool) K (fun c _ ih xm => bif c.2.1.beq o && (a.blt c.2.2.2 && c.2.2.1.ble b) then ex_fN (Nat.lor xm (Nat.shiftLeft 1 c.1)) ih else ih xm) cu xm
/-- clauses that a write somewhere between a and b may break -/
noncomputable def sx_xm3 (cl : List sx_Cl) (o a b : Nat) (xm : Nat) (K : Nat → Bool) : Bool := List.rec (motive := fun _ => Nat → Bool) K (fun c _ ih xm => bif c.2.1.beq o && ((a.ble c.2.2.1 && c.2.2.1.ble b) || (a.blt (c.2.2.2.1 + c.2.2.2.2) && c.2.2.2.1.ble b)) then ex_fN (Nat.lor xm (Nat.shiftLeft 1 c.1)) ih else ih xm) cl xm
/-! reading and writing -/
noncomputable def sx_rd (Z : sx_Z) (me : sx_Me) (o k : Nat) (K : sx_Me → sx_e → Bool) : Bool := k.blt 65536 && (ex_fN (65536 * o + k) fun key => sx_trg me.2.2.2.1 key (fun e => K me e) (sx_at (Z.1 o) k fun lo hi _ => (bif sx_cl1 Z me o (.ofNat k, []) then sx_max lo 1 else ex_fI lo) fun lo => bif sx_ieq lo hi then K me (lo, []) else sx_new me lo hi fun me e => match me with
  | (nw, md, xm, tr, fa) => K (nw, md, xm, (key, e) :: tr, fa) e))
noncomputable def sx_wr (Z : sx_Z) (me : sx_Me) (o k : Nat) (e : sx_e) (K : sx_Me → Bool) : Bool := match me with
  | (nw, md, xm, tr, fa) => k.blt 65536 && sx_at (Z.1 o) k fun lo hi u => sx_in fa e lo hi && ((((Z.2.1 o).1.beq 0 || sx_in fa e sx_lo (.ofNat (k % (Z.2.1 o).1))) && ((Z.2.1 o).2.1.beq 0 || sx_in fa e sx_lo ((Z.2.1 o).2.2 - .ofNat ((Z.2.1 o).2.1 * k)))) && sx_xm1 Z.2.2.2.2.1 (nw, md, xm, tr, fa) o k e xm fun xm => sx_xm2 Z.2.2.2.2.2.1 o k k xm fun xm => ex_fN (65536 * o + k) fun key => ex_fN (Nat.lor md (Nat.shiftLeft 1 u)) fun md => sx_trg tr key (fun _ => sx_filt tr (fun q => !(q.beq key)) fun tr => K (nw, md, xm, (key, e) :: tr, fa)) (K (nw, md, xm, (key, e) :: tr, fa)))
/-- e = m q + r with r between 0 and m - 1: the terms of r -/
noncomputable def sx_res (m : Nat) (l : sx_A) (K : sx_A → Bool) : Bool := List.rec (motive := fun _ => (sx_A → Bool) → Bool) (fun K => K []) (fun q _ ih K => bif sx_ieq (q.1 % .ofNat m) 0 then ih K else ih fun r => K (q :: r)) l K
/-- between which slots of n a form lies -/
noncomputable def sx_rng (fa : sx_Fa) (e : sx_e) (n : Nat) (K : Nat → Nat → Bool) : Bool := sx_lb fa e.2 fun lo hi => (match e.1 + lo with
  | .ofNat a => ex_fN a
  | .negSucc _ => ex_fN 0) fun a => match e.1 + hi with
  | .ofNat b => bif b.blt n then ex_fN b fun b => K a b else ex_fN (n - 1) fun b => K a b
  | .negSucc _ => false
/-- out of an array of n at a form -/
noncomputable def sx_rda (Z : sx_Z) (me : sx_Me) (o n : Nat) (e : sx_e) (K : sx_Me → sx_e → Bool) : Bool := sx_rng me.2.2.2.2 e n fun a b => sx_hull (Z.1 o) a b fun lo hi => (bif sx_cl1 Z me o e then sx_max lo 1 else ex_fI lo) fun lo => sx_new me lo hi fun me w => bif (Z.2.1 o).1.beq 0 then (bif (Z.2.1 o).2.1.beq 0 then K me w else match me with
  | (nw, md, xm, tr, fa) => sx_axpy (.ofNat (Z.2.1 o).2.1) e.2 w.2 fun l => sx_fact fa l (sx_lo - .ofNat (Z.2.1 o).2.1 * e.1) ((Z.2.1 o).2.2 - .ofNat (Z.2.1 o).2.1 * e.1) fun fa => K (nw, md, xm, tr, fa) w) else match me with
  | (nw, md, xm, tr, fa) => sx_res (Z.2.1 o).1 e.2 fun r => ex_fI (e.1 % .ofNat (Z.2.1 o).1) fun c => bif sx_inx fa (c, r) 0 (.ofNat (Z.2.1 o).1 - 1) then sx_axpy (-1) r w.2 fun l => sx_fact fa l (sx_lo - .ofNat (Z.2.1 o).1) c fun fa => K (nw, md, xm, tr, fa) w else K (nw, md, xm, tr, fa) w
/-- into an array of n at a form -/
noncomputable def sx_wra (Z : sx_Z) (me : sx_Me) (o n : Nat) (i e : sx_e) (K : sx_Me → Bool) : Bool := match me with
  | (nw, md, xm, tr, fa) => sx_rng fa i n fun a b => sx_over (Z.1 o) a b (fun lo hi _ => sx_in fa e lo hi) && ((((Z.2.1 o).1.beq 0 || (sx_res (Z.2.1 o).1 i.2 fun r => ex_fI (i.1 % .ofNat (Z.2.1 o).1) fun c => sx_inx fa (c, r) 0 (.ofNat (Z.2.1 o).1 - 1) && sx_lin (-1) (c, r) e fun d => sx_leq fa d)) && ((Z.2.1 o).2.1.beq 0 || sx_lin (.ofNat (Z.2.1 o).2.1) i e fun d => ex_fI (d.1 - (Z.2.1 o).2.2) fun c => sx_leq fa (c, d.2))) && sx_xm3 Z.2.2.2.2.1 o a b xm fun xm => sx_xm2 Z.2.2.2.2.2.1 o a b xm fun xm => sx_units (Z.1 o) a b md fun md => sx_filt tr (fun q => !((q / 65536).beq o)) fun tr => K (nw, md, xm, tr, fa))
/-- an index into n places -/
noncomputable def sx_ix (fa : sx_Fa) (i : sx_e) (n : Nat) : Bool := (sx_negA i.2 fun m => ex_fI (-i.1) fun c => sx_leq fa (c, m)) && ex_fI (i.1 - .ofNat n + 1) fun c => sx_leq fa (c, i.2)
/-! lists -/
def sx_cat (v : sx_V) : Nat := match v with
  | .inr none => 2
  | _ => 1
noncomputable def sx_cats (l : List sx_V) : Nat := List.rec (motive := fun _ => Nat) 0 (fun v _ ih => sx_cat v + ih) l
noncomputable def sx_fnd (lv : sx_L) (i : Nat) : Option sx_V := List.rec (motive := fun _ => Option sx_V) none (fun q _ ih => bif q.1.beq i then some q.2 else ih) lv
noncomputable def sx_fil (lv : sx_L) (i : Nat) (K : sx_L → Bool) : Bool := List.rec (motive := fun _ => (sx_L → Bool) → Bool) (fun K => K []) (fun q _ ih K => bif (!(q.1 == i) && !(q.1 + 1 == i && sx_cat q.2 == 2)) then ih (fun r => K (q :: r)) else ih K) lv K
noncomputable def sx_fil2 (lv : sx_L) (i : Nat) (K : sx_L → Bool) : Bool := List.rec (motive := fun _ => (sx_L → Bool) → Bool) (fun K => K []) (fun q _ ih K => bif (!(q.1 == i) && (!(q.1 == i + 1) && !(q.1 + 1 == i && sx_cat q.2 == 2))) then ih (fun r => K (q :: r)) else ih K) lv K
noncomputable def sx_pop (n : Nat) (st acc : List sx_V) (K : List sx_V → List sx_V → Bool) : Bool := Nat.rec (motive := fun _ => List sx_V → List sx_V → Bool) (fun st acc => K acc st) (fun _ ih st acc => match st with
  | [] => false
  | v :: st => ih st (v :: acc)) n st acc
noncomputable def sx_args (i : Nat) (as : List sx_V) (K : sx_L → Bool) : Bool := List.rec (motive := fun _ => Nat → (sx_L → Bool) → Bool) (fun _ K => K []) (fun v _ ih i K => bif sx_cat v == 2 then ex_fN (i + 2) fun i2 => ih i2 (fun r => K ((i, v) :: r)) else ex_fN (i + 1) fun i2 => ih i2 (fun r => K ((i, v) :: r))) as i K
/-- the shape of an object, of an array -/
noncomputable def sx_isO (Z : sx_Z) (o ci : Nat) : Bool := match Z.2.2.1 o with
  | .tag c .nil => c.beq ci
  | _ => false
noncomputable def sx_isA (Z : sx_Z) (o : Nat) (K : Nat → Nat → Bool) : Bool := match Z.2.2.1 o with
  | .tag t (.tag n .nil) => K t n
  | _ => false
/-! arithmetic -/
noncomputable def sx_scale (k : Int) (e : sx_e) (K : sx_e → Bool) : Bool := bif sx_ieq k 0 then K (0, []) else sx_lin k e (0, []) K
/-- a product of ints between a and b, p and q -/
noncomputable def sx_mulr (me : sx_Me) (a b p q : Int) (K : sx_Me → sx_e → Bool) : Bool := sx_min (a * p) (a * q) fun m1 => sx_min (b * p) (b * q) fun m2 => sx_min m1 m2 fun m => sx_max (a * p) (a * q) fun n1 => sx_max (b * p) (b * q) fun n2 => sx_max n1 n2 fun n => bif sx_ile sx_lo m && sx_ile n sx_up then sx_new me m n K else sx_new me sx_lo sx_up K
/-- of one that isn't negative, at most b, and y of either sign -/
noncomputable def sx_muls (me : sx_Me) (a b p q : Int) (y : sx_e) (K : sx_Me → sx_e → Bool) : Bool := bif sx_ile sx_lo (b * p) && sx_ile (b * q) sx_up then (match me with
  | (nw, md, xm, tr, fa) => sx_cmp fa 2 y (.ofNat 0, []) (fun fa => ex_fI (b * p) fun m => sx_new (nw, md, xm, tr, fa) m 0 fun me w => match me with
      | (nw, md, xm, tr, fa) => sx_axpy (-b) y.2 w.2 fun l => sx_fact fa l (b * y.1) (b * y.1 - b * p) fun fa => K (nw, md, xm, tr, fa) w)
    (fun fa => ex_fI (b * q) fun m => sx_new (nw, md, xm, tr, fa) 0 m fun me w => match me with
      | (nw, md, xm, tr, fa) => sx_axpy (-b) y.2 w.2 fun l => sx_fact fa l (b * y.1 - b * q) (b * y.1) fun fa => K (nw, md, xm, tr, fa) w))
  else sx_mulr me a b p q K
noncomputable def sx_mul (me : sx_Me) (x y : sx_e) (K : sx_Me → sx_e → Bool) : Bool := match x with
  | (c, []) => sx_scale c y fun e => sx_wrap me e K
  | (cx, qx :: lx) => (match y with
    | (c, []) => sx_scale c (cx, qx :: lx) fun e => sx_wrap me e K
    | (cy, qy :: ly) => sx_lb me.2.2.2.2 (qx :: lx) fun a b => sx_lb me.2.2.2.2 (qy :: ly) fun p q => bif sx_ile (b - a) 2 then sx_conc me (cx, qx :: lx) fun me v => sx_scale v (cy, qy :: ly) fun e => sx_wrap me e K else bif sx_ile (q - p) 2 then sx_conc me (cy, qy :: ly) fun me v => sx_scale v (cx, qx :: lx) fun e => sx_wrap me e K else ex_fI (cx + a) fun a => ex_fI (cx + b) fun b => ex_fI (cy + p) fun p => ex_fI (cy + q) fun q => bif sx_ile 0 a && (sx_ile p (-1) && sx_ile 1 q) then sx_muls me a b p q (cy, qy :: ly) K else sx_mulr me a b p q K)
/-- and, or, xor, shifts, narrowing: 3 .. 8, 11 -/
noncomputable def sx_bits (o : Nat) (me : sx_Me) (x y : sx_e) (K : sx_Me → sx_e → Bool) : Bool := match y with
  | (c, []) => (match x with
    | (d, []) => ex_fI (ex_bin o (Int32.ofInt d) (Int32.ofInt c)).toInt fun z => K me (z, [])
    | _ => match o with
      | 3 => bif sx_ile 0 c && sx_ile c sx_up then sx_new me 0 c K else sx_new me sx_lo sx_up K
      | 8 => bif sx_ile 1 c && sx_ile c 31 then ex_fI (.ofNat (Nat.shiftLeft 1 (32 - c.toNat) - 1)) fun h => sx_new me 0 h K else sx_new me sx_lo sx_up K
      | 11 => sx_new me (-128) 127 K
      | _ => sx_new me sx_lo sx_up K)
  | _ => sx_new me sx_lo sx_up K
/-- a remainder w by y, between lo and hi: its fact with k y -/
noncomputable def sx_remf (me : sx_Me) (lo hi k : Int) (y : sx_e) (flo fhi : Int) (K : sx_Me → sx_e → Bool) : Bool := sx_new me lo hi fun me w => match me with
  | (nw, md, xm, tr, fa) => sx_axpy k y.2 w.2 fun l => ex_fI flo fun c1 => ex_fI fhi fun c2 => sx_fact fa l c1 c2 fun fa => K (nw, md, xm, tr, fa) w
noncomputable def sx_divp (o : Nat) (me : sx_Me) (x y : sx_e) (K : sx_Me → sx_e → Bool) : Bool := match o with
  | 9 => bif sx_in me.2.2.2.2 x 0 sx_up then (sx_lb me.2.2.2.2 x.2 fun _ hi => ex_fI (x.1 + hi) fun h => sx_min h sx_up fun h => sx_new me 0 h K) else sx_new me sx_lo sx_up K
  | _ => bif sx_in me.2.2.2.2 x 0 sx_up then (sx_lb me.2.2.2.2 y.2 fun _ hi => ex_fI (y.1 + hi - 1) fun h => sx_remf me 0 h (-1) y (y.1 - sx_up) (y.1 - 1) K)
    else bif sx_in me.2.2.2.2 x sx_lo 0 then (sx_lb me.2.2.2.2 y.2 fun _ hi => ex_fI (1 - (y.1 + hi)) fun h => sx_remf me h 0 1 y (1 - y.1) (sx_up - y.1) K)
    else sx_new me sx_lo sx_up K
noncomputable def sx_divn (o : Nat) (me : sx_Me) (x y : sx_e) (K : sx_Me → sx_e → Bool) : Bool := match o with
  | 9 => sx_new me sx_lo sx_up K
  | _ => bif sx_in me.2.2.2.2 x 0 sx_up then (sx_lb me.2.2.2.2 y.2 fun lo _ => ex_fI (-1 - (y.1 + lo)) fun h => sx_remf me 0 h 1 y (sx_lo - y.1) (-1 - y.1) K)
    else sx_new me sx_lo sx_up K
noncomputable def sx_div (o : Nat) (me : sx_Me) (x y : sx_e) (K : sx_Me → sx_e → Bool) : Bool := bif sx_in me.2.2.2.2 y 1 sx_up then (sx_lb me.2.2.2.2 x.2 fun a b => sx_lb me.2.2.2.2 y.2 fun p q => bif sx_ile (b - a) 16 && sx_ile (q - p) 16 then (sx_conc me x fun me u => sx_conc me y fun me v => ex_fI (ex_bin o (Int32.ofInt u) (Int32.ofInt v)).toInt fun z => K me (z, [])) else sx_divp o me x y K)
  else bif sx_in me.2.2.2.2 y sx_lo (-1) then sx_divn o me x y K else false
/-- the word of the script's entry at i and a number below 6: the words are the length's, i's, and six behind them -/
noncomputable def sx_scr (w : Nat) (i : sx_e) (K : Nat → Bool) : Bool := match i with
  | (.ofNat c, [(a, v)]) => c.blt 6 && (sx_ieq a 1 && (v.beq (w + 1) && ex_fN (w + 2 + c) K))
  | _ => false
/-- a number that is an int -/
noncomputable def sx_ci (n : Int) (K : Int → Bool) : Bool := bif sx_ile sx_lo n && sx_ile n sx_up then ex_fI n K else false
/-- a long is written: unit 900; a long of cell 72: unit 901 too -/
noncomputable def sx_lgm (md o : Nat) : Nat := Nat.lor (Nat.lor md (Nat.shiftLeft 1 900)) (bif o.beq 72 then Nat.shiftLeft 1 901 else 0)
noncomputable def sx_lg (me : sx_Me) (o : Nat) (K : sx_Me → Bool) : Bool := match me with
  | (nw, md, xm, tr, fa) => ex_fN (Nat.lor (Nat.lor md (Nat.shiftLeft 1 900)) (bif o.beq 72 then Nat.shiftLeft 1 901 else 0)) fun md => K (nw, md, xm, tr, fa)
theorem sx_lg_eq (me : sx_Me) (o : Nat) (K : sx_Me → Bool) : sx_lg me o K = K (me.1, sx_lgm me.2.1 o, me.2.2.1, me.2.2.2.1, me.2.2.2.2) := by
  obtain ⟨nw, md, xm, tr, fa⟩ := me
  show (ex_fN (sx_lgm md o) fun md => K (nw, md, xm, tr, fa)) = _
  rw [ex_fN_eq]
section ST
variable (Z : sx_Z) (K : sx_K) (T : ex_T) (cd : List ex_E) (nx d mc ms : Nat) (lv : sx_L) (st : List sx_V) (fs : List sx_Fr) (me : sx_Me)
noncomputable def sx_iload (i : Nat) : Bool := match sx_fnd lv i with
  | some (.inl e) => K T cd nx d mc ms lv (.inl e :: st) fs me
  | _ => false
noncomputable def sx_lload (i : Nat) : Bool := match sx_fnd lv i with
  | some (.inr none) => K T cd nx d mc ms lv (.inr none :: st) fs me
  | _ => false
noncomputable def sx_aload (i : Nat) : Bool := match sx_fnd lv i with
  | some (.inr (some r)) => K T cd nx d mc ms lv (.inr (some r) :: st) fs me
  | _ => false
noncomputable def sx_istore (i : Nat) : Bool := match st with
  | .inl e :: st => sx_fil lv i fun r => K T cd nx d mc ms ((i, .inl e) :: r) st fs me
  | _ => false
noncomputable def sx_lstore (i : Nat) : Bool := match st with
  | .inr none :: st => sx_fil2 lv i fun r => K T cd nx d mc ms ((i, .inr none) :: r) st fs me
  | _ => false
noncomputable def sx_astore (i : Nat) : Bool := match st with
  | .inr (some q) :: st => sx_fil lv i fun r => K T cd nx d mc ms ((i, .inr (some q)) :: r) st fs me
  | _ => false
noncomputable def sx_iinc (i : Nat) (n : Int) : Bool := match sx_fnd lv i with
  | some (.inl e) => sx_ci n fun n => ex_fI (e.1 + n) fun c => sx_wrap me (c, e.2) fun me e => sx_fil lv i fun r => K T cd nx d mc ms ((i, .inl e) :: r) st fs me
  | _ => false
noncomputable def sx_arith (o : Nat) : Bool := match st with
  | .inl y :: .inl x :: st => (match o with
    | 0 => sx_lin 1 y x fun e => sx_wrap me e fun me e => K T cd nx d mc ms lv (.inl e :: st) fs me
    | 1 => sx_lin (-1) y x fun e => sx_wrap me e fun me e => K T cd nx d mc ms lv (.inl e :: st) fs me
    | 2 => sx_mul me x y fun me e => K T cd nx d mc ms lv (.inl e :: st) fs me
    | 9 => sx_div 9 me x y fun me e => K T cd nx d mc ms lv (.inl e :: st) fs me
    | 10 => sx_div 10 me x y fun me e => K T cd nx d mc ms lv (.inl e :: st) fs me
    | o => sx_bits o me x y fun me e => K T cd nx d mc ms lv (.inl e :: st) fs me)
  | _ => false
noncomputable def sx_un (o : Nat) : Bool := match st with
  | .inl x :: st => (match o with
    | 1 => sx_lin (-1) x (0, []) fun e => sx_wrap me e fun me e => K T cd nx d mc ms lv (.inl e :: st) fs me
    | o => sx_bits o me x (0, []) fun me e => K T cd nx d mc ms lv (.inl e :: st) fs me)
  | _ => false
noncomputable def sx_jif (r tgt : Nat) (x y : sx_e) (st : List sx_V) : Bool := match me with
  | (nw, md, xm, tr, fa) => sx_cmp fa r x y (fun fa => K T [] tgt d mc ms lv st fs (nw, md, xm, tr, fa)) (fun fa => K T cd nx d mc ms lv st fs (nw, md, xm, tr, fa))
noncomputable def sx_if (r tgt : Nat) : Bool := match st with
  | .inl x :: st => sx_jif K T cd nx d mc ms lv fs me r tgt x (.ofNat 0, []) st
  | _ => false
noncomputable def sx_icmp (r tgt : Nat) : Bool := match st with
  | .inl y :: .inl x :: st => sx_jif K T cd nx d mc ms lv fs me r tgt x y st
  | _ => false
noncomputable def sx_jump (pc : Nat) (off : Int) (st : List sx_V) (me : sx_Me) : Bool := match (pc : Int) + off with
  | .ofNat t => ex_fN t fun t => K T [] t d mc ms lv st fs me
  | .negSucc _ => false
noncomputable def sx_table (pc : Nat) (dflt lo hi : Int) (offs : Array Int) : Bool := match st with
  | .inl x :: st => match me with
    | (nw, md, xm, tr, fa) => sx_cmp fa 2 x (lo, []) (fun fa => sx_jump K T d mc ms lv fs pc dflt st (nw, md, xm, tr, fa)) fun fa => sx_cmp fa 4 x (hi, []) (fun fa => sx_jump K T d mc ms lv fs pc dflt st (nw, md, xm, tr, fa)) fun fa => sx_conc (nw, md, xm, tr, fa) x fun me v => match ex_nth offs.toList (v - lo).toNat with
      | some off => sx_jump K T d mc ms lv fs pc off st me
      | none => false
  | _ => false
noncomputable def sx_lookl (pc : Nat) (dflt : Int) (x : sx_e) (st : List sx_V) (ps : List (Int × Int)) (me : sx_Me) : Bool := List.rec (motive := fun _ => sx_Me → Bool) (fun me => sx_jump K T d mc ms lv fs pc dflt st me) (fun q _ ih me => match me with
  | (nw, md, xm, tr, fa) => sx_cmp fa 0 x (q.1, []) (fun fa => sx_jump K T d mc ms lv fs pc q.2 st (nw, md, xm, tr, fa)) fun fa => ih (nw, md, xm, tr, fa)) ps me
noncomputable def sx_lookup (pc : Nat) (dflt : Int) (ps : Array (Int × Int)) : Bool := match st with
  | .inl x :: st => sx_lookl K T d mc ms lv fs pc dflt x st ps.toList me
  | _ => false
noncomputable def sx_getf (ex : List Nat) : Bool := match ex with
  | [ci, k, kd, _] => (match st with
    | .inr (some (false, o)) :: st => sx_isO Z o ci && (match kd with
      | 0 => sx_rd Z me o k fun me e => K T cd nx d mc ms lv (.inl e :: st) fs me
      | 1 => K T cd nx d mc ms lv (.inr none :: st) fs me
      | 2 => (match Z.2.2.2.1 o k with
        | some r => K T cd nx d mc ms lv (.inr (some (false, r)) :: st) fs me
        | none => false)
      | _ => false)
    | _ => false)
  | _ => false
noncomputable def sx_putf (ex : List Nat) : Bool := match ex with
  | [ci, k, kd, _] => (match st with
    | .inl e :: .inr (some (false, o)) :: st => sx_isO Z o ci && (match kd with
      | 0 => sx_wr Z me o k e fun me => K T cd nx d mc ms lv st fs me
      | 3 => sx_in me.2.2.2.2 e 0 1 && sx_wr Z me o k e fun me => K T cd nx d mc ms lv st fs me
      | _ => false)
    | .inr none :: .inr (some (false, o)) :: st => sx_isO Z o ci && (match kd with
      | 1 => sx_lg me o fun me => K T cd nx d mc ms lv st fs me
      | _ => false)
    | _ => false)
  | _ => false
/-- an index, as a form or, in cells that are forked over, as a number -/
noncomputable def sx_idx (o : Nat) (i : sx_e) (F : sx_Me → sx_e → Bool) : Bool := bif Z.2.2.2.2.2.2 o then sx_conc me i fun me v => F me (v, []) else F me i
noncomputable def sx_rdx (me : sx_Me) (o n : Nat) (i : sx_e) (F : sx_Me → sx_e → Bool) : Bool := sx_idx Z me o i fun me i => match i with
  | (.ofNat j, []) => j.blt n && sx_rd Z me o j F
  | i => sx_ix me.2.2.2.2 i n && sx_rda Z me o n i F
noncomputable def sx_wrx (me : sx_Me) (o n : Nat) (i e : sx_e) (F : sx_Me → Bool) : Bool := sx_idx Z me o i fun me i => match i with
  | (.ofNat j, []) => j.blt n && sx_wr Z me o j e F
  | i => sx_ix me.2.2.2.2 i n && sx_wra Z me o n i e F
noncomputable def sx_alen (L : Option Nat) : Bool := match st with
  | .inr (some (false, o)) :: st => sx_isA Z o fun t n => t != 3 && (n.blt 65536 && K T cd nx d mc ms lv (.inl (.ofNat n, []) :: st) fs me)
  | .inr (some (true, 0)) :: st => (match L with
    | some w => K T cd nx d mc ms lv (.inl (sx_w w) :: st) fs me
    | none => false)
  | .inr (some (true, k)) :: st => k.blt 4 && K T cd nx d mc ms lv (.inl (.ofNat 8, []) :: st) fs me
  | _ => false
noncomputable def sx_iald (L : Option Nat) (t1 t2 : Nat) : Bool := match st with
  | .inl i :: .inr (some (false, o)) :: st => sx_isA Z o fun t n => (t.beq t1 || t.beq t2) && sx_rdx Z me o n i fun me e => K T cd nx d mc ms lv (.inl e :: st) fs me
  | .inl i :: .inr (some (true, k)) :: st => t1.beq 0 && (match k with
    | 0 => (match L with
      | some w => (sx_negA i.2 fun m => ex_fI (-i.1) fun c => sx_le0 2 me.2.2.2.2 (c, m)) && ((sx_lin (-1) (sx_w w) i fun e => ex_fI (e.1 + 1) fun c => sx_le0 2 me.2.2.2.2 (c, e.2)) && sx_scr w i fun u => K T cd nx d mc ms lv (.inl (sx_w u) :: st) fs me)
      | none => false)
    | k => sx_ix me.2.2.2.2 i 8 && (k.blt 4 && sx_new me 0 99 fun me e => K T cd nx d mc ms lv (.inl e :: st) fs me))
  | _ => false
noncomputable def sx_lald : Bool := match st with
  | .inl i :: .inr (some (false, o)) :: st => sx_isA Z o fun t n => t.beq 2 && (sx_ix me.2.2.2.2 i n && K T cd nx d mc ms lv (.inr none :: st) fs me)
  | _ => false
noncomputable def sx_aald : Bool := match st with
  | .inl i :: .inr (some (false, o)) :: st => sx_isA Z o fun t n => t.beq 4 && sx_conc me i fun me v => match v with
    | .ofNat j => j.blt n && (match Z.2.2.2.1 o j with
      | some r => K T cd nx d mc ms lv (.inr (some (false, r)) :: st) fs me
      | none => false)
    | .negSucc _ => false
  | _ => false
noncomputable def sx_iast : Bool := match st with
  | .inl x :: .inl i :: .inr (some (false, o)) :: st => sx_isA Z o fun t n => t.beq 0 && (n.blt 65536 && sx_wrx Z me o n i x fun me => K T cd nx d mc ms lv st fs me)
  | _ => false
noncomputable def sx_bast : Bool := match st with
  | .inl x :: .inl i :: .inr (some (false, o)) :: st => sx_isA Z o fun t n => (match t with
    | 1 => n.blt 65536 && sx_bits 11 me x (.ofNat 0, []) fun me e => sx_wrx Z me o n i e fun me => K T cd nx d mc ms lv st fs me
    | 3 => n.blt 65536 && sx_bits 3 me x (.ofNat 1, []) fun me e => sx_wrx Z me o n i e fun me => K T cd nx d mc ms lv st fs me
    | _ => false)
  | _ => false
noncomputable def sx_last : Bool := match st with
  | .inr none :: .inl i :: .inr (some (false, o)) :: st => sx_isA Z o fun t n => t.beq 2 && (sx_ix me.2.2.2.2 i n && sx_lg me o fun me => K T cd nx d mc ms lv st fs me)
  | _ => false
/-- into a method -/
noncomputable def sx_enter (T2 : ex_T) (bc bs : Nat) (as rest : List sx_V) : Bool := bif (sx_cats rest).ble 8 && (sx_cats as).ble T2.1.2.2.1 && bc.ble mc && bs.ble ms && Nat.ble 1 d then ex_fN (d - 1) fun d1 => ex_fN (mc - bc) fun mc1 => ex_fN (ms - bs) fun ms1 => sx_args 0 as fun l => K T2 [] 0 d1 bc bs l [] ((T, cd, nx, d, mc1, ms1, lv, rest) :: fs) me else false
/-- back to the caller; R: the end of the method that the run began with -/
noncomputable def sx_back (R : Option sx_V → sx_Me → Bool) (v : Option sx_V) : Bool := match fs with
  | (T, cd, pc, d, mc, ms, lv, st) :: fs => (match v with
    | some x => K T cd pc d mc ms lv (x :: st) fs me
    | none => K T cd pc d mc ms lv st fs me)
  | [] => R v me
noncomputable def sx_iret (R : Option sx_V → sx_Me → Bool) (ty : FieldType) : Bool := match st with
  | [.inl e] => (match ty with
    | .int => sx_back K fs me R (some (.inl e))
    | .boolean => sx_in me.2.2.2.2 e 0 1 && sx_back K fs me R (some (.inl e))
    | _ => false)
  | _ => false
noncomputable def sx_throw (R : Option sx_V → sx_Me → Bool) : Bool := bif (sx_cats st).ble 8 && Nat.ble 6 d && Nat.ble 1 mc && Nat.ble 6 ms then (match fs with
  | f :: fs => (match f.1.1.2.2.2.2 with
    | [] => false
    | _ => sx_back K fs me R (some (.inl (.ofNat 1, []))))
  | _ => false) else false
/-- Math.max, min, abs -/
noncomputable def sx_math (w : Nat) : Bool := bif (sx_cats st).ble 10 && Nat.ble 1 d then (match w with
  | 0 => (match st with
    | .inl y :: .inl x :: st => match me with
      | (nw, md, xm, tr, fa) => sx_cmp fa 2 x y (fun fa => K T cd nx d mc ms lv (.inl y :: st) fs (nw, md, xm, tr, fa)) (fun fa => K T cd nx d mc ms lv (.inl x :: st) fs (nw, md, xm, tr, fa))
    | _ => false)
  | 1 => (match st with
    | .inl y :: .inl x :: st => match me with
      | (nw, md, xm, tr, fa) => sx_cmp fa 2 y x (fun fa => K T cd nx d mc ms lv (.inl y :: st) fs (nw, md, xm, tr, fa)) (fun fa => K T cd nx d mc ms lv (.inl x :: st) fs (nw, md, xm, tr, fa))
    | _ => false)
  | _ => (match st with
    | .inl _ :: st => (sx_cats st).ble 8 && sx_new me sx_lo sx_up fun me e => K T cd nx d mc ms lv (.inl e :: st) fs me
    | _ => false)) else false
end ST
