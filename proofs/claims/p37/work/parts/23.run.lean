/-! contracts of methods, calls, runs of the second executor -/
/-- whence the words come (local, place), facts -/
abbrev sx_As : Type := List (Nat ⊕ Nat) × sx_Fa
/-- a way to end: units written, an int as answer, places told, facts -/
abbrev sx_Po : Type := Nat × Bool × List Nat × sx_Fa
/-- a contract: rank, depth, cells, slots, other locals, entry, ends -/
abbrev sx_Ct : Type := Nat × Nat × Nat × Nat × sx_L × sx_As × List sx_Po
/-- a loop's head: pc, units, other locals, words behind the entry's, measure -/
abbrev sx_Cu : Type := Nat × Nat × sx_L × sx_As × sx_e
noncomputable def sx_rdk (Z : sx_Z) (me : sx_Me) (key : Nat) (K : sx_Me → sx_e → Bool) : Bool := ex_fN (key / 65536) fun o => ex_fN (key % 65536) fun k => sx_rd Z me o k K
noncomputable def sx_bind (Z : sx_Z) (lv : sx_L) (src : List (Nat ⊕ Nat)) (me : sx_Me) (K : sx_Me → List sx_e → Bool) : Bool := List.rec (motive := fun _ => sx_Me → (sx_Me → List sx_e → Bool) → Bool) (fun me K => K me []) (fun q _ ih me K => match q with
  | .inl i => (match sx_fnd lv i with
    | some (.inl e) => ih me fun me θ => K me (e :: θ)
    | _ => false)
  | .inr key => sx_rdk Z me key fun me e => ih me fun me θ => K me (e :: θ)) src me K
noncomputable def sx_bindk (Z : sx_Z) (keys : List Nat) (me : sx_Me) (K : sx_Me → List sx_e → Bool) : Bool := List.rec (motive := fun _ => sx_Me → (sx_Me → List sx_e → Bool) → Bool) (fun me K => K me []) (fun key _ ih me K => sx_rdk Z me key fun me e => ih me fun me θ => K me (e :: θ)) keys me K
noncomputable def sx_sub (θ : List sx_e) (l : sx_A) (K : sx_e → Bool) : Bool := List.rec (motive := fun _ => sx_e → Bool) K (fun q _ ih acc => match ex_nth θ q.2 with
  | some e => sx_lin q.1 e acc ih
  | none => false) l (.ofNat 0, [])
noncomputable def sx_hold (θ : List sx_e) (fa : sx_Fa) (fs : sx_Fa) : Bool := List.rec (motive := fun _ => Bool) true (fun q _ ih => (sx_sub θ q.1 fun e => sx_inx fa e q.2.1 q.2.2) && ih) fs
noncomputable def sx_gain (θ : List sx_e) (fs : sx_Fa) (fa : sx_Fa) (K : sx_Fa → Bool) : Bool := List.rec (motive := fun _ => sx_Fa → Bool) K (fun q _ ih fa => sx_sub θ q.1 fun e => sx_fact fa e.2 (q.2.1 - e.1) (q.2.2 - e.1) ih) fs fa
def sx_sameV (v w : sx_V) : Bool := match v, w with
  | .inr none, .inr none => true
  | .inr (some (a, x)), .inr (some (b, y)) => (a == b) && x.beq y
  | _, _ => false
/-- the other locals are as told -/
noncomputable def sx_refs (lv rs : sx_L) : Bool := List.rec (motive := fun _ => Bool) true (fun q _ ih => (match sx_fnd lv q.1 with
  | some v => sx_sameV v q.2
  | none => false) && ih) rs
/-- behind a call that may have written these units -/
noncomputable def sx_kill (Z : sx_Z) (m : Nat) (tr : sx_Tr) (K : sx_Tr → Bool) : Bool := sx_filt tr (fun key => ex_fN (key / 65536) fun o => ex_fN (key % 65536) fun k => sx_at (Z.1 o) k fun _ _ u => !sx_bit m u) K
noncomputable def sx_end1 (Z : sx_Z) (θ : List sx_e) (me : sx_Me) (p : sx_Po) (K : sx_Me → Option sx_V → Bool) : Bool := match me with
  | (nw, md, xm, tr, fa) => sx_kill Z p.1 tr fun tr => ex_fN (Nat.lor md p.1) fun md => (bif p.2.1 then sx_new (nw, md, xm, tr, fa) sx_lo sx_up fun me w => sx_bindk Z p.2.2.1 me fun me ks => (match me with
      | (nw, md, xm, tr, fa) => sx_gain (θ ++ w :: ks) p.2.2.2 fa fun fa => K (nw, md, xm, tr, fa) (some (.inl w)))
    else sx_bindk Z p.2.2.1 (nw, md, xm, tr, fa) fun me ks => (match me with
      | (nw, md, xm, tr, fa) => sx_gain (θ ++ ks) p.2.2.2 fa fun fa => K (nw, md, xm, tr, fa) none))
noncomputable def sx_ends (Z : sx_Z) (θ : List sx_e) (me : sx_Me) (ps : List sx_Po) (K : sx_Me → Option sx_V → Bool) : Bool := List.rec (motive := fun _ => Bool) true (fun p _ ih => sx_end1 Z θ me p K && ih) ps
/-- by the first contract whose entry holds -/
noncomputable def sx_use (Z : sx_Z) (rk d mc ms : Nat) (lv : sx_L) (me : sx_Me) (cs : List sx_Ct) (K : Nat → Nat → sx_Me → Option sx_V → Bool) : Bool := List.rec (motive := fun _ => Bool) false (fun c _ ih => bif sx_refs lv c.2.2.2.2.1 then (sx_bind Z lv c.2.2.2.2.2.1.1 me fun me θ => bif sx_hold θ me.2.2.2.2 c.2.2.2.2.2.1.2 then c.1.blt rk && (me.2.2.1.beq 0 && (c.2.1.ble d && (c.2.2.1.ble mc && (c.2.2.2.1.ble ms && (ex_fN (mc - c.2.2.1) fun mc1 => ex_fN (ms - c.2.2.2.1) fun ms1 => sx_ends Z θ me c.2.2.2.2.2.2 (K mc1 ms1)))))) else ih) else ih) cs
section CL
variable (Z : sx_Z) (K : sx_K) (T : ex_T) (cd : List ex_E) (nx d mc ms : Nat) (lv : sx_L) (st : List sx_V) (fs : List sx_Fr) (me : sx_Me) (mt : Nat → Option ex_T) (ct : Nat → List sx_Ct) (rk : Nat)
/-- a call of T2: by its contracts, or into it -/
noncomputable def sx_call (mi2 : Nat) (T2 : ex_T) (bc bs : Nat) (as rest : List sx_V) : Bool := match ct mi2 with
  | [] => sx_enter K T cd nx d mc ms lv fs me T2 bc bs as rest
  | c :: cs => bif (sx_cats rest).ble 8 && (sx_cats as).ble T2.1.2.2.1 && Nat.ble 1 d then ex_fN (d - 1) fun d1 => sx_args 0 as fun l => sx_use Z rk d1 mc ms l me (c :: cs) fun mc1 ms1 me v => (match v with
      | some x => K T cd nx d mc1 ms1 lv (x :: rest) fs me
      | none => K T cd nx d mc1 ms1 lv rest fs me) else false
noncomputable def sx_calls (mi2 : Nat) : Bool := match mt mi2 with
  | some T2 => (match T2.2.1 with
    | [0, n, bc, bs, _, _, _, _, _] => sx_pop n st [] fun as rest => sx_call Z K T cd nx d mc ms lv fs me ct rk mi2 T2 bc bs as rest
    | _ => false)
  | none => false
noncomputable def sx_callv (mi2 : Nat) : Bool := match mt mi2 with
  | some T2 => (match T2.2.1 with
    | [1, n, bc, bs, ci, _, _, _, _] => sx_pop n st [] fun as rest => (match rest with
      | .inr (some (false, o)) :: rest => sx_isO Z o ci && sx_call Z K T cd nx d mc ms lv fs me ct rk mi2 T2 bc bs (.inr (some (false, o)) :: as) rest
      | _ => false)
    | _ => false)
  | none => false
/-- a call whose throw is caught -/
noncomputable def sx_callt (mi2 : Nat) : Bool := match mt mi2 with
  | some T2 => (match T2.2.1 with
    | [1, n, bc, bs, ci, _, _, _, _] => sx_pop n st [] fun as rest => (match rest with
      | .inr (some (false, o)) :: rest => sx_isO Z o ci && sx_enter K T cd nx d mc ms lv fs me T2 bc bs (.inr (some (false, o)) :: as) rest
      | _ => false)
    | _ => false)
  | none => false
end CL
/-- the lengths of the texts that are looked into -/
def sx_sll : List (Nat × Nat) := [(18087, 62), (14046, 33), (19078, 45), (19059, 3), (19072, 2)]
noncomputable def sx_sl (k : Nat) (K : Nat → Bool) : Bool := List.rec (motive := fun _ => Bool) false (fun q _ ih => bif q.1.beq k then K q.2 else ih) sx_sll
section CT
variable (K : sx_K) (T : ex_T) (cd : List ex_E) (nx d mc ms : Nat) (lv : sx_L) (st : List sx_V) (fs : List sx_Fr) (me : sx_Me)
/-- length and charAt of a text -/
noncomputable def sx_strs (w : Nat) : Bool := bif (sx_cats st).ble 9 && Nat.ble 5 d then (match w with
  | 0 => (match st with
    | .inr (some (true, k)) :: st => sx_sl k fun n => K T cd nx d mc ms lv (.inl (.ofNat n, []) :: st) fs me
    | _ => false)
  | _ => (match st with
    | .inl i :: .inr (some (true, k)) :: st => sx_sl k fun n => sx_ix me.2.2.2.2 i n && sx_new me 0 65535 fun me e => K T cd nx d mc ms lv (.inl e :: st) fs me
    | _ => false)) else false
end CT
abbrev sx_H : Type := sx_Z → (Nat → Option ex_T) → (Nat → List sx_Ct) → Nat → Option Nat → (Option sx_V → sx_Me → Bool) → sx_K → ex_T → List ex_E → Nat → Nat → List Nat → Nat → Nat → Nat → sx_L → List sx_V → List sx_Fr → sx_Me → Bool
def gx_no : sx_H := fun _ _ _ _ _ _ _ _ _ _ _ _ _ _ _ _ _ _ _ => false
noncomputable def gx_aaload : sx_H := fun Z mt ct rk L R K T cd pc nx ex d mc ms lv st fs me => sx_aald Z K T cd nx d mc ms lv st fs me
noncomputable def gx_aload (k : Nat) : sx_H := fun Z mt ct rk L R K T cd pc nx ex d mc ms lv st fs me => sx_aload K T cd nx d mc ms lv st fs me k
noncomputable def gx_aload_n (k : Fin 4) : sx_H := fun Z mt ct rk L R K T cd pc nx ex d mc ms lv st fs me => sx_aload K T cd nx d mc ms lv st fs me k.val
noncomputable def gx_areturn : sx_H := fun Z mt ct rk L R K T cd pc nx ex d mc ms lv st fs me => match T.1.2.2.2.1 with
    | some (.object _) => (match st with
      | [.inr (some (false, o))] => sx_back K fs me R (some (.inr (some (false, o))))
      | _ => false)
    | _ => false
noncomputable def gx_arraylength : sx_H := fun Z mt ct rk L R K T cd pc nx ex d mc ms lv st fs me => sx_alen Z K T cd nx d mc ms lv st fs me L
noncomputable def gx_astore (k : Nat) : sx_H := fun Z mt ct rk L R K T cd pc nx ex d mc ms lv st fs me => sx_astore K T cd nx d mc ms lv st fs me k
noncomputable def gx_astore_n (k : Fin 4) : sx_H := fun Z mt ct rk L R K T cd pc nx ex d mc ms lv st fs me => sx_astore K T cd nx d mc ms lv st fs me k.val
noncomputable def gx_baload : sx_H := fun Z mt ct rk L R K T cd pc nx ex d mc ms lv st fs me => sx_iald Z K T cd nx d mc ms lv st fs me L 1 3
noncomputable def gx_bastore : sx_H := fun Z mt ct rk L R K T cd pc nx ex d mc ms lv st fs me => sx_bast Z K T cd nx d mc ms lv st fs me
noncomputable def gx_bipush (n : Int) : sx_H := fun Z mt ct rk L R K T cd pc nx ex d mc ms lv st fs me => sx_ci n fun n => K T cd nx d mc ms lv (.inl (n, []) :: st) fs me
noncomputable def gx_dup : sx_H := fun Z mt ct rk L R K T cd pc nx ex d mc ms lv st fs me => match st with
    | v :: st => (sx_cat v).beq 1 && K T cd nx d mc ms lv (v :: v :: st) fs me
    | _ => false
noncomputable def gx_dup2 : sx_H := fun Z mt ct rk L R K T cd pc nx ex d mc ms lv st fs me => match st with
    | v :: w :: st => (sx_cat v).beq 1 && ((sx_cat w).beq 1 && K T cd nx d mc ms lv (v :: w :: v :: w :: st) fs me)
    | _ => false
noncomputable def gx_getfield : sx_H := fun Z mt ct rk L R K T cd pc nx ex d mc ms lv st fs me => sx_getf Z K T cd nx d mc ms lv st fs me ex
noncomputable def gx_getstatic : sx_H := fun Z mt ct rk L R K T cd pc nx ex d mc ms lv st fs me => match ex with
    | [k, _] => K T cd nx d mc ms lv (.inr (some (true, k)) :: st) fs me
    | _ => false
noncomputable def gx_goto : sx_H := fun Z mt ct rk L R K T cd pc nx ex d mc ms lv st fs me => match ex with
    | [tgt] => K T [] tgt d mc ms lv st fs me
    | _ => false
noncomputable def gx_i2b : sx_H := fun Z mt ct rk L R K T cd pc nx ex d mc ms lv st fs me => sx_un K T cd nx d mc ms lv st fs me 11
noncomputable def gx_i2l : sx_H := fun Z mt ct rk L R K T cd pc nx ex d mc ms lv st fs me => match st with
    | .inl _ :: st => K T cd nx d mc ms lv (.inr none :: st) fs me
    | _ => false
noncomputable def gx_iadd : sx_H := fun Z mt ct rk L R K T cd pc nx ex d mc ms lv st fs me => sx_arith K T cd nx d mc ms lv st fs me 0
noncomputable def gx_iaload : sx_H := fun Z mt ct rk L R K T cd pc nx ex d mc ms lv st fs me => sx_iald Z K T cd nx d mc ms lv st fs me L 0 0
noncomputable def gx_iand : sx_H := fun Z mt ct rk L R K T cd pc nx ex d mc ms lv st fs me => sx_arith K T cd nx d mc ms lv st fs me 3
noncomputable def gx_iastore : sx_H := fun Z mt ct rk L R K T cd pc nx ex d mc ms lv st fs me => sx_iast Z K T cd nx d mc ms lv st fs me
noncomputable def gx_iconst (n : Int) : sx_H := fun Z mt ct rk L R K T cd pc nx ex d mc ms lv st fs me => sx_ci n fun n => K T cd nx d mc ms lv (.inl (n, []) :: st) fs me
noncomputable def gx_idiv : sx_H := fun Z mt ct rk L R K T cd pc nx ex d mc ms lv st fs me => sx_arith K T cd nx d mc ms lv st fs me 9
noncomputable def gx_if_icmp (c : ClassFile.Cond) : sx_H := fun Z mt ct rk L R K T cd pc nx ex d mc ms lv st fs me => match ex with
    | [tgt] => sx_icmp K T cd nx d mc ms lv st fs me (ex_cc c) tgt
    | _ => false
noncomputable def gx_ifCond (c : ClassFile.Cond) : sx_H := fun Z mt ct rk L R K T cd pc nx ex d mc ms lv st fs me => match ex with
    | [tgt] => sx_if K T cd nx d mc ms lv st fs me (ex_cc c) tgt
    | _ => false
noncomputable def gx_ifnonnull : sx_H := fun Z mt ct rk L R K T cd pc nx ex d mc ms lv st fs me => match ex with
    | [tgt] => (match st with
      | .inr (some (false, _)) :: st => K T [] tgt d mc ms lv st fs me
      | _ => false)
    | _ => false
noncomputable def gx_iinc (i : Nat) (n : Int) : sx_H := fun Z mt ct rk L R K T cd pc nx ex d mc ms lv st fs me => sx_iinc K T cd nx d mc ms lv st fs me i n
noncomputable def gx_iload (k : Nat) : sx_H := fun Z mt ct rk L R K T cd pc nx ex d mc ms lv st fs me => sx_iload K T cd nx d mc ms lv st fs me k
noncomputable def gx_iload_n (k : Fin 4) : sx_H := fun Z mt ct rk L R K T cd pc nx ex d mc ms lv st fs me => sx_iload K T cd nx d mc ms lv st fs me k.val
noncomputable def gx_imul : sx_H := fun Z mt ct rk L R K T cd pc nx ex d mc ms lv st fs me => sx_arith K T cd nx d mc ms lv st fs me 2
noncomputable def gx_ineg : sx_H := fun Z mt ct rk L R K T cd pc nx ex d mc ms lv st fs me => sx_un K T cd nx d mc ms lv st fs me 1
noncomputable def gx_invokestatic : sx_H := fun Z mt ct rk L R K T cd pc nx ex d mc ms lv st fs me => match ex with
    | [0, mi2, _] => sx_calls Z K T cd nx d mc ms lv st fs me mt ct rk mi2
    | [1, w, _, _] => sx_math K T cd nx d mc ms lv st fs me w
    | _ => false
noncomputable def gx_invokevirtual : sx_H := fun Z mt ct rk L R K T cd pc nx ex d mc ms lv st fs me => match ex with
    | [0, mi2, _] => sx_callv Z K T cd nx d mc ms lv st fs me mt ct rk mi2
    | [1, mi2, _, _, _] => sx_callt Z K T cd nx d mc ms lv st fs me mt mi2
    | [2, w, _, _] => sx_strs K T cd nx d mc ms lv st fs me w
    | _ => false
noncomputable def gx_ior : sx_H := fun Z mt ct rk L R K T cd pc nx ex d mc ms lv st fs me => sx_arith K T cd nx d mc ms lv st fs me 4
noncomputable def gx_irem : sx_H := fun Z mt ct rk L R K T cd pc nx ex d mc ms lv st fs me => sx_arith K T cd nx d mc ms lv st fs me 10
noncomputable def gx_ireturn : sx_H := fun Z mt ct rk L R K T cd pc nx ex d mc ms lv st fs me => match T.1.2.2.2.1 with
    | some ty => sx_iret K st fs me R ty
    | none => false
noncomputable def gx_ishl : sx_H := fun Z mt ct rk L R K T cd pc nx ex d mc ms lv st fs me => sx_arith K T cd nx d mc ms lv st fs me 6
noncomputable def gx_ishr : sx_H := fun Z mt ct rk L R K T cd pc nx ex d mc ms lv st fs me => sx_arith K T cd nx d mc ms lv st fs me 7
noncomputable def gx_istore (k : Nat) : sx_H := fun Z mt ct rk L R K T cd pc nx ex d mc ms lv st fs me => sx_istore K T cd nx d mc ms lv st fs me k
noncomputable def gx_istore_n (k : Fin 4) : sx_H := fun Z mt ct rk L R K T cd pc nx ex d mc ms lv st fs me => sx_istore K T cd nx d mc ms lv st fs me k.val
noncomputable def gx_isub : sx_H := fun Z mt ct rk L R K T cd pc nx ex d mc ms lv st fs me => sx_arith K T cd nx d mc ms lv st fs me 1
noncomputable def gx_iushr : sx_H := fun Z mt ct rk L R K T cd pc nx ex d mc ms lv st fs me => sx_arith K T cd nx d mc ms lv st fs me 8
noncomputable def gx_ixor : sx_H := fun Z mt ct rk L R K T cd pc nx ex d mc ms lv st fs me => sx_arith K T cd nx d mc ms lv st fs me 5
noncomputable def gx_l2i : sx_H := fun Z mt ct rk L R K T cd pc nx ex d mc ms lv st fs me => match st with
    | .inr none :: st => sx_new me sx_lo sx_up fun me e => K T cd nx d mc ms lv (.inl e :: st) fs me
    | _ => false
noncomputable def gx_laload : sx_H := fun Z mt ct rk L R K T cd pc nx ex d mc ms lv st fs me => sx_lald Z K T cd nx d mc ms lv st fs me
noncomputable def gx_land : sx_H := fun Z mt ct rk L R K T cd pc nx ex d mc ms lv st fs me => match st with
    | .inr none :: .inr none :: st => K T cd nx d mc ms lv (.inr none :: st) fs me
    | _ => false
noncomputable def gx_lastore : sx_H := fun Z mt ct rk L R K T cd pc nx ex d mc ms lv st fs me => sx_last Z K T cd nx d mc ms lv st fs me
noncomputable def gx_lcmp : sx_H := fun Z mt ct rk L R K T cd pc nx ex d mc ms lv st fs me => match st with
    | .inr none :: .inr none :: st => sx_new me (-1) 1 fun me e => K T cd nx d mc ms lv (.inl e :: st) fs me
    | _ => false
noncomputable def gx_lconst : sx_H := fun Z mt ct rk L R K T cd pc nx ex d mc ms lv st fs me => K T cd nx d mc ms lv (.inr none :: st) fs me
noncomputable def gx_ldc : sx_H := fun Z mt ct rk L R K T cd pc nx ex d mc ms lv st fs me => match ex with
    | [r, _] => ex_fI (Int32.ofInt (.ofNat r)).toInt fun n => K T cd nx d mc ms lv (.inl (n, []) :: st) fs me
    | [k, _, _] => K T cd nx d mc ms lv (.inr (some (true, k)) :: st) fs me
    | _ => false
noncomputable def gx_ldc_w : sx_H := fun Z mt ct rk L R K T cd pc nx ex d mc ms lv st fs me => match ex with
    | [r, _] => ex_fI (Int32.ofInt (.ofNat r)).toInt fun n => K T cd nx d mc ms lv (.inl (n, []) :: st) fs me
    | _ => false
noncomputable def gx_ldc2_w : sx_H := fun Z mt ct rk L R K T cd pc nx ex d mc ms lv st fs me => match ex with
    | [_, _] => K T cd nx d mc ms lv (.inr none :: st) fs me
    | _ => false
noncomputable def gx_lload (k : Nat) : sx_H := fun Z mt ct rk L R K T cd pc nx ex d mc ms lv st fs me => sx_lload K T cd nx d mc ms lv st fs me k
noncomputable def gx_lload_n (k : Fin 4) : sx_H := fun Z mt ct rk L R K T cd pc nx ex d mc ms lv st fs me => sx_lload K T cd nx d mc ms lv st fs me k.val
noncomputable def gx_lookupswitch (dflt : Int) (ps : Array (Int × Int)) : sx_H := fun Z mt ct rk L R K T cd pc nx ex d mc ms lv st fs me => sx_lookup K T d mc ms lv st fs me pc dflt ps
noncomputable def gx_lor : sx_H := fun Z mt ct rk L R K T cd pc nx ex d mc ms lv st fs me => match st with
    | .inr none :: .inr none :: st => K T cd nx d mc ms lv (.inr none :: st) fs me
    | _ => false
noncomputable def gx_lshl : sx_H := fun Z mt ct rk L R K T cd pc nx ex d mc ms lv st fs me => match st with
    | .inl _ :: .inr none :: st => K T cd nx d mc ms lv (.inr none :: st) fs me
    | _ => false
noncomputable def gx_lstore (k : Nat) : sx_H := fun Z mt ct rk L R K T cd pc nx ex d mc ms lv st fs me => sx_lstore K T cd nx d mc ms lv st fs me k
noncomputable def gx_lstore_n (k : Fin 4) : sx_H := fun Z mt ct rk L R K T cd pc nx ex d mc ms lv st fs me => sx_lstore K T cd nx d mc ms lv st fs me k.val
noncomputable def gx_lushr : sx_H := fun Z mt ct rk L R K T cd pc nx ex d mc ms lv st fs me => match st with
    | .inl _ :: .inr none :: st => K T cd nx d mc ms lv (.inr none :: st) fs me
    | _ => false
noncomputable def gx_new : sx_H := fun Z mt ct rk L R K T cd pc nx ex d mc ms lv st fs me => match ex with
    | [1, _, _, _, _] => sx_throw K d mc ms st fs me R
    | _ => false
noncomputable def gx_pop : sx_H := fun Z mt ct rk L R K T cd pc nx ex d mc ms lv st fs me => match st with
    | v :: st => (sx_cat v).beq 1 && K T cd nx d mc ms lv st fs me
    | _ => false
noncomputable def gx_putfield : sx_H := fun Z mt ct rk L R K T cd pc nx ex d mc ms lv st fs me => sx_putf Z K T cd nx d mc ms lv st fs me ex
noncomputable def gx_return_ : sx_H := fun Z mt ct rk L R K T cd pc nx ex d mc ms lv st fs me => match T.1.2.2.2.1 with
    | none => (match st with
      | [] => sx_back K fs me R none
      | _ => false)
    | some _ => false
noncomputable def gx_sipush (n : Int) : sx_H := fun Z mt ct rk L R K T cd pc nx ex d mc ms lv st fs me => sx_ci n fun n => K T cd nx d mc ms lv (.inl (n, []) :: st) fs me
noncomputable def gx_tableswitch (dflt lo hi : Int) (offs : Array Int) : sx_H := fun Z mt ct rk L R K T cd pc nx ex d mc ms lv st fs me => sx_table K T d mc ms lv st fs me pc dflt lo hi offs
noncomputable def sx_op (ins : Instr) : sx_H := @Instr.rec (fun _ => sx_H) gx_aaload gx_no gx_no gx_aload gx_aload_n (fun _ => gx_no) gx_areturn gx_arraylength gx_astore gx_astore_n gx_no gx_baload gx_bastore gx_bipush gx_no gx_no (fun _ => gx_no) gx_no gx_no gx_no gx_no gx_no gx_no (fun _ => gx_no) (fun _ => gx_no) gx_no (fun _ => gx_no) (fun _ => gx_no) gx_no gx_no gx_no gx_no (fun _ => gx_no) (fun _ => gx_no) gx_no gx_dup gx_no gx_no gx_dup2 gx_no gx_no gx_no gx_no gx_no gx_no gx_no gx_no (fun _ => gx_no) (fun _ => gx_no) gx_no (fun _ => gx_no) (fun _ => gx_no) gx_no gx_no gx_no gx_no (fun _ => gx_no) (fun _ => gx_no) gx_no (fun _ => gx_getfield) (fun _ => gx_getstatic) (fun _ => gx_goto) (fun _ => gx_no) gx_i2b gx_no gx_no gx_no gx_i2l gx_no gx_iadd gx_iaload gx_iand gx_iastore gx_iconst gx_idiv (fun _ _ => gx_no) (fun c _ => gx_if_icmp c) (fun c _ => gx_ifCond c) (fun _ => gx_ifnonnull) (fun _ => gx_no) gx_iinc gx_iload gx_iload_n gx_imul gx_ineg (fun _ => gx_no) (fun _ => gx_no) (fun _ _ => gx_no) (fun _ => gx_no) (fun _ => gx_invokestatic) (fun _ => gx_invokevirtual) gx_ior gx_irem gx_ireturn gx_ishl gx_ishr gx_istore gx_istore_n gx_isub gx_iushr gx_ixor (fun _ => gx_no) (fun _ => gx_no) gx_no gx_no gx_l2i gx_no gx_laload gx_land gx_lastore gx_lcmp (fun _ => gx_lconst) (fun _ => gx_ldc) (fun _ => gx_ldc_w) (fun _ => gx_ldc2_w) gx_no gx_lload gx_lload_n gx_no gx_no gx_lookupswitch gx_lor gx_no gx_no gx_lshl gx_no gx_lstore gx_lstore_n gx_no gx_lushr gx_no gx_no gx_no (fun _ _ => gx_no) (fun _ => gx_new) (fun _ => gx_no) gx_no gx_pop gx_no (fun _ => gx_putfield) (fun _ => gx_no) (fun _ => gx_no) gx_return_ gx_no gx_no gx_sipush gx_no gx_tableswitch ins
/-- where a run ends ahead of the method's end -/
abbrev sx_Hk : Type := Nat → Option (Nat → sx_L → List sx_V → sx_Me → Bool)
noncomputable def sx_hk (H : sx_Hk) (K : sx_K) : sx_K := fun T cd pc d mc ms lv st fs me => match fs with
  | [] => (match H pc with
    | some F => F d lv st me
    | none => K T cd pc d mc ms lv st [] me)
  | f :: fs => K T cd pc d mc ms lv st (f :: fs) me
noncomputable def sx_run (Z : sx_Z) (mt : Nat → Option ex_T) (ct : Nat → List sx_Ct) (rk : Nat) (L : Option Nat) (R : Option sx_V → sx_Me → Bool) (H : sx_Hk) (n : Nat) : sx_K := Nat.rec (motive := fun _ => sx_K) (fun _ _ _ _ _ _ _ _ _ _ => false) (fun _ K T cd pc d mc ms lv st fs me => match cd with
  | (p, ins, _, nx, ex) :: cd => bif p.beq pc then sx_op ins Z mt ct rk L R (sx_hk H K) T cd pc nx ex d mc ms lv st fs me else false
  | [] => (match ex_look T pc with
    | (p, ins, _, nx, ex) :: cd => bif p.beq pc then sx_op ins Z mt ct rk L R (sx_hk H K) T cd pc nx ex d mc ms lv st fs me else false
    | [] => false)) n
