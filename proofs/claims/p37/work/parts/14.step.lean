/-! one step of the executor -/
def ex_cat (v : ex_V) : Nat := match v with
  | .inr (.inl _) => 2
  | _ => 1
noncomputable def ex_cats (l : List ex_V) : Nat := List.rec (motive := fun _ => Nat) 0 (fun v _ ih => ex_cat v + ih) l
noncomputable def ex_fnd (lv : ex_L) (i : Nat) : Option ex_V := List.rec (motive := fun _ => Option ex_V) none (fun q _ ih => bif q.1.beq i then some q.2 else ih) lv
/-- the locals without number i -/
noncomputable def ex_fil (lv : ex_L) (i : Nat) (K : ex_L → Bool) : Bool := List.rec (motive := fun _ => (ex_L → Bool) → Bool) (fun K => K []) (fun q _ ih K => bif (!(q.1 == i) && !(q.1 + 1 == i && ex_cat q.2 == 2)) then ih (fun r => K (q :: r)) else ih K) lv K
noncomputable def ex_pop (n : Nat) (st acc : List ex_V) (K : List ex_V → List ex_V → Bool) : Bool := Nat.rec (motive := fun _ => List ex_V → List ex_V → Bool) (fun st acc => K acc st) (fun _ ih st acc => match st with
  | [] => false
  | v :: st => ih st (v :: acc)) n st acc
noncomputable def ex_args (i : Nat) (as : List ex_V) (K : ex_L → Bool) : Bool := List.rec (motive := fun _ => Nat → (ex_L → Bool) → Bool) (fun _ K => K []) (fun v _ ih i K => bif ex_cat v == 2 then ex_fN (i + 2) fun i2 => ih i2 (fun r => K ((i, v) :: r)) else ex_fN (i + 1) fun i2 => ih i2 (fun r => K ((i, v) :: r))) as i K
/-! the memory -/
noncomputable def ex_rd (t : ex_F) (o k : Nat) : ex_F := ex_get 16 (ex_get 16 t o) k
noncomputable def ex_wr (t : ex_F) (o k : Nat) (v : ex_F) : ex_F := ex_put 16 t o (ex_put 16 (ex_get 16 t o) k v)
noncomputable def ex_wrK (t : ex_F) (o k : Nat) (v : ex_F) (K : ex_F → Bool) : Bool := ex_fF (ex_get 16 t o) fun u => ex_set 16 u k v fun u' => ex_set 16 t o u' K
theorem ex_wrK_eq (t : ex_F) (o k : Nat) (v : ex_F) (K : ex_F → Bool) : ex_wrK t o k v K = K (ex_wr t o k v) := by
  unfold ex_wrK ex_wr
  rw [ex_fF_eq, ex_set_eq, ex_set_eq]
theorem ex_rd_wr {t : ex_F} {o k a b : Nat} {v : ex_F} (ho : o < 65535) (hk : k < 65535) (ha : a < 65535) (hb : b < 65535) : ex_rd (ex_wr t o k v) a b = if a = o ∧ b = k then v else ex_rd t a b := by
  unfold ex_rd ex_wr
  rw [ex_get_put 16 _ _ _ _ (by omega) (by omega)]
  by_cases h : a = o
  · rw [if_pos h, ex_get_put 16 _ _ _ _ (by omega) (by omega)]
    by_cases h2 : b = k
    · rw [if_pos h2, if_pos ⟨h, h2⟩]
    · rw [if_neg h2, if_neg (fun q => h2 q.2), h]
  · rw [if_neg h, if_neg (fun q => h q.1)]
def ex_ty (t : Nat) : FieldType := match t with
  | 0 => .int
  | 1 => .byte
  | 2 => .long
  | 3 => .boolean
  | _ => .object "WindowSale$Scene"
def ex_sh (e : ex_F) : Option am_sh := match e with
  | .tag c .nil => some (.inl c)
  | .tag t (.tag n .nil) => some (.inr (ex_ty t, n))
  | _ => none
def ex_j (e : ex_F) : Int64 := match e with
  | .tag n .nil => Int64.ofNat n
  | _ => 0
def ex_rv (e : ex_F) : Value := match e with
  | .tag o .nil => .ref o
  | .tag k .line => .retAddr k
  | _ => .null
def ex_R (ρ : Nat → Int32) (me : ex_Me) (σ : am_S) : Prop :=
  (me.2.1 = false → σ.1.length = me.1) ∧
  (∀ (o : Nat) (h : am_sh), o < 65535 → ex_sh (ex_get 16 me.2.2.1 o) = some h → σ.1[o]? = some h) ∧
  ∀ o k : Nat, o < 65535 → k < 65535 → σ.2.1 o k = ex_i ρ (ex_rd me.2.2.2.1 o k) ∧ σ.2.2.1 o k = ex_j (ex_rd me.2.2.2.2.1 o k) ∧ σ.2.2.2 o k = ex_rv (ex_rd me.2.2.2.2.2 o k)
/-- an int as it is read: nothing written is 0 -/
def ex_n0 (e : ex_F) (K : ex_F → Bool) : Bool := match e with
  | .nil => K (.nest 0 .nil)
  | .nest n f => K (.nest n f)
  | .tag n f => K (.tag n f)
  | _ => false
theorem ex_n0_ok {ρ : Nat → Int32} {e : ex_F} {K : ex_F → Bool} (h : ex_n0 e K = true) : ∃ e', ex_i ρ e' = ex_i ρ e ∧ K e' = true := by
  unfold ex_n0 at h
  split at h
  · exact ⟨.nest 0 .nil, rfl, h⟩
  · exact ⟨_, rfl, h⟩
  · exact ⟨_, rfl, h⟩
  · cases h
/-- the shape of an object, of an array -/
noncomputable def ex_isO (me : ex_Me) (o ci : Nat) : Bool := o.blt 65535 && (match ex_get 16 me.2.2.1 o with
  | .tag c .nil => c.beq ci
  | _ => false)
noncomputable def ex_isA (me : ex_Me) (o : Nat) (K : Nat → Nat → Bool) : Bool := o.blt 65535 && (match ex_get 16 me.2.2.1 o with
  | .tag t (.tag n .nil) => K t n
  | _ => false)
/-- an index into n places -/
noncomputable def ex_ix (pa : ex_Pa) (i : ex_F) (n : Nat) (K : ex_Pa → Nat → Bool) : Bool := ex_conc pa i fun pa v => match v with
  | .ofNat j => bif j.blt n && j.blt 65535 then K pa j else false
  | .negSucc _ => false
def ex_usual : List Int := [1, 12, 6, 6, 0, 6, 3, 1]
def ex_least : List Int := [1, 0, 0, 0, 0, 0, 0, 0]
def ex_great : List Int := [5, 24, 12, 12, 30, 11, 12, 99]
noncomputable def ex_row (k : Nat) (j : Nat) : Option Int := match k with
  | 1 => ex_nth ex_usual j
  | 2 => ex_nth ex_least j
  | 3 => ex_nth ex_great j
  | _ => none
section ST
variable (K : ex_K) (T : ex_T) (cd : List ex_E) (nx d mc ms : Nat) (lv : ex_L) (st : List ex_V) (fs : List ex_Fr) (me : ex_Me) (pa : ex_Pa)
noncomputable def ex_iload (i : Nat) : Bool := match ex_fnd lv i with
  | some (.inl e) => K T cd nx d mc ms lv (.inl e :: st) fs me pa
  | _ => false
noncomputable def ex_aload (i : Nat) : Bool := match ex_fnd lv i with
  | some (.inr (.inr (.inl o))) => K T cd nx d mc ms lv (.inr (.inr (.inl o)) :: st) fs me pa
  | some (.inr (.inr (.inr (some k)))) => K T cd nx d mc ms lv (.inr (.inr (.inr (some k))) :: st) fs me pa
  | _ => false
noncomputable def ex_istore (i : Nat) : Bool := match st with
  | .inl e :: st => ex_fil lv i fun r => K T cd nx d mc ms ((i, .inl e) :: r) st fs me pa
  | _ => false
noncomputable def ex_astore (i : Nat) : Bool := match st with
  | .inr (.inr (.inl o)) :: st => ex_fil lv i fun r => K T cd nx d mc ms ((i, .inr (.inr (.inl o))) :: r) st fs me pa
  | .inr (.inr (.inr (some k))) :: st => ex_fil lv i fun r => K T cd nx d mc ms ((i, .inr (.inr (.inr (some k)))) :: r) st fs me pa
  | _ => false
noncomputable def ex_iinc (i : Nat) (n : Int) : Bool := match ex_fnd lv i with
  | some (.inl e) => ex_opd pa e fun pa e => ex_fold 0 e (.nest n .nil) fun e => ex_fil lv i fun r => K T cd nx d mc ms ((i, .inl e) :: r) st fs me pa
  | _ => false
noncomputable def ex_arith (o : Nat) : Bool := match st with
  | .inl y :: .inl x :: st => ex_opd pa x fun pa x => ex_opd pa y fun pa y => ex_fold o x y fun e => K T cd nx d mc ms lv (.inl e :: st) fs me pa
  | _ => false
noncomputable def ex_divi (o : Nat) : Bool := match st with
  | .inl (.nest n .nil) :: .inl x :: st => bif decide (Int32.ofInt n = 0) then false else ex_opd pa x fun pa x => ex_fold o x (.nest n .nil) fun e => K T cd nx d mc ms lv (.inl e :: st) fs me pa
  | _ => false
noncomputable def ex_un (o : Nat) : Bool := match st with
  | .inl x :: st => ex_opd pa x fun pa x => ex_fold o x (.nest 0 .nil) fun e => K T cd nx d mc ms lv (.inl e :: st) fs me pa
  | _ => false
noncomputable def ex_if (r tgt : Nat) : Bool := match st with
  | .inl x :: st => ex_cmp pa r x (.nest 0 .nil) (fun pa => K T [] tgt d mc ms lv st fs me pa) (fun pa => K T cd nx d mc ms lv st fs me pa)
  | _ => false
noncomputable def ex_icmp (r tgt : Nat) : Bool := match st with
  | .inl y :: .inl x :: st => ex_opd pa x fun pa x => ex_cmp pa r x y (fun pa => K T [] tgt d mc ms lv st fs me pa) (fun pa => K T cd nx d mc ms lv st fs me pa)
  | _ => false
/-- to the place that an offset leads to -/
noncomputable def ex_jump (pc : Nat) (off : Int) (st : List ex_V) (pa : ex_Pa) : Bool := match (pc : Int) + off with
  | .ofNat t => ex_fN t fun t => K T [] t d mc ms lv st fs me pa
  | .negSucc _ => false
noncomputable def ex_table (pc : Nat) (dflt lo hi : Int) (offs : Array Int) : Bool := match st with
  | .inl x :: st => ex_lt3 pa x lo (fun pa => ex_jump K T d mc ms lv fs me pc dflt st pa) fun pa => ex_lt3 pa x (hi + 1) (fun pa => ex_conc pa x fun pa v => match ex_nth offs.toList ((Int32.ofInt v).toInt - lo).toNat with
      | some off => ex_jump K T d mc ms lv fs me pc off st pa
      | none => false) fun pa => ex_jump K T d mc ms lv fs me pc dflt st pa
  | _ => false
noncomputable def ex_lookl (pc : Nat) (dflt : Int) (x : ex_F) (st : List ex_V) (ps : List (Int × Int)) (pa : ex_Pa) : Bool := List.rec (motive := fun _ => ex_Pa → Bool) (fun pa => ex_jump K T d mc ms lv fs me pc dflt st pa) (fun q _ ih pa => ex_eq3 pa x q.1 (fun pa => ex_jump K T d mc ms lv fs me pc q.2 st pa) ih) ps pa
noncomputable def ex_lookup (pc : Nat) (dflt : Int) (ps : Array (Int × Int)) : Bool := match st with
  | .inl x :: st => ex_lookl K T d mc ms lv fs me pc dflt x st ps.toList pa
  | _ => false
noncomputable def ex_getf (ex : List Nat) : Bool := match ex with
  | [ci, k, kd, _] => (match st with
    | .inr (.inr (.inl o)) :: st => ex_isO me o ci && k.blt 65535 && (match kd with
      | 0 => ex_n0 (ex_rd me.2.2.2.1 o k) fun e => K T cd nx d mc ms lv (.inl e :: st) fs me pa
      | 2 => (match ex_rd me.2.2.2.2.2 o k with
        | .tag r .nil => K T cd nx d mc ms lv (.inr (.inr (.inl r)) :: st) fs me pa
        | _ => false)
      | _ => false)
    | _ => false)
  | _ => false
noncomputable def ex_putf (ex : List Nat) : Bool := match me with
  | (mn, mj, mS, ti, tj, tr) => match ex with
  | [ci, k, kd, _] => (match st with
    | .inl e :: .inr (.inr (.inl o)) :: st => ex_isO (mn, mj, mS, ti, tj, tr) o ci && k.blt 65535 && (match kd with
      | 0 => ex_wrK ti o k e fun t => K T cd nx d mc ms lv st fs (mn, mj, mS, t, tj, tr) pa
      | 3 => (match e with
        | .nest n .nil => decide (narrow (am_ty ci k) (.int (Int32.ofInt n)) = .int (Int32.ofInt n)) && (fits (am_ty ci k) (.int (Int32.ofInt n)) && ex_wrK ti o k (.nest n .nil) fun t => K T cd nx d mc ms lv st fs (mn, mj, mS, t, tj, tr) pa)
        | _ => false)
      | _ => false)
    | .inr (.inl n) :: .inr (.inr (.inl o)) :: st => ex_isO (mn, mj, mS, ti, tj, tr) o ci && k.blt 65535 && (match kd with
      | 1 => ex_wrK tj o k (.tag n .nil) fun t => K T cd nx d mc ms lv st fs (mn, mj, mS, ti, t, tr) pa
      | _ => false)
    | .inr (.inr (.inl r)) :: .inr (.inr (.inl o)) :: st => ex_isO (mn, mj, mS, ti, tj, tr) o ci && k.blt 65535 && (match kd with
      | 2 => ex_wrK tr o k (.tag r .nil) fun t => K T cd nx d mc ms lv st fs (mn, mj, mS, ti, tj, t) pa
      | _ => false)
    | _ => false)
  | _ => false
/-- a new cell of shape s with N slots -/
noncomputable def ex_newc (s : ex_F) (N : Nat) (st : List ex_V) (pa : ex_Pa) : Bool := match me with
  | (n, jk, S, ti, tj, tr) => bif !jk && n.blt 65535 && Nat.ble 1 mc && N.ble ms then ex_fN (mc - 1) fun mc1 => ex_fN (ms - N) fun ms1 => ex_fN (n + 1) fun n1 => ex_set 16 S n s fun S1 => K T cd nx d mc1 ms1 lv (.inr (.inr (.inl n)) :: st) fs (n1, false, S1, ti, tj, tr) pa else false
noncomputable def ex_newa (t : Nat) : Bool := match st with
  | .inl x :: st => ex_conc pa x fun pa v => match v with
    | .ofNat N => bif N.ble 60000000 then ex_newc K T cd nx d mc ms lv fs me (.tag t (.tag N .nil)) N st pa else false
    | .negSucc _ => false
  | _ => false
noncomputable def ex_alen : Bool := match st with
  | .inr (.inr (.inl o)) :: st => ex_isA me o fun t n => t != 3 && K T cd nx d mc ms lv (.inl (.nest (.ofNat n) .nil) :: st) fs me pa
  | .inr (.inr (.inr (some 0))) :: st => ex_conc pa ex_len fun pa v => K T cd nx d mc ms lv (.inl (.nest v .nil) :: st) fs me pa
  | .inr (.inr (.inr (some k))) :: st => k.blt 4 && K T cd nx d mc ms lv (.inl (.nest 8 .nil) :: st) fs me pa
  | _ => false
/-- ints out of an array whose type number is one of two -/
noncomputable def ex_iald (t1 t2 : Nat) : Bool := match st with
  | .inl i :: .inr (.inr (.inl o)) :: st => ex_isA me o fun t n => (t.beq t1 || t.beq t2) && ex_ix pa i n fun pa j => ex_n0 (ex_rd me.2.2.2.1 o j) fun e => K T cd nx d mc ms lv (.inl e :: st) fs me pa
  | .inl i :: .inr (.inr (.inr (some k))) :: st => t1.beq 0 && (match k with
    | 0 => ex_ix pa i 100 fun pa j => ex_iv pa ex_len fun lo _ => decide (.ofNat j < lo) && K T cd nx d mc ms lv (.inl (.tag j .line) :: st) fs me pa
    | k => ex_ix pa i 8 fun pa j => match ex_row k j with
      | some v => ex_fI v fun v => K T cd nx d mc ms lv (.inl (.nest v .nil) :: st) fs me pa
      | none => false)
  | _ => false
noncomputable def ex_aald : Bool := match st with
  | .inl i :: .inr (.inr (.inl o)) :: st => ex_isA me o fun t n => t.beq 4 && ex_ix pa i n fun pa j => match ex_rd me.2.2.2.2.2 o j with
    | .tag r .nil => K T cd nx d mc ms lv (.inr (.inr (.inl r)) :: st) fs me pa
    | _ => false
  | _ => false
noncomputable def ex_iast : Bool := match me with
  | (mn, mj, mS, ti, tj, tr) => match st with
  | .inl x :: .inl i :: .inr (.inr (.inl o)) :: st => ex_isA (mn, mj, mS, ti, tj, tr) o fun t n => t.beq 0 && ex_ix pa i n fun pa j => ex_wrK ti o j x fun tw => K T cd nx d mc ms lv st fs (mn, mj, mS, tw, tj, tr) pa
  | _ => false
noncomputable def ex_bast : Bool := match me with
  | (mn, mj, mS, ti, tj, tr) => match st with
  | .inl x :: .inl i :: .inr (.inr (.inl o)) :: st => ex_isA (mn, mj, mS, ti, tj, tr) o fun t n => (match t with
    | 1 => ex_ix pa i n fun pa j => ex_fold 11 x (.nest 0 .nil) fun e => ex_wrK ti o j e fun tw => K T cd nx d mc ms lv st fs (mn, mj, mS, tw, tj, tr) pa
    | 3 => ex_ix pa i n fun pa j => ex_fold 3 x (.nest 1 .nil) fun e => ex_wrK ti o j e fun tw => K T cd nx d mc ms lv st fs (mn, mj, mS, tw, tj, tr) pa
    | _ => false)
  | _ => false
noncomputable def ex_aast : Bool := match me with
  | (mn, mj, mS, ti, tj, tr) => match st with
  | .inr (.inr (.inl r)) :: .inl i :: .inr (.inr (.inl o)) :: st => ex_isO (mn, mj, mS, ti, tj, tr) r 7 && ex_isA (mn, mj, mS, ti, tj, tr) o fun t n => t.beq 4 && ex_ix pa i n fun pa j => ex_wrK tr o j (.tag r .nil) fun tw => K T cd nx d mc ms lv st fs (mn, mj, mS, ti, tj, tw) pa
  | _ => false
/-- into a method -/
noncomputable def ex_enter (T2 : ex_T) (bc bs : Nat) (as rest : List ex_V) : Bool := bif (ex_cats rest).ble 8 && (ex_cats as).ble T2.1.2.2.1 && bc.ble mc && bs.ble ms && Nat.ble 1 d then ex_fN (d - 1) fun d1 => ex_fN (mc - bc) fun mc1 => ex_fN (ms - bs) fun ms1 => ex_args 0 as fun l => K T2 [] 0 d1 bc bs l [] ((T, cd, nx, d, mc1, ms1, lv, rest) :: fs) me pa else false
noncomputable def ex_calls (mt : Nat → Option ex_T) (mi2 : Nat) : Bool := match mt mi2 with
  | some T2 => (match T2.2.1 with
    | [0, n, bc, bs, _, _, _, _, _] => ex_pop n st [] fun as rest => ex_enter K T cd nx d mc ms lv fs me pa T2 bc bs as rest
    | _ => false)
  | none => false
noncomputable def ex_callv (mt : Nat → Option ex_T) (mi2 : Nat) : Bool := match mt mi2 with
  | some T2 => (match T2.2.1 with
    | [1, n, bc, bs, ci, _, _, _, _] => ex_pop n st [] fun as rest => (match rest with
    | .inr (.inr (.inl o)) :: rest => ex_isO me o ci && ex_enter K T cd nx d mc ms lv fs me pa T2 bc bs (.inr (.inr (.inl o)) :: as) rest
      | _ => false)
    | _ => false)
  | none => false
noncomputable def ex_calli (mt : Nat → Option ex_T) (mi2 : Nat) : Bool := match mt mi2 with
  | some T2 => (match T2.2.1 with
    | [2, n, bc, bs, _, _, _, _, _] => ex_pop n st [] fun as rest => (match rest with
    | .inr (.inr (.inl o)) :: rest => ex_enter K T cd nx d mc ms lv fs me pa T2 bc bs (.inr (.inr (.inl o)) :: as) rest
      | _ => false)
    | _ => false)
  | none => false
/-- back to the caller -/
noncomputable def ex_back (v : Option ex_V) : Bool := match fs with
  | (T, cd, pc, d, mc, ms, lv, st) :: fs => (match v with
    | some x => K T cd pc d mc ms lv (x :: st) fs me pa
    | none => K T cd pc d mc ms lv st fs me pa)
  | [] => false
noncomputable def ex_iret (ty : FieldType) : Bool := match st with
  | [.inl e] => (match ty with
    | .int => ex_back K fs me pa (some (.inl e))
    | ty => ex_opd pa e fun pa e => match e with
      | .nest n .nil => decide (narrow ty (.int (Int32.ofInt n)) = .int (Int32.ofInt n)) && (match fs with
        | [] => decide (n = 1)
        | fs => ex_back K fs me pa (some (.inl (.nest n .nil))))
      | _ => false)
  | _ => false
noncomputable def ex_throw : Bool := match me with
  | (mn, mj, mS, ti, tj, tr) => bif (ex_cats st).ble 8 && Nat.ble 6 d && Nat.ble 1 mc && Nat.ble 6 ms then (match fs with
  | f :: (T2, cd2, pc2, d2, mc2, ms2, lv2, st2) :: fs2 => (match f.1.1.2.2.2.2 with
      | [] => false
      | _ => K T2 cd2 pc2 d2 mc2 ms2 lv2 (.inl (.nest 1 .nil) :: st2) fs2 (mn, true, mS, ti, tj, tr) pa)
  | _ => false) else false
/-- Math.max, min, abs -/
noncomputable def ex_math (w : Nat) : Bool := bif (ex_cats st).ble 10 && Nat.ble 1 d then (match w with
  | 0 => (match st with
    | .inl y :: .inl x :: st => ex_cmp pa 2 x y (fun pa => K T cd nx d mc ms lv (.inl y :: st) fs me pa) (fun pa => K T cd nx d mc ms lv (.inl x :: st) fs me pa)
    | _ => false)
  | 1 => (match st with
    | .inl y :: .inl x :: st => ex_cmp pa 2 y x (fun pa => K T cd nx d mc ms lv (.inl y :: st) fs me pa) (fun pa => K T cd nx d mc ms lv (.inl x :: st) fs me pa)
    | _ => false)
  | _ => (match st with
    | .inl x :: st => (ex_cats st).ble 8 && ex_cmp pa 3 x (.nest 0 .nil) (fun pa => K T cd nx d mc ms lv (.inl x :: st) fs me pa) (fun pa => ex_fold 1 (.nest 0 .nil) x fun e => K T cd nx d mc ms lv (.inl e :: st) fs me pa)
    | _ => false)) else false
end ST
def ex_cc (c : ClassFile.Cond) : Nat := match c with
  | .eq => 0
  | .ne => 1
  | .lt => 2
  | .ge => 3
  | .gt => 4
  | .le => 5
abbrev ex_H : Type := (Nat → Option ex_T) → ex_K → ex_T → List ex_E → Nat → Nat → List Nat → Nat → Nat → Nat → ex_L → List ex_V → List ex_Fr → ex_Me → ex_Pa → Bool
def hx_no : ex_H := fun _ _ _ _ _ _ _ _ _ _ _ _ _ _ _ => false
noncomputable def hx_aaload : ex_H := fun mt K T cd pc nx ex d mc ms lv st fs me pa => ex_aald K T cd nx d mc ms lv st fs me pa
noncomputable def hx_aastore : ex_H := fun mt K T cd pc nx ex d mc ms lv st fs me pa => ex_aast K T cd nx d mc ms lv st fs me pa
noncomputable def hx_aload (k : Nat) : ex_H := fun mt K T cd pc nx ex d mc ms lv st fs me pa => ex_aload K T cd nx d mc ms lv st fs me pa k
noncomputable def hx_aload_n (k : Fin 4) : ex_H := fun mt K T cd pc nx ex d mc ms lv st fs me pa => ex_aload K T cd nx d mc ms lv st fs me pa k.val
noncomputable def hx_anewarray : ex_H := fun mt K T cd pc nx ex d mc ms lv st fs me pa => ex_newa K T cd nx d mc ms lv st fs me pa 4
noncomputable def hx_areturn : ex_H := fun mt K T cd pc nx ex d mc ms lv st fs me pa => match T.1.2.2.2.1 with
    | some (.object _) => (match st with
      | [.inr (.inr (.inl o))] => ex_back K fs me pa (some (.inr (.inr (.inl o))))
      | _ => false)
    | _ => false
noncomputable def hx_arraylength : ex_H := fun mt K T cd pc nx ex d mc ms lv st fs me pa => ex_alen K T cd nx d mc ms lv st fs me pa
noncomputable def hx_astore (k : Nat) : ex_H := fun mt K T cd pc nx ex d mc ms lv st fs me pa => ex_astore K T cd nx d mc ms lv st fs me pa k
noncomputable def hx_astore_n (k : Fin 4) : ex_H := fun mt K T cd pc nx ex d mc ms lv st fs me pa => ex_astore K T cd nx d mc ms lv st fs me pa k.val
noncomputable def hx_baload : ex_H := fun mt K T cd pc nx ex d mc ms lv st fs me pa => ex_iald K T cd nx d mc ms lv st fs me pa 1 3
noncomputable def hx_bastore : ex_H := fun mt K T cd pc nx ex d mc ms lv st fs me pa => ex_bast K T cd nx d mc ms lv st fs me pa
noncomputable def hx_bipush (n : Int) : ex_H := fun mt K T cd pc nx ex d mc ms lv st fs me pa => ex_fI n fun n => K T cd nx d mc ms lv (.inl (.nest n .nil) :: st) fs me pa
noncomputable def hx_dup : ex_H := fun mt K T cd pc nx ex d mc ms lv st fs me pa => match st with
    | v :: st => (ex_cat v).beq 1 && K T cd nx d mc ms lv (v :: v :: st) fs me pa
    | _ => false
noncomputable def hx_dup2 : ex_H := fun mt K T cd pc nx ex d mc ms lv st fs me pa => match st with
    | v :: w :: st => (ex_cat v).beq 1 && ((ex_cat w).beq 1 && K T cd nx d mc ms lv (v :: w :: v :: w :: st) fs me pa)
    | _ => false
noncomputable def hx_getfield : ex_H := fun mt K T cd pc nx ex d mc ms lv st fs me pa => ex_getf K T cd nx d mc ms lv st fs me pa ex
noncomputable def hx_getstatic : ex_H := fun mt K T cd pc nx ex d mc ms lv st fs me pa => match ex with
    | [k, _] => K T cd nx d mc ms lv (.inr (.inr (.inr (some k))) :: st) fs me pa
    | _ => false
noncomputable def hx_goto : ex_H := fun mt K T cd pc nx ex d mc ms lv st fs me pa => match ex with
    | [tgt] => K T [] tgt d mc ms lv st fs me pa
    | _ => false
noncomputable def hx_i2b : ex_H := fun mt K T cd pc nx ex d mc ms lv st fs me pa => ex_un K T cd nx d mc ms lv st fs me pa 11
noncomputable def hx_iadd : ex_H := fun mt K T cd pc nx ex d mc ms lv st fs me pa => ex_arith K T cd nx d mc ms lv st fs me pa 0
noncomputable def hx_iaload : ex_H := fun mt K T cd pc nx ex d mc ms lv st fs me pa => ex_iald K T cd nx d mc ms lv st fs me pa 0 0
noncomputable def hx_iand : ex_H := fun mt K T cd pc nx ex d mc ms lv st fs me pa => ex_arith K T cd nx d mc ms lv st fs me pa 3
noncomputable def hx_iastore : ex_H := fun mt K T cd pc nx ex d mc ms lv st fs me pa => ex_iast K T cd nx d mc ms lv st fs me pa
noncomputable def hx_iconst (n : Int) : ex_H := fun mt K T cd pc nx ex d mc ms lv st fs me pa => ex_fI n fun n => K T cd nx d mc ms lv (.inl (.nest n .nil) :: st) fs me pa
noncomputable def hx_if_icmp (c : ClassFile.Cond) : ex_H := fun mt K T cd pc nx ex d mc ms lv st fs me pa => match ex with
    | [tgt] => ex_icmp K T cd nx d mc ms lv st fs me pa (ex_cc c) tgt
    | _ => false
noncomputable def hx_ifCond (c : ClassFile.Cond) : ex_H := fun mt K T cd pc nx ex d mc ms lv st fs me pa => match ex with
    | [tgt] => ex_if K T cd nx d mc ms lv st fs me pa (ex_cc c) tgt
    | _ => false
noncomputable def hx_ifnonnull : ex_H := fun mt K T cd pc nx ex d mc ms lv st fs me pa => match ex with
    | [tgt] => (match st with
      | .inr (.inr (.inl _)) :: st => K T [] tgt d mc ms lv st fs me pa
      | _ => false)
    | _ => false
noncomputable def hx_iinc (i : Nat) (n : Int) : ex_H := fun mt K T cd pc nx ex d mc ms lv st fs me pa => ex_iinc K T cd nx d mc ms lv st fs me pa i n
noncomputable def hx_iload (k : Nat) : ex_H := fun mt K T cd pc nx ex d mc ms lv st fs me pa => ex_iload K T cd nx d mc ms lv st fs me pa k
noncomputable def hx_iload_n (k : Fin 4) : ex_H := fun mt K T cd pc nx ex d mc ms lv st fs me pa => ex_iload K T cd nx d mc ms lv st fs me pa k.val
noncomputable def hx_imul : ex_H := fun mt K T cd pc nx ex d mc ms lv st fs me pa => ex_arith K T cd nx d mc ms lv st fs me pa 2
noncomputable def hx_invokespecial : ex_H := fun mt K T cd pc nx ex d mc ms lv st fs me pa => match ex with
    | [0, mi2, _] => ex_calli K T cd nx d mc ms lv st fs me pa mt mi2
    | [1, _] => (match st with
      | .inr (.inr (.inl _)) :: st => (ex_cats st).ble 8 && (Nat.ble 1 d && K T cd nx d mc ms lv st fs me pa)
      | _ => false)
    | _ => false
noncomputable def hx_invokestatic : ex_H := fun mt K T cd pc nx ex d mc ms lv st fs me pa => match ex with
    | [0, mi2, _] => ex_calls K T cd nx d mc ms lv st fs me pa mt mi2
    | [1, w, _, _] => ex_math K T cd nx d mc ms lv st fs me pa w
    | _ => false
noncomputable def hx_invokevirtual : ex_H := fun mt K T cd pc nx ex d mc ms lv st fs me pa => match ex with
    | [0, mi2, _] => ex_callv K T cd nx d mc ms lv st fs me pa mt mi2
    | [1, mi2, _, _, _] => ex_callv K T cd nx d mc ms lv st fs me pa mt mi2
    | _ => false
noncomputable def hx_ior : ex_H := fun mt K T cd pc nx ex d mc ms lv st fs me pa => ex_arith K T cd nx d mc ms lv st fs me pa 4
noncomputable def hx_irem : ex_H := fun mt K T cd pc nx ex d mc ms lv st fs me pa => ex_divi K T cd nx d mc ms lv st fs me pa 10
noncomputable def hx_ireturn : ex_H := fun mt K T cd pc nx ex d mc ms lv st fs me pa => match T.1.2.2.2.1 with
    | some ty => ex_iret K st fs me pa ty
    | none => false
noncomputable def hx_ishr : ex_H := fun mt K T cd pc nx ex d mc ms lv st fs me pa => ex_arith K T cd nx d mc ms lv st fs me pa 7
noncomputable def hx_istore (k : Nat) : ex_H := fun mt K T cd pc nx ex d mc ms lv st fs me pa => ex_istore K T cd nx d mc ms lv st fs me pa k
noncomputable def hx_istore_n (k : Fin 4) : ex_H := fun mt K T cd pc nx ex d mc ms lv st fs me pa => ex_istore K T cd nx d mc ms lv st fs me pa k.val
noncomputable def hx_isub : ex_H := fun mt K T cd pc nx ex d mc ms lv st fs me pa => ex_arith K T cd nx d mc ms lv st fs me pa 1
noncomputable def hx_iushr : ex_H := fun mt K T cd pc nx ex d mc ms lv st fs me pa => ex_arith K T cd nx d mc ms lv st fs me pa 8
noncomputable def hx_ldc : ex_H := fun mt K T cd pc nx ex d mc ms lv st fs me pa => match ex with
    | [r, _] => K T cd nx d mc ms lv (.inl (.nest (.ofNat r) .nil) :: st) fs me pa
    | [k, _, _] => K T cd nx d mc ms lv (.inr (.inr (.inr (some k))) :: st) fs me pa
    | _ => false
noncomputable def hx_ldc_w : ex_H := fun mt K T cd pc nx ex d mc ms lv st fs me pa => match ex with
    | [r, _] => K T cd nx d mc ms lv (.inl (.nest (.ofNat r) .nil) :: st) fs me pa
    | _ => false
noncomputable def hx_ldc2_w : ex_H := fun mt K T cd pc nx ex d mc ms lv st fs me pa => match ex with
    | [r, _] => K T cd nx d mc ms lv (.inr (.inl r) :: st) fs me pa
    | _ => false
noncomputable def hx_lookupswitch (dflt : Int) (ps : Array (Int × Int)) : ex_H := fun mt K T cd pc nx ex d mc ms lv st fs me pa => ex_lookup K T d mc ms lv st fs me pa pc dflt ps
noncomputable def hx_new : ex_H := fun mt K T cd pc nx ex d mc ms lv st fs me pa => match ex with
    | [0, ci, N, _, _, _] => ex_newc K T cd nx d mc ms lv fs me (.tag ci .nil) N st pa
    | [1, _, _, _, _] => ex_throw K d mc ms st fs me pa
    | _ => false
noncomputable def hx_newarray (t : ClassFile.ArrayType) : ex_H := fun mt K T cd pc nx ex d mc ms lv st fs me pa => match t with
    | .int => ex_newa K T cd nx d mc ms lv st fs me pa 0
    | .byte => ex_newa K T cd nx d mc ms lv st fs me pa 1
    | .long => ex_newa K T cd nx d mc ms lv st fs me pa 2
    | .boolean => ex_newa K T cd nx d mc ms lv st fs me pa 3
    | _ => false
noncomputable def hx_putfield : ex_H := fun mt K T cd pc nx ex d mc ms lv st fs me pa => ex_putf K T cd nx d mc ms lv st fs me pa ex
noncomputable def hx_return_ : ex_H := fun mt K T cd pc nx ex d mc ms lv st fs me pa => match T.1.2.2.2.1 with
    | none => (match st with
      | [] => ex_back K fs me pa none
      | _ => false)
    | some _ => false
noncomputable def hx_sipush (n : Int) : ex_H := fun mt K T cd pc nx ex d mc ms lv st fs me pa => ex_fI n fun n => K T cd nx d mc ms lv (.inl (.nest n .nil) :: st) fs me pa
noncomputable def hx_tableswitch (dflt lo hi : Int) (offs : Array Int) : ex_H := fun mt K T cd pc nx ex d mc ms lv st fs me pa => ex_table K T d mc ms lv st fs me pa pc dflt lo hi offs
noncomputable def ex_op (ins : Instr) : ex_H := @Instr.rec (fun _ => ex_H) hx_aaload hx_aastore hx_no hx_aload hx_aload_n (fun _ => hx_anewarray) hx_areturn hx_arraylength hx_astore hx_astore_n hx_no hx_baload hx_bastore hx_bipush hx_no hx_no (fun _ => hx_no) hx_no hx_no hx_no hx_no hx_no hx_no (fun _ => hx_no) (fun _ => hx_no) hx_no (fun _ => hx_no) (fun _ => hx_no) hx_no hx_no hx_no hx_no (fun _ => hx_no) (fun _ => hx_no) hx_no hx_dup hx_no hx_no hx_dup2 hx_no hx_no hx_no hx_no hx_no hx_no hx_no hx_no (fun _ => hx_no) (fun _ => hx_no) hx_no (fun _ => hx_no) (fun _ => hx_no) hx_no hx_no hx_no hx_no (fun _ => hx_no) (fun _ => hx_no) hx_no (fun _ => hx_getfield) (fun _ => hx_getstatic) (fun _ => hx_goto) (fun _ => hx_no) hx_i2b hx_no hx_no hx_no hx_no hx_no hx_iadd hx_iaload hx_iand hx_iastore hx_iconst hx_no (fun _ _ => hx_no) (fun c _ => hx_if_icmp c) (fun c _ => hx_ifCond c) (fun _ => hx_ifnonnull) (fun _ => hx_no) hx_iinc hx_iload hx_iload_n hx_imul hx_no (fun _ => hx_no) (fun _ => hx_no) (fun _ _ => hx_no) (fun _ => hx_invokespecial) (fun _ => hx_invokestatic) (fun _ => hx_invokevirtual) hx_ior hx_irem hx_ireturn hx_no hx_ishr hx_istore hx_istore_n hx_isub hx_iushr hx_no (fun _ => hx_no) (fun _ => hx_no) hx_no hx_no hx_no hx_no hx_no hx_no hx_no hx_no (fun _ => hx_no) (fun _ => hx_ldc) (fun _ => hx_ldc_w) (fun _ => hx_ldc2_w) hx_no (fun _ => hx_no) (fun _ => hx_no) hx_no hx_no hx_lookupswitch hx_no hx_no hx_no hx_no hx_no (fun _ => hx_no) (fun _ => hx_no) hx_no hx_no hx_no hx_no hx_no (fun _ _ => hx_no) (fun _ => hx_new) hx_newarray hx_no hx_no hx_no (fun _ => hx_putfield) (fun _ => hx_no) (fun _ => hx_no) hx_return_ hx_no hx_no hx_sipush hx_no hx_tableswitch ins
noncomputable def ex_run (mt : Nat → Option ex_T) (n : Nat) : ex_K := Nat.rec (motive := fun _ => ex_K) (fun _ _ _ _ _ _ _ _ _ _ _ => false) (fun _ K T cd pc d mc ms lv st fs me pa => match cd with
  | (p, ins, _, nx, ex) :: cd => bif p.beq pc then ex_op ins mt K T cd pc nx ex d mc ms lv st fs me pa else false
  | [] => (match ex_look T pc with
    | (p, ins, _, nx, ex) :: cd => bif p.beq pc then ex_op ins mt K T cd pc nx ex d mc ms lv st fs me pa else false
    | [] => false)) n
