/-! all steps of the second executor together, and its runs -/
section ZF
variable {x : sx_X} {K : sx_K} {env : List Int} {T : ex_T} {cd : List ex_E} {lv : sx_L} {st : List sx_V} {fs : List sx_Fr} {me : sx_Me} {lw : List (Nat × Value)} {sw : List Value} {fw : List sx_Fw} {σ : am_S} {pc nx len d mc ms : Nat}
theorem sx_pushc (C : sx_Kx x K) (A : sx_At x env T cd lv st fs me lw sw fw σ) {n : Int} (hn : (Int32.ofInt n).toInt = n) (h : K T cd nx d mc ms lv (.inl (n, []) :: st) fs me = true) : sx_am x d T mc ms nx lw (.int (Int32.ofInt n) :: sw) fw σ := C _ _ _ _ _ _ _ _ _ _ _ _ _ _ _ h (A.stk ⟨⟨_, rfl, by rw [hn]; exact sx_const⟩, A.s⟩)
theorem sx_lcmp (a b : Int64) : -1 ≤ (lg_cmp a b).toInt ∧ (lg_cmp a b).toInt ≤ 1 := by
  unfold lg_cmp
  split
  · exact ⟨by decide, by decide⟩
  · split <;> exact ⟨by decide, by decide⟩
set_option maxHeartbeats 4000000 in
theorem tk_step (B : sx_Bx x) (S : sx_StrOk (xg x)) {ct : Nat → List sx_Ct} {rk : Nat} (hct : sx_Cts x ct rk) {R : Option sx_V → sx_Me → Bool} (hR : sx_Rk x R) (C : sx_Kx x K) (A : sx_At x env T cd lv st fs me lw sw fw σ) {ins : Instr} {ex : List Nat} (hd : decode T.1.2.1 pc = .ok (ins, len)) (hn : ex_ln ins len = true) (hx : nx = pc + len) (hl : ex_lk (xm x) T pc ins ex = true) (h : sx_op ins (xZ x) (xm x) ct rk (xw x) R K T cd pc nx ex d mc ms lv st fs me = true) : sx_am x d T mc ms pc lw sw fw σ := by
  subst hx
  cases ins with
  | iconst n =>
    cases Nat.eq_of_beq_eq_true hn
    have h' := sx_ci_ok (show sx_ci n (fun n => K T cd (pc + 1) d mc ms lv (.inl (n, []) :: st) fs me) = true from h)
    exact kr_iconst hd rfl (sx_pushc C A h'.1 h'.2)
  | bipush n =>
    cases Nat.eq_of_beq_eq_true hn
    have h' := sx_ci_ok (show sx_ci n (fun n => K T cd (pc + 2) d mc ms lv (.inl (n, []) :: st) fs me) = true from h)
    exact kr_bipush hd (of_decide_eq_true hl) (sx_pushc C A h'.1 h'.2)
  | sipush n =>
    cases Nat.eq_of_beq_eq_true hn
    have h' := sx_ci_ok (show sx_ci n (fun n => K T cd (pc + 3) d mc ms lv (.inl (n, []) :: st) fs me) = true from h)
    exact kr_sipush hd (of_decide_eq_true hl) (sx_pushc C A h'.1 h'.2)
  | lconst n => cases Nat.eq_of_beq_eq_true hn; exact kr_lconst hd rfl (sx_go C h (A.stk ⟨⟨_, rfl⟩, A.s⟩))
  | iload_n k => cases Nat.eq_of_beq_eq_true hn; exact tk_iload C A (fun j z hj kk => kr_iload_n j hd hj kk) h
  | iload k => cases Nat.eq_of_beq_eq_true hn; exact tk_iload C A (fun j z hj kk => kr_iload j hd hj kk) h
  | lload_n k => cases Nat.eq_of_beq_eq_true hn; exact tk_lload C A (fun j z hj kk => kr_lload_n j hd hj kk) h
  | lload k => cases Nat.eq_of_beq_eq_true hn; exact tk_lload C A (fun j z hj kk => kr_lload j hd hj kk) h
  | aload_n k => cases Nat.eq_of_beq_eq_true hn; exact tk_aload C A (fun j z hj kk => kr_aload_n j hd hj kk) (fun j z hj kk => kr_aXload_n j hd hj kk) h
  | aload k => cases Nat.eq_of_beq_eq_true hn; exact tk_aload C A (fun j z hj kk => kr_aload j hd hj kk) (fun j z hj kk => kr_aXload j hd hj kk) h
  | istore_n k => cases Nat.eq_of_beq_eq_true hn; exact tk_istore C A (fun z lv' sw hl' kk => kr_istore_n hd (of_decide_eq_true hl) hl' kk) h
  | istore k => cases Nat.eq_of_beq_eq_true hn; exact tk_istore C A (fun z lv' sw hl' kk => kr_istore hd (of_decide_eq_true hl) hl' kk) h
  | lstore_n k => cases Nat.eq_of_beq_eq_true hn; exact tk_lstore C A (fun z lv' sw hl' kk => kr_lstore_n hd (of_decide_eq_true hl) hl' kk) h
  | lstore k => cases Nat.eq_of_beq_eq_true hn; exact tk_lstore C A (fun z lv' sw hl' kk => kr_lstore hd (of_decide_eq_true hl) hl' kk) h
  | astore_n k => cases Nat.eq_of_beq_eq_true hn; exact tk_astore C A (fun z lv' sw hl' kk => kr_astore_n hd (of_decide_eq_true hl) hl' kk) (fun z lv' sw hl' kk => kr_aXstore_n hd (of_decide_eq_true hl) hl' kk) h
  | astore k => cases Nat.eq_of_beq_eq_true hn; exact tk_astore C A (fun z lv' sw hl' kk => kr_astore hd (of_decide_eq_true hl) hl' kk) (fun z lv' sw hl' kk => kr_aXstore hd (of_decide_eq_true hl) hl' kk) h
  | iinc i n => cases Nat.eq_of_beq_eq_true hn; exact tk_iinc C A (of_decide_eq_true hl) hd h
  | iadd => cases Nat.eq_of_beq_eq_true hn; exact tk_arith (o := 0) (nx := pc + 1) C A (fun a b sw _ kk => kr_iadd hd kk) h
  | isub => cases Nat.eq_of_beq_eq_true hn; exact tk_arith (o := 1) (nx := pc + 1) C A (fun a b sw _ kk => kr_isub hd kk) h
  | imul => cases Nat.eq_of_beq_eq_true hn; exact tk_arith (o := 2) (nx := pc + 1) C A (fun a b sw _ kk => kr_imul hd kk) h
  | iand => cases Nat.eq_of_beq_eq_true hn; exact tk_arith (o := 3) (nx := pc + 1) C A (fun a b sw _ kk => kr_iand hd kk) h
  | ior => cases Nat.eq_of_beq_eq_true hn; exact tk_arith (o := 4) (nx := pc + 1) C A (fun a b sw _ kk => kr_ior hd kk) h
  | ixor => cases Nat.eq_of_beq_eq_true hn; exact tk_arith (o := 5) (nx := pc + 1) C A (fun a b sw _ kk => kr_ixor hd kk) h
  | ishl => cases Nat.eq_of_beq_eq_true hn; exact tk_arith (o := 6) (nx := pc + 1) C A (fun a b sw _ kk => kr_ishl hd kk) h
  | ishr => cases Nat.eq_of_beq_eq_true hn; exact tk_arith (o := 7) (nx := pc + 1) C A (fun a b sw _ kk => kr_ishr hd kk) h
  | iushr => cases Nat.eq_of_beq_eq_true hn; exact tk_arith (o := 8) (nx := pc + 1) C A (fun a b sw _ kk => kr_iushr hd kk) h
  | idiv => cases Nat.eq_of_beq_eq_true hn; exact tk_arith (o := 9) (nx := pc + 1) C A (fun a b sw hb kk => kr_idiv hd (hb (Or.inl rfl)) kk) h
  | irem => cases Nat.eq_of_beq_eq_true hn; exact tk_arith (o := 10) (nx := pc + 1) C A (fun a b sw hb kk => kr_irem hd (hb (Or.inr rfl)) kk) h
  | ineg => cases Nat.eq_of_beq_eq_true hn; exact tk_neg C A hd h
  | i2b => cases Nat.eq_of_beq_eq_true hn; exact tk_i2b C A hd h
  | i2l =>
    cases Nat.eq_of_beq_eq_true hn
    match st, A, h with
    | .inl e :: st, A, h =>
      obtain ⟨v, sw1, rfl, ⟨a, rfl, ha⟩, h3⟩ := A.s.cons
      exact kr_i2l hd (sx_go C h (A.stk ⟨⟨_, rfl⟩, h3⟩))
  | l2i =>
    cases Nat.eq_of_beq_eq_true hn
    match st, A, h with
    | .inr none :: st, A, h =>
      obtain ⟨v, sw1, rfl, ⟨a, rfl⟩, h3⟩ := A.s.cons
      exact kr_l2i hd (sx_push C (A.stk h3) (sx_new_full A.r _ h))
  | lcmp =>
    cases Nat.eq_of_beq_eq_true hn
    match st, A, h with
    | .inr none :: .inr none :: st, A, h =>
      obtain ⟨v, sw1, rfl, ⟨b, rfl⟩, h3⟩ := A.s.cons
      obtain ⟨v, sw2, rfl, ⟨a, rfl⟩, h4⟩ := h3.cons
      exact kr_lcmp hd (sx_push C (A.stk h4) (sx_new_ex A.r (sx_lcmp a b).1 (sx_lcmp a b).2 h))
  | land =>
    cases Nat.eq_of_beq_eq_true hn
    match st, A, h with
    | .inr none :: .inr none :: st, A, h =>
      obtain ⟨v, sw1, rfl, ⟨b, rfl⟩, h3⟩ := A.s.cons
      obtain ⟨v, sw2, rfl, ⟨a, rfl⟩, h4⟩ := h3.cons
      exact kr_land hd (sx_go C h (A.stk ⟨⟨_, rfl⟩, h4⟩))
  | lor =>
    cases Nat.eq_of_beq_eq_true hn
    match st, A, h with
    | .inr none :: .inr none :: st, A, h =>
      obtain ⟨v, sw1, rfl, ⟨b, rfl⟩, h3⟩ := A.s.cons
      obtain ⟨v, sw2, rfl, ⟨a, rfl⟩, h4⟩ := h3.cons
      exact kr_lor hd (sx_go C h (A.stk ⟨⟨_, rfl⟩, h4⟩))
  | lshl =>
    cases Nat.eq_of_beq_eq_true hn
    match st, A, h with
    | .inl _ :: .inr none :: st, A, h =>
      obtain ⟨v, sw1, rfl, ⟨b, rfl, hb⟩, h3⟩ := A.s.cons
      obtain ⟨v, sw2, rfl, ⟨a, rfl⟩, h4⟩ := h3.cons
      exact kr_lshl hd (sx_go C h (A.stk ⟨⟨_, rfl⟩, h4⟩))
  | lushr =>
    cases Nat.eq_of_beq_eq_true hn
    match st, A, h with
    | .inl _ :: .inr none :: st, A, h =>
      obtain ⟨v, sw1, rfl, ⟨b, rfl, hb⟩, h3⟩ := A.s.cons
      obtain ⟨v, sw2, rfl, ⟨a, rfl⟩, h4⟩ := h3.cons
      exact kr_lushr hd (sx_go C h (A.stk ⟨⟨_, rfl⟩, h4⟩))
  | ifCond c off =>
    cases Nat.eq_of_beq_eq_true hn
    match ex, hl, h with
    | [tgt], hl, h => exact tk_if C A hd (of_decide_eq_true hl) h
  | if_icmp c off =>
    cases Nat.eq_of_beq_eq_true hn
    match ex, hl, h with
    | [tgt], hl, h => exact tk_icmp C A hd (of_decide_eq_true hl) h
  | goto off =>
    cases Nat.eq_of_beq_eq_true hn
    match ex, hl, h with
    | [tgt], hl, h => exact kr_goto hd (of_decide_eq_true hl) (sx_go C h A.jmp)
  | ifnonnull off =>
    cases Nat.eq_of_beq_eq_true hn
    match ex, hl, st, A, h with
    | [tgt], hl, .inr (some (false, r)) :: st, A, h =>
      obtain ⟨v, sw1, rfl, hv, h3⟩ := A.s.cons
      have e : v = .ref r := hv
      subst e
      exact kr_ifnonnull hd (of_decide_eq_true hl) (sx_go C h (A.jmp.stk h3))
  | tableswitch dflt lo hi offs => exact tk_table C A hd h
  | lookupswitch dflt ps => exact tk_lookup C A hd hl h
  | dup =>
    cases Nat.eq_of_beq_eq_true hn
    match st, A, h with
    | v :: st, A, h =>
      have h' : ((sx_cat v).beq 1 && K T cd (pc + 1) d mc ms lv (v :: v :: st) fs me) = true := h
      rw [Bool.and_eq_true] at h'
      obtain ⟨z, sw1, rfl, hv, h3⟩ := A.s.cons
      exact kr_dup hd ((sx_val_cat hv).trans (Nat.eq_of_beq_eq_true h'.1)) (sx_go C h'.2 (A.stk ⟨hv, hv, h3⟩))
  | pop =>
    cases Nat.eq_of_beq_eq_true hn
    match st, A, h with
    | v :: st, A, h =>
      have h' : ((sx_cat v).beq 1 && K T cd (pc + 1) d mc ms lv st fs me) = true := h
      rw [Bool.and_eq_true] at h'
      obtain ⟨z, sw1, rfl, hv, h3⟩ := A.s.cons
      exact kr_pop hd ((sx_val_cat hv).trans (Nat.eq_of_beq_eq_true h'.1)) (sx_go C h'.2 (A.stk h3))
  | dup2 =>
    cases Nat.eq_of_beq_eq_true hn
    match st, A, h with
    | v :: w :: st, A, h =>
      have h' : ((sx_cat v).beq 1 && ((sx_cat w).beq 1 && K T cd (pc + 1) d mc ms lv (v :: w :: v :: w :: st) fs me)) = true := h
      rw [Bool.and_eq_true, Bool.and_eq_true] at h'
      obtain ⟨z, sw1, rfl, hv, h3⟩ := A.s.cons
      obtain ⟨z2, sw2, rfl, hw, h4⟩ := h3.cons
      exact kr_dup2 hd ((sx_val_cat hv).trans (Nat.eq_of_beq_eq_true h'.1)) ((sx_val_cat hw).trans (Nat.eq_of_beq_eq_true h'.2.1)) (sx_go C h'.2.2 (A.stk ⟨hv, hw, hv, hw, h4⟩))
  | ldc i =>
    cases Nat.eq_of_beq_eq_true hn
    match ex, hl, h with
    | [r, p], hl, h =>
      have h' : (ex_fI (Int32.ofInt (.ofNat r)).toInt fun n => K T cd (pc + 2) d mc ms lv (.inl (n, []) :: st) fs me) = true := h
      rw [ex_fI_eq] at h'
      exact kr_ldc B.1 hd (ex_mem_ok hl) (sx_go C h' (A.stk ⟨⟨_, rfl, sx_const⟩, A.s⟩))
    | [k, p, z], hl, h =>
      have hl' : (decide (am_sx T.1.1.cls i = k) && (match lw_at p with
        | some (.stringRef o j _) => decide (o = T.1.1.cls) && decide (j = i)
        | _ => false)) = true := hl
      rw [Bool.and_eq_true, decide_eq_true_eq] at hl'
      obtain ⟨l1, l2⟩ := hl'
      split at l2
      · rename_i o j tx hq
        simp only [Bool.and_eq_true, decide_eq_true_eq] at l2
        rw [l2.1, l2.2] at hq
        exact kr_ldcS B.1 hd (lw_at_mem hq) l1 (sx_go C h (A.stk ⟨rfl, A.s⟩))
      · cases l2
  | ldc_w i =>
    cases Nat.eq_of_beq_eq_true hn
    match ex, hl, h with
    | [r, p], hl, h =>
      have h' : (ex_fI (Int32.ofInt (.ofNat r)).toInt fun n => K T cd (pc + 3) d mc ms lv (.inl (n, []) :: st) fs me) = true := h
      rw [ex_fI_eq] at h'
      exact kr_ldcw B.1 hd (ex_mem_ok hl) (sx_go C h' (A.stk ⟨⟨_, rfl, sx_const⟩, A.s⟩))
  | ldc2_w i =>
    cases Nat.eq_of_beq_eq_true hn
    match ex, hl, h with
    | [r, p], hl, h => exact kr_ldc2 B.1 hd (ex_mem_ok hl) (sx_go C h (A.stk ⟨⟨_, rfl⟩, A.s⟩))
  | getstatic i =>
    cases Nat.eq_of_beq_eq_true hn
    match ex, hl, h with
    | [1, p], hl, h => exact kr_gets B.1 hd B.1.2.2.2.1.1 (ex_mem_ok hl) (sx_go C h (A.stk ⟨rfl, A.s⟩))
    | [2, p], hl, h => exact kr_gets B.1 hd B.1.2.2.2.1.2.1 (ex_mem_ok hl) (sx_go C h (A.stk ⟨rfl, A.s⟩))
    | [3, p], hl, h => exact kr_gets B.1 hd B.1.2.2.2.1.2.2 (ex_mem_ok hl) (sx_go C h (A.stk ⟨rfl, A.s⟩))
    | [0, p], hl, h => exact Bool.noConfusion (show false = true from hl)
    | [k + 4, p], hl, h => exact Bool.noConfusion (show false = true from hl)
  | getfield i => cases Nat.eq_of_beq_eq_true hn; exact tk_getf B C A hd hl h
  | putfield i => cases Nat.eq_of_beq_eq_true hn; exact tk_putf B C A hd hl h
  | new i =>
    cases Nat.eq_of_beq_eq_true hn
    match ex, hl, h with
    | [1, is, wd, p1, p2], hl, h => exact tk_throw B C hR A hd hl h
  | arraylength => cases Nat.eq_of_beq_eq_true hn; exact tk_alen B C A hd h
  | iaload =>
    cases Nat.eq_of_beq_eq_true hn
    refine tk_iald B C A (t1 := 0) (t2 := 0) (fun t o n i sw ht ho hi kk => ?_) (fun _ k n f i sw hX hi kk => kr_ialdX B.1 hd hX hi kk) h
    have ht0 : t = 0 := ht.elim id id
    subst ht0
    exact kr_iald B.1 hd ho hi kk
  | baload =>
    cases Nat.eq_of_beq_eq_true hn
    refine tk_iald B C A (t1 := 1) (t2 := 3) (fun t o n i sw ht ho hi kk => ?_) (fun z => absurd z (by decide)) h
    rcases ht with ht | ht
    · subst ht
      exact kr_bald B.1 hd ho hi kk
    · subst ht
      exact kr_zald B.1 hd ho hi kk
  | laload => cases Nat.eq_of_beq_eq_true hn; exact tk_lald B C A hd h
  | aaload => cases Nat.eq_of_beq_eq_true hn; exact tk_aald B C A hd h
  | iastore => cases Nat.eq_of_beq_eq_true hn; exact tk_iast B C A hd h
  | bastore => cases Nat.eq_of_beq_eq_true hn; exact tk_bast B C A hd h
  | lastore => cases Nat.eq_of_beq_eq_true hn; exact tk_last B C A hd h
  | invokestatic i =>
    cases Nat.eq_of_beq_eq_true hn
    match ex, hl, h with
    | [0, mi2, p], hl, h => exact tk_calls B hct C A hd hl h
    | [1, w, p, z], hl, h => exact tk_math B C A hd hl h
  | invokevirtual i =>
    cases Nat.eq_of_beq_eq_true hn
    match ex, hl, h with
    | [0, mi2, p], hl, h => exact tk_callv B hct C A hd hl h
    | [1, mi2, p, li, pck], hl, h => exact tk_try B C A hd hl h
    | [2, w, p, z], hl, h => exact tk_strs B S C A hd hl h
  | ireturn =>
    cases Nat.eq_of_beq_eq_true hn
    have h' : (match T.1.2.2.2.1 with
      | some ty => sx_iret K st fs me R ty
      | none => false) = true := h
    split at h'
    · rename_i ty hty
      exact tk_iret C hR A hty hd h'
    · cases h'
  | return_ =>
    cases Nat.eq_of_beq_eq_true hn
    have h' : gx_return_ (xZ x) (xm x) ct rk (xw x) R K T cd pc (pc + 1) ex d mc ms lv st fs me = true := h
    unfold gx_return_ at h'
    split at h'
    · rename_i hty
      split at h'
      · rw [A.s.nil]
        exact kr_return hd hty (sx_back_ok C hR A.2.2.1 A.r A.2.2.2.2.2.2 (v := none) (v' := none) trivial h')
      · cases h'
    · cases h'
  | areturn =>
    cases Nat.eq_of_beq_eq_true hn
    have h' : gx_areturn (xZ x) (xm x) ct rk (xw x) R K T cd pc (pc + 1) ex d mc ms lv st fs me = true := h
    unfold gx_areturn at h'
    split at h'
    · rename_i hty
      split at h'
      · rename_i o
        obtain ⟨v, sw1, rfl, hv, h3⟩ := A.s.cons
        have e : v = .ref o := hv
        subst e
        rw [h3.nil]
        exact kr_areturn hd hty (sx_back_ok C hR A.2.2.1 A.r A.2.2.2.2.2.2 (v := some (.inr (some (false, o)))) (v' := some (.ref o)) rfl h')
      · cases h'
    · cases h'
  | _ => exact Bool.noConfusion (show false = true from h)
/-- a place where the run ends ahead of the method's end -/
def sx_Hks (x : sx_X) (H : sx_Hk) : Prop := ∀ (pc : Nat) (F : Nat → sx_L → List sx_V → sx_Me → Bool) (cd : List ex_E) (lv : sx_L) (st : List sx_V) (me : sx_Me) (env : List Int) (lw : List (Nat × Value)) (sw : List Value) (σ : am_S) (d mc ms : Nat), H pc = some F → F d lv st me = true → sx_At x env (xT x) cd lv st [] me lw sw [] σ → sx_am x d (xT x) mc ms pc lw sw [] σ
theorem tk_hk (C : sx_Kx x K) {H : sx_Hk} (hH : sx_Hks x H) : sx_Kx x (sx_hk H K) := by
  intro T cd pc d mc ms lv st fs me env lw sw fw σ h A
  unfold sx_hk at h
  split at h
  · split at h
    · rename_i F hF
      have hT := A.2.1 rfl
      subst hT
      cases fw with
      | nil => exact hH pc F cd lv st me env lw sw σ d mc ms hF h A
      | cons w fw => exact A.2.2.2.2.2.2.elim
    · exact C _ _ _ _ _ _ _ _ _ _ _ _ _ _ _ h A
  · exact C _ _ _ _ _ _ _ _ _ _ _ _ _ _ _ h A
theorem tk_run (B : sx_Bx x) (S : sx_StrOk (xg x)) {ct : Nat → List sx_Ct} {rk : Nat} (hct : sx_Cts x ct rk) {R : Option sx_V → sx_Me → Bool} (hR : sx_Rk x R) {H : sx_Hk} (hH : sx_Hks x H) (n : Nat) : sx_Kx x (sx_run (xZ x) (xm x) ct rk (xw x) R H n) := by
  induction n with
  | zero =>
    intro T cd pc d mc ms lv st fs me env lw sw fw σ h
    exact Bool.noConfusion (show false = true from h)
  | succ n ih =>
    intro T cd pc d mc ms lv st fs me env lw sw fw σ h A
    have C := tk_hk ih hH
    have go : ∀ (e : ex_E) (cd : List ex_E), (∀ z ∈ e :: cd, ex_chk (xm x) T z = true) → (bif e.1.beq pc then sx_op e.2.1 (xZ x) (xm x) ct rk (xw x) R (sx_hk H (sx_run (xZ x) (xm x) ct rk (xw x) R H n)) T cd pc e.2.2.2.1 e.2.2.2.2 d mc ms lv st fs me else false) = true → sx_am x d T mc ms pc lw sw fw σ := by
      intro e cd hz hb
      cases hpc : e.1.beq pc with
      | false => rw [hpc] at hb; cases hb
      | true =>
        rw [hpc] at hb
        have e1 := Nat.eq_of_beq_eq_true hpc
        obtain ⟨a1, a2, a3, a4⟩ := ex_chk_at (hz e List.mem_cons_self)
        rw [e1] at a1 a3 a4
        exact tk_step B S hct hR C ⟨⟨A.1.1, fun z hz' => hz z (List.mem_cons_of_mem _ hz')⟩, A.2⟩ a1 a2 a3 a4 hb
    match cd, A, h with
    | e :: cd, A, h => exact go e cd A.1.2 h
    | [], A, h =>
      have h' : (match ex_look T pc with
        | (p, ins, _, nx, ex) :: cd => bif p.beq pc then sx_op ins (xZ x) (xm x) ct rk (xw x) R (sx_hk H (sx_run (xZ x) (xm x) ct rk (xw x) R H n)) T cd pc nx ex d mc ms lv st fs me else false
        | [] => false) = true := h
      split at h'
      · rename_i p ins z nx ex cd hlook
        refine go (p, ins, z, nx, ex) cd ?_ h'
        rw [← hlook]
        exact ex_tok_at A.1.1
      · cases h'
end ZF
