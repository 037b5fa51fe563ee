/-! the executor's steps, all together, and its runs -/
section KW
variable {g : am_C} {ρ : Nat → Int32} {mt : Nat → Option ex_T} {K : ex_K} {Q : List ex_Fr → Option (Option Value) → am_S → Prop} {T : ex_T} {cd : List ex_E} {pc nx len d mc ms : Nat} {lv : ex_L} {st : List ex_V} {fs : List ex_Fr} {me : ex_Me} {pa : ex_Pa} {σ : am_S}
set_option maxHeartbeats 4000000 in
theorem ok_step (C : ex_C g ρ mt K Q) (ok : ex_okF mt T cd) (hp : ex_P ρ pa) (hr : ex_R ρ me σ) {ins : Instr} {ex : List Nat} (hd : decode T.1.2.1 pc = .ok (ins, len)) (hn : ex_ln ins len = true) (hx : nx = pc + len) (hl : ex_lk mt T pc ins ex = true) (h : ex_op ins mt K T cd pc nx ex d mc ms lv st fs me pa = true) : am_K g d T.1 mc ms pc (ex_lv ρ lv) (st.map (ex_ev ρ)) σ (Q fs) := by
  subst hx
  cases ins with
  | iconst n =>
    cases Nat.eq_of_beq_eq_true hn
    have h' : ex_fI n (fun n => K T cd (pc + 1) d mc ms lv (.inl (.nest n .nil) :: st) fs me pa) = true := h
    rw [ex_fI_eq] at h'
    exact kr_iconst hd rfl (ex_goK C h' ok hp hr)
  | bipush n =>
    cases Nat.eq_of_beq_eq_true hn
    have h' : ex_fI n (fun n => K T cd (pc + 2) d mc ms lv (.inl (.nest n .nil) :: st) fs me pa) = true := h
    rw [ex_fI_eq] at h'
    exact kr_bipush hd (of_decide_eq_true hl) (ex_goK C h' ok hp hr)
  | sipush n =>
    cases Nat.eq_of_beq_eq_true hn
    have h' : ex_fI n (fun n => K T cd (pc + 3) d mc ms lv (.inl (.nest n .nil) :: st) fs me pa) = true := h
    rw [ex_fI_eq] at h'
    exact kr_sipush hd (of_decide_eq_true hl) (ex_goK C h' ok hp hr)
  | iload_n k => cases Nat.eq_of_beq_eq_true hn; exact ok_iload C ok hp hr (fun j x hj kk => kr_iload_n j hd hj kk) h
  | iload k => cases Nat.eq_of_beq_eq_true hn; exact ok_iload C ok hp hr (fun j x hj kk => kr_iload j hd hj kk) h
  | aload_n k => cases Nat.eq_of_beq_eq_true hn; exact ok_aload C ok hp hr (fun j x hj kk => kr_aload_n j hd hj kk) (fun j x hj kk => kr_aXload_n j hd hj kk) h
  | aload k => cases Nat.eq_of_beq_eq_true hn; exact ok_aload C ok hp hr (fun j x hj kk => kr_aload j hd hj kk) (fun j x hj kk => kr_aXload j hd hj kk) h
  | istore_n k => cases Nat.eq_of_beq_eq_true hn; exact ok_istore C ok hp hr (fun x lv' sw hl' kk => kr_istore_n hd (of_decide_eq_true hl) hl' kk) h
  | istore k => cases Nat.eq_of_beq_eq_true hn; exact ok_istore C ok hp hr (fun x lv' sw hl' kk => kr_istore hd (of_decide_eq_true hl) hl' kk) h
  | astore_n k => cases Nat.eq_of_beq_eq_true hn; exact ok_astore C ok hp hr (fun x lv' sw hl' kk => kr_astore_n hd (of_decide_eq_true hl) hl' kk) (fun x lv' sw hl' kk => kr_aXstore_n hd (of_decide_eq_true hl) hl' kk) h
  | astore k => cases Nat.eq_of_beq_eq_true hn; exact ok_astore C ok hp hr (fun x lv' sw hl' kk => kr_astore hd (of_decide_eq_true hl) hl' kk) (fun x lv' sw hl' kk => kr_aXstore hd (of_decide_eq_true hl) hl' kk) h
  | iinc i n => cases Nat.eq_of_beq_eq_true hn; exact ok_iinc C ok hp hr (of_decide_eq_true hl) hd h
  | iadd => cases Nat.eq_of_beq_eq_true hn; exact ok_arith C ok hp hr (fun x y sw kk => kr_iadd hd kk) h
  | isub => cases Nat.eq_of_beq_eq_true hn; exact ok_arith C ok hp hr (fun x y sw kk => kr_isub hd kk) h
  | imul => cases Nat.eq_of_beq_eq_true hn; exact ok_arith C ok hp hr (fun x y sw kk => kr_imul hd kk) h
  | iand => cases Nat.eq_of_beq_eq_true hn; exact ok_arith C ok hp hr (fun x y sw kk => kr_iand hd kk) h
  | ior => cases Nat.eq_of_beq_eq_true hn; exact ok_arith C ok hp hr (fun x y sw kk => kr_ior hd kk) h
  | ishr => cases Nat.eq_of_beq_eq_true hn; exact ok_arith C ok hp hr (fun x y sw kk => kr_ishr hd kk) h
  | iushr => cases Nat.eq_of_beq_eq_true hn; exact ok_arith C ok hp hr (fun x y sw kk => kr_iushr hd kk) h
  | irem => cases Nat.eq_of_beq_eq_true hn; exact ok_divi C ok hp hr (fun x y sw hy kk => kr_irem hd hy kk) h
  | i2b => cases Nat.eq_of_beq_eq_true hn; exact ok_un C ok hp hr (fun x sw kk => kr_i2b hd kk) h
  | ifCond c off =>
    cases Nat.eq_of_beq_eq_true hn
    match ex, hl, h with
    | [tgt], hl, h => exact ok_if C ok hp hr hd (of_decide_eq_true hl) h
  | if_icmp c off =>
    cases Nat.eq_of_beq_eq_true hn
    match ex, hl, h with
    | [tgt], hl, h => exact ok_icmp C ok hp hr hd (of_decide_eq_true hl) h
  | goto off =>
    cases Nat.eq_of_beq_eq_true hn
    match ex, hl, h with
    | [tgt], hl, h => exact kr_goto hd (of_decide_eq_true hl) (ex_goK C h (ex_ok0 ok) hp hr)
  | ifnonnull off =>
    cases Nat.eq_of_beq_eq_true hn
    match ex, hl, st, h with
    | [tgt], hl, .inr (.inr (.inl r)) :: st, h => exact kr_ifnonnull hd (of_decide_eq_true hl) (ex_goK C h (ex_ok0 ok) hp hr)
  | tableswitch dflt lo hi offs => exact ok_table C ok hp hr hd h
  | lookupswitch dflt ps => exact ok_lookup C ok hp hr hd hl h
  | dup =>
    cases Nat.eq_of_beq_eq_true hn
    match st, h with
    | v :: st, h =>
      have h' : ((ex_cat v).beq 1 && K T cd (pc + 1) d mc ms lv (v :: v :: st) fs me pa) = true := h
      rw [Bool.and_eq_true] at h'
      exact kr_dup hd ((ex_cat_ok ρ v).trans (Nat.eq_of_beq_eq_true h'.1)) (ex_goK C h'.2 ok hp hr)
  | dup2 =>
    cases Nat.eq_of_beq_eq_true hn
    match st, h with
    | v :: w :: st, h =>
      have h' : ((ex_cat v).beq 1 && ((ex_cat w).beq 1 && K T cd (pc + 1) d mc ms lv (v :: w :: v :: w :: st) fs me pa)) = true := h
      rw [Bool.and_eq_true, Bool.and_eq_true] at h'
      exact kr_dup2 hd ((ex_cat_ok ρ v).trans (Nat.eq_of_beq_eq_true h'.1)) ((ex_cat_ok ρ w).trans (Nat.eq_of_beq_eq_true h'.2.1)) (ex_goK C h'.2.2 ok hp hr)
  | ldc i =>
    cases Nat.eq_of_beq_eq_true hn
    match ex, hl, h with
    | [r, p], hl, h => exact kr_ldc C.1 hd (ex_mem_ok hl) (ex_goK C h ok hp hr)
    | [k, p, z], hl, h =>
      have hl' : (decide (am_sx T.1.1.cls i = k) && (match lw_at p with
        | some (.stringRef o j _) => decide (o = T.1.1.cls) && decide (j = i)
        | _ => false)) = true := hl
      rw [Bool.and_eq_true, decide_eq_true_eq] at hl'
      obtain ⟨l1, l2⟩ := hl'
      split at l2
      · rename_i o j tx hq
        simp only [Bool.and_eq_true, decide_eq_true_eq] at l2
        rw [l2.1, l2.2] at hq
        exact kr_ldcS C.1 hd (lw_at_mem hq) l1 (ex_goK C h ok hp hr)
      · cases l2
  | ldc_w i =>
    cases Nat.eq_of_beq_eq_true hn
    match ex, hl, h with
    | [r, p], hl, h => exact kr_ldcw C.1 hd (ex_mem_ok hl) (ex_goK C h ok hp hr)
  | ldc2_w i =>
    cases Nat.eq_of_beq_eq_true hn
    match ex, hl, h with
    | [r, p], hl, h => exact kr_ldc2 C.1 hd (ex_mem_ok hl) (ex_goK C h ok hp hr)
  | getstatic i =>
    cases Nat.eq_of_beq_eq_true hn
    match ex, hl, h with
    | [1, p], hl, h => exact kr_gets C.1 hd C.1.2.2.2.1.1 (ex_mem_ok hl) (ex_goK C h ok hp hr)
    | [2, p], hl, h => exact kr_gets C.1 hd C.1.2.2.2.1.2.1 (ex_mem_ok hl) (ex_goK C h ok hp hr)
    | [3, p], hl, h => exact kr_gets C.1 hd C.1.2.2.2.1.2.2 (ex_mem_ok hl) (ex_goK C h ok hp hr)
    | [0, p], hl, h => exact Bool.noConfusion (show false = true from hl)
    | [k + 4, p], hl, h => exact Bool.noConfusion (show false = true from hl)
  | getfield i => cases Nat.eq_of_beq_eq_true hn; exact ok_getf C ok hp hr hd hl h
  | putfield i => cases Nat.eq_of_beq_eq_true hn; exact ok_putf C ok hp hr hd hl h
  | new i =>
    cases Nat.eq_of_beq_eq_true hn
    match ex, hl, h with
    | [0, ci, N, p1, p2, p3], hl, h =>
      unfold ex_lk at hl
      simp only at hl
      split at hl
      · rename_i C1 U N1 hc
        simp only [Bool.and_eq_true, decide_eq_true_eq] at hl
        obtain ⟨rfl, l2, l3, l4⟩ := hl
        exact ok_newc C ok hp hr (x := .inl ci) rfl (fun k mc1 ms1 hk kk => kr_newn C.1 hk hc hd (ex_mem_ok l2) (ex_mem_ok l3) (ex_mem_ok l4) kk) h
      · cases hl
    | [1, is, wd, p1, p2], hl, h => exact ok_throw C hp hr hd hl h
  | newarray t =>
    cases Nat.eq_of_beq_eq_true hn
    cases t with
    | int => exact ok_newa C ok hp hr (t := 0) (fun z N k mc1 ms1 sw h0 hN hb hk kk => kr_newn_int C.1 hk hd h0 hN hb kk) h
    | byte => exact ok_newa C ok hp hr (t := 1) (fun z N k mc1 ms1 sw h0 hN hb hk kk => kr_newn_byte C.1 hk hd h0 hN hb kk) h
    | long => exact ok_newa C ok hp hr (t := 2) (fun z N k mc1 ms1 sw h0 hN hb hk kk => kr_newn_long C.1 hk hd h0 hN hb kk) h
    | boolean => exact ok_newa C ok hp hr (t := 3) (fun z N k mc1 ms1 sw h0 hN hb hk kk => kr_newn_boolean C.1 hk hd h0 hN hb kk) h
    | _ => exact Bool.noConfusion (show false = true from h)
  | anewarray i =>
    cases Nat.eq_of_beq_eq_true hn
    match ex, hl with
    | [p], hl => exact ok_newa C ok hp hr (t := 4) (fun z N k mc1 ms1 sw h0 hN hb hk kk => kr_newnq C.1 hk hd (ex_mem_ok hl) h0 hN hb kk) h
  | arraylength => cases Nat.eq_of_beq_eq_true hn; exact ok_alen C ok hp hr hd h
  | iaload =>
    cases Nat.eq_of_beq_eq_true hn
    refine ok_iald C ok hp hr (t1 := 0) (t2 := 0) (fun t o n i sw ht ho hi kk => ?_) (fun _ x n f i sw hX hi kk => kr_ialdX C.1 hd hX hi kk) h
    have ht0 : t = 0 := ht.elim id id
    subst ht0
    exact kr_iald C.1 hd ho hi kk
  | baload =>
    cases Nat.eq_of_beq_eq_true hn
    refine ok_iald C ok hp hr (t1 := 1) (t2 := 3) (fun t o n i sw ht ho hi kk => ?_) (fun z => absurd z (by decide)) h
    rcases ht with ht | ht
    · subst ht
      exact kr_bald C.1 hd ho hi kk
    · subst ht
      exact kr_zald C.1 hd ho hi kk
  | aaload => cases Nat.eq_of_beq_eq_true hn; exact ok_aald C ok hp hr hd h
  | iastore => cases Nat.eq_of_beq_eq_true hn; exact ok_iast C ok hp hr hd h
  | bastore => cases Nat.eq_of_beq_eq_true hn; exact ok_bast C ok hp hr hd h
  | aastore => cases Nat.eq_of_beq_eq_true hn; exact ok_aast C ok hp hr hd h
  | invokestatic i =>
    cases Nat.eq_of_beq_eq_true hn
    match ex, hl, h with
    | [0, mi2, p], hl, h => exact ok_calls C ok hp hr hd hl h
    | [1, w, p, z], hl, h => exact ok_math C ok hp hr hd hl h
  | invokevirtual i =>
    cases Nat.eq_of_beq_eq_true hn
    match ex, hl, h with
    | [0, mi2, p], hl, h => exact ok_callv C ok hp hr hd hl h
    | [1, mi2, p, li, pck], hl, h => exact ok_try C ok hp hr hd hl h
  | invokespecial i =>
    cases Nat.eq_of_beq_eq_true hn
    match ex, hl, h with
    | [0, mi2, p], hl, h => exact ok_calli C ok hp hr hd hl h
    | [1, p], hl, h =>
      match st, h with
      | .inr (.inr (.inl o)) :: st, h =>
        have h' : ((ex_cats st).ble 8 && (Nat.ble 1 d && K T cd (pc + 3) d mc ms lv st fs me pa)) = true := h
        rw [Bool.and_eq_true, Bool.and_eq_true] at h'
        exact kr_objInit C.1 (ex_mem_ok hl) hd (ex_ble h'.2.1) (by rw [ex_cats_ok]; exact ex_ble h'.1) (ex_goK C h'.2.2 ok hp hr)
  | ireturn =>
    cases Nat.eq_of_beq_eq_true hn
    have h' : (match T.1.2.2.2.1 with
      | some ty => ex_iret K st fs me pa ty
      | none => false) = true := h
    split at h'
    · rename_i ty hty
      exact ok_iret C hp hr hty hd h'
    · cases h'
  | return_ =>
    cases Nat.eq_of_beq_eq_true hn
    have h' : hx_return_ mt K T cd pc (pc + 1) ex d mc ms lv st fs me pa = true := h
    unfold hx_return_ at h'
    split at h'
    · rename_i hty
      split at h'
      · exact kr_return hd hty (ok_back C hp hr h')
      · cases h'
    · cases h'
  | areturn =>
    cases Nat.eq_of_beq_eq_true hn
    have h' : hx_areturn mt K T cd pc (pc + 1) ex d mc ms lv st fs me pa = true := h
    unfold hx_areturn at h'
    split at h'
    · rename_i hty
      split at h'
      · exact kr_areturn hd hty (ok_back C hp hr h')
      · cases h'
    · cases h'
  | _ => exact Bool.noConfusion (show false = true from h)
end KW
/-! the end of a method under fs -/
def ex_Q (ρ : Nat → Int32) (mt : Nat → Option ex_T) (n : Nat) (fs : List ex_Fr) (r : Option (Option Value)) (σ : am_S) : Prop := match fs with
  | [] => r = some (some (.int 1))
  | f :: fs => ∃ (m : Nat) (me : ex_Me) (pa : ex_Pa), m < n ∧ ex_P ρ pa ∧ ex_R ρ me σ ∧ ((∃ v : Option ex_V, r = some (v.map (ex_ev ρ)) ∧ ex_run mt m f.1 f.2.1 f.2.2.1 f.2.2.2.1 f.2.2.2.2.1 f.2.2.2.2.2.1 f.2.2.2.2.2.2.1 (v.toList ++ f.2.2.2.2.2.2.2) fs me pa = true) ∨ (r = none ∧ f.1.1.2.2.2.2 ≠ [] ∧ ∃ (f2 : ex_Fr) (fs2 : List ex_Fr), fs = f2 :: fs2 ∧ ex_run mt m f2.1 f2.2.1 f2.2.2.1 f2.2.2.2.1 f2.2.2.2.2.1 f2.2.2.2.2.2.1 f2.2.2.2.2.2.2.1 (.inl (.nest 1 .nil) :: f2.2.2.2.2.2.2.2) fs2 me pa = true))
theorem ex_Q_mono {ρ : Nat → Int32} {mt : Nat → Option ex_T} {n n' : Nat} (h : n ≤ n') {fs : List ex_Fr} : ∀ r σ, ex_Q ρ mt n fs r σ → ex_Q ρ mt n' fs r σ := by
  intro r σ q
  match fs, q with
  | [], q => exact q
  | f :: fs, ⟨m, me, pa, h1, h2⟩ => exact ⟨m, me, pa, by omega, h2⟩
theorem ex_chk_at {mt : Nat → Option ex_T} {T : ex_T} {e : ex_E} (h : ex_chk mt T e = true) : decode T.1.2.1 e.1 = .ok (e.2.1, e.2.2.1) ∧ ex_ln e.2.1 e.2.2.1 = true ∧ e.2.2.2.1 = e.1 + e.2.2.1 ∧ ex_lk mt T e.1 e.2.1 e.2.2.2.2 = true := by
  unfold ex_chk at h
  rw [Bool.and_eq_true, Bool.and_eq_true, Bool.and_eq_true] at h
  exact ⟨of_decide_eq_true h.1, h.2.1, Nat.eq_of_beq_eq_true h.2.2.1, h.2.2.2⟩
theorem ok_run {g : am_C} {ρ : Nat → Int32} {mt : Nat → Option ex_T} (G : am_G g) {L : Nat} {xs : Nat → Int32} (hX : g.2.2.2.2.2.2 = am_X L xs) (hL : L ≤ 3072) (hρ : ∀ k, k < 100 → ρ k = xs k) (hρL : ρ 100 = Int32.ofNat L) (hmt : ∀ mi T, mt mi = some T → ex_tok mt T = true) (n : Nat) :
    ∀ m, m ≤ n → ∀ (T : ex_T) (cd : List ex_E) (pc d mc ms : Nat) (lv : ex_L) (st : List ex_V) (fs : List ex_Fr) (me : ex_Me) (pa : ex_Pa) (σ : am_S), ex_run mt m T cd pc d mc ms lv st fs me pa = true → ex_okF mt T cd → ex_P ρ pa → ex_R ρ me σ → am_K g d T.1 mc ms pc (ex_lv ρ lv) (st.map (ex_ev ρ)) σ (ex_Q ρ mt m fs) := by
  induction n with
  | zero =>
    intro m hm T cd pc d mc ms lv st fs me pa σ h
    cases Nat.le_zero.mp hm
    exact Bool.noConfusion (show false = true from h)
  | succ n ih =>
    intro m hm
    by_cases hmn : m ≤ n
    · exact ih m hmn
    · have hm1 : m = n + 1 := by omega
      subst hm1
      intro T cd pc d mc ms lv st fs me pa σ h ok hp hr
      have C : ex_C g ρ mt (ex_run mt n) (ex_Q ρ mt (n + 1)) := by
        refine ⟨G, ⟨L, xs, hX, hL, hρ, hρL⟩, hmt, ?_, ?_, ?_, ?_, ?_, ?_⟩
        · intro T cd pc d mc ms lv st fs me pa σ h ok hp hr
          exact kr_mono (ex_Q_mono (by omega)) (ih n (Nat.le_refl n) T cd pc d mc ms lv st fs me pa σ h ok hp hr)
        · intro σ; rfl
        · intro T cd pc d mc ms lv st fs v me pa σ h hp hr
          exact ⟨n, me, pa, by omega, hp, hr, Or.inl ⟨v, rfl, h⟩⟩
        · intro f T cd pc d mc ms lv st fs me pa σ hh h hp hr
          exact ⟨n, me, pa, by omega, hp, hr, Or.inr ⟨rfl, hh, _, _, rfl, h⟩⟩
        · intro T cd pc d mc ms lv st fs v σ q ok
          obtain ⟨m, me, pa, h1, hp, hr, ⟨w, h2, h3⟩ | ⟨h2, -⟩⟩ := q
          · have hv : v = w.map (ex_ev ρ) := Option.some.inj h2
            have := kr_mono (ex_Q_mono (by omega : m ≤ n + 1)) (ih m (by omega) T cd pc d mc ms lv (w.toList ++ st) fs me pa σ h3 ok hp hr)
            rw [hv]
            cases w with
            | none => exact this
            | some w => exact this
          · cases h2
        · intro f fs σ q
          obtain ⟨m, me, pa, h1, hp, hr, ⟨w, h2, h3⟩ | ⟨-, hh, f2, fs2, hfs, h3⟩⟩ := q
          · cases h2
          · refine ⟨hh, ?_⟩
            subst hfs
            exact ⟨m, me, pa, h1, hp, hr, Or.inl ⟨some (.inl (.nest 1 .nil)), rfl, h3⟩⟩
      have go : ∀ (e : ex_E) (cd : List ex_E), (∀ z ∈ e :: cd, ex_chk mt T z = true) → (bif e.1.beq pc then ex_op e.2.1 mt (ex_run mt n) T cd pc e.2.2.2.1 e.2.2.2.2 d mc ms lv st fs me pa else false) = true → am_K g d T.1 mc ms pc (ex_lv ρ lv) (st.map (ex_ev ρ)) σ (ex_Q ρ mt (n + 1) fs) := by
        intro e cd hz hb
        cases hpc : e.1.beq pc with
        | false => rw [hpc] at hb; cases hb
        | true =>
          rw [hpc] at hb
          have e1 := Nat.eq_of_beq_eq_true hpc
          obtain ⟨a1, a2, a3, a4⟩ := ex_chk_at (hz e List.mem_cons_self)
          rw [e1] at a1 a3 a4
          exact ok_step C ⟨ok.1, fun z hz' => hz z (List.mem_cons_of_mem _ hz')⟩ hp hr a1 a2 a3 a4 hb
      match cd, ok, h with
      | e :: cd, ok, h => exact go e cd ok.2 h
      | [], ok, h =>
        have h' : (match ex_look T pc with
          | (p, ins, _, nx, ex) :: cd => bif p.beq pc then ex_op ins mt (ex_run mt n) T cd pc nx ex d mc ms lv st fs me pa else false
          | [] => false) = true := h
        split at h'
        · rename_i p ins z nx ex cd hlook
          refine go (p, ins, z, nx, ex) cd ?_ h'
          rw [← hlook]
          exact ex_tok_at ok.1
        · cases h'
