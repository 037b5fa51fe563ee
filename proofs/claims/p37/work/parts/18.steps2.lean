/-! steps that touch the memory; calls; ends -/
theorem ex_blt {a b : Nat} (h : a.blt b = true) : a < b := by simpa using h
theorem ex_ble {a b : Nat} (h : a.ble b = true) : a ≤ b := by simpa using h
theorem ex_fa0 {σ : am_S} {o k : Nat} {ty : FieldType} (h : am_kd ty = 0) : am_fa σ o ty k = .int (σ.2.1 o k) := by unfold am_fa; rw [h]; rfl
theorem ex_fa2 {σ : am_S} {o k : Nat} {ty : FieldType} (h : am_kd ty = 2) : am_fa σ o ty k = σ.2.2.2 o k := by unfold am_fa; rw [h]; rfl
section KY
variable {g : am_C} {ρ : Nat → Int32} {mt : Nat → Option ex_T} {K : ex_K} {Q : List ex_Fr → Option (Option Value) → am_S → Prop} {T : ex_T} {cd : List ex_E} {pc nx d mc ms : Nat} {lv : ex_L} {st : List ex_V} {fs : List ex_Fr} {me : ex_Me} {pa : ex_Pa} {σ : am_S}
theorem ok_getf (C : ex_C g ρ mt K Q) (ok : ex_okF mt T cd) (hp : ex_P ρ pa) (hr : ex_R ρ me σ) {i : Nat} {ex : List Nat} (hd : decode T.1.2.1 pc = .ok (.getfield i, 3)) (hl : ex_lk mt T pc (.getfield i) ex = true) (h : ex_getf K T cd (pc + 3) d mc ms lv st fs me pa ex = true) : am_K g d T.1 mc ms pc (ex_lv ρ lv) (st.map (ex_ev ρ)) σ (Q fs) := by
  unfold ex_getf at h
  split at h
  · rename_i ci k kd p
    unfold ex_lk at hl
    simp only at hl
    split at hl
    · rename_i C1 U N hc
      simp only [Bool.and_eq_true, decide_eq_true_eq] at hl
      obtain ⟨l1, l2, l3, l4⟩ := hl
      have hf : am_FL T.1.1.cls i ci k := ⟨C1, U, N, hc, l1, l2, ex_flk_ok l3⟩
      split at h
      · rename_i o st'
        rw [Bool.and_eq_true, Bool.and_eq_true] at h
        obtain ⟨⟨h1, h2⟩, h3⟩ := h
        obtain ⟨ho, hs⟩ := ex_isO_ok hr h1
        have hk := ex_blt h2
        split at h3
        · obtain ⟨e, e1, e2⟩ := ex_n0_ok (ρ := ρ) h3
          refine kr_getf C.1 hf hd hs (v := .int (ex_i ρ e)) ?_ (ex_goK C e2 ok hp hr)
          rw [ex_fa0 l4, e1, (hr.2.2 o k ho hk).1]
        · split at h3
          · rename_i r hrd
            refine kr_getf C.1 hf hd hs (v := .ref r) ?_ (ex_goK C h3 ok hp hr)
            rw [ex_fa2 l4, (hr.2.2 o k ho hk).2.2, hrd]
            rfl
          · cases h3
        · cases h3
      · cases h
    · cases hl
  · cases h
theorem ok_putf (C : ex_C g ρ mt K Q) (ok : ex_okF mt T cd) (hp : ex_P ρ pa) (hr : ex_R ρ me σ) {i : Nat} {ex : List Nat} (hd : decode T.1.2.1 pc = .ok (.putfield i, 3)) (hl : ex_lk mt T pc (.putfield i) ex = true) (h : ex_putf K T cd (pc + 3) d mc ms lv st fs me pa ex = true) : am_K g d T.1 mc ms pc (ex_lv ρ lv) (st.map (ex_ev ρ)) σ (Q fs) := by
  obtain ⟨mn, mj, mS, ti, tj, tr⟩ := me
  unfold ex_putf at h
  simp only at h
  split at h
  · rename_i ci k kd p
    unfold ex_lk at hl
    simp only at hl
    split at hl
    · rename_i C1 U N hc
      rw [Bool.and_eq_true, Bool.and_eq_true, Bool.and_eq_true, decide_eq_true_eq, decide_eq_true_eq] at hl
      obtain ⟨l1, l2, l3, l4⟩ := hl
      have hf : am_FP T.1.1.cls T.1.1.name i ci k := by
        refine ⟨C1, U, N, hc, l1, l2, ?_⟩
        split at l3
        · rename_i hfin
          exact Or.inl ⟨hfin, ex_flk_ok l3⟩
        · rename_i hfin
          simp only [Bool.and_eq_true, decide_eq_true_eq] at l3
          exact Or.inr ⟨hfin, ex_mem_ok l3.1, l3.2.1, l3.2.2⟩
      split at h
      · rename_i e o st'
        rw [Bool.and_eq_true, Bool.and_eq_true] at h
        obtain ⟨⟨h1, h2⟩, h3⟩ := h
        obtain ⟨ho, hs⟩ := ex_isO_ok hr h1
        have hk := ex_blt h2
        split at h3
        · have l5 : am_ty ci k = .int := of_decide_eq_true l4
          rw [ex_wrK_eq] at h3
          exact kr_putI C.1 hf hd hs (by rw [l5]; rfl) (by rw [l5]; rfl) (by rw [l5]; rfl) (ex_goK C h3 ok hp (hr.wrI ho hk rfl))
        · split at h3
          · rename_i n
            rw [Bool.and_eq_true, Bool.and_eq_true, ex_wrK_eq] at h3
            obtain ⟨a1, a2, a3⟩ := h3
            have l5 : am_kd (am_ty ci k) = 0 := of_decide_eq_true l4
            exact kr_putI C.1 hf hd hs (of_decide_eq_true a1) a2 l5 (ex_goK C a3 ok hp (hr.wrI ho hk rfl))
          · cases h3
        · cases h3
      · rename_i n o st'
        rw [Bool.and_eq_true, Bool.and_eq_true] at h
        obtain ⟨⟨h1, h2⟩, h3⟩ := h
        obtain ⟨ho, hs⟩ := ex_isO_ok hr h1
        have hk := ex_blt h2
        split at h3
        · have l5 : am_ty ci k = .long := of_decide_eq_true l4
          rw [ex_wrK_eq] at h3
          exact kr_putJ C.1 hf hd hs (by rw [l5]; rfl) (by rw [l5]; rfl) (by rw [l5]; rfl) (ex_goK C h3 ok hp (hr.wrJ ho hk rfl))
        · cases h3
      · rename_i r o st'
        rw [Bool.and_eq_true, Bool.and_eq_true] at h
        obtain ⟨⟨h1, h2⟩, h3⟩ := h
        obtain ⟨ho, hs⟩ := ex_isO_ok hr h1
        have hk := ex_blt h2
        split at h3
        · have l5 : am_kd (am_ty ci k) = 2 := of_decide_eq_true l4
          rw [ex_wrK_eq] at h3
          exact kr_putR C.1 hf hd hs l5 (ex_goK C h3 ok hp (hr.wrR ho hk rfl))
        · cases h3
      · cases h
    · cases hl
  · cases h
theorem ok_newc (C : ex_C g ρ mt K Q) (ok : ex_okF mt T cd) (hp : ex_P ρ pa) (hr : ex_R ρ me σ) {s : ex_F} {N : Nat} {x : am_sh} (hx : ex_sh s = some x) {sw : List Value} (row : ∀ (k mc1 ms1 : Nat), σ.1.length = k → am_K g d T.1 mc1 ms1 nx (ex_lv ρ lv) (.ref k :: st.map (ex_ev ρ)) (σ.1 ++ [x], σ.2) (Q fs) → am_K g d T.1 (mc1 + 1) (ms1 + N) pc (ex_lv ρ lv) sw σ (Q fs)) (h : ex_newc K T cd nx d mc ms lv fs me s N st pa = true) : am_K g d T.1 mc ms pc (ex_lv ρ lv) sw σ (Q fs) := by
  obtain ⟨mn, mj, mS, ti, tj, tr⟩ := me
  unfold ex_newc at h
  simp only at h
  cases hb : (!mj && mn.blt 65535 && Nat.ble 1 mc && N.ble ms) with
  | false => rw [hb] at h; cases h
  | true =>
    rw [hb] at h
    simp only [cond_true, ex_fN_eq, ex_set_eq] at h
    simp only [Bool.and_eq_true, Bool.not_eq_true'] at hb
    obtain ⟨⟨⟨b1, b2⟩, b3⟩, b4⟩ := hb
    have c2 := ex_blt b2
    have c3 := ex_ble b3
    have c4 := ex_ble b4
    have hlen : σ.1.length = mn := hr.1 b1
    have := row mn (mc - 1) (ms - N) hlen (ex_goK C h ok hp ?_)
    · rw [show mc - 1 + 1 = mc by omega, show ms - N + N = ms by omega] at this
      exact this
    · refine ⟨fun _ => ?_, fun o y ho hy => ?_, hr.2.2⟩
      · show (σ.1 ++ [x]).length = mn + 1
        simp [hlen]
      · have hy' : ex_sh (ex_get 16 (ex_put 16 mS mn s) o) = some y := hy
        rw [ex_get_put 16 _ _ _ _ (by omega) (by omega)] at hy'
        by_cases e : o = mn
        · rw [if_pos e, hx] at hy'
          cases hy'
          rw [e]
          exact am_last hlen
        · rw [if_neg e] at hy'
          exact am_ap (hr.2.1 o y ho hy')
theorem ok_newa (C : ex_C g ρ mt K Q) (ok : ex_okF mt T cd) (hp : ex_P ρ pa) (hr : ex_R ρ me σ) {t : Nat} (row : ∀ (z : Int32) (N k mc1 ms1 : Nat) (sw : List Value), ¬ z < 0 → z.toNatClampNeg = N → N ≤ 60000000 → σ.1.length = k → am_K g d T.1 mc1 ms1 nx (ex_lv ρ lv) (.ref k :: sw) (σ.1 ++ [.inr (ex_ty t, N)], σ.2) (Q fs) → am_K g d T.1 (mc1 + 1) (ms1 + N) pc (ex_lv ρ lv) (.int z :: sw) σ (Q fs)) (h : ex_newa K T cd nx d mc ms lv st fs me pa t = true) : am_K g d T.1 mc ms pc (ex_lv ρ lv) (st.map (ex_ev ρ)) σ (Q fs) := by
  unfold ex_newa at h
  split at h
  · rename_i x st'
    obtain ⟨pa', v, hp', h1, h2⟩ := ex_conc_ok hp h
    cases v with
    | negSucc j => cases h2
    | ofNat N =>
      simp only at h2
      cases hb : N.ble 60000000 with
      | false => rw [hb] at h2; cases h2
      | true =>
        rw [hb] at h2
        simp only [cond_true] at h2
        have hN := ex_ble hb
        have := ex_ofNat_lt (j := N) (by omega)
        rw [← h1] at this
        exact ok_newc C ok hp' hr rfl (fun k mc1 ms1 hk kk => row (ex_i ρ x) N k mc1 ms1 _ this.2 this.1 hN hk kk) h2
  · cases h
theorem ok_alen (C : ex_C g ρ mt K Q) (ok : ex_okF mt T cd) (hp : ex_P ρ pa) (hr : ex_R ρ me σ) (hd : decode T.1.2.1 pc = .ok (.arraylength, 1)) (h : ex_alen K T cd (pc + 1) d mc ms lv st fs me pa = true) : am_K g d T.1 mc ms pc (ex_lv ρ lv) (st.map (ex_ev ρ)) σ (Q fs) := by
  obtain ⟨L, xs, hX, hL, hρ, hρL⟩ := C.2.1
  unfold ex_alen at h
  split at h
  · rename_i o st'
    obtain ⟨ho, t, n, h1, h2⟩ := ex_isA_ok hr h
    rw [Bool.and_eq_true] at h2
    have hk := ex_goK C h2.2 ok hp hr
    have hk' : am_K g d T.1 mc ms (pc + 1) (ex_lv ρ lv) (.int (nI n) :: st'.map (ex_ev ρ)) σ (Q fs) := by
      have e : Int32.ofInt (.ofNat n) = nI n := Int32.ofInt_eq_ofNat
      rw [← e]
      exact hk
    match t, h1, h2 with
    | 0, h1, _ => exact kr_alenI C.1 hd h1 hk'
    | 1, h1, _ => exact kr_alenB C.1 hd h1 hk'
    | 2, h1, _ => exact kr_alenJ C.1 hd h1 hk'
    | 3, _, h2 => exact absurd h2.1 (by decide)
    | t + 4, h1, _ => exact kr_alenQ C.1 hd h1 hk'
  · rename_i st'
    obtain ⟨pa', v, hp', h1, h2⟩ := ex_conc_ok hp h
    have hx : g.2.2.2.2.2.2 0 = some (L, xs) := by rw [hX]; rfl
    refine kr_alenX C.1 hd hx ?_
    have e : nI L = Int32.ofInt v := by
      rw [← h1]
      exact hρL.symm
    rw [e]
    exact ex_goK C h2 ok hp' hr
  · rename_i k st' hk0
    rw [Bool.and_eq_true] at h
    have hk4 := ex_blt h.1
    have hx : ∃ f, g.2.2.2.2.2.2 k = some (8, f) := by
      rw [hX]
      rcases (show k = 0 ∨ k = 1 ∨ k = 2 ∨ k = 3 by omega) with rfl | rfl | rfl | rfl
      · exact (hk0 rfl).elim
      · exact ⟨_, rfl⟩
      · exact ⟨_, rfl⟩
      · exact ⟨_, rfl⟩
    obtain ⟨f, hx⟩ := hx
    exact kr_alenX C.1 hd hx (ex_goK C h.2 ok hp hr)
  · cases h
theorem ex_row_ok {L : Nat} {xs : Nat → Int32} {k j : Nat} {v : Int} (hj : j < 8) (h : ex_row k j = some v) : ∃ f, am_X L xs k = some (8, f) ∧ f j = Int32.ofInt v := by
  unfold ex_row at h
  split at h
  · refine ⟨am_usual, rfl, ?_⟩
    rcases (show j = 0 ∨ j = 1 ∨ j = 2 ∨ j = 3 ∨ j = 4 ∨ j = 5 ∨ j = 6 ∨ j = 7 by omega) with rfl | rfl | rfl | rfl | rfl | rfl | rfl | rfl <;> (cases h; rfl)
  · refine ⟨am_least, rfl, ?_⟩
    rcases (show j = 0 ∨ j = 1 ∨ j = 2 ∨ j = 3 ∨ j = 4 ∨ j = 5 ∨ j = 6 ∨ j = 7 by omega) with rfl | rfl | rfl | rfl | rfl | rfl | rfl | rfl <;> (cases h; rfl)
  · refine ⟨am_great, rfl, ?_⟩
    rcases (show j = 0 ∨ j = 1 ∨ j = 2 ∨ j = 3 ∨ j = 4 ∨ j = 5 ∨ j = 6 ∨ j = 7 by omega) with rfl | rfl | rfl | rfl | rfl | rfl | rfl | rfl <;> (cases h; rfl)
  · cases h
theorem ok_iald (C : ex_C g ρ mt K Q) (ok : ex_okF mt T cd) (hp : ex_P ρ pa) (hr : ex_R ρ me σ) {t1 t2 : Nat} (row : ∀ (t o n : Nat) (i : Int32) (sw : List Value), t = t1 ∨ t = t2 → σ.1[o]? = some (.inr (ex_ty t, n)) → vp_in i n → am_K g d T.1 mc ms nx (ex_lv ρ lv) (.int (σ.2.1 o i.toNatClampNeg) :: sw) σ (Q fs) → am_K g d T.1 mc ms pc (ex_lv ρ lv) (.int i :: .ref o :: sw) σ (Q fs)) (rowX : t1 = 0 → ∀ (x n : Nat) (f : Nat → Int32) (i : Int32) (sw : List Value), g.2.2.2.2.2.2 x = some (n, f) → vp_in i n → am_K g d T.1 mc ms nx (ex_lv ρ lv) (.int (f i.toNatClampNeg) :: sw) σ (Q fs) → am_K g d T.1 mc ms pc (ex_lv ρ lv) (.int i :: .retAddr x :: sw) σ (Q fs)) (h : ex_iald K T cd nx d mc ms lv st fs me pa t1 t2 = true) : am_K g d T.1 mc ms pc (ex_lv ρ lv) (st.map (ex_ev ρ)) σ (Q fs) := by
  obtain ⟨L, xs, hX, hL, hρ, hρL⟩ := C.2.1
  unfold ex_iald at h
  split at h
  · rename_i i o st'
    obtain ⟨ho, t, n, h1, h2⟩ := ex_isA_ok hr h
    rw [Bool.and_eq_true, Bool.or_eq_true] at h2
    obtain ⟨h3, h4⟩ := h2
    obtain ⟨pa', j, hp', h5, h6, h7, h8, h9⟩ := ex_ix_ok hp h4
    obtain ⟨e, e1, e2⟩ := ex_n0_ok (ρ := ρ) h9
    refine row t o n _ _ (h3.imp Nat.eq_of_beq_eq_true Nat.eq_of_beq_eq_true) h1 h5 ?_
    rw [h6, (hr.2.2 o j ho h8).1, ← e1]
    exact ex_goK C e2 ok hp' hr
  · rename_i i k st'
    rw [Bool.and_eq_true] at h
    have ht := Nat.eq_of_beq_eq_true h.1
    have h0 := h.2
    split at h0
    · obtain ⟨pa', j, hp', h5, h6, h7, h8, h9⟩ := ex_ix_ok hp h0
      obtain ⟨lo, hi, a1, a2, a3⟩ := ex_iv_ok hp' h9
      rw [Bool.and_eq_true, decide_eq_true_eq] at a3
      have hLt : (ex_i ρ ex_len).toInt = L := by
        show (ρ 100).toInt = L
        rw [hρL]
        exact Int32.toInt_ofNat_of_lt (by omega)
      have hjL : j < L := by
        have q1 := a3.1
        have q2 : ((j : Nat) : Int) < lo := q1
        omega
      have hx : g.2.2.2.2.2.2 0 = some (L, xs) := by rw [hX]; rfl
      refine rowX ht 0 L xs _ _ hx ?_ ?_
      · unfold vp_in at h5 ⊢
        rw [h6] at h5 ⊢
        rintro (q | q)
        · exact h5 (Or.inl q)
        · omega
      · rw [h6, ← hρ j h7]
        exact ex_goK C a3.2 ok hp' hr
    · obtain ⟨pa', j, hp', h5, h6, h7, h8, h9⟩ := ex_ix_ok hp h0
      split at h9
      · rename_i v hv
        rw [ex_fI_eq] at h9
        obtain ⟨f, hf, hfv⟩ := ex_row_ok (L := L) (xs := xs) h7 hv
        refine rowX ht k 8 f _ _ (by rw [hX]; exact hf) h5 ?_
        rw [h6, hfv]
        exact ex_goK C h9 ok hp' hr
      · cases h9
  · cases h
theorem ok_aald (C : ex_C g ρ mt K Q) (ok : ex_okF mt T cd) (hp : ex_P ρ pa) (hr : ex_R ρ me σ) (hd : decode T.1.2.1 pc = .ok (.aaload, 1)) (h : ex_aald K T cd (pc + 1) d mc ms lv st fs me pa = true) : am_K g d T.1 mc ms pc (ex_lv ρ lv) (st.map (ex_ev ρ)) σ (Q fs) := by
  unfold ex_aald at h
  split at h
  · rename_i i o st'
    obtain ⟨ho, t, n, h1, h2⟩ := ex_isA_ok hr h
    rw [Bool.and_eq_true] at h2
    have ht := Nat.eq_of_beq_eq_true h2.1
    obtain ⟨pa', j, hp', h5, h6, h7, h8, h9⟩ := ex_ix_ok hp h2.2
    split at h9
    · rename_i r hrd
      subst ht
      refine kr_aald C.1 hd h1 h5 (x := r) ?_ (ex_goK C h9 ok hp' hr)
      rw [h6, (hr.2.2 o j ho h8).2.2, hrd]
      rfl
    · cases h9
  · cases h
theorem ok_iast (C : ex_C g ρ mt K Q) (ok : ex_okF mt T cd) (hp : ex_P ρ pa) (hr : ex_R ρ me σ) (hd : decode T.1.2.1 pc = .ok (.iastore, 1)) (h : ex_iast K T cd (pc + 1) d mc ms lv st fs me pa = true) : am_K g d T.1 mc ms pc (ex_lv ρ lv) (st.map (ex_ev ρ)) σ (Q fs) := by
  obtain ⟨mn, mj, mS, ti, tj, tr⟩ := me
  unfold ex_iast at h
  simp only at h
  split at h
  · rename_i x i o st'
    obtain ⟨ho, t, n, h1, h2⟩ := ex_isA_ok hr h
    rw [Bool.and_eq_true] at h2
    have ht := Nat.eq_of_beq_eq_true h2.1
    obtain ⟨pa', j, hp', h5, h6, h7, h8, h9⟩ := ex_ix_ok hp h2.2
    rw [ex_wrK_eq] at h9
    subst ht
    refine kr_iast C.1 hd h1 h5 ?_
    rw [h6]
    exact ex_goK C h9 ok hp' (hr.wrI ho h8 rfl)
  · cases h
theorem ok_bast (C : ex_C g ρ mt K Q) (ok : ex_okF mt T cd) (hp : ex_P ρ pa) (hr : ex_R ρ me σ) (hd : decode T.1.2.1 pc = .ok (.bastore, 1)) (h : ex_bast K T cd (pc + 1) d mc ms lv st fs me pa = true) : am_K g d T.1 mc ms pc (ex_lv ρ lv) (st.map (ex_ev ρ)) σ (Q fs) := by
  obtain ⟨mn, mj, mS, ti, tj, tr⟩ := me
  unfold ex_bast at h
  simp only at h
  split at h
  · rename_i x i o st'
    obtain ⟨ho, t, n, h1, h2⟩ := ex_isA_ok hr h
    split at h2
    · obtain ⟨pa', j, hp', h5, h6, h7, h8, h9⟩ := ex_ix_ok hp h2
      obtain ⟨e, e1, e2⟩ := ex_fold_ok (ρ := ρ) h9
      rw [ex_wrK_eq] at e2
      refine kr_bast C.1 hd h1 h5 (y := (ex_i ρ x).toInt8.toInt32) rfl ?_
      rw [h6]
      exact ex_goK C e2 ok hp' (hr.wrI ho h8 e1)
    · obtain ⟨pa', j, hp', h5, h6, h7, h8, h9⟩ := ex_ix_ok hp h2
      obtain ⟨e, e1, e2⟩ := ex_fold_ok (ρ := ρ) h9
      rw [ex_wrK_eq] at e2
      refine kr_zast C.1 hd h1 h5 (y := ex_i ρ x &&& 1) rfl ?_
      rw [h6]
      exact ex_goK C e2 ok hp' (hr.wrI ho h8 e1)
    · cases h2
  · cases h
theorem ok_aast (C : ex_C g ρ mt K Q) (ok : ex_okF mt T cd) (hp : ex_P ρ pa) (hr : ex_R ρ me σ) (hd : decode T.1.2.1 pc = .ok (.aastore, 1)) (h : ex_aast K T cd (pc + 1) d mc ms lv st fs me pa = true) : am_K g d T.1 mc ms pc (ex_lv ρ lv) (st.map (ex_ev ρ)) σ (Q fs) := by
  obtain ⟨mn, mj, mS, ti, tj, tr⟩ := me
  unfold ex_aast at h
  simp only at h
  split at h
  · rename_i r i o st'
    rw [Bool.and_eq_true] at h
    obtain ⟨-, hs⟩ := ex_isO_ok hr h.1
    obtain ⟨ho, t, n, h1, h2⟩ := ex_isA_ok hr h.2
    rw [Bool.and_eq_true] at h2
    have ht := Nat.eq_of_beq_eq_true h2.1
    obtain ⟨pa', j, hp', h5, h6, h7, h8, h9⟩ := ex_ix_ok hp h2.2
    rw [ex_wrK_eq] at h9
    subst ht
    refine kr_aast C.1 hd h1 hs h5 ?_
    rw [h6]
    exact ex_goK C h9 ok hp' (hr.wrR ho h8 rfl)
  · cases h
end KY
