/-! LOG, the reference: words, lines (written by a program) -/
section LR
variable {g : am_C} {L : Nat} {xs : Nat → Int32}
/-- isWord, called -/
theorem lz_iwc (G : sx_G0 g L xs zK hd_T ex_mt) {T : ex_T} {d : Nat} (hdp : 2 ≤ d) {σ : am_S} (hM : sx_M zK hd_T σ 0 0 σ) {b : Nat → Nat} {t : rd_K} (hb : ∀ k, b k ≤ 255) (hN : rd_N σ b t) (ht : rd_wok b t) (wk : Nat) {w : Int64} (hw : w.toBitVec.toNat = rd_v (lz_wl wk) (lz_ws wk).length 0 0) (hc : ∀ i, i < (lz_ws wk).length → 1 ≤ lz_wl wk i ∧ lz_wl wk i ≤ 255) {lw : List (Nat × Value)} {pc i mi q : Nat} (hT : ex_mt mi = some tX12_isWord) (hd : decode T.1.2.1 pc = .ok (.invokevirtual i, 3)) (hl : ex_lk ex_mt T pc (.invokevirtual i) [0, mi, q] = true) {st : List Value} (hroom : (st.map fun v => v.category).sum ≤ 8) {post : Option (Option Value) → am_S → Prop} (kk : ∀ r : Int32, r.toInt = (if lz_isk b wk t = true then 1 else 0) → am_K g d T.1 0 0 (pc + 3) lw (.int r :: st) σ post) : am_K g d T.1 0 0 pc lw (.long w :: .ref 118 :: st) σ post := by
  refine rd_call G (T2 := tX12_isWord) hT hd hl rfl (hM.1 118 (.inl 12) rfl) (as := [.long w]) (st := st) rfl (Nat.le_of_ble_eq_true rfl) rfl hroom (d1 := 1) hdp (post1 := fun r σ' => ∃ y : Int32, r = some (some (.int y)) ∧ σ' = σ ∧ y.toInt = (if lz_isk b wk t = true then 1 else 0)) (fun _ h => by obtain ⟨y, h, -⟩ := h; cases h) (rd_isWord G hM hb hN ht hw hc (by simp [lv_args]) (by simp [lv_args, Value.category]) (fun r h => ⟨r, rfl, rfl, h⟩)) ?_
  intro v σ' ⟨y, hv, hs, h2⟩
  cases hv
  subst hs
  exact kk y h2
theorem lz_deed (G : sx_G0 g L xs zK hd_T ex_mt) {d : Nat} (hdp : 2 ≤ d) {σ : am_S} (hM : sx_M zK hd_T σ 0 0 σ) {b : Nat → Nat} {t : rd_K} (hb : ∀ k, b k ≤ 255) (hN : rd_N σ b t) (ht : rd_wok b t) {lw : List (Nat × Value)} (hl : (0, Value.ref 118) ∈ lw) {post : Option (Option Value) → am_S → Prop} (k : ∀ r : Int32, r.toInt = lz_dd b t → post (some (some (.int r))) σ) : am_K g d tX12_deedOf.1 0 0 0 lw [] σ post := by
  obtain ⟨i0, hi0⟩ := List.getElem?_of_mem hl
  refine kr_aload_n i0 rd_d_X12_deedOf_0 hi0 ?_
  refine kr_ldc2 G.1 rd_d_X12_deedOf_1 (rd_c2 rd_k_X12_deedOf_1) ?_
  refine lz_iwc G hdp hM hb hN ht 0 (by decide +kernel) (by decide +kernel) rfl rd_d_X12_deedOf_4 rd_k_X12_deedOf_4 (Nat.le_of_ble_eq_true rfl) ?_
  intro r0 e0
  refine kr_if_eq (tgt := 12) rd_d_X12_deedOf_7 rfl (fun h0 => ?_) (fun h0 => ?_)
  rotate_left
  · refine kr_iconst rd_d_X12_deedOf_10 (v := 0) rfl ?_
    refine kr_ireturn rd_d_X12_deedOf_11 (ty := .int) rfl rfl (k 0 ?_)
    unfold lz_dd
    rw [if_pos (rd_one e0 h0)]
    rfl
  have z0 := rd_zero e0 h0
  refine kr_aload_n i0 rd_d_X12_deedOf_12 hi0 ?_
  refine kr_ldc2 G.1 rd_d_X12_deedOf_13 (rd_c2 rd_k_X12_deedOf_13) ?_
  refine lz_iwc G hdp hM hb hN ht 1 (by decide +kernel) (by decide +kernel) rfl rd_d_X12_deedOf_16 rd_k_X12_deedOf_16 (Nat.le_of_ble_eq_true rfl) ?_
  intro r1 e1
  refine kr_if_eq (tgt := 24) rd_d_X12_deedOf_19 rfl (fun h0 => ?_) (fun h0 => ?_)
  rotate_left
  · refine kr_iconst rd_d_X12_deedOf_22 (v := 1) rfl ?_
    refine kr_ireturn rd_d_X12_deedOf_23 (ty := .int) rfl rfl (k 1 ?_)
    unfold lz_dd
    rw [if_neg z0, if_pos (rd_one e1 h0)]
    rfl
  have z1 := rd_zero e1 h0
  refine kr_aload_n i0 rd_d_X12_deedOf_24 hi0 ?_
  refine kr_ldc2 G.1 rd_d_X12_deedOf_25 (rd_c2 rd_k_X12_deedOf_25) ?_
  refine lz_iwc G hdp hM hb hN ht 2 (by decide +kernel) (by decide +kernel) rfl rd_d_X12_deedOf_28 rd_k_X12_deedOf_28 (Nat.le_of_ble_eq_true rfl) ?_
  intro r2 e2
  refine kr_if_eq (tgt := 36) rd_d_X12_deedOf_31 rfl (fun h0 => ?_) (fun h0 => ?_)
  rotate_left
  · refine kr_iconst rd_d_X12_deedOf_34 (v := 2) rfl ?_
    refine kr_ireturn rd_d_X12_deedOf_35 (ty := .int) rfl rfl (k 2 ?_)
    unfold lz_dd
    rw [if_neg z0, if_neg z1, if_pos (rd_one e2 h0)]
    rfl
  have z2 := rd_zero e2 h0
  refine kr_aload_n i0 rd_d_X12_deedOf_36 hi0 ?_
  refine kr_ldc2 G.1 rd_d_X12_deedOf_37 (rd_c2 rd_k_X12_deedOf_37) ?_
  refine lz_iwc G hdp hM hb hN ht 3 (by decide +kernel) (by decide +kernel) rfl rd_d_X12_deedOf_40 rd_k_X12_deedOf_40 (Nat.le_of_ble_eq_true rfl) ?_
  intro r3 e3
  refine kr_if_eq (tgt := 48) rd_d_X12_deedOf_43 rfl (fun h0 => ?_) (fun h0 => ?_)
  rotate_left
  · refine kr_iconst rd_d_X12_deedOf_46 (v := 3) rfl ?_
    refine kr_ireturn rd_d_X12_deedOf_47 (ty := .int) rfl rfl (k 3 ?_)
    unfold lz_dd
    rw [if_neg z0, if_neg z1, if_neg z2, if_pos (rd_one e3 h0)]
    rfl
  have z3 := rd_zero e3 h0
  refine kr_aload_n i0 rd_d_X12_deedOf_48 hi0 ?_
  refine kr_ldc2 G.1 rd_d_X12_deedOf_49 (rd_c2 rd_k_X12_deedOf_49) ?_
  refine lz_iwc G hdp hM hb hN ht 4 (by decide +kernel) (by decide +kernel) rfl rd_d_X12_deedOf_52 rd_k_X12_deedOf_52 (Nat.le_of_ble_eq_true rfl) ?_
  intro r4 e4
  refine kr_if_eq (tgt := 60) rd_d_X12_deedOf_55 rfl (fun h0 => ?_) (fun h0 => ?_)
  rotate_left
  · refine kr_iconst rd_d_X12_deedOf_58 (v := 4) rfl ?_
    refine kr_ireturn rd_d_X12_deedOf_59 (ty := .int) rfl rfl (k 4 ?_)
    unfold lz_dd
    rw [if_neg z0, if_neg z1, if_neg z2, if_neg z3, if_pos (rd_one e4 h0)]
    rfl
  have z4 := rd_zero e4 h0
  refine kr_aload_n i0 rd_d_X12_deedOf_60 hi0 ?_
  refine kr_ldc2 G.1 rd_d_X12_deedOf_61 (rd_c2 rd_k_X12_deedOf_61) ?_
  refine lz_iwc G hdp hM hb hN ht 5 (by decide +kernel) (by decide +kernel) rfl rd_d_X12_deedOf_64 rd_k_X12_deedOf_64 (Nat.le_of_ble_eq_true rfl) ?_
  intro r5 e5
  refine kr_if_eq (tgt := 72) rd_d_X12_deedOf_67 rfl (fun h0 => ?_) (fun h0 => ?_)
  rotate_left
  · refine kr_iconst rd_d_X12_deedOf_70 (v := 5) rfl ?_
    refine kr_ireturn rd_d_X12_deedOf_71 (ty := .int) rfl rfl (k 5 ?_)
    unfold lz_dd
    rw [if_neg z0, if_neg z1, if_neg z2, if_neg z3, if_neg z4, if_pos (rd_one e5 h0)]
    rfl
  have z5 := rd_zero e5 h0
  refine kr_aload_n i0 rd_d_X12_deedOf_72 hi0 ?_
  refine kr_ldc2 G.1 rd_d_X12_deedOf_73 (rd_c2 rd_k_X12_deedOf_73) ?_
  refine lz_iwc G hdp hM hb hN ht 6 (by decide +kernel) (by decide +kernel) rfl rd_d_X12_deedOf_76 rd_k_X12_deedOf_76 (Nat.le_of_ble_eq_true rfl) ?_
  intro r6 e6
  refine kr_if_eq (tgt := 87) rd_d_X12_deedOf_79 rfl (fun h0 => ?_) (fun h0 => ?_)
  rotate_left
  · refine kr_bipush rd_d_X12_deedOf_82 (v := 6) (by decide) ?_
    refine kr_goto (tgt := 88) rd_d_X12_deedOf_84 rfl ?_
    refine kr_ireturn rd_d_X12_deedOf_88 (ty := .int) rfl rfl (k 6 ?_)
    unfold lz_dd
    rw [if_neg z0, if_neg z1, if_neg z2, if_neg z3, if_neg z4, if_neg z5, if_pos (rd_one e6 h0)]
    rfl
  have z6 := rd_zero e6 h0
  refine kr_iconst rd_d_X12_deedOf_87 (v := -1) rfl ?_
  refine kr_ireturn rd_d_X12_deedOf_88 (ty := .int) rfl rfl (k (-1) ?_)
  unfold lz_dd
  rw [if_neg z0, if_neg z1, if_neg z2, if_neg z3, if_neg z4, if_neg z5, if_neg z6]
  rfl
/-- what a line's reading writes: the token's, the number taken, fault and its place, the lines read -/
def lr_mQ : Nat := Nat.lor (Nat.shiftLeft 1 375) (Nat.shiftLeft 1 446)
/-- a line that reads well -/
def lr_mT : Nat := Nat.lor rd_mT (Nat.lor (Nat.shiftLeft 1 394) (Nat.shiftLeft 1 446))
def lr_m : Nat := Nat.lor lr_mT rd_mL
def lr_E (σ : am_S) (b : Nat → Nat) (n l : Nat) (t : rd_K) : Prop := rd_X σ b n 400 ∧ rd_N σ b t ∧ rd_gd b n 400 t ∧ (σ.2.1 118 35).toInt = (l : Nat) ∧ l ≤ 40 ∧ (σ.2.1 118 13).toInt = 0 ∧ (σ.2.1 118 2).toInt = 0
theorem lr_X0 {σ σ' : am_S} {m : Nat} {b : Nat → Nat} {n : Nat} (X : rd_X σ b n 400) (h : sx_M zK hd_T σ m 0 σ') (h1 : sx_bit m 406 = false) (h2 : sx_bit m 362 = false) (h3 : sx_bit m 364 = false) : rd_X σ' b n 400 := by
  refine ⟨fun k hk => ?_, (h.2.2.2.2.1 118 3 _ _ 362 rfl h2).trans X.2.1, (h.2.2.2.2.1 118 5 _ _ 364 rfl h3).trans X.2.2.1, X.2.2.2⟩
  rw [← X.1 k hk]
  unfold rd_by
  rw [h.2.2.2.2.1 119 k _ _ 406 (rd_a119 hk) h1]
theorem lr_E0 {σ σ' : am_S} {m : Nat} {b : Nat → Nat} {n l : Nat} {t : rd_K} (E : lr_E σ b n l t) (h : sx_M zK hd_T σ m 0 σ') (hm : (Nat.lor m lr_mQ).beq lr_mQ = true) : lr_E σ' b n l t := by
  have fr : ∀ u, sx_bit lr_mQ u = false → sx_bit m u = false := fun u q => sx_lor_sub hm q
  refine ⟨lr_X0 E.1 h (fr 406 (by decide +kernel)) (fr 362 (by decide +kernel)) (fr 364 (by decide +kernel)), rd_N0 E.2.1 h (fr 368 (by decide +kernel)) (fr 369 (by decide +kernel)) (fr 363 (by decide +kernel)) (fr 371 (by decide +kernel)) (fr 900 (by decide +kernel)), E.2.2.1, ?_, E.2.2.2.2.1, ?_, ?_⟩
  · rw [h.2.2.2.2.1 118 35 _ _ 394 rfl (fr 394 (by decide +kernel))]; exact E.2.2.2.1
  · rw [h.2.2.2.2.1 118 13 _ _ 372 rfl (fr 372 (by decide +kernel))]; exact E.2.2.2.2.2.1
  · rw [h.2.2.2.2.1 118 2 _ _ 361 rfl (fr 361 (by decide +kernel))]; exact E.2.2.2.2.2.2
theorem lr_En {σ σ' : am_S} {m : Nat} {b : Nat → Nat} {n l : Nat} {t : rd_K} (E : lr_E σ b n l t) (h : sx_M zK hd_T σ m 0 σ') (hm : (Nat.lor m rd_mT).beq rd_mT = true) (N : rd_N σ' b (lz_nx b n t)) : lr_E σ' b n l (lz_nx b n t) := by
  have fr : ∀ u, sx_bit rd_mT u = false → sx_bit m u = false := fun u q => sx_lor_sub hm q
  refine ⟨lr_X0 E.1 h (fr 406 (by decide +kernel)) (fr 362 (by decide +kernel)) (fr 364 (by decide +kernel)), N, lz_gx E.2.2.1, ?_, E.2.2.2.2.1, ?_, ?_⟩
  · rw [h.2.2.2.2.1 118 35 _ _ 394 rfl (fr 394 (by decide +kernel))]; exact E.2.2.2.1
  · rw [h.2.2.2.2.1 118 13 _ _ 372 rfl (fr 372 (by decide +kernel))]; exact E.2.2.2.2.2.1
  · rw [h.2.2.2.2.1 118 2 _ _ 361 rfl (fr 361 (by decide +kernel))]; exact E.2.2.2.2.2.2
theorem lr_E1 {σ σ' : am_S} {b : Nat → Nat} {n l l' : Nat} {t : rd_K} (E : lr_E σ b n l t) (h : sx_M zK hd_T σ (Nat.shiftLeft 1 394) 0 σ') (e : (σ'.2.1 118 35).toInt = (l' : Nat)) (hl : l' ≤ 40) : lr_E σ' b n l' t := by
  refine ⟨lr_X0 E.1 h (by decide +kernel) (by decide +kernel) (by decide +kernel), rd_N0 E.2.1 h (by decide +kernel) (by decide +kernel) (by decide +kernel) (by decide +kernel) (by decide +kernel), E.2.2.1, e, hl, ?_, ?_⟩
  · rw [h.2.2.2.2.1 118 13 _ _ 372 rfl (by decide +kernel)]; exact E.2.2.2.2.2.1
  · rw [h.2.2.2.2.1 118 2 _ _ 361 rfl (by decide +kernel)]; exact E.2.2.2.2.2.2
theorem lr_up1 {σ : am_S} {k : Nat} {v : Int32} (h : sx_M zK hd_T σ 0 0 σ) (hk : k < 135) : sx_M zK hd_T σ (Nat.shiftLeft 1 446) 0 (σ.1, am_up σ.2.1 122 k v, σ.2.2.1, σ.2.2.2) := hd_up hd_CsK (sx_M_mask (by decide +kernel) h) (hd_a122 hk) (Int32.le_toInt v) (Int32.toInt_le v) (by decide +kernel) ⟨rfl, rfl⟩ (fun c hc => by cases hc) (fun c hc => by cases hc)
theorem lr_line (G : sx_G0 g L xs zK hd_T ex_mt) {σ : am_S} (hM : sx_M zK hd_T σ 0 0 σ) {b : Nat → Nat} (hb : ∀ k, b k ≤ 255) {n l : Nat} {t : rd_K} (E : lr_E σ b n l t) {lw : List (Nat × Value)} (hl : (0, Value.ref 118) ∈ lw) {post : Option (Option Value) → am_S → Prop}
    (kf : ∀ (r : Int32) (σ' : am_S) (kd at' : Nat), lz_one b n l t = .inl (kd, at') → r.toInt = 0 → sx_M zK hd_T σ lr_m 0 σ' → (σ'.2.1 118 13).toInt = (kd : Nat) → (σ'.2.1 118 14).toInt = (at' : Nat) → (σ'.2.1 118 2).toInt = 0 → post (some (some (.int r))) σ')
    (kt : ∀ (r : Int32) (σ' : am_S) (t1 : rd_K), lz_one b n l t = .inr t1 → r.toInt = 1 → sx_M zK hd_T σ lr_mT 0 σ' → lr_E σ' b n l t1 → post (some (some (.int r))) σ') : am_K g 20 tX12_logLine.1 0 0 0 lw [] σ post := by
  have l40 := E.2.2.2.2.1
  have z2 : ∀ {m : Nat} {σ1 σ2 : am_S}, sx_M zK hd_T σ1 m 0 σ2 → sx_bit m 361 = false → (σ1.2.1 118 2).toInt = 0 → (σ2.2.1 118 2).toInt = 0 := fun h hm e => by rw [h.2.2.2.2.1 118 2 _ _ 361 rfl hm]; exact e
  refine sg_gl1_run G hd_ctK hM hl ?_
  intro lw1 y1 σ1 p0 p1 f1 hM1
  have E1 := lr_E0 E hM1 (by decide +kernel)
  have e35 := E.2.2.2.1
  have H1 : sx_M zK hd_T σ lr_mT 0 σ1 := sx_M_mask (by decide +kernel) hM1
  refine rd_call G (T2 := tX12_deedOf) rfl rd_d_X12_logLine_8 rd_k_X12_logLine_8 rfl (hM1.1 118 (.inl 12) rfl) (as := []) (st := []) rfl (Nat.le_of_ble_eq_true rfl) rfl (by decide) (d1 := 2) (by decide) (post1 := fun r σ' => ∃ y : Int32, r = some (some (.int y)) ∧ σ' = σ1 ∧ y.toInt = lz_dd b t) (fun _ h => by obtain ⟨y, h, -⟩ := h; cases h) (lz_deed G (by decide) (sx_M_self hM1) hb E1.2.1 (rd_gd_n E1.2.2.1).2.2 (by simp [lv_args]) (fun r h => ⟨r, rfl, rfl, h⟩)) ?_
  intro v σ2 ⟨y, hv, hs, hy⟩
  cases hv
  subst hs
  have n2 := E1.2.1.2.1
  have d6 := lz_dd6 (b := b) (t := t)
  have l2 := E1.2.2.2.1
  by_cases h0 : lz_dd b t < 0
  · refine sg_gl2n_run G hd_ctK (sx_M_self hM1) p0 (by omega) ?_
    intro r σ3 f2 f3 f4 hM3
    exact kf r σ3 1 t.2.1 (lz_o1 h0) (by omega) (hd_tr (sx_M_mask (m := lr_m) (by decide +kernel) H1) hM3 (by decide +kernel)) (by omega) (by omega) (z2 hM3 (by decide +kernel) E1.2.2.2.2.2.2)
  have h0' : 0 ≤ lz_dd b t := by omega
  by_cases h4 : l = 40
  · refine sg_gl2f_run G hd_ctK (sx_M_self hM1) p0 (by omega) (by omega) ?_
    intro r σ3 f2 f3 f4 hM3
    exact kf r σ3 4 t.2.1 (lz_o4 h0' h4) (by omega) (hd_tr (sx_M_mask (m := lr_m) (by decide +kernel) H1) hM3 (by decide +kernel)) (by omega) (by omega) (z2 hM3 (by decide +kernel) E1.2.2.2.2.2.2)
  refine sg_gl2_run G hd_ctK (sx_M_self hM1) p0 p1 (by omega) (by omega) ?_
  intro lw3 y3 w3 c0 c1 σ3 q0 q1 q2 f2 f3 f4 f5 hM3
  have E3 := lr_E0 E1 hM3 (by decide +kernel)
  have H3 := hd_tr H1 hM3 (by decide +kernel)
  have ec1 : c1.toInt = ((2 * l : Nat) : Int) := by omega
  refine kr_iast G.1 rd_d_X12_logLine_43 (H3.1 122 (.inr (.int, 135)) rfl) (hd_in ec1 (by omega)) ?_
  rw [hd_clamp ec1]
  have U4 := lr_up1 (v := c0) (sx_M_self hM3) (k := 2 * l) (by omega)
  generalize hσ4 : ((σ3.1, am_up σ3.2.1 122 (2 * l) c0, σ3.2.2.1, σ3.2.2.2) : am_S) = σ4 at U4 ⊢
  have E4 := lr_E0 E3 U4 (by decide +kernel)
  have H4 := hd_tr H3 U4 (by decide +kernel)
  refine sg_gl3_run G hd_ctK (sx_M_self U4) q0 q1 q2 ?_
  intro lw5 y5 w5 σ5 u0 u1 u2 f6 f7 hM5
  have E5 := lr_E0 E4 hM5 (by decide +kernel)
  have H5 := hd_tr H4 hM5 (by decide +kernel)
  refine rd_nxc G (d := 20) (by decide) (sx_M_self hM5) E5.1 (p := t.2.2.2.1) E5.2.1.2.2.1 rfl rd_d_X12_logLine_45 rd_k_X12_logLine_45 (by decide) ?_
  intro σ6 hM6 N6
  have E6 : lr_E σ6 b n l (lz_nx b n t) := lr_En E5 hM6 (by decide +kernel) N6
  have H6 := hd_tr H5 hM6 (by decide +kernel)
  have hw5 : w5.toInt = lz_dd b t := by omega
  by_cases hm : 1 < lz_dd b t ∧ lz_dd b t < 6
  · refine sg_gl4m_run G hd_ctK (sx_M_self hM6) u0 u2 (by omega) ?_
    intro r σ7 f8 hM7
    exact kt r σ7 _ (lz_om h4 hm) (by omega) (hd_tr H6 hM7 (by decide +kernel)) (lr_E0 E6 hM7 (by decide +kernel))
  have w3' : lz_dd b t = 0 ∨ lz_dd b t = 1 ∨ lz_dd b t = 6 := by omega
  -- 85: takes
  have k85 : ∀ (lw7 : List (Nat × Value)) (y7 d0 d1 : Int32) (σ7 : am_S), (0, Value.ref 118) ∈ lw7 → (1, Value.int y7) ∈ lw7 → y7.toInt = ((2 * l : Nat) : Int) → d0.toInt = (lz_hi (lz_dd b t) : Nat) → d1.toInt = (lz_lo (lz_dd b t) : Nat) → sx_M zK hd_T σ6 0 0 σ7 → am_K g 20 tX12_logLine.1 0 0 85 lw7 [.int d0, .int d1, .ref 118] σ7 post := by
    intro lw7 y7 d0 d1 σ7 v0 v1 ey7 ed0 ed1 hM7
    have E7 := lr_E0 E6 hM7 (by decide +kernel)
    have H7 := hd_tr H6 hM7 (by decide +kernel)
    refine rd_call G (T2 := tX12_takes) rfl rd_d_X12_logLine_85 rd_k_X12_logLine_85 rfl (hM7.1 118 (.inl 12) rfl) (as := [.int d1, .int d0]) (st := []) rfl (Nat.le_of_ble_eq_true rfl) rfl (by decide) (d1 := 12) (by decide) (post1 := fun r σ' => ∃ y : Int32, r = some (some (.int y)) ∧ ((rd_tkf (lz_nx b n t) (lz_lo (lz_dd b t)) (lz_hi (lz_dd b t)) ≠ 0 ∧ y.toInt = 0 ∧ sx_M zK hd_T σ7 rd_mL 0 σ' ∧ (σ'.2.1 118 13).toInt = (rd_tkf (lz_nx b n t) (lz_lo (lz_dd b t)) (lz_hi (lz_dd b t)) : Nat) ∧ (σ'.2.1 118 14).toInt = ((lz_nx b n t).2.1 : Nat)) ∨ (rd_tkf (lz_nx b n t) (lz_lo (lz_dd b t)) (lz_hi (lz_dd b t)) = 0 ∧ y.toInt = 1 ∧ sx_M zK hd_T σ7 rd_mT 0 σ' ∧ rd_N σ' b (lz_nx b n (lz_nx b n t))))) (fun _ h => by obtain ⟨y, h, -⟩ := h; cases h) (rd_takes G (sx_M_self hM7) E7.1 E7.2.1 (lo := lz_lo (lz_dd b t)) (hi := lz_hi (lz_dd b t)) (by simp [lv_args, Value.category]) (m1 := d1) (m2 := d0) (by simp [lv_args, Value.category]) (by simp [lv_args, Value.category]) ed1 ed0 (fun r σ' a1 a2 a3 a4 a5 => ⟨r, rfl, Or.inl ⟨a1, a2, a3, a4, a5⟩⟩) (fun r σ' a1 a2 a3 a4 a5 => ⟨r, rfl, Or.inr ⟨a1, a2, a3, a4⟩⟩)) ?_
    intro v8 σ8 ⟨y8, hv8, h8⟩
    cases hv8
    rcases h8 with ⟨a1, a2, a3, a4, a5⟩ | ⟨a1, a2, a3, a4⟩
    · refine sg_gl5n_run G hd_ctK (sx_M_self a3) v0 (by omega) ?_
      intro r σ9 f9 hM9
      have g13 : σ9.2.1 118 13 = σ8.2.1 118 13 := hM9.2.2.2.2.1 118 13 _ _ 372 rfl (sx_bit0 _)
      have g14 : σ9.2.1 118 14 = σ8.2.1 118 14 := hM9.2.2.2.2.1 118 14 _ _ 373 rfl (sx_bit0 _)
      exact kf r σ9 _ _ (lz_of h0' h4 hm a1) (by omega) (hd_tr (hd_tr (sx_M_mask (m := lr_m) (by decide +kernel) H7) a3 (by decide +kernel)) hM9 (by decide +kernel)) (by rw [g13]; exact a4) (by rw [g14]; exact a5) (z2 hM9 (sx_bit0 _) (z2 a3 (by decide +kernel) E7.2.2.2.2.2.2))
    · have E8 : lr_E σ8 b n l (lz_nx b n (lz_nx b n t)) := lr_En E7 a3 (by decide +kernel) a4
      have H8 := hd_tr H7 a3 (by decide +kernel)
      refine sg_gl5_run G hd_ctK (sx_M_self a3) v0 v1 (by omega) (by omega) ?_
      intro lw9 s0 s1 σ9 x0 f9 fa hM9
      have E9 := lr_E0 E8 hM9 (by decide +kernel)
      have H9 := hd_tr H8 hM9 (by decide +kernel)
      have es1 : s1.toInt = ((2 * l + 1 : Nat) : Int) := by omega
      refine kr_iast G.1 rd_d_X12_logLine_104 (H9.1 122 (.inr (.int, 135)) rfl) (hd_in es1 (by omega)) ?_
      rw [hd_clamp es1]
      have Ua := lr_up1 (v := s0) (sx_M_self hM9) (k := 2 * l + 1) (by omega)
      generalize hσa : ((σ9.1, am_up σ9.2.1 122 (2 * l + 1) s0, σ9.2.2.1, σ9.2.2.2) : am_S) = σa at Ua ⊢
      have Ea := lr_E0 E9 Ua (by decide +kernel)
      have Ha := hd_tr H9 Ua (by decide +kernel)
      refine sg_gl6_run G hd_ctK (sx_M_self Ua) x0 ?_
      intro r σb fb hMb
      exact kt r σb _ (lz_on h0' h4 hm a1) (by omega) (hd_tr Ha hMb (by decide +kernel)) (lr_E0 Ea hMb (by decide +kernel))
  rcases w3' with e | e | e
  · refine sg_gl4t_run G hd_ctK (sx_M_self hM6) u0 u1 u2 (by omega) ?_
    intro lw7 y7 d0 d1 σ7 v0 v1 f8 f9 fa hM7
    exact k85 lw7 y7 d0 d1 σ7 v0 v1 (by omega) (by rw [e]; show _ = (60 : Int); omega) (by rw [e]; show _ = (0 : Int); omega) hM7
  · refine sg_gl4a_run G hd_ctK (sx_M_self hM6) u0 u1 u2 (by omega) ?_
    intro lw7 y7 d0 d1 σ7 v0 v1 f8 f9 fa hM7
    exact k85 lw7 y7 d0 d1 σ7 v0 v1 (by omega) (by rw [e]; show _ = (9 : Int); omega) (by rw [e]; show _ = (0 : Int); omega) hM7
  · refine sg_gl4w_run G hd_ctK (sx_M_self hM6) u0 u1 u2 (by omega) ?_
    intro lw7 y7 d0 d1 σ7 v0 v1 f8 f9 fa hM7
    exact k85 lw7 y7 d0 d1 σ7 v0 v1 (by omega) (by rw [e]; show _ = (60 : Int); omega) (by rw [e]; show _ = (1 : Int); omega) hM7
end LR
