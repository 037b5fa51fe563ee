/-! SENTENCE, the reference: words, tokens (written by a program) -/
section SR3
variable {g : am_C} {L : Nat} {xs : Nat → Int32}
/-- isWord, called -/
theorem sn_iwc (G : sx_G0 g L xs zK hd_T ex_mt) {T : ex_T} {d : Nat} (hdp : 2 ≤ d) {σ : am_S} (hM : sx_M zK hd_T σ 0 0 σ) {b : Nat → Nat} {t : rd_K} (hb : ∀ k, b k ≤ 255) (hN : rd_N σ b t) (ht : rd_wok b t) (wk : Nat) {w : Int64} (hw : w.toBitVec.toNat = rd_v (sn_wl wk) (sn_ws wk).length 0 0) (hc : ∀ i, i < (sn_ws wk).length → 1 ≤ sn_wl wk i ∧ sn_wl wk i ≤ 255) {lw : List (Nat × Value)} {pc i mi q : Nat} (hT : ex_mt mi = some tX12_isWord) (hd : decode T.1.2.1 pc = .ok (.invokevirtual i, 3)) (hl : ex_lk ex_mt T pc (.invokevirtual i) [0, mi, q] = true) {st : List Value} (hroom : (st.map fun v => v.category).sum ≤ 8) {post : Option (Option Value) → am_S → Prop} (kk : ∀ r : Int32, r.toInt = (if sn_isk b wk t = true then 1 else 0) → am_K g d T.1 0 0 (pc + 3) lw (.int r :: st) σ post) : am_K g d T.1 0 0 pc lw (.long w :: .ref 118 :: st) σ post := by
  refine rd_call G (T2 := tX12_isWord) hT hd hl rfl (hM.1 118 (.inl 12) rfl) (as := [.long w]) (st := st) rfl (Nat.le_of_ble_eq_true rfl) rfl hroom (d1 := 1) hdp (post1 := fun r σ' => ∃ y : Int32, r = some (some (.int y)) ∧ σ' = σ ∧ y.toInt = (if sn_isk b wk t = true then 1 else 0)) (fun _ h => by obtain ⟨y, h, -⟩ := h; cases h) (rd_isWord G hM hb hN ht hw hc (by simp [lv_args]) (by simp [lv_args, Value.category]) (fun r h => ⟨r, rfl, rfl, h⟩)) ?_
  intro v σ' ⟨y, hv, hs, h2⟩
  cases hv
  subst hs
  exact kk y h2
theorem sn_leaf (G : sx_G0 g L xs zK hd_T ex_mt) {d : Nat} (hdp : 2 ≤ d) {σ : am_S} (hM : sx_M zK hd_T σ 0 0 σ) {b : Nat → Nat} {t : rd_K} (hb : ∀ k, b k ≤ 255) (hN : rd_N σ b t) (ht : rd_wok b t) {lw : List (Nat × Value)} (hl : (0, Value.ref 118) ∈ lw) {post : Option (Option Value) → am_S → Prop} (k : ∀ r : Int32, r.toInt = sn_lf b t → post (some (some (.int r))) σ) : am_K g d tX12_leafOf.1 0 0 0 lw [] σ post := by
  obtain ⟨i0, hi0⟩ := List.getElem?_of_mem hl
  refine kr_aload_n i0 rd_d_X12_leafOf_0 hi0 ?_
  refine kr_ldc2 G.1 rd_d_X12_leafOf_1 (rd_c2 rd_k_X12_leafOf_1) ?_
  refine sn_iwc G hdp hM hb hN ht 1 (by decide +kernel) (by decide +kernel) rfl rd_d_X12_leafOf_4 rd_k_X12_leafOf_4 (Nat.le_of_ble_eq_true rfl) ?_
  intro r0 e0
  refine kr_if_eq (tgt := 14) rd_d_X12_leafOf_7 rfl (fun h0 => ?_) (fun h0 => ?_)
  rotate_left
  · refine kr_iconst rd_d_X12_leafOf_10 (v := 0) rfl ?_
    refine kr_goto (tgt := 100) rd_d_X12_leafOf_11 rfl ?_
    refine kr_ireturn rd_d_X12_leafOf_100 (ty := .int) rfl rfl (k 0 ?_)
    unfold sn_lf
    rw [if_pos (rd_one e0 h0)]
    rfl
  have z0 := rd_zero e0 h0
  refine kr_aload_n i0 rd_d_X12_leafOf_14 hi0 ?_
  refine kr_ldc2 G.1 rd_d_X12_leafOf_15 (rd_c2 rd_k_X12_leafOf_15) ?_
  refine sn_iwc G hdp hM hb hN ht 2 (by decide +kernel) (by decide +kernel) rfl rd_d_X12_leafOf_18 rd_k_X12_leafOf_18 (Nat.le_of_ble_eq_true rfl) ?_
  intro r1 e1
  refine kr_if_eq (tgt := 28) rd_d_X12_leafOf_21 rfl (fun h0 => ?_) (fun h0 => ?_)
  rotate_left
  · refine kr_iconst rd_d_X12_leafOf_24 (v := 1) rfl ?_
    refine kr_goto (tgt := 100) rd_d_X12_leafOf_25 rfl ?_
    refine kr_ireturn rd_d_X12_leafOf_100 (ty := .int) rfl rfl (k 1 ?_)
    unfold sn_lf
    rw [if_neg z0, if_pos (rd_one e1 h0)]
    rfl
  have z1 := rd_zero e1 h0
  refine kr_aload_n i0 rd_d_X12_leafOf_28 hi0 ?_
  refine kr_ldc2 G.1 rd_d_X12_leafOf_29 (rd_c2 rd_k_X12_leafOf_29) ?_
  refine sn_iwc G hdp hM hb hN ht 3 (by decide +kernel) (by decide +kernel) rfl rd_d_X12_leafOf_32 rd_k_X12_leafOf_32 (Nat.le_of_ble_eq_true rfl) ?_
  intro r2 e2
  refine kr_if_eq (tgt := 42) rd_d_X12_leafOf_35 rfl (fun h0 => ?_) (fun h0 => ?_)
  rotate_left
  · refine kr_iconst rd_d_X12_leafOf_38 (v := 2) rfl ?_
    refine kr_goto (tgt := 100) rd_d_X12_leafOf_39 rfl ?_
    refine kr_ireturn rd_d_X12_leafOf_100 (ty := .int) rfl rfl (k 2 ?_)
    unfold sn_lf
    rw [if_neg z0, if_neg z1, if_pos (rd_one e2 h0)]
    rfl
  have z2 := rd_zero e2 h0
  refine kr_aload_n i0 rd_d_X12_leafOf_42 hi0 ?_
  refine kr_ldc2 G.1 rd_d_X12_leafOf_43 (rd_c2 rd_k_X12_leafOf_43) ?_
  refine sn_iwc G hdp hM hb hN ht 4 (by decide +kernel) (by decide +kernel) rfl rd_d_X12_leafOf_46 rd_k_X12_leafOf_46 (Nat.le_of_ble_eq_true rfl) ?_
  intro r3 e3
  refine kr_if_eq (tgt := 56) rd_d_X12_leafOf_49 rfl (fun h0 => ?_) (fun h0 => ?_)
  rotate_left
  · refine kr_iconst rd_d_X12_leafOf_52 (v := 3) rfl ?_
    refine kr_goto (tgt := 100) rd_d_X12_leafOf_53 rfl ?_
    refine kr_ireturn rd_d_X12_leafOf_100 (ty := .int) rfl rfl (k 3 ?_)
    unfold sn_lf
    rw [if_neg z0, if_neg z1, if_neg z2, if_pos (rd_one e3 h0)]
    rfl
  have z3 := rd_zero e3 h0
  refine kr_aload_n i0 rd_d_X12_leafOf_56 hi0 ?_
  refine kr_ldc2 G.1 rd_d_X12_leafOf_57 (rd_c2 rd_k_X12_leafOf_57) ?_
  refine sn_iwc G hdp hM hb hN ht 5 (by decide +kernel) (by decide +kernel) rfl rd_d_X12_leafOf_60 rd_k_X12_leafOf_60 (Nat.le_of_ble_eq_true rfl) ?_
  intro r4 e4
  refine kr_if_eq (tgt := 70) rd_d_X12_leafOf_63 rfl (fun h0 => ?_) (fun h0 => ?_)
  rotate_left
  · refine kr_iconst rd_d_X12_leafOf_66 (v := 4) rfl ?_
    refine kr_goto (tgt := 100) rd_d_X12_leafOf_67 rfl ?_
    refine kr_ireturn rd_d_X12_leafOf_100 (ty := .int) rfl rfl (k 4 ?_)
    unfold sn_lf
    rw [if_neg z0, if_neg z1, if_neg z2, if_neg z3, if_pos (rd_one e4 h0)]
    rfl
  have z4 := rd_zero e4 h0
  refine kr_aload_n i0 rd_d_X12_leafOf_70 hi0 ?_
  refine kr_ldc2 G.1 rd_d_X12_leafOf_71 (rd_c2 rd_k_X12_leafOf_71) ?_
  refine sn_iwc G hdp hM hb hN ht 6 (by decide +kernel) (by decide +kernel) rfl rd_d_X12_leafOf_74 rd_k_X12_leafOf_74 (Nat.le_of_ble_eq_true rfl) ?_
  intro r5 e5
  refine kr_if_eq (tgt := 84) rd_d_X12_leafOf_77 rfl (fun h0 => ?_) (fun h0 => ?_)
  rotate_left
  · refine kr_iconst rd_d_X12_leafOf_80 (v := 5) rfl ?_
    refine kr_goto (tgt := 100) rd_d_X12_leafOf_81 rfl ?_
    refine kr_ireturn rd_d_X12_leafOf_100 (ty := .int) rfl rfl (k 5 ?_)
    unfold sn_lf
    rw [if_neg z0, if_neg z1, if_neg z2, if_neg z3, if_neg z4, if_pos (rd_one e5 h0)]
    rfl
  have z5 := rd_zero e5 h0
  refine kr_aload_n i0 rd_d_X12_leafOf_84 hi0 ?_
  refine kr_ldc2 G.1 rd_d_X12_leafOf_85 (rd_c2 rd_k_X12_leafOf_85) ?_
  refine sn_iwc G hdp hM hb hN ht 7 (by decide +kernel) (by decide +kernel) rfl rd_d_X12_leafOf_88 rd_k_X12_leafOf_88 (Nat.le_of_ble_eq_true rfl) ?_
  intro r6 e6
  refine kr_if_eq (tgt := 99) rd_d_X12_leafOf_91 rfl (fun h0 => ?_) (fun h0 => ?_)
  rotate_left
  · refine kr_bipush rd_d_X12_leafOf_94 (v := 6) (by decide) ?_
    refine kr_goto (tgt := 100) rd_d_X12_leafOf_96 rfl ?_
    refine kr_ireturn rd_d_X12_leafOf_100 (ty := .int) rfl rfl (k 6 ?_)
    unfold sn_lf
    rw [if_neg z0, if_neg z1, if_neg z2, if_neg z3, if_neg z4, if_neg z5, if_pos (rd_one e6 h0)]
    rfl
  have z6 := rd_zero e6 h0
  refine kr_iconst rd_d_X12_leafOf_99 (v := -1) rfl ?_
  refine kr_ireturn rd_d_X12_leafOf_100 (ty := .int) rfl rfl (k (-1) ?_)
  unfold sn_lf
  rw [if_neg z0, if_neg z1, if_neg z2, if_neg z3, if_neg z4, if_neg z5, if_neg z6]
  rfl
/-- leafOf, called -/
theorem sn_leafc (G : sx_G0 g L xs zK hd_T ex_mt) {T : ex_T} {d : Nat} (hdp : 3 ≤ d) {σ : am_S} (hM : sx_M zK hd_T σ 0 0 σ) {b : Nat → Nat} {t : rd_K} (hb : ∀ k, b k ≤ 255) (hN : rd_N σ b t) (ht : rd_wok b t) {lw : List (Nat × Value)} {pc i mi q : Nat} (hT : ex_mt mi = some tX12_leafOf) (hd : decode T.1.2.1 pc = .ok (.invokevirtual i, 3)) (hl : ex_lk ex_mt T pc (.invokevirtual i) [0, mi, q] = true) {st : List Value} (hroom : (st.map fun v => v.category).sum ≤ 8) {post : Option (Option Value) → am_S → Prop} (kk : ∀ r : Int32, r.toInt = sn_lf b t → am_K g d T.1 0 0 (pc + 3) lw (.int r :: st) σ post) : am_K g d T.1 0 0 pc lw (.ref 118 :: st) σ post := by
  refine rd_call G (T2 := tX12_leafOf) hT hd hl rfl (hM.1 118 (.inl 12) rfl) (as := []) (st := st) rfl (Nat.le_of_ble_eq_true rfl) rfl hroom (d1 := 2) hdp (post1 := fun r σ' => ∃ y : Int32, r = some (some (.int y)) ∧ σ' = σ ∧ y.toInt = sn_lf b t) (fun _ h => by obtain ⟨y, h, -⟩ := h; cases h) (sn_leaf G (by decide) hM hb hN ht (by simp [lv_args]) (fun r h => ⟨r, rfl, rfl, h⟩)) ?_
  intro v σ' ⟨y, hv, hs, h2⟩
  cases hv
  subst hs
  exact kk y h2
theorem sn_lf_b (b : Nat → Nat) (t : rd_K) : -1 ≤ sn_lf b t ∧ sn_lf b t ≤ 6 := by
  unfold sn_lf
  repeat' split
  all_goals exact ⟨by decide, by decide⟩
theorem sn_Xm {σ σ' : am_S} {m : Nat} {b : Nat → Nat} {n most : Nat} (X : rd_X σ b n most) (hM : sx_M zK hd_T σ m 0 σ') (h : (sx_bit m 362 || sx_bit m 364 || sx_bit m 406) = false) : rd_X σ' b n most := by
  simp only [Bool.or_eq_false_iff] at h
  obtain ⟨⟨k1, k2⟩, k3⟩ := h
  refine ⟨fun k hk => ?_, ?_, ?_, X.2.2.2⟩
  · have e : σ'.2.1 119 k = σ.2.1 119 k := hM.2.2.2.2.1 119 k _ _ 406 (rd_a119 hk) k3
    rw [← X.1 k hk]
    unfold rd_by
    rw [e]
  · rw [hM.2.2.2.2.1 118 3 _ _ 362 rfl k1]; exact X.2.1
  · rw [hM.2.2.2.2.1 118 5 _ _ 364 rfl k2]; exact X.2.2.1
end SR3
