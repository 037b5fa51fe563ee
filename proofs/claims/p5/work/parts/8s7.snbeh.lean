/-! SENTENCE, the reference: behind a whole one -/
theorem sn_dn_nt : ∀ (F G : List Bool), ¬ sn_dn F = true :: G := by
  intro F
  induction F with
  | nil => intro G h; cases h
  | cons a F ih =>
    intro G
    cases a with
    | true => exact ih G
    | false => intro h; cases h
theorem sn_dn_go (b : Nat → Nat) (n o : Nat) (t : rd_K) : ∀ F : List Bool, sn_go b n (.inr (true, F, o, t)) (.inr (true, sn_dn F, o, t)) := by
  intro F
  induction F with
  | nil => exact sn_go_r _
  | cons a F ih =>
    cases a with
    | true => exact sn_go_t (sn_go_1 rfl) ih
    | false => exact sn_go_r _
theorem sn_dn_i : ∀ F : List Bool, sn_dn (sn_dn F) = sn_dn F := by
  intro F
  induction F with
  | nil => rfl
  | cons a F ih =>
    cases a with
    | true => exact ih
    | false => rfl
theorem sn_dn_le : ∀ F : List Bool, (sn_dn F).length ≤ F.length := by
  intro F
  induction F with
  | nil => exact Nat.le_refl _
  | cons a F ih =>
    cases a with
    | true => exact Nat.le_succ_of_le ih
    | false => exact Nat.le_refl _
theorem sn_beh_f (b : Nat → Nat) (n o : Nat) (t : rd_K) (F : List Bool) : sn_beh b n (false :: F) o t = (if sn_isk b 8 t = true ∨ sn_isk b 9 t = true then .inr (false, false :: F, o, sn_nx b n t) else if rd_sgf t 41 = 0 then .inr (true, F, o, sn_nx b n t) else .inl (.inl (1, t.2.1))) := rfl
theorem sn_beh_n (b : Nat → Nat) (n o : Nat) (t : rd_K) : sn_beh b n [] o t = (if sn_isk b 8 t = true ∨ sn_isk b 9 t = true then .inr (false, [], o, sn_nx b n t) else if t.1 = 0 then .inl (.inr o) else .inl (.inl (1, t.2.1))) := rfl
theorem sn_bh1 {b : Nat → Nat} {n o : Nat} {t : rd_K} {F : List Bool} (h : sn_isk b 8 t = true ∨ sn_isk b 9 t = true) (hF : ∀ G, ¬ F = true :: G) : sn_beh b n F o t = .inr (false, F, o, sn_nx b n t) := by
  cases F with
  | nil => rw [sn_beh_n, if_pos h]
  | cons a F =>
    cases a with
    | true => exact absurd rfl (hF F)
    | false => rw [sn_beh_f, if_pos h]
theorem sn_bh2 {b : Nat → Nat} {n o : Nat} {t : rd_K} {F : List Bool} (h : ¬ (sn_isk b 8 t = true ∨ sn_isk b 9 t = true)) (hs : rd_sgf t 41 = 0) : sn_beh b n (false :: F) o t = .inr (true, F, o, sn_nx b n t) := by
  rw [sn_beh_f, if_neg h, if_pos hs]
theorem sn_bh3 {b : Nat → Nat} {n o : Nat} {t : rd_K} {F : List Bool} (h : ¬ (sn_isk b 8 t = true ∨ sn_isk b 9 t = true)) (hF : ∀ G, ¬ F = true :: G) (h0 : F = [] → ¬ t.1 = 0) (hs : rd_sgf t 41 = 0 → F = []) : sn_beh b n F o t = .inl (.inl (1, t.2.1)) := by
  cases F with
  | nil => rw [sn_beh_n, if_neg h, if_neg (h0 rfl)]
  | cons a F =>
    cases a with
    | true => exact absurd rfl (hF F)
    | false => rw [sn_beh_f, if_neg h, if_neg (fun q => by cases hs q)]
section SR5
variable {g : am_C} {L : Nat} {xs : Nat → Int32}
theorem sn_notsc (G : sx_G0 g L xs zK hd_T ex_mt) {T : ex_T} {d : Nat} (hdp : 21 ≤ d) {σ : am_S} (hM : sx_M zK hd_T σ 0 0 σ) {c t o : Nat} (J : sn_J σ c t 1 o) {F : List Bool} (hF : sn_sk (σ.2.1 134) t = F) {lw : List (Nat × Value)} {pc i mi q : Nat} (hT : ex_mt mi = some tX12_nots) (hd : decode T.1.2.1 pc = .ok (.invokevirtual i, 3)) (hl : ex_lk ex_mt T pc (.invokevirtual i) [0, mi, q] = true) {post : Option (Option Value) → am_S → Prop} (kk : ∀ (σ' : am_S) (c' t' : Nat), sx_M zK hd_T σ sn_mB 0 σ' → sn_J σ' c' t' 1 o → sn_sk (σ'.2.1 134) t' = sn_dn F → sn_top (σ'.2.1 134) t' → am_K g d T.1 0 0 (pc + 3) lw [] σ' post) : am_K g d T.1 0 0 pc lw [.ref 118] σ post := by
  refine rd_call G (T2 := tX12_nots) hT hd hl rfl (hM.1 118 (.inl 12) rfl) (as := []) (st := []) rfl (Nat.le_of_ble_eq_true rfl) rfl (Nat.le_of_ble_eq_true rfl) (d1 := 20) hdp (post1 := fun r σ' => r = some none ∧ ∃ c' t', sx_M zK hd_T σ sn_mB 0 σ' ∧ sn_J σ' c' t' 1 o ∧ sn_sk (σ'.2.1 134) t' = sn_dn F ∧ sn_top (σ'.2.1 134) t') (fun _ h => by cases h.1) (sn_nots G (F := F) (fun σ' c' t' a1 a2 a3 a4 => ⟨rfl, c', t', a1, a2, a3, a4⟩) t c σ _ (sx_M_mask (by decide +kernel) hM) J (by rw [hF]) (by simp [lv_args, Value.category])) ?_
  intro v σ' ⟨hv, c', t', a1, a2, a3, a4⟩
  cases hv
  exact kk σ' c' t' a1 a2 a3 a4
theorem sn_joinc (G : sx_G0 g L xs zK hd_T ex_mt) {T : ex_T} {d : Nat} (hdp : 21 ≤ d) {σ : am_S} (hM : sx_M zK hd_T σ 0 0 σ) {c t o : Nat} (J : sn_J σ c t 1 o) {F : List Bool} (hF : sn_sk (σ.2.1 134) t = F) (ht : sn_top (σ.2.1 134) t) {x : Int32} (hx : x = 21 ∨ x = 22) {lw : List (Nat × Value)} {pc i mi q : Nat} (hT : ex_mt mi = some tX12_joins) (hd : decode T.1.2.1 pc = .ok (.invokevirtual i, 3)) (hl : ex_lk ex_mt T pc (.invokevirtual i) [0, mi, q] = true) {post : Option (Option Value) → am_S → Prop} (kk : ∀ (σ' : am_S) (c' t' : Nat), sx_M zK hd_T σ sn_mB 0 σ' → sn_J σ' c' t' 1 o → sn_sk (σ'.2.1 134) t' = F → sn_top (σ'.2.1 134) t' → (x = 22 → ∀ j, t' = j + 1 → σ'.2.1 134 j = 23) → am_K g d T.1 0 0 (pc + 3) lw [] σ' post) : am_K g d T.1 0 0 pc lw [.int x, .ref 118] σ post := by
  refine rd_call G (T2 := tX12_joins) hT hd hl rfl (hM.1 118 (.inl 12) rfl) (as := [.int x]) (st := []) rfl (Nat.le_of_ble_eq_true rfl) rfl (Nat.le_of_ble_eq_true rfl) (d1 := 20) hdp (post1 := fun r σ' => r = some none ∧ ∃ c' t', sx_M zK hd_T σ sn_mB 0 σ' ∧ sn_J σ' c' t' 1 o ∧ sn_sk (σ'.2.1 134) t' = F ∧ sn_top (σ'.2.1 134) t' ∧ (x = 22 → ∀ j, t' = j + 1 → σ'.2.1 134 j = 23)) (fun _ h => by cases h.1) (sn_joins G (F := F) hx (fun σ' c' t' a1 a2 a3 a4 a5 => ⟨rfl, c', t', a1, a2, a3, a4, a5⟩) t c σ _ (sx_M_mask (by decide +kernel) hM) J hF ht (by simp [lv_args, Value.category]) (by simp [lv_args, Value.category])) ?_
  intro v σ' ⟨hv, c', t', a1, a2, a3, a4, a5⟩
  cases hv
  exact kk σ' c' t' a1 a2 a3 a4 a5
theorem sn_behd (G : sx_G0 g L xs zK hd_T ex_mt) {σ : am_S} (hM : sx_M zK hd_T σ 0 0 σ) {b : Nat → Nat} {n : Nat} (hb : ∀ k, b k ≤ 255) (X : rd_X σ b n 200) {t : rd_K} (N : rd_N σ b t) (ht : rd_wok b t) (ht0 : ¬ t.1 = 0) {c tt o : Nat} (J : sn_J σ c tt 1 o) {F : List Bool} (hF : sn_sk (σ.2.1 134) tt = F) {lw : List (Nat × Value)} (hl : (0, Value.ref 118) ∈ lw) {post : Option (Option Value) → am_S → Prop}
    (kf : ∀ (r : Int32) (σ' : am_S) (kd at' : Nat), sn_beh b n (sn_dn F) o t = .inl (.inl (kd, at')) → r.toInt = 0 → sx_M zK hd_T σ sn_mA 0 σ' → (σ'.2.1 118 13).toInt = kd → (σ'.2.1 118 14).toInt = at' → post (some (some (.int r))) σ')
    (kk : ∀ (r : Int32) (σ' : am_S) (w : Bool) (F' : List Bool) (t' : rd_K) (c' tt' : Nat), sn_beh b n (sn_dn F) o t = .inr (w, F', o, t') → (w = false ∧ F'.length ≤ F.length ∨ F'.length + 1 ≤ F.length) → r.toInt = 1 → sx_M zK hd_T σ sn_mV 0 σ' → rd_X σ' b n 200 → rd_N σ' b t' → rd_wok b t' → sn_J σ' c' tt' (if w = true then 1 else 0) o → sn_sk (σ'.2.1 134) tt' = F' → post (some (some (.int r))) σ') : am_K g 25 tX12_behind.1 0 0 0 lw [] σ post := by
  obtain ⟨i0, hi0⟩ := List.getElem?_of_mem hl
  have dl := sn_dn_le F
  have nt := sn_dn_nt F
  refine kr_aload_n i0 rd_d_X12_behind_0 hi0 ?_
  refine sn_notsc G (by decide) hM J hF rfl rd_d_X12_behind_1 rd_k_X12_behind_1 ?_
  intro σ1 c1 t1 hM1 J1 hF1 top1
  have N1 := rd_N0 N hM1 (by decide +kernel) (by decide +kernel) (by decide +kernel) (by decide +kernel) (by decide +kernel)
  have X1 := sn_Xm X hM1 (by decide +kernel)
  refine sg_be1_run G hd_ctK (sx_M_self hM1) hl ?_
  intro lw2 σ2 q0 hM2
  have H2 := hd_tr hM1 hM2 (by decide +kernel)
  have N2 := rd_N0 N1 hM2 (sx_bit0 _) (sx_bit0 _) (sx_bit0 _) (sx_bit0 _) (sx_bit0 _)
  refine kr_ldc2 G.1 rd_d_X12_behind_5 (rd_c2 rd_k_X12_behind_5) ?_
  refine sn_iwc G (by decide) (sx_M_self H2) hb N2 ht 8 (by decide +kernel) (by decide +kernel) rfl rd_d_X12_behind_8 rd_k_X12_behind_8 (Nat.le_of_ble_eq_true rfl) ?_
  intro r8 e8
  -- and, or: from 26 on
  have W : ∀ (lw3 : List (Nat × Value)) (σ3 : am_S), (0, Value.ref 118) ∈ lw3 → sx_M zK hd_T σ1 0 0 σ3 → (sn_isk b 8 t = true ∨ sn_isk b 9 t = true) → am_K g 25 tX12_behind.1 0 0 26 lw3 [.ref 118, .ref 118] σ3 post := by
    intro lw3 σ3 p0 hM3 h89
    have H3 := hd_tr hM1 hM3 (by decide +kernel)
    have N3 := rd_N0 N1 hM3 (sx_bit0 _) (sx_bit0 _) (sx_bit0 _) (sx_bit0 _) (sx_bit0 _)
    have J3 := sn_Jm J1 hM3 (by decide +kernel)
    have e3 : ∀ j, j < t1 → σ3.2.1 134 j = σ1.2.1 134 j := fun j hj => sn_fr hM3 (sx_bit0 _) (by have := J1.2.2.2.2.1; omega)
    have hF3 : sn_sk (σ3.2.1 134) t1 = sn_dn F := (sn_sk_c t1 e3).trans hF1
    have top3 : sn_top (σ3.2.1 134) t1 := fun j hj => by rw [e3 j (by omega)]; exact top1 j hj
    refine kr_ldc2 G.1 rd_d_X12_behind_26 (rd_c2 rd_k_X12_behind_26) ?_
    refine sn_iwc G (by decide) (sx_M_self H3) hb N3 ht 8 (by decide +kernel) (by decide +kernel) rfl rd_d_X12_behind_29 rd_k_X12_behind_29 (Nat.le_of_ble_eq_true rfl) ?_
    intro r9 e9
    -- from 42 on
    have U : ∀ (lw4 : List (Nat × Value)) (x : Int32) (σ4 : am_S), (0, Value.ref 118) ∈ lw4 → (x = 21 ∨ x = 22) → sx_M zK hd_T σ3 0 0 σ4 → am_K g 25 tX12_behind.1 0 0 42 lw4 [.int x, .ref 118] σ4 post := by
      intro lw4 x σ4 s0 hx hM4
      have H4 := hd_tr H3 hM4 (by decide +kernel)
      have J4 := sn_Jm J3 hM4 (by decide +kernel)
      have e4 : ∀ j, j < t1 → σ4.2.1 134 j = σ3.2.1 134 j := fun j hj => sn_fr hM4 (sx_bit0 _) (by have := J1.2.2.2.2.1; omega)
      refine sn_joinc G (by decide) (sx_M_self H4) J4 ((sn_sk_c t1 e4).trans hF3) (fun j hj => by rw [e4 j (by omega)]; exact top3 j hj) hx rfl rd_d_X12_behind_42 rd_k_X12_behind_42 ?_
      intro σ5 c5 t5 hM5 J5 hF5 top5 _
      have H5 := hd_tr H4 hM5 (by decide +kernel)
      have N5 := rd_N0 (rd_N0 N3 hM4 (sx_bit0 _) (sx_bit0 _) (sx_bit0 _) (sx_bit0 _) (sx_bit0 _)) hM5 (by decide +kernel) (by decide +kernel) (by decide +kernel) (by decide +kernel) (by decide +kernel)
      refine sg_be5_run G hd_ctK (sx_M_self H5) s0 ?_
      intro lw6 y6 σ6 z0 u1 hM6
      have H6 := hd_tr H5 hM6 (by decide +kernel)
      have N6 := rd_N0 N5 hM6 (sx_bit0 _) (sx_bit0 _) (sx_bit0 _) (sx_bit0 _) (sx_bit0 _)
      refine kr_ldc2 G.1 rd_d_X12_behind_54 (rd_c2 rd_k_X12_behind_54) ?_
      refine sn_iwc G (by decide) (sx_M_self H6) hb N6 ht 8 (by decide +kernel) (by decide +kernel) rfl rd_d_X12_behind_57 rd_k_X12_behind_57 (Nat.le_of_ble_eq_true rfl) ?_
      intro r10 e10
      have ft := J5.2.1
      have j5 := J5.2.2.2.2.1
      -- from 70 on
      have V : ∀ (lw7 : List (Nat × Value)) (x7 y7 : Int32) (σ7 : am_S), (0, Value.ref 118) ∈ lw7 → (x7 = 21 ∨ x7 = 22) → y7.toInt = (t5 : Int) → sx_M zK hd_T σ6 0 0 σ7 → am_K g 25 tX12_behind.1 0 0 70 lw7 [.int x7, .int y7, .ref 134] σ7 post := by
        intro lw7 x7 y7 σ7 w0 hx7 ey hM7
        have hM67 := hd_tr hM6 hM7 (by decide +kernel)
        have H7 := hd_tr H6 hM7 (by decide +kernel)
        have J7 := sn_Jm J5 hM67 (by decide +kernel)
        have N7 := rd_N0 N6 hM7 (sx_bit0 _) (sx_bit0 _) (sx_bit0 _) (sx_bit0 _) (sx_bit0 _)
        have e7 : ∀ j, j < t5 → σ7.2.1 134 j = σ5.2.1 134 j := fun j hj => sn_fr hM67 (sx_bit0 _) (by omega)
        have hF7 : sn_sk (σ7.2.1 134) t5 = sn_dn F := (sn_sk_c t5 e7).trans hF5
        refine kr_iast G.1 rd_d_X12_behind_70 (H7.1 134 (.inr (.int, 45)) rfl) (hd_in ey (by omega)) ?_
        rw [hd_clamp ey]
        have H8 : sx_M zK hd_T σ sn_mV 0 (σ7.1, am_up σ7.2.1 134 t5 x7, σ7.2.2.1, σ7.2.2.2) := hd_up hd_CsK (sx_M_mask (by decide +kernel) H7) (hd_a134 (by omega)) (Int32.le_toInt x7) (Int32.toInt_le x7) (by decide +kernel) ⟨rfl, rfl⟩ (fun c hc => by cases hc) (fun c hc => by cases hc)
        have g41 : (am_up σ7.2.1 134 t5 x7 118 41).toInt = (t5 : Int) := by rw [am_up_o _ _ (by decide)]; exact J7.2.1
        refine sg_be7_run G hd_ctK (sx_M_self H8) w0 (by show 0 ≤ (am_up σ7.2.1 134 t5 x7 118 41).toInt ∧ (am_up σ7.2.1 134 t5 x7 118 41).toInt ≤ 39; omega) ?_
        intro lw9 σ9 a0 z1 z2 hM9
        simp only at z1
        have H9 := hd_tr H8 hM9 (by decide +kernel)
        have H79 : sx_M zK hd_T σ7 (Nat.lor (Nat.shiftLeft 1 400) (Nat.lor (Nat.shiftLeft 1 402) (Nat.shiftLeft 1 484))) 0 (σ7.1, am_up σ7.2.1 134 t5 x7, σ7.2.2.1, σ7.2.2.2) := hd_up hd_CsK (sx_M_mask (by decide +kernel) (sx_M_self H7)) (hd_a134 (by omega)) (Int32.le_toInt x7) (Int32.toInt_le x7) (by decide +kernel) ⟨rfl, rfl⟩ (fun c hc => by cases hc) (fun c hc => by cases hc)
        have K9 := hd_tr H79 hM9 (by decide +kernel)
        have N9 := rd_N0 N7 K9 (by decide +kernel) (by decide +kernel) (by decide +kernel) (by decide +kernel) (by decide +kernel)
        have X9 := sn_Xm X H9 (by decide +kernel)
        refine rd_nxc G (d := 25) (by decide) (sx_M_self H9) X9 N9.2.2.1 rfl rd_d_X12_behind_87 rd_k_X12_behind_87 (by decide) ?_
        intro σa hMa Na
        have Ha := hd_tr H9 hMa (by decide +kernel)
        have Na : rd_N σa b (sn_nx b n t) := Na
        refine sg_be8_run G hd_ctK (sx_M_self Ha) a0 ?_
        intro r σb z9 hMb
        have Hb := hd_tr Ha hMb (by decide +kernel)
        have Mab := hd_tr hMa hMb (by decide +kernel)
        have K7b : sx_M zK hd_T σ7 (Nat.lor rd_mN (Nat.lor (Nat.shiftLeft 1 400) (Nat.lor (Nat.shiftLeft 1 402) (Nat.shiftLeft 1 484)))) 0 σb := hd_tr (sx_M_mask (by decide +kernel) K9) Mab (by decide +kernel)
        have hs : ∀ k, k < 45 → ¬ k = t5 → σb.2.1 134 k = σ7.2.1 134 k := fun k hk hne => (sn_fr Mab (by decide +kernel) hk).trans ((sn_fr hM9 (by decide +kernel) hk).trans (am_up_n _ _ (fun q => hne q.2)))
        have et : σb.2.1 134 t5 = x7 := (sn_fr Mab (by decide +kernel) (by omega)).trans ((sn_fr hM9 (by decide +kernel) (by omega)).trans (am_up_s _ _ _ _))
        have hskb : sn_sk (σb.2.1 134) (t5 + 1) = if σb.2.1 134 t5 = 20 then true :: sn_sk (σb.2.1 134) t5 else if σb.2.1 134 t5 = 23 then false :: sn_sk (σb.2.1 134) t5 else sn_sk (σb.2.1 134) t5 := rfl
        have hFb : sn_sk (σb.2.1 134) (t5 + 1) = sn_dn F := by
          rw [hskb, et, if_neg (by rcases hx7 with h | h <;> rw [h] <;> decide), if_neg (by rcases hx7 with h | h <;> rw [h] <;> decide), sn_sk_c t5 (fun j hj => hs j (by omega) (by omega))]
          exact hF7
        have b41 : (σb.2.1 118 41).toInt = ((t5 + 1 : Nat) : Int) := by rw [Mab.2.2.2.2.1 118 41 _ _ 400 rfl (by decide +kernel)]; omega
        have b43 : (σb.2.1 118 43).toInt = 0 := by rw [Mab.2.2.2.2.1 118 43 _ _ 402 rfl (by decide +kernel)]; omega
        obtain ⟨i1, i2, i3, i4, i5, i6, i7⟩ := J7
        refine kk r σb false (sn_dn F) (sn_nx b n t) c5 (t5 + 1) (sn_bh1 h89 nt) (Or.inl ⟨rfl, dl⟩) (by omega) Hb (sn_Xm X Hb (by decide +kernel)) (rd_N0 Na hMb (sx_bit0 _) (sx_bit0 _) (sx_bit0 _) (sx_bit0 _) (sx_bit0 _)) rd_tok_ok ⟨?_, b41, b43, ?_, ⟨Nat.zero_le _, i5.2.1, by show c5 + (t5 + 1) + 0 ≤ 2 * o; omega⟩, ?_, ?_, ?_⟩ hFb
        · rw [K7b.2.2.2.2.1 118 39 _ _ 398 rfl (by decide +kernel)]; exact i1
        · rw [K7b.2.2.2.2.1 118 40 _ _ 399 rfl (by decide +kernel)]; exact i4
        · rw [K7b.2.2.2.2.1 118 42 _ _ 401 rfl (by decide +kernel), hFb, i6, hF7]
        · intro j hj
          by_cases q : j = t5
          · rw [q, et]
            rcases hx7 with h | h
            · exact Or.inr (Or.inl h)
            · exact Or.inr (Or.inr (Or.inl h))
          · rw [hs j (by omega) q]
            exact i7.1 j (by omega)
        · intro j hj hv
          rw [hs j (by omega) (by omega)]
          by_cases q : j + 1 = t5
          · rw [e7 j (by omega)]
            exact top5 j q.symm
          · rw [hs (j + 1) (by omega) q] at hv
            exact i7.2 j (by omega) hv
      by_cases h8 : sn_isk b 8 t = true
      · rw [if_pos h8] at e10
        refine sg_be6y_run G hd_ctK (sx_M_self H6) z0 (by omega) ?_
        intro lw7 x7 y7 σ7 w0 v1 v2 hM7
        exact V lw7 x7 y7 σ7 w0 (Or.inl (Int32.toInt_inj.mp (by show x7.toInt = 21; omega))) (by omega) hM7
      · rw [if_neg h8] at e10
        refine sg_be6n_run G hd_ctK (sx_M_self H6) z0 (by omega) ?_
        intro lw7 x7 y7 σ7 w0 v1 v2 hM7
        exact V lw7 x7 y7 σ7 w0 (Or.inr (Int32.toInt_inj.mp (by show x7.toInt = 22; omega))) (by omega) hM7
    by_cases h8 : sn_isk b 8 t = true
    · rw [if_pos h8] at e9
      refine sg_be4y_run G hd_ctK (sx_M_self H3) p0 (by omega) ?_
      intro lw4 x σ4 s0 v1 hM4
      exact U lw4 x σ4 s0 (Or.inl (Int32.toInt_inj.mp (by show x.toInt = 21; omega))) hM4
    · rw [if_neg h8] at e9
      refine sg_be4n_run G hd_ctK (sx_M_self H3) p0 (by omega) ?_
      intro lw4 x σ4 s0 v1 hM4
      exact U lw4 x σ4 s0 (Or.inr (Int32.toInt_inj.mp (by show x.toInt = 22; omega))) hM4
  by_cases h8 : sn_isk b 8 t = true
  · rw [if_pos h8] at e8
    refine sg_be2y_run G hd_ctK (sx_M_self H2) q0 (by omega) ?_
    intro lw3 σ3 p0 hM3
    exact W lw3 σ3 p0 (hd_tr hM2 hM3 (by decide +kernel)) (Or.inl h8)
  rw [if_neg h8] at e8
  refine sg_be2n_run G hd_ctK (sx_M_self H2) q0 (by omega) ?_
  intro lw3 σ3 p0 hM3
  have hM13 := hd_tr hM2 hM3 (by decide +kernel)
  have H3 := hd_tr hM1 hM13 (by decide +kernel)
  have N3 := rd_N0 N1 hM13 (sx_bit0 _) (sx_bit0 _) (sx_bit0 _) (sx_bit0 _) (sx_bit0 _)
  refine kr_ldc2 G.1 rd_d_X12_behind_15 (rd_c2 rd_k_X12_behind_15) ?_
  refine sn_iwc G (by decide) (sx_M_self H3) hb N3 ht 9 (by decide +kernel) (by decide +kernel) rfl rd_d_X12_behind_18 rd_k_X12_behind_18 (Nat.le_of_ble_eq_true rfl) ?_
  intro r9 e9
  by_cases h9 : sn_isk b 9 t = true
  · rw [if_pos h9] at e9
    refine sg_be3y_run G hd_ctK (sx_M_self H3) p0 (by omega) ?_
    intro lw4 σ4 s0 hM4
    exact W lw4 σ4 s0 (hd_tr hM13 hM4 (by decide +kernel)) (Or.inr h9)
  rw [if_neg h9] at e9
  have h89 : ¬ (sn_isk b 8 t = true ∨ sn_isk b 9 t = true) := fun h => h.elim h8 h9
  refine sg_be3n_run G hd_ctK (sx_M_self H3) p0 (by omega) ?_
  intro lw4 x4 σ4 s0 v1 hM4
  have ex : x4 = 22 := Int32.toInt_inj.mp (by show x4.toInt = 22; omega)
  have hM14 := hd_tr hM13 hM4 (by decide +kernel)
  have H4 := hd_tr hM1 hM14 (by decide +kernel)
  have J4 := sn_Jm J1 hM14 (by decide +kernel)
  have N4 := rd_N0 N1 hM14 (sx_bit0 _) (sx_bit0 _) (sx_bit0 _) (sx_bit0 _) (sx_bit0 _)
  have e4 : ∀ j, j < t1 → σ4.2.1 134 j = σ1.2.1 134 j := fun j hj => sn_fr hM14 (sx_bit0 _) (by have := J1.2.2.2.2.1; omega)
  refine sn_joinc G (by decide) (sx_M_self H4) J4 ((sn_sk_c t1 e4).trans hF1) (fun j hj => by rw [e4 j (by omega)]; exact top1 j hj) (Or.inr ex) rfl rd_d_X12_behind_95 rd_k_X12_behind_95 ?_
  intro σ5 c5 t5 hM5 J5 hF5 top5 h23
  have H5 := hd_tr H4 hM5 (by decide +kernel)
  have N5 := rd_N0 N4 hM5 (by decide +kernel) (by decide +kernel) (by decide +kernel) (by decide +kernel) (by decide +kernel)
  have k9 : (0 : Int) ≤ (σ5.2.1 118 9).toInt ∧ (σ5.2.1 118 9).toInt ≤ (4 : Int) := H5.2.2.1 118 9 _ _ 368 rfl
  have m1 := N5.1
  have m2 := N5.2.1
  have ft := J5.2.1
  have j5 := J5.2.2.2.2.1
  have bad : ∀ (r : Int32) (σ6 : am_S), (rd_sgf t 41 = 0 → sn_dn F = []) → r.toInt = 0 → (σ6.2.1 118 13).toInt = 1 → (σ5.2.1 118 10).toInt = (σ6.2.1 118 14).toInt → sx_M zK hd_T σ sn_mA 0 σ6 → post (some (some (.int r))) σ6 := fun r σ6 hs z1 z2 z3 hM6 => kf r σ6 1 t.2.1 (sn_bh3 h89 nt (fun _ => ht0) hs) z1 hM6 z2 (by omega)
  by_cases t3 : t.1 = 3
  rotate_left
  · have sn : ¬ rd_sgf t 41 = 0 := fun h => t3 (sn_sg.mp h).1
    by_cases tle : t.1 ≤ 2
    · refine sg_be9c_run G hd_ctK (sx_M_self H5) s0 (by omega) ?_
      intro r σ6 z1 z2 z3 hM6
      exact bad r σ6 (fun h => absurd h sn) (by omega) (by omega) (by omega) (hd_tr (sx_M_mask (by decide +kernel) H5) hM6 (by decide +kernel))
    · refine sg_be9d_run G hd_ctK (sx_M_self H5) s0 (by omega) ?_
      intro r σ6 z1 z2 z3 hM6
      exact bad r σ6 (fun h => absurd h sn) (by omega) (by omega) (by omega) (hd_tr (sx_M_mask (by decide +kernel) H5) hM6 (by decide +kernel))
  have m12 := N5.2.2.2.1 (Or.inr t3)
  by_cases n41 : t.2.2.2.2 = 41
  rotate_left
  · have sn : ¬ rd_sgf t 41 = 0 := fun h => n41 (sn_sg.mp h).2
    by_cases nlt : t.2.2.2.2 < 41
    · refine sg_be9a_run G hd_ctK (sx_M_self H5) s0 (by omega) ⟨Int32.le_toInt _, by omega⟩ ?_
      intro r σ6 z1 z2 z3 hM6
      exact bad r σ6 (fun h => absurd h sn) (by omega) (by omega) (by omega) (hd_tr (sx_M_mask (by decide +kernel) H5) hM6 (by decide +kernel))
    · refine sg_be9b_run G hd_ctK (sx_M_self H5) s0 (by omega) ⟨by omega, Int32.toInt_le _⟩ ?_
      intro r σ6 z1 z2 z3 hM6
      exact bad r σ6 (fun h => absurd h sn) (by omega) (by omega) (by omega) (hd_tr (sx_M_mask (by decide +kernel) H5) hM6 (by decide +kernel))
  have sg : rd_sgf t 41 = 0 := sn_sg.mpr ⟨t3, n41⟩
  cases t5 with
  | zero =>
    refine sg_be9e_run G hd_ctK (sx_M_self H5) s0 (by omega) (by omega) (by omega) ?_
    intro r σ6 z1 z2 z3 hM6
    exact bad r σ6 (fun _ => hF5.symm) (by omega) (by omega) (by omega) (hd_tr (sx_M_mask (by decide +kernel) H5) hM6 (by decide +kernel))
  | succ j =>
    have top : σ5.2.1 134 j = 23 := h23 ex j rfl
    have hsk : sn_sk (σ5.2.1 134) (j + 1) = if σ5.2.1 134 j = 20 then true :: sn_sk (σ5.2.1 134) j else if σ5.2.1 134 j = 23 then false :: sn_sk (σ5.2.1 134) j else sn_sk (σ5.2.1 134) j := rfl
    rw [if_neg (by rw [top]; decide), if_pos top] at hsk
    have eF : sn_dn F = false :: sn_sk (σ5.2.1 134) j := hF5.symm.trans hsk
    obtain ⟨i1, i2, i3, i4, i5, i6, i7⟩ := J5
    rw [hsk] at i6
    have i6' : (σ5.2.1 118 42).toInt = (((sn_sk (σ5.2.1 134) j).length + 1 + 1 : Nat) : Int) := i6
    have sl := sn_sk_le (σ5.2.1 134) j
    refine sg_be9f_run G hd_ctK (sx_M_self H5) s0 (by omega) (by omega) (by omega) (by omega) ?_
    intro lw6 σ6 w0 z1 z2 hM6
    have H6 : sx_M zK hd_T σ sn_mV 0 σ6 := hd_tr (sx_M_mask (by decide +kernel) H5) hM6 (by decide +kernel)
    have N6 := rd_N0 N5 hM6 (by decide +kernel) (by decide +kernel) (by decide +kernel) (by decide +kernel) (by decide +kernel)
    have X6 := sn_Xm X H6 (by decide +kernel)
    refine rd_nxc G (d := 25) (by decide) (sx_M_self H6) X6 N6.2.2.1 rfl rd_d_X12_behind_141 rd_k_X12_behind_141 (by decide) ?_
    intro σ7 hM7 N7
    have H7 := hd_tr H6 hM7 (by decide +kernel)
    have N7 : rd_N σ7 b (sn_nx b n t) := N7
    refine sg_beg_run G hd_ctK (sx_M_self H7) w0 ?_
    intro r σ8 z9 hM8
    have H8 := hd_tr H7 hM8 (by decide +kernel)
    have M78 := hd_tr hM7 hM8 (by decide +kernel)
    have e8 : ∀ k, k < 45 → σ8.2.1 134 k = σ5.2.1 134 k := fun k hk => (sn_fr M78 (by decide +kernel) hk).trans (sn_fr hM6 (by decide +kernel) hk)
    have hs8 : sn_sk (σ8.2.1 134) j = sn_sk (σ5.2.1 134) j := sn_sk_c j (fun k hk => e8 k (by omega))
    have lF : (sn_dn F).length = (sn_sk (σ5.2.1 134) j).length + 1 := by rw [eF]; rfl
    refine kk r σ8 true (sn_sk (σ5.2.1 134) j) (sn_nx b n t) c5 j (by rw [eF]; exact sn_bh2 h89 sg) (Or.inr (by omega)) (by omega) H8 (sn_Xm X H8 (by decide +kernel)) (rd_N0 N7 hM8 (sx_bit0 _) (sx_bit0 _) (sx_bit0 _) (sx_bit0 _) (sx_bit0 _)) rd_tok_ok ⟨?_, ?_, ?_, ?_, ⟨Nat.le_refl _, i5.2.1, by show c5 + j + 1 ≤ 2 * o; omega⟩, ?_, sn_Zc i7 (by omega) (fun k hk => e8 k (by omega))⟩ hs8
    · rw [M78.2.2.2.2.1 118 39 _ _ 398 rfl (by decide +kernel), hM6.2.2.2.2.1 118 39 _ _ 398 rfl (by decide +kernel)]; exact i1
    · rw [M78.2.2.2.2.1 118 41 _ _ 400 rfl (by decide +kernel)]; omega
    · rw [M78.2.2.2.2.1 118 43 _ _ 402 rfl (by decide +kernel), hM6.2.2.2.2.1 118 43 _ _ 402 rfl (by decide +kernel)]; exact i3
    · rw [M78.2.2.2.2.1 118 40 _ _ 399 rfl (by decide +kernel), hM6.2.2.2.2.1 118 40 _ _ 399 rfl (by decide +kernel)]; exact i4
    · rw [M78.2.2.2.2.1 118 42 _ _ 401 rfl (by decide +kernel), hs8]; omega
end SR5
