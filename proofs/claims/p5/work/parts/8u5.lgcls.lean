/-! LOG, the class: against the same lines -/
/-- what a line's reading writes: reader, lines, acts, numbers -/
def lc_mQ : Nat := Nat.shiftLeft 3 273
def lc_m : Nat := Nat.lor rc_mN (Nat.lor rc_m78 (Nat.lor (Nat.shiftLeft 1 267) (Nat.shiftLeft 3 273)))
def lc_E (σ : am_S) (b : Nat → Nat) (n l : Nat) (t : rd_K) : Prop := rc_X σ b n 400 ∧ rc_N σ t ∧ rd_gd b n 400 t ∧ (σ.2.1 83 2).toInt = (l : Nat) ∧ l ≤ 40 ∧ (σ.2.1 3 7).toInt = 0
theorem lc_E0 {σ σ' : am_S} {m : Nat} {b : Nat → Nat} {n l : Nat} {t : rd_K} (E : lc_E σ b n l t) (h : sx_M z9 hd_C σ m 0 σ') (hm : (Nat.lor m lc_mQ).beq lc_mQ = true) : lc_E σ' b n l t := by
  have fr : ∀ u, sx_bit lc_mQ u = false → sx_bit m u = false := fun u q => sx_lor_sub hm q
  refine ⟨rc_Xm E.1 h (fr 18 (by decide +kernel)) (fr 19 (by decide +kernel)) (fr 21 (by decide +kernel)), rc_N0 E.2.1 h (fr 22 (by decide +kernel)) (fr 23 (by decide +kernel)) (fr 24 (by decide +kernel)) (fr 25 (by decide +kernel)) (fr 26 (by decide +kernel)), E.2.2.1, ?_, E.2.2.2.2.1, ?_⟩
  · rw [h.2.2.2.2.1 83 2 _ _ 267 rfl (fr 267 (by decide +kernel))]; exact E.2.2.2.1
  · rw [h.2.2.2.2.1 3 7 _ _ 27 rfl (fr 27 (by decide +kernel))]; exact E.2.2.2.2.2
theorem lc_En {σ σ' : am_S} {b : Nat → Nat} {n l : Nat} {t : rd_K} (E : lc_E σ b n l t) (h : sx_M z9 hd_C σ rc_mN 0 σ') (N : rc_N σ' (lz_nx b n t)) : lc_E σ' b n l (lz_nx b n t) := by
  refine ⟨rc_Xm E.1 h (by decide +kernel) (by decide +kernel) (by decide +kernel), N, (rd_gd_x E.2.2.1).1, ?_, E.2.2.2.2.1, ?_⟩
  · rw [h.2.2.2.2.1 83 2 _ _ 267 rfl (by decide +kernel)]; exact E.2.2.2.1
  · rw [h.2.2.2.2.1 3 7 _ _ 27 rfl (by decide +kernel)]; exact E.2.2.2.2.2
theorem lc_E1 {σ σ' : am_S} {b : Nat → Nat} {n l l' : Nat} {t : rd_K} (E : lc_E σ b n l t) (h : sx_M z9 hd_C σ (Nat.shiftLeft 1 267) 0 σ') (e : (σ'.2.1 83 2).toInt = (l' : Nat)) (hl : l' ≤ 40) : lc_E σ' b n l' t := by
  refine ⟨rc_Xm E.1 h (by decide +kernel) (by decide +kernel) (by decide +kernel), rc_N0 E.2.1 h (by decide +kernel) (by decide +kernel) (by decide +kernel) (by decide +kernel) (by decide +kernel), E.2.2.1, e, hl, ?_⟩
  rw [h.2.2.2.2.1 3 7 _ _ 27 rfl (by decide +kernel)]; exact E.2.2.2.2.2
theorem lz_one40 {b : Nat → Nat} {n l : Nat} {t t1 : rd_K} (h : lz_one b n l t = .inr t1) : l ≠ 40 := by
  rintro rfl
  unfold lz_one at h
  by_cases h0 : lz_dd b t < 0
  · rw [if_pos h0] at h; cases h
  · rw [if_neg h0, if_pos rfl] at h; cases h
section LCS
variable {g : am_C} {L : Nat} {xs : Nat → Int32}
theorem lc_stc (G : sx_G0 g L xs z9 hd_C ex_mt) (hct : rc_ct g) {T : ex_T} {d : Nat} (hdp : 11 ≤ d) {σ : am_S} (hM : sx_M z9 hd_C σ 0 0 σ) {b : Nat → Nat} {n l : Nat} {t : rd_K} (E : lc_E σ b n l t) (ht : t.1 = 1 ∨ t.1 = 2 ∨ t.1 = 3) {lw : List (Nat × Value)} {pc i mi q : Nat} (hT : ex_mt mi = some tX6_step) (hd : decode T.1.2.1 pc = .ok (.invokevirtual i, 3)) (hl : ex_lk ex_mt T pc (.invokevirtual i) [0, mi, q] = true) {st : List Value} (hroom : (st.map fun v => v.category).sum ≤ 8) {post : Option (Option Value) → am_S → Prop} (kk : ∀ σ', sx_M z9 hd_C σ rc_mN 0 σ' → lc_E σ' b n l (lz_nx b n t) → am_K g d T.1 0 0 (pc + 3) lw st σ' post) : am_K g d T.1 0 0 pc lw (.ref 3 :: st) σ post :=
  rc_stc G hct hdp hM E.1 (E.2.1.2.2.1 ht) hT hd hl hroom (fun σ' h N => kk σ' h (lc_En E h N))
theorem lc_num (G : sx_G0 g L xs z9 hd_C ex_mt) (hct : rc_ct g) {σ : am_S} (hM : sx_M z9 hd_C σ 0 0 σ) {b : Nat → Nat} {n l : Nat} {t : rd_K} (E : lc_E σ b n l t) {lo hi : Nat} {lw : List (Nat × Value)} (hl : (0, Value.ref 83) ∈ lw) (hl1 : (1, Value.ref 3) ∈ lw) {m2 m3 : Int32} (hl2 : (2, Value.int m2) ∈ lw) (hl3 : (3, Value.int m3) ∈ lw) (h2 : m2.toInt = lo) (h3 : m3.toInt = hi) {post : Option (Option Value) → am_S → Prop}
    (kf : ∀ (r : Int32) σ', rd_tkf t lo hi ≠ 0 → r.toInt = 0 → sx_M z9 hd_C σ lc_m 0 σ' → (σ'.2.1 3 7).toInt = (rd_tkf t lo hi : Nat) → (σ'.2.1 3 8).toInt = (t.2.1 : Nat) → post (some (some (.int r))) σ')
    (kt : ∀ (r : Int32) σ', rd_tkf t lo hi = 0 → r.toInt = 1 → sx_M z9 hd_C σ lc_m 0 σ' → lc_E σ' b n l (lz_nx b n t) → post (some (some (.int r))) σ') : am_K g 25 tX2_readNumber.1 0 0 0 lw [] σ post := by
  refine sg_ln_1_run G hct hM hl hl1 hl2 hl3 ?_
  intro lw1 c0 c1 σ1 p0 p1 f1 f2 hM1
  have E1 := lc_E0 E hM1 (by decide +kernel)
  have H1 : sx_M z9 hd_C σ lc_m 0 σ1 := sx_M_mask (by decide +kernel) hM1
  refine rd_call G (T2 := tX6_seesNumber) rfl rd_d_X2_readNumber_3 rd_k_X2_readNumber_3 rfl (hM1.1 3 (.inl 6) rfl) (as := [.int c1, .int c0]) (st := []) rfl (Nat.le_of_ble_eq_true rfl) rfl (by decide) (d1 := 6) (by decide) (post1 := fun r σ' => ∃ y : Int32, r = some (some (.int y)) ∧ ((rd_tkf t lo hi ≠ 0 ∧ y.toInt = 0 ∧ sx_M z9 hd_C σ1 rc_m78 0 σ' ∧ (σ'.2.1 3 7).toInt = (rd_tkf t lo hi : Nat) ∧ (σ'.2.1 3 8).toInt = (t.2.1 : Nat)) ∨ (rd_tkf t lo hi = 0 ∧ y.toInt = 1 ∧ sx_M z9 hd_C σ1 0 0 σ'))) (fun _ h => by obtain ⟨y, h, -⟩ := h; cases h) (rc_sees G hct (sx_M_self hM1) E1.2.1 E1.2.2.1 (lo := lo) (hi := hi) (by simp [lv_args, Value.category]) (m1 := c1) (m2 := c0) (by simp [lv_args, Value.category]) (by simp [lv_args, Value.category]) (by omega) (by omega) (fun r σ' a1 a2 a3 a4 a5 => ⟨r, rfl, Or.inl ⟨a1, a2, a3, a4, a5⟩⟩) (fun r σ' a1 a2 a3 => ⟨r, rfl, Or.inr ⟨a1, a2, a3⟩⟩)) ?_
  intro v2 σ2 ⟨y, hv, h⟩
  cases hv
  rcases h with ⟨a1, a2, a3, a4, a5⟩ | ⟨a1, a2, a3⟩
  · refine sg_ln_2n_run G hct (sx_M_self a3) p0 p1 (by omega) ?_
    intro r σ3 f3 hM3
    have f78 := rc_F78 hM3
    exact kf r σ3 a1 (by omega) (hd_tr (hd_tr H1 a3 (by decide +kernel)) hM3 (by decide +kernel)) (by rw [f78.1]; exact a4) (by rw [f78.2]; exact a5)
  · have t2 : t.1 = 2 := by
      by_cases h : t.1 = 2
      · exact h
      · exact absurd a1 (by unfold rd_tkf; rw [if_neg h]; decide)
    refine sg_ln_2_run G hct (sx_M_self a3) p0 p1 (by omega) ?_
    intro lw3 σ3 q0 q1 hM3
    have E3 := lc_E0 (lc_E0 E1 a3 (by decide +kernel)) hM3 (by decide +kernel)
    have H3 := hd_tr (hd_tr H1 a3 (by decide +kernel)) hM3 (by decide +kernel)
    refine lc_stc G hct (by decide) (sx_M_self hM3) E3 (Or.inr (Or.inl t2)) rfl rd_d_X2_readNumber_27 rd_k_X2_readNumber_27 (by decide) ?_
    intro σ4 hM4 E4
    refine sg_ln_3_run G hct (sx_M_self hM4) q0 q1 ?_
    intro r σ5 f5 hM5
    exact kt r σ5 a1 (by omega) (hd_tr (hd_tr H3 hM4 (by decide +kernel)) hM5 (by decide +kernel)) (lc_E0 E4 hM5 (by decide +kernel))
/-- readNumber, called -/
theorem lc_numc (G : sx_G0 g L xs z9 hd_C ex_mt) (hct : rc_ct g) {T : ex_T} {d : Nat} (hdp : 26 ≤ d) {σ : am_S} (hM : sx_M z9 hd_C σ 0 0 σ) {b : Nat → Nat} {n l : Nat} {t : rd_K} (E : lc_E σ b n l t) {lo hi : Nat} {m2 m3 : Int32} (h2 : m2.toInt = lo) (h3 : m3.toInt = hi) {lw : List (Nat × Value)} {pc i mi q : Nat} (hT : ex_mt mi = some tX2_readNumber) (hd : decode T.1.2.1 pc = .ok (.invokevirtual i, 3)) (hl : ex_lk ex_mt T pc (.invokevirtual i) [0, mi, q] = true) {post : Option (Option Value) → am_S → Prop}
    (kf : ∀ (r : Int32) σ', rd_tkf t lo hi ≠ 0 → r.toInt = 0 → sx_M z9 hd_C σ lc_m 0 σ' → (σ'.2.1 3 7).toInt = (rd_tkf t lo hi : Nat) → (σ'.2.1 3 8).toInt = (t.2.1 : Nat) → am_K g d T.1 0 0 (pc + 3) lw [.int r] σ' post)
    (kt : ∀ (r : Int32) σ', rd_tkf t lo hi = 0 → r.toInt = 1 → sx_M z9 hd_C σ lc_m 0 σ' → lc_E σ' b n l (lz_nx b n t) → am_K g d T.1 0 0 (pc + 3) lw [.int r] σ' post) : am_K g d T.1 0 0 pc lw [.int m3, .int m2, .ref 3, .ref 83] σ post := by
  refine rd_call G (T2 := tX2_readNumber) hT hd hl rfl (hM.1 83 (.inl 2) rfl) (as := [.ref 3, .int m2, .int m3]) (st := []) rfl (Nat.le_of_ble_eq_true rfl) rfl (by decide) (d1 := 25) hdp (post1 := fun r σ' => ∃ y : Int32, r = some (some (.int y)) ∧ sx_M z9 hd_C σ lc_m 0 σ' ∧ ((rd_tkf t lo hi ≠ 0 ∧ y.toInt = 0 ∧ (σ'.2.1 3 7).toInt = (rd_tkf t lo hi : Nat) ∧ (σ'.2.1 3 8).toInt = (t.2.1 : Nat)) ∨ (rd_tkf t lo hi = 0 ∧ y.toInt = 1 ∧ lc_E σ' b n l (lz_nx b n t)))) (fun _ h => by obtain ⟨y, h, -⟩ := h; cases h) (lc_num G hct hM E (by simp [lv_args, Value.category]) (by simp [lv_args, Value.category]) (m2 := m2) (m3 := m3) (by simp [lv_args, Value.category]) (by simp [lv_args, Value.category]) h2 h3 (fun r σ' a1 a2 a3 a4 a5 => ⟨r, rfl, a3, Or.inl ⟨a1, a2, a4, a5⟩⟩) (fun r σ' a1 a2 a3 a4 => ⟨r, rfl, a3, Or.inr ⟨a1, a2, a4⟩⟩)) ?_
  intro v σ' ⟨y, hv, hM', h⟩
  cases hv
  rcases h with ⟨a1, a2, a3, a4⟩ | ⟨a1, a2, a3⟩
  · exact kf y σ' a1 a2 hM' a3 a4
  · exact kt y σ' a1 a2 hM' a3
theorem lc_line (G : sx_G0 g L xs z9 hd_C ex_mt) (hct : rc_ct g) {σ : am_S} (hM : sx_M z9 hd_C σ 0 0 σ) {b : Nat → Nat} {n l : Nat} {t : rd_K} (E : lc_E σ b n l t) {lw : List (Nat × Value)} (hl : (0, Value.ref 83) ∈ lw) (hl1 : (1, Value.ref 3) ∈ lw) {post : Option (Option Value) → am_S → Prop}
    (kf : ∀ (r : Int32) (σ' : am_S) (kd at' : Nat), lz_one b n l t = .inl (kd, at') → r.toInt = 0 → sx_M z9 hd_C σ lc_m 0 σ' → (σ'.2.1 3 7).toInt = (kd : Nat) → (σ'.2.1 3 8).toInt = (at' : Nat) → post (some (some (.int r))) σ')
    (kt : ∀ (r : Int32) (σ' : am_S) (t1 : rd_K), lz_one b n l t = .inr t1 → r.toInt = 1 → sx_M z9 hd_C σ lc_m 0 σ' → lc_E σ' b n l t1 → post (some (some (.int r))) σ') : am_K g 35 tX2_readLine.1 0 0 0 lw [] σ post := by
  refine sg_lr1_run G hct hM hl hl1 ?_
  intro lw1 σ1 p0 p1 hM1
  have E1 := lc_E0 E hM1 (by decide +kernel)
  refine rd_call G (T2 := tX6_wordOf) rfl rd_d_X2_readLine_3 rd_k_X2_readLine_3 rfl (hM1.1 3 (.inl 6) rfl) (as := [.retAddr 14046]) (st := []) rfl (Nat.le_of_ble_eq_true rfl) rfl (by decide) (d1 := 15) (by decide) (post1 := fun r σ' => ∃ y : Int32, r = some (some (.int y)) ∧ sx_M z9 hd_C σ1 0 0 σ' ∧ y.toInt = lz_dd b t) (fun _ h => by obtain ⟨y, h, -⟩ := h; cases h) (sl_wordOf G hct (sx_M_self hM1) E1.1 E1.2.1 (rd_gd_s E1.2.2.1).2 (by simp [lv_args, Value.category]) (by simp [lv_args, Value.category]) (fun r σ' a1 a2 => ⟨r, rfl, a1, a2⟩)) ?_
  intro v σ2 ⟨y, hv, hM2, hy⟩
  cases hv
  have E2 := lc_E0 E1 hM2 (by decide +kernel)
  have H2 : sx_M z9 hd_C σ lc_m 0 σ2 := sx_M_mask (by decide +kernel) (hd_tr hM1 hM2 rfl)
  have n2 := E2.2.1.2.1
  have l2 := E2.2.2.2.1
  have l40 := E2.2.2.2.2.1
  have d6 := lz_dd6 (b := b) (t := t)
  by_cases h0 : lz_dd b t < 0
  · refine sg_lr2n_run G hct (sx_M_self hM2) p0 p1 (by omega) ?_
    intro r σ3 f1 f2 f3 hM3
    exact kf r σ3 1 t.2.1 (lz_o1 h0) (by omega) (hd_tr H2 hM3 (by decide +kernel)) (by omega) (by omega)
  have h0' : 0 ≤ lz_dd b t := by omega
  by_cases h4 : l = 40
  · refine sg_lr2f_run G hct (sx_M_self hM2) p0 p1 (by omega) (by omega) ?_
    intro r σ3 f1 f2 f3 hM3
    exact kf r σ3 4 t.2.1 (lz_o4 h0' h4) (by omega) (hd_tr H2 hM3 (by decide +kernel)) (by omega) (by omega)
  refine sg_lr2_run G hct (sx_M_self hM2) p0 p1 (by omega) (by omega) ?_
  intro lw3 w σ3 q0 q1 q2 f1 hM3
  have E3 := lc_E0 E2 hM3 (by decide +kernel)
  have H3 := hd_tr H2 hM3 (by decide +kernel)
  have hw : w.toInt = lz_dd b t := by omega
  refine lc_stc G hct (by decide) (sx_M_self hM3) E3 (Or.inl (lz_dd1 h0')) rfl rd_d_X2_readLine_58 rd_k_X2_readLine_58 (by decide) ?_
  intro σ4 hM4 E4
  have H4 := hd_tr H3 hM4 (by decide +kernel)
  by_cases hm : 1 < lz_dd b t ∧ lz_dd b t < 6
  · refine sg_lr3m_run G hct (sx_M_self hM4) q0 q1 q2 (by omega) ?_
    intro r σ5 f2 hM5
    exact kt r σ5 _ (lz_om h4 hm) (by omega) (hd_tr H4 hM5 (by decide +kernel)) (lc_E0 E4 hM5 (by decide +kernel))
  have w3 : lz_dd b t = 0 ∨ lz_dd b t = 1 ∨ lz_dd b t = 6 := by omega
  rcases w3 with e | e | e
  · have elo : lz_lo (lz_dd b t) = 0 := by rw [e]; rfl
    have ehi : lz_hi (lz_dd b t) = 60 := by rw [e]; rfl
    refine sg_lr3t_run G hct (sx_M_self hM4) q0 q1 q2 (by omega) ?_
    intro lw5 c0 c1 σ5 u0 u1 f2 f3 hM5
    have H5 := hd_tr H4 hM5 (by decide +kernel)
    refine lc_numc G hct (by decide) (sx_M_self hM5) (lc_E0 E4 hM5 (by decide +kernel)) (lo := 0) (hi := 60) (by omega) (by omega) rfl rd_d_X2_readLine_101 rd_k_X2_readLine_101 ?_ ?_
    · intro r6 σ6 a1 a2 a3 a4 a5
      refine sg_lr4t_run G hct (sx_M_self a3) u0 u1 (by omega) ?_
      intro r σ7 f4 hM7
      have f78 := rc_F78 hM7
      have e1 := lz_of (n := n) h0' h4 hm (by rw [elo, ehi]; exact a1)
      rw [elo, ehi] at e1
      exact kf r σ7 _ _ e1 (by omega) (hd_tr (hd_tr H5 a3 (by decide +kernel)) hM7 (by decide +kernel)) (by rw [f78.1]; exact a4) (by rw [f78.2]; exact a5)
    · intro r6 σ6 a1 a2 a3 a4
      refine sg_lr4t_run G hct (sx_M_self a3) u0 u1 (by omega) ?_
      intro r σ7 f4 hM7
      exact kt r σ7 _ (lz_on h0' h4 hm (by rw [elo, ehi]; exact a1)) (by omega) (hd_tr (hd_tr H5 a3 (by decide +kernel)) hM7 (by decide +kernel)) (lc_E0 a4 hM7 (by decide +kernel))
  · have elo : lz_lo (lz_dd b t) = 0 := by rw [e]; rfl
    have ehi : lz_hi (lz_dd b t) = 9 := by rw [e]; rfl
    refine sg_lr3a_run G hct (sx_M_self hM4) q0 q1 q2 (by omega) ?_
    intro lw5 c0 c1 σ5 u0 u1 f2 f3 hM5
    have H5 := hd_tr H4 hM5 (by decide +kernel)
    refine lc_numc G hct (by decide) (sx_M_self hM5) (lc_E0 E4 hM5 (by decide +kernel)) (lo := 0) (hi := 9) (by omega) (by omega) rfl rd_d_X2_readLine_110 rd_k_X2_readLine_110 ?_ ?_
    · intro r6 σ6 a1 a2 a3 a4 a5
      refine sg_lr4a_run G hct (sx_M_self a3) u0 u1 (by omega) ?_
      intro r σ7 f4 hM7
      have f78 := rc_F78 hM7
      have e1 := lz_of (n := n) h0' h4 hm (by rw [elo, ehi]; exact a1)
      rw [elo, ehi] at e1
      exact kf r σ7 _ _ e1 (by omega) (hd_tr (hd_tr H5 a3 (by decide +kernel)) hM7 (by decide +kernel)) (by rw [f78.1]; exact a4) (by rw [f78.2]; exact a5)
    · intro r6 σ6 a1 a2 a3 a4
      refine sg_lr4a_run G hct (sx_M_self a3) u0 u1 (by omega) ?_
      intro r σ7 f4 hM7
      exact kt r σ7 _ (lz_on h0' h4 hm (by rw [elo, ehi]; exact a1)) (by omega) (hd_tr (hd_tr H5 a3 (by decide +kernel)) hM7 (by decide +kernel)) (lc_E0 a4 hM7 (by decide +kernel))
  · have elo : lz_lo (lz_dd b t) = 1 := by rw [e]; rfl
    have ehi : lz_hi (lz_dd b t) = 60 := by rw [e]; rfl
    refine sg_lr3w_run G hct (sx_M_self hM4) q0 q1 q2 (by omega) ?_
    intro lw5 c0 c1 σ5 u0 u1 f2 f3 hM5
    have H5 := hd_tr H4 hM5 (by decide +kernel)
    refine lc_numc G hct (by decide) (sx_M_self hM5) (lc_E0 E4 hM5 (by decide +kernel)) (lo := 1) (hi := 60) (by omega) (by omega) rfl rd_d_X2_readLine_119 rd_k_X2_readLine_119 ?_ ?_
    · intro r6 σ6 a1 a2 a3 a4 a5
      refine sg_lr4w_run G hct (sx_M_self a3) u0 u1 (by omega) ?_
      intro r σ7 f4 hM7
      have f78 := rc_F78 hM7
      have e1 := lz_of (n := n) h0' h4 hm (by rw [elo, ehi]; exact a1)
      rw [elo, ehi] at e1
      exact kf r σ7 _ _ e1 (by omega) (hd_tr (hd_tr H5 a3 (by decide +kernel)) hM7 (by decide +kernel)) (by rw [f78.1]; exact a4) (by rw [f78.2]; exact a5)
    · intro r6 σ6 a1 a2 a3 a4
      refine sg_lr4w_run G hct (sx_M_self a3) u0 u1 (by omega) ?_
      intro r σ7 f4 hM7
      exact kt r σ7 _ (lz_on h0' h4 hm (by rw [elo, ehi]; exact a1)) (by omega) (hd_tr (hd_tr H5 a3 (by decide +kernel)) hM7 (by decide +kernel)) (lc_E0 a4 hM7 (by decide +kernel))
theorem lc_loop (G : sx_G0 g L xs z9 hd_C ex_mt) (hct : rc_ct g) {σ : am_S} {b : Nat → Nat} {n : Nat} {S : lz_X} {post : Option (Option Value) → am_S → Prop}
    (kf : ∀ (r : Int32) (σ' : am_S) (kd at' : Nat), lz_go b n S (.inl (.inl (kd, at'))) → r.toInt = 0 → sx_M z9 hd_C σ lc_m 0 σ' → (σ'.2.1 3 7).toInt = (kd : Nat) → (σ'.2.1 3 8).toInt = (at' : Nat) → post (some (some (.int r))) σ')
    (kt : ∀ (r : Int32) (σ' : am_S) (l : Nat), lz_go b n S (.inl (.inr l)) → r.toInt = 1 → sx_M z9 hd_C σ lc_m 0 σ' → (σ'.2.1 3 7).toInt = 0 → post (some (some (.int r))) σ') : ∀ (k l : Nat) (t : rd_K) (σ1 : am_S) (lw : List (Nat × Value)) (m2 : Int32), 40 - l < k → sx_M z9 hd_C σ lc_m 0 σ1 → lc_E σ1 b n l t → lz_go b n S (.inr (l, t)) → (0, Value.ref 83) ∈ lw → (1, Value.ref 3) ∈ lw → (2, Value.int m2) ∈ lw → m2.toInt = l → am_K g 45 tX2_readFrom.1 0 0 7 lw [] σ1 post := by
  intro k
  induction k with
  | zero => intro l t σ1 lw m2 hk; omega
  | succ k ih =>
    intro l t σ1 lw m2 hk H1 E1 hgo hl hl1 hl2 e2
    have l40 := E1.2.2.2.2.1
    have n1 := E1.2.1.1
    have k5 := rc_kd5 (rd_gd_4 E1.2.2.1)
    by_cases t0 : t.1 = 0
    · have kd0 := k5.2.2.2.1.mpr t0
      refine sg_lf2e_run G hct (sx_M_self H1) hl hl1 hl2 (by omega) (by omega) ?_
      intro r σ2 f1 hM2
      exact kt r σ2 l (lz_go_t hgo (lz_z t0)) (by omega) (hd_tr H1 hM2 (by decide +kernel)) (lc_E0 E1 hM2 (by decide +kernel)).2.2.2.2.2
    have kd0 : rc_kd t.1 ≠ 0 := fun h => t0 (k5.2.2.2.1.mp h)
    have kd4 := k5.1
    refine sg_lf2m_run G hct (sx_M_self H1) hl hl1 hl2 (by omega) (by omega) ?_
    intro lw2 y2 σ2 p0 p1 p2 f1 hM2
    have E2 := lc_E0 E1 hM2 (by decide +kernel)
    have H2 := hd_tr H1 hM2 (by decide +kernel)
    refine rd_call G (T2 := tX2_readLine) rfl rd_d_X2_readFrom_22 rd_k_X2_readFrom_22 rfl (hM2.1 83 (.inl 2) rfl) (as := [.ref 3]) (st := []) rfl (Nat.le_of_ble_eq_true rfl) rfl (by decide) (d1 := 35) (by decide) (post1 := fun r σ' => ∃ y : Int32, r = some (some (.int y)) ∧ sx_M z9 hd_C σ2 lc_m 0 σ' ∧ ((∃ kd at' : Nat, lz_one b n l t = .inl (kd, at') ∧ y.toInt = 0 ∧ (σ'.2.1 3 7).toInt = (kd : Nat) ∧ (σ'.2.1 3 8).toInt = (at' : Nat)) ∨ (∃ t1 : rd_K, lz_one b n l t = .inr t1 ∧ y.toInt = 1 ∧ lc_E σ' b n l t1))) (fun _ h => by obtain ⟨y, h, -⟩ := h; cases h) (lc_line G hct (sx_M_self hM2) E2 (by simp [lv_args, Value.category]) (by simp [lv_args, Value.category]) (fun r σ' kd at' a1 a2 a3 a4 a5 => ⟨r, rfl, a3, Or.inl ⟨kd, at', a1, a2, a4, a5⟩⟩) (fun r σ' t1 a1 a2 a3 a4 => ⟨r, rfl, a3, Or.inr ⟨t1, a1, a2, a4⟩⟩)) ?_
    intro v3 σ3 ⟨y, hv, hM3, h⟩
    cases hv
    have H3 := hd_tr H2 hM3 (by decide +kernel)
    rcases h with ⟨kd, at', a1, a2, a3, a4⟩ | ⟨t1, a1, a2, E3⟩
    · refine sg_lf3n_run G hct (sx_M_self hM3) p0 p1 (by omega) ?_
      intro r σ4 f2 hM4
      have f78 := rc_F78 hM4
      exact kf r σ4 kd at' (lz_go_t hgo (lz_s t0 a1)) (by omega) (hd_tr H3 hM4 (by decide +kernel)) (by rw [f78.1]; exact a3) (by rw [f78.2]; exact a4)
    · have l39 := lz_one40 a1
      have g1 : lz_go b n S (if rd_sgf t1 59 = 0 then .inr (l + 1, lz_nx b n t1) else .inl (.inl (1, t1.2.1))) := lz_go_t hgo (lz_s t0 a1)
      refine sg_lf3y_run G hct (sx_M_self hM3) p0 p1 p2 (by omega) ?_
      intro lw4 y4 c4 σ4 q0 q1 q2 f2 f3 hM4
      have E4 := lc_E0 E3 hM4 (by decide +kernel)
      have H4 := hd_tr H3 hM4 (by decide +kernel)
      refine rd_call G (T2 := tX6_takesSign) rfl rd_d_X2_readFrom_31 rd_k_X2_readFrom_31 rfl (hM4.1 3 (.inl 6) rfl) (as := [.int c4]) (st := []) rfl (Nat.le_of_ble_eq_true rfl) rfl (by decide) (d1 := 20) (by decide) (post1 := fun r σ' => ∃ y : Int32, r = some (some (.int y)) ∧ ((rd_sgf t1 59 ≠ 0 ∧ y.toInt = 0 ∧ sx_M z9 hd_C σ4 rc_m78 0 σ' ∧ (σ'.2.1 3 7).toInt = 1 ∧ (σ'.2.1 3 8).toInt = (t1.2.1 : Nat)) ∨ (rd_sgf t1 59 = 0 ∧ y.toInt = 1 ∧ sx_M z9 hd_C σ4 rc_mN 0 σ' ∧ rc_N σ' (lz_nx b n t1)))) (fun _ h => by obtain ⟨y, h, -⟩ := h; cases h) (rc_takesSign G hct (sx_M_self hM4) E4.1 E4.2.1 E4.2.2.1 (c := 59) (by simp [lv_args, Value.category]) (m1 := c4) (by simp [lv_args, Value.category]) (by omega) (fun r σ' a1 a2 a3 a4 a5 => ⟨r, rfl, Or.inl ⟨a1, a2, a3, a4, a5⟩⟩) (fun r σ' a1 a2 a3 a4 => ⟨r, rfl, Or.inr ⟨a1, a2, a3, a4⟩⟩)) ?_
      intro v5 σ5 ⟨y5, hv5, h5⟩
      cases hv5
      rcases h5 with ⟨b1, b2, b3, b4, b5⟩ | ⟨b1, b2, b3, b4⟩
      · rw [if_neg b1] at g1
        refine sg_lf4n_run G hct (sx_M_self b3) q0 q1 (by omega) ?_
        intro r σ6 f4 hM6
        have f78 := rc_F78 hM6
        exact kf r σ6 1 t1.2.1 g1 (by omega) (hd_tr (hd_tr H4 b3 (by decide +kernel)) hM6 (by decide +kernel)) (by rw [f78.1]; exact b4) (by rw [f78.2]; exact b5)
      · rw [if_pos b1] at g1
        have E5 := lc_En E4 b3 b4
        have l5 := E5.2.2.2.1
        refine sg_lf4y_run G hct (sx_M_self b3) q0 q1 q2 (by omega) (by omega) (by omega) ?_
        intro lw6 y6 σ6 u0 u1 u2 f4 f5 hM6
        refine ih (l + 1) _ σ6 lw6 y6 (by omega) (hd_tr (hd_tr H4 b3 (by decide +kernel)) hM6 (by decide +kernel)) (lc_E1 E5 (sx_M_mask (by decide +kernel) hM6) (by omega) (by omega)) g1 u0 u1 u2 (by omega)
theorem lc_readFrom (G : sx_G0 g L xs z9 hd_C ex_mt) (hct : rc_ct g) {σ : am_S} (hM : sx_M z9 hd_C σ 0 0 σ) {b : Nat → Nat} {n : Nat} (X : rc_X σ b n 400) (N : rc_N σ (rd_tok b n 400 0)) (h7 : (σ.2.1 3 7).toInt = 0) {lw : List (Nat × Value)} (hl : (0, Value.ref 83) ∈ lw) (hl1 : (1, Value.ref 3) ∈ lw) {post : Option (Option Value) → am_S → Prop}
    (kf : ∀ (r : Int32) (σ' : am_S) (kd at' : Nat), lz_go b n (lz_s0 b n) (.inl (.inl (kd, at'))) → r.toInt = 0 → sx_M z9 hd_C σ lc_m 0 σ' → (σ'.2.1 3 7).toInt = (kd : Nat) → (σ'.2.1 3 8).toInt = (at' : Nat) → post (some (some (.int r))) σ')
    (kt : ∀ (r : Int32) (σ' : am_S) (l : Nat), lz_go b n (lz_s0 b n) (.inl (.inr l)) → r.toInt = 1 → sx_M z9 hd_C σ lc_m 0 σ' → (σ'.2.1 3 7).toInt = 0 → post (some (some (.int r))) σ') : am_K g 45 tX2_readFrom.1 0 0 0 lw [] σ post := by
  refine sg_lf1_run G hct hM hl hl1 ?_
  intro lw1 y1 σ1 p0 p1 p2 f1 f2 hM1
  refine lc_loop G hct kf kt 41 0 _ σ1 lw1 y1 (by omega) (sx_M_mask (by decide +kernel) hM1) ⟨rc_Xm X hM1 (by decide +kernel) (by decide +kernel) (by decide +kernel), rc_N0 N hM1 (by decide +kernel) (by decide +kernel) (by decide +kernel) (by decide +kernel) (by decide +kernel), ⟨0, Nat.zero_le _, rfl⟩, by show _ = (0 : Int); omega, by omega, ?_⟩ (lz_go_r _) p0 p1 p2 (by show _ = (0 : Int); omega)
  rw [hM1.2.2.2.2.1 3 7 _ _ 27 rfl (by decide +kernel)]; exact h7
/-- what the class's log writes at most -/
def lc_mS : Nat := Nat.xor (2 ^ 359 - 1) (Nat.shiftLeft 1 19)
def lz_kd : (Nat × Nat) ⊕ Nat → Nat
  | .inl q => q.1
  | .inr _ => 0
theorem lc_log (G : sx_G0 g L xs z9 hd_C ex_mt) (hct : rc_ct g) {σ : am_S} (hM : sx_M z9 hd_C σ 0 0 σ) {b : Nat → Nat} (hbX : ∀ k, k < 940 → rd_by (σ.2.1 2) k = b k) {n : Nat} (hn : (σ.2.1 1 1).toInt = n) {lw : List (Nat × Value)} (hl : (0, Value.ref 0) ∈ lw) {m1 : Int32} (hl1 : (1, Value.int m1) ∈ lw) {post : Option (Option Value) → am_S → Prop}
    (k0 : ∀ (r : Int32) (σ' : am_S), ¬ (0 ≤ m1.toInt ∧ m1.toInt ≤ 1) → sx_M z9 hd_C σ 0 0 σ' → post (some (some (.int r))) σ')
    (k1 : ∀ (r : Int32) (σ' : am_S) (x : (Nat × Nat) ⊕ Nat), 0 ≤ m1.toInt ∧ m1.toInt ≤ 1 → lz_go b n (lz_s0 b n) (.inl x) → sx_M z9 hd_C σ lc_mS 0 σ' → (σ'.2.1 0 16).toInt = (lz_kd x : Nat) → (σ'.2.1 1 1).toInt = 0 → post (some (some (.int r))) σ') : am_K g 60 tX11_log.1 0 0 0 lw [] σ post := by
  have kL : (0 : Int) ≤ (σ.2.1 1 1).toInt ∧ (σ.2.1 1 1).toInt ≤ (940 : Int) := hM.2.2.1 1 1 _ _ 18 rfl
  by_cases hm : 0 ≤ m1.toInt ∧ m1.toInt ≤ 1
  · refine sg_lg1_run G hct hM hl hl1 hm ?_
    intro lw1 y1 a1 σ1 p0 p1 f1 f2 hM1
    refine rd_call G (T2 := tX6_open) rfl rd_d_X11_log_20 rd_k_X11_log_20 rfl (hM1.1 3 (.inl 6) rfl) (as := [.int a1]) (st := []) rfl (Nat.le_of_ble_eq_true rfl) rfl (by decide) (d1 := 15) (by decide) (post1 := fun r σ' => r = some none ∧ sx_M z9 hd_C σ1 rc_mO 0 σ' ∧ rc_X σ' b n 400 ∧ rc_N σ' (rd_tok b n 400 0) ∧ (σ'.2.1 3 7).toInt = 0) (fun _ h => by cases h.1) ?_ ?_
    · refine sg_op1_run G hct (sx_M_self hM1) (by simp [lv_args, Value.category]) (m1 := a1) (by simp [lv_args, Value.category]) ?_
      intro lw2 σ2 q0 g1 g2 g3 g4 hM2
      have X2 : rc_X σ2 b n 400 := by
        refine ⟨fun k hk => ?_, ?_, ?_, by omega, by decide⟩
        · rw [← hbX k hk]
          unfold rd_by
          rw [hM2.2.2.2.2.1 2 k _ _ 19 (rc_a2 hk) (by decide +kernel), hM1.2.2.2.2.1 2 k _ _ 19 (rc_a2 hk) (sx_bit0 _)]
        · rw [hM2.2.2.2.2.1 1 1 _ _ 18 rfl (by decide +kernel), hM1.2.2.2.2.1 1 1 _ _ 18 rfl (sx_bit0 _)]
          exact hn
        · show _ = (400 : Int)
          omega
      refine rc_stc G hct (d := 15) (by decide) (sx_M_self hM2) X2 (p := 0) (by show _ = (0 : Int); omega) rfl rd_d_X6_open_21 rd_k_X6_open_21 (by decide) ?_
      intro σ3 hM3 N3
      refine sg_op2_run G hct (sx_M_self hM3) q0 ?_
      intro σ4 hM4
      refine ⟨rfl, hd_tr (hd_tr (sx_M_mask (by decide +kernel) hM2) hM3 (by decide +kernel)) hM4 (by decide +kernel), rc_Xm (rc_Xm X2 hM3 (by decide +kernel) (by decide +kernel) (by decide +kernel)) hM4 (sx_bit0 _) (sx_bit0 _) (sx_bit0 _), rc_N0 N3 hM4 (sx_bit0 _) (sx_bit0 _) (sx_bit0 _) (sx_bit0 _) (sx_bit0 _), ?_⟩
      rw [hM4.2.2.2.2.1 3 7 _ _ 27 rfl (sx_bit0 _), hM3.2.2.2.2.1 3 7 _ _ 27 rfl (by decide +kernel)]
      omega
    · intro v σ2 ⟨hv, a2, X2, N2, z2⟩
      cases hv
      have n9 : n ≤ 940 := X2.2.2.2.1
      have H2 : sx_M z9 hd_C σ lc_mS 0 σ2 := hd_tr (sx_M_mask (by decide +kernel) hM1) a2 (by decide +kernel)
      refine sg_lg2_run G hct (sx_M_self a2) p0 p1 (by omega) ?_
      intro lw3 y3 σ3 q0 q1 f3 hM3
      have H3 := hd_tr H2 hM3 (by decide +kernel)
      have X3 := rc_Xm X2 hM3 (sx_bit0 _) (sx_bit0 _) (sx_bit0 _)
      have N3 := rc_N0 N2 hM3 (sx_bit0 _) (sx_bit0 _) (sx_bit0 _) (sx_bit0 _) (sx_bit0 _)
      have z3 : (σ3.2.1 3 7).toInt = 0 := by rw [hM3.2.2.2.2.1 3 7 _ _ 27 rfl (sx_bit0 _)]; exact z2
      refine rd_call G (T2 := tX2_readFrom) rfl rd_d_X11_log_31 rd_k_X11_log_31 rfl (hM3.1 83 (.inl 2) rfl) (as := [.ref 3]) (st := []) rfl (Nat.le_of_ble_eq_true rfl) rfl (by decide) (d1 := 45) (by decide) (post1 := fun r σ' => ∃ y : Int32, r = some (some (.int y)) ∧ sx_M z9 hd_C σ3 lc_m 0 σ' ∧ ((∃ kd at' : Nat, lz_go b n (lz_s0 b n) (.inl (.inl (kd, at'))) ∧ y.toInt = 0 ∧ (σ'.2.1 3 7).toInt = (kd : Nat) ∧ (σ'.2.1 3 8).toInt = (at' : Nat)) ∨ (∃ l : Nat, lz_go b n (lz_s0 b n) (.inl (.inr l)) ∧ y.toInt = 1 ∧ (σ'.2.1 3 7).toInt = 0))) (fun _ h => by obtain ⟨y, h, -⟩ := h; cases h)
        (lc_readFrom G hct (sx_M_self hM3) X3 N3 z3 (by simp [lv_args, Value.category]) (by simp [lv_args, Value.category]) (fun r σ' kd at' c1 c2 c3 c4 c5 => ⟨r, rfl, c3, Or.inl ⟨kd, at', c1, c2, c4, c5⟩⟩) (fun r σ' l c1 c2 c3 c4 => ⟨r, rfl, c3, Or.inr ⟨l, c1, c2, c4⟩⟩)) ?_
      intro v4 σ4 ⟨y, hv4, hM4, hh⟩
      cases hv4
      have H4 := hd_tr H3 hM4 (by decide +kernel)
      rcases hh with ⟨kd, at', c1, c2, c3, c4⟩ | ⟨l, c1, c2, c3⟩
      · have h9 : at' ≤ 940 := lz_go_in n9 c1 ⟨0, Nat.zero_le _, rfl⟩
        refine sg_lg3n_run G hct (sx_M_self hM4) q0 q1 (by omega) (by omega) ?_
        intro r σ5 g1 g2 g3 hM5
        exact k1 r σ5 _ hm c1 (hd_tr H4 hM5 (by decide +kernel)) (by show _ = (kd : Int); omega) (by omega)
      · refine sg_lg3y_run G hct (sx_M_self hM4) q0 q1 (by omega) (by omega) ?_
        intro r σ5 g1 g2 g3 hM5
        exact k1 r σ5 _ hm c1 (hd_tr H4 hM5 (by decide +kernel)) (by show _ = (0 : Int); omega) (by omega)
  · have i1 := Int32.le_toInt m1
    have i2 := Int32.toInt_lt m1
    by_cases h : m1.toInt ≤ -1
    · refine sg_lg0a_run G hct hM hl hl1 (by omega) ?_
      intro r σ' f1 hM'
      exact k0 r σ' hm hM'
    · refine sg_lg0b_run G hct hM hl hl1 (by omega) ?_
      intro r σ' f1 hM'
      exact k0 r σ' hm hM'
end LCS
