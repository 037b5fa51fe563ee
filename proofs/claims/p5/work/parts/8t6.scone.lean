/-! the class's SENTENCE: signs, comparisons -/
section SCA
variable {g : am_C} {L : Nat} {xs : Nat → Int32}
def sc_sg (t : rd_K) : Int := if rd_sgf t 60 = 0 then 0 else if rd_sgf t 61 = 0 then 1 else if rd_sgf t 62 = 0 then 2 else -1
theorem sc_signOf (G : sx_G0 g L xs z9 hd_C ex_mt) (hct : rc_ct g) {σ : am_S} (hM : sx_M z9 hd_C σ 0 0 σ) {b : Nat → Nat} {n o : Nat} {t : rd_K} (E : sc_E σ b n o t) {lw : List (Nat × Value)} (hl : (0, Value.ref 3) ∈ lw) {post : Option (Option Value) → am_S → Prop} (kk : ∀ (r : Int32) σ', sx_M z9 hd_C σ 0 0 σ' → r.toInt = sc_sg t → post (some (some (.int r))) σ') : am_K g 12 tX8_signOf.1 0 0 0 lw [] σ post := by
  unfold sc_sg at kk
  refine sg_sf1_run G hct hM hl ?_
  intro lw1 c1 σ1 p0 f1 hM1
  have E1 := sc_E0 E hM1 (by decide +kernel)
  refine sc_isAtc G hct (by decide) (sx_M_self hM1) E1 (c := 60) (by omega) rfl rd_d_X8_signOf_3 rd_k_X8_signOf_3 (by decide) ?_
  intro r2 σ2 hM2 e2
  have H2 : sx_M z9 hd_C σ 0 0 σ2 := hd_tr hM1 hM2 rfl
  by_cases h60 : rd_sgf t 60 = 0
  · rw [if_pos h60] at e2
    refine sg_sf1y_run G hct (sx_M_self hM2) p0 (by omega) ?_
    intro r σ3 f2 hM3
    exact kk r σ3 (hd_tr H2 hM3 rfl) (by rw [if_pos h60]; omega)
  rw [if_neg h60] at e2
  refine sg_sf1n_run G hct (sx_M_self hM2) p0 (by omega) ?_
  intro lw3 c3 σ3 q0 f3 hM3
  have E3 := sc_E0 (sc_E0 E1 hM2 (by decide +kernel)) hM3 (by decide +kernel)
  refine sc_isAtc G hct (by decide) (sx_M_self hM3) E3 (c := 61) (by omega) rfl rd_d_X8_signOf_14 rd_k_X8_signOf_14 (by decide) ?_
  intro r4 σ4 hM4 e4
  have H4 : sx_M z9 hd_C σ 0 0 σ4 := hd_tr (hd_tr H2 hM3 rfl) hM4 rfl
  by_cases h61 : rd_sgf t 61 = 0
  · rw [if_pos h61] at e4
    refine sg_sf2y_run G hct (sx_M_self hM4) q0 (by omega) ?_
    intro r σ5 f5 hM5
    exact kk r σ5 (hd_tr H4 hM5 rfl) (by rw [if_neg h60, if_pos h61]; omega)
  rw [if_neg h61] at e4
  refine sg_sf2n_run G hct (sx_M_self hM4) q0 (by omega) ?_
  intro lw5 c5 σ5 u0 f5 hM5
  have E5 := sc_E0 (sc_E0 E3 hM4 (by decide +kernel)) hM5 (by decide +kernel)
  refine sc_isAtc G hct (by decide) (sx_M_self hM5) E5 (c := 62) (by omega) rfl rd_d_X8_signOf_25 rd_k_X8_signOf_25 (by decide) ?_
  intro r6 σ6 hM6 e6
  have H6 : sx_M z9 hd_C σ 0 0 σ6 := hd_tr (hd_tr H4 hM5 rfl) hM6 rfl
  by_cases h62 : rd_sgf t 62 = 0
  · rw [if_pos h62] at e6
    refine sg_sf3y_run G hct (sx_M_self hM6) u0 (by omega) ?_
    intro r σ7 f7 hM7
    exact kk r σ7 (hd_tr H6 hM7 rfl) (by rw [if_neg h60, if_neg h61, if_pos h62]; omega)
  rw [if_neg h62] at e6
  refine sg_sf3n_run G hct (sx_M_self hM6) u0 (by omega) ?_
  intro r σ7 f7 hM7
  exact kk r σ7 (hd_tr H6 hM7 rfl) (by rw [if_neg h60, if_neg h61, if_neg h62]; omega)
theorem sc_sgr {t : rd_K} : (sc_sg t = -1 ∧ ¬ (t.1 = 3 ∧ 60 ≤ t.2.2.2.2 ∧ t.2.2.2.2 ≤ 62)) ∨ (0 ≤ sc_sg t ∧ sc_sg t ≤ 2 ∧ (t.1 = 3 ∧ 60 ≤ t.2.2.2.2 ∧ t.2.2.2.2 ≤ 62)) := by
  have f : ∀ c, rd_sgf t c = 0 ↔ (t.1 = 3 ∧ t.2.2.2.2 = c) := by
    intro c
    unfold rd_sgf
    by_cases h : t.1 = 3 ∧ t.2.2.2.2 = c
    · rw [if_pos h]; exact ⟨fun _ => h, fun _ => rfl⟩
    · rw [if_neg h]; exact ⟨fun q => absurd q (by decide), fun q => absurd q h⟩
  unfold sc_sg
  by_cases h60 : rd_sgf t 60 = 0
  · have := (f 60).mp h60
    rw [if_pos h60]
    exact Or.inr ⟨by decide, by decide, this.1, by omega, by omega⟩
  rw [if_neg h60]
  by_cases h61 : rd_sgf t 61 = 0
  · have := (f 61).mp h61
    rw [if_pos h61]
    exact Or.inr ⟨by decide, by decide, this.1, by omega, by omega⟩
  rw [if_neg h61]
  by_cases h62 : rd_sgf t 62 = 0
  · have := (f 62).mp h62
    rw [if_pos h62]
    exact Or.inr ⟨by decide, by decide, this.1, by omega, by omega⟩
  rw [if_neg h62]
  refine Or.inl ⟨rfl, fun q => ?_⟩
  have a0 : ¬ t.2.2.2.2 = 60 := fun e => h60 ((f 60).mpr ⟨q.1, e⟩)
  have a1 : ¬ t.2.2.2.2 = 61 := fun e => h61 ((f 61).mpr ⟨q.1, e⟩)
  have a2 : ¬ t.2.2.2.2 = 62 := fun e => h62 ((f 62).mpr ⟨q.1, e⟩)
  omega
theorem sc_cmp (G : sx_G0 g L xs z9 hd_C ex_mt) (hct : rc_ct g) {σ : am_S} (hM : sx_M z9 hd_C σ 0 0 σ) {b : Nat → Nat} {n o : Nat} {t : rd_K} (E : sc_E σ b n o t) {lw : List (Nat × Value)} (hl : (0, Value.ref 65) ∈ lw) (hl1 : (1, Value.ref 3) ∈ lw) {m2 : Int32} (hl2 : (2, Value.int m2) ∈ lw) {post : Option (Option Value) → am_S → Prop}
    (kf : ∀ (r : Int32) (σ' : am_S) (at' : Nat), ((¬ (t.1 = 3 ∧ 60 ≤ t.2.2.2.2 ∧ t.2.2.2.2 ≤ 62) ∧ at' = t.2.1) ∨ ((t.1 = 3 ∧ 60 ≤ t.2.2.2.2 ∧ t.2.2.2.2 ≤ 62) ∧ (sn_nx b n t).1 ≠ 2 ∧ at' = (sn_nx b n t).2.1)) → r.toInt = 0 → sx_M z9 hd_C σ sc_m 0 σ' → (σ'.2.1 3 7).toInt = 1 → (σ'.2.1 3 8).toInt = (at' : Nat) → post (some (some (.int r))) σ')
    (kt : ∀ (r : Int32) (σ' : am_S), (t.1 = 3 ∧ 60 ≤ t.2.2.2.2 ∧ t.2.2.2.2 ≤ 62) → (sn_nx b n t).1 = 2 → r.toInt = 1 → sx_M z9 hd_C σ sc_m 0 σ' → sc_E σ' b n o (sn_nx b n (sn_nx b n t)) → post (some (some (.int r))) σ') : am_K g 25 tX8_readComparison.1 0 0 0 lw [] σ post := by
  refine sg_rk1_run G hct hM hl hl1 hl2 ?_
  intro lw1 y2 σ1 p0 p1 p2 f1 hM1
  have E1 := sc_E0 E hM1 (by decide +kernel)
  refine rd_callS G (T2 := tX8_signOf) rfl rd_d_X8_readComparison_1 rd_k_X8_readComparison_1 rfl rfl (as := [.ref 3]) (st := []) rfl (Nat.le_of_ble_eq_true rfl) rfl (by decide) (d1 := 12) (by decide) (post1 := fun r σ' => ∃ y : Int32, r = some (some (.int y)) ∧ sx_M z9 hd_C σ1 0 0 σ' ∧ y.toInt = sc_sg t) (fun _ h => by obtain ⟨y, h, -⟩ := h; cases h) (sc_signOf G hct (sx_M_self hM1) E1 (by simp [lv_args, Value.category]) (fun r σ' a1 a2 => ⟨r, rfl, a1, a2⟩)) ?_
  intro v σ2 ⟨y, hv, hM2, hy⟩
  cases hv
  have E2 := sc_E0 E1 hM2 (by decide +kernel)
  have H2 : sx_M z9 hd_C σ 0 0 σ2 := hd_tr hM1 hM2 rfl
  have n2 := E2.2.1.2.1
  rcases sc_sgr (t := t) with ⟨s1, s2⟩ | ⟨s1, s2, s3⟩
  · refine sg_rk2n_run G hct (sx_M_self hM2) p0 p1 (by omega) ?_
    intro r σ3 f2 f3 f4 hM3
    exact kf r σ3 t.2.1 (Or.inl ⟨s2, rfl⟩) (by omega) (sx_M_mask (by decide +kernel) (hd_tr (sx_M_mask (m := 402653184) (by decide +kernel) H2) hM3 (by decide +kernel))) (by omega) (by omega)
  · refine sg_rk2_run G hct (sx_M_self hM2) p0 p1 p2 (by omega) ?_
    intro lw3 y3 z3 σ3 q0 q1 q2 q3 f2 f3 hM3
    have E3 := sc_E0 E2 hM3 (by decide +kernel)
    have H3 : sx_M z9 hd_C σ sc_m 0 σ3 := sx_M_mask (by decide +kernel) (hd_tr H2 hM3 rfl)
    refine sc_stc G hct (by decide) (sx_M_self hM3) E3 (Or.inr (Or.inr s3.1)) rfl rd_d_X8_readComparison_17 rd_k_X8_readComparison_17 (by decide) ?_
    intro σ4 hM4 E4
    have H4 := hd_tr H3 hM4 (by decide +kernel)
    refine sg_rk3_run G hct (sx_M_self hM4) q0 q1 q2 q3 ?_
    intro lw5 y5 z5 c5 e5 σ5 u0 u1 u2 u3 f4 f5 f6 f7 hM5
    have E5 := sc_E0 E4 hM5 (by decide +kernel)
    have H5 := hd_tr H4 hM5 (by decide +kernel)
    refine rd_call G (T2 := tX6_seesNumber) rfl rd_d_X8_readComparison_25 rd_k_X8_readComparison_25 rfl (hM5.1 3 (.inl 6) rfl) (as := [.int e5, .int c5]) (st := []) rfl (Nat.le_of_ble_eq_true rfl) rfl (by decide) (d1 := 6) (by decide) (post1 := fun r σ' => ∃ y : Int32, r = some (some (.int y)) ∧ ((rd_tkf (sn_nx b n t) 0 999 ≠ 0 ∧ y.toInt = 0 ∧ sx_M z9 hd_C σ5 rc_m78 0 σ' ∧ (σ'.2.1 3 7).toInt = (rd_tkf (sn_nx b n t) 0 999 : Nat) ∧ (σ'.2.1 3 8).toInt = ((sn_nx b n t).2.1 : Nat)) ∨ (rd_tkf (sn_nx b n t) 0 999 = 0 ∧ y.toInt = 1 ∧ sx_M z9 hd_C σ5 0 0 σ'))) (fun _ h => by obtain ⟨y, h, -⟩ := h; cases h) (rc_sees G hct (sx_M_self hM5) E5.2.1 E5.2.2.1 (lo := 0) (hi := 999) (by simp [lv_args, Value.category]) (m1 := e5) (m2 := c5) (by simp [lv_args, Value.category]) (by simp [lv_args, Value.category]) (by omega) (by omega) (fun r σ' a1 a2 a3 a4 a5 => ⟨r, rfl, Or.inl ⟨a1, a2, a3, a4, a5⟩⟩) (fun r σ' a1 a2 a3 => ⟨r, rfl, Or.inr ⟨a1, a2, a3⟩⟩)) ?_
    intro v6 σ6 ⟨y6, hv6, h6⟩
    cases hv6
    have g5 := E5.2.2.1
    have tk : ((sn_nx b n t).1 = 2 → rd_tkf (sn_nx b n t) 0 999 = 0) ∧ ((sn_nx b n t).1 ≠ 2 → rd_tkf (sn_nx b n t) 0 999 = 1) := by
      unfold rd_tkf
      refine ⟨fun h => ?_, fun h => ?_⟩
      · rw [if_pos h, if_pos ⟨Nat.zero_le _, sc_999 g5 h⟩]
      · rw [if_neg h]
    rcases h6 with ⟨a1, a2, a3, a4, a5⟩ | ⟨a1, a2, a3⟩
    · have ne : (sn_nx b n t).1 ≠ 2 := fun h => a1 (tk.1 h)
      rw [tk.2 ne] at a4
      refine sg_rk4n_run G hct (sx_M_self a3) u0 u1 (by omega) ?_
      intro r σ7 f8 hM7
      have f78 := rc_F78 hM7
      exact kf r σ7 (sn_nx b n t).2.1 (Or.inr ⟨s3, ne, rfl⟩) (by omega) (hd_tr (hd_tr H5 a3 (by decide +kernel)) hM7 (by decide +kernel)) (by rw [f78.1]; exact a4) (by rw [f78.2]; exact a5)
    · have e2 : (sn_nx b n t).1 = 2 := by
        by_cases h : (sn_nx b n t).1 = 2
        · exact h
        · have := tk.2 h; omega
      refine sg_rk4_run G hct (sx_M_self a3) u0 u1 u2 u3 (by omega) ?_
      intro lw7 c7 σ7 w0 w1 hM7
      have E7 := sc_E0 (sc_E0 E5 a3 (by decide +kernel)) hM7 (by decide +kernel)
      have H7 := hd_tr (hd_tr H5 a3 (by decide +kernel)) hM7 (by decide +kernel)
      refine sc_emc G hct (by decide) (sx_M_self hM7) rfl rd_d_X8_readComparison_47 rd_k_X8_readComparison_47 (by decide) ?_
      intro σ8 hM8
      have E8 := sc_E0 E7 hM8 (by decide +kernel)
      have H8 := hd_tr H7 hM8 (by decide +kernel)
      refine sg_rk5_run G hct (sx_M_self hM8) w0 w1 ?_
      intro lw9 σ9 x0 x1 hM9
      have E9 := sc_E0 E8 hM9 (by decide +kernel)
      have H9 := hd_tr H8 hM9 (by decide +kernel)
      refine sc_stc G hct (by decide) (sx_M_self hM9) E9 (Or.inr (Or.inl e2)) rfl rd_d_X8_readComparison_51 rd_k_X8_readComparison_51 (by decide) ?_
      intro σa hMa Ea
      refine sg_rk6_run G hct (sx_M_self hMa) x0 x1 ?_
      intro r σb fb hMb
      exact kt r σb s3 e2 (by omega) (hd_tr (hd_tr H9 hMa (by decide +kernel)) hMb (by decide +kernel)) (sc_E0 Ea hMb (by decide +kernel))
/-! one, and a condition, by how deep it may go yet -/
def sc_P (σ : am_S) (b : Nat → Nat) (n : Nat) (F : List Bool) (o : Nat) (t : rd_K) (A : Bool) (r : Option (Option Value)) (σ' : am_S) : Prop := ∃ y : Int32, r = some (some (.int y)) ∧ sx_M z9 hd_C σ sc_m 0 σ' ∧ ((∃ kd at' : Nat, sn_go b n (.inr (false, F, o, t)) (.inl (.inl (kd, at'))) ∧ y.toInt = 0 ∧ (σ'.2.1 3 7).toInt = (kd : Nat) ∧ (σ'.2.1 3 8).toInt = (at' : Nat)) ∨ (∃ (o' : Nat) (t' : rd_K), sn_go b n (.inr (false, F, o, t)) (.inr (true, F, o', t')) ∧ o < o' ∧ y.toInt = 1 ∧ sc_E σ' b n o' t' ∧ (A = true → ¬ (sn_isk b 8 t' = true ∨ sn_isk b 9 t' = true))))
theorem sc_Pn {σ : am_S} {b : Nat → Nat} {n : Nat} {F : List Bool} {o : Nat} {t : rd_K} {A : Bool} : ∀ σ', ¬ sc_P σ b n F o t A none σ' := fun _ h => by obtain ⟨y, h, -⟩ := h; cases h
def sc_One (g : am_C) (b : Nat → Nat) (n m : Nat) : Prop := ∀ (σ : am_S) (F : List Bool) (o : Nat) (t : rd_K) (D : Int32), sx_M z9 hd_C σ 0 0 σ → sc_E σ b n o t → F.length + m = 8 → D.toInt = ((F.length + 1 : Nat) : Int) → am_K g (30 + 2 * m) tX8_readOne.1 0 0 0 [(0, .ref 65), (1, .ref 3), (2, .int D)] [] σ (sc_P σ b n F o t false)
def sc_Cond (g : am_C) (b : Nat → Nat) (n m : Nat) : Prop := ∀ (σ : am_S) (F : List Bool) (o : Nat) (t : rd_K) (D : Int32), sx_M z9 hd_C σ 0 0 σ → sc_E σ b n o t → (∀ F', F ≠ true :: F') → F.length + m = 8 → D.toInt = ((F.length + 1 : Nat) : Int) → am_K g (31 + 2 * m) tX8_readCond.1 0 0 0 [(0, .ref 65), (1, .ref 3), (2, .int D)] [] σ (sc_P σ b n F o t true)
theorem sc_D1 {D : Int32} {k : Nat} (h : D.toInt = ((k + 1 : Nat) : Int)) (hk : k ≤ 8) : (D + 1).toInt = ((k + 1 + 1 : Nat) : Int) := by
  have e : (1 : Int32).toInt = 1 := rfl
  rw [Int32.toInt_add, h, e, Int.bmod_def]
  have : ((k + 1 : Nat) : Int) + 1 = ((k + 1 + 1 : Nat) : Int) := by omega
  rw [this]
  split <;> omega
theorem sc_readOne (G : sx_G0 g L xs z9 hd_C ex_mt) (hct : rc_ct g) {b : Nat → Nat} {n m : Nat} (hrec : ∀ m', m = m' + 1 → sc_One g b n m' ∧ sc_Cond g b n m') : sc_One g b n m := by
  intro σ F o t D hM E hF hD
  refine kr_aload_n 1 rd_d_X8_readOne_0 rfl ?_
  refine kr_bipush (v := 40) rd_d_X8_readOne_1 rfl ?_
  refine sc_isAtc G hct (by omega) hM E (c := 40) rfl rfl rd_d_X8_readOne_3 rd_k_X8_readOne_3 (by decide) ?_
  intro r σ1 hM1 hr
  have E1 := sc_E0 E hM1 (by decide +kernel)
  refine kr_istore_n (lv' := [(3, .int r), (0, .ref 65), (1, .ref 3), (2, .int D)]) rd_d_X8_readOne_6 (by decide) rfl ?_
  refine kr_aload_n 2 rd_d_X8_readOne_7 rfl ?_
  refine sc_ldcS G rd_d_X8_readOne_8 rd_k_X8_readOne_8 ?_
  refine sc_wnc G hct (by omega) (sx_M_self hM1) E1 rfl rd_d_X8_readOne_10 rd_k_X8_readOne_10 (by decide) ?_
  intro w σ2 hM2 hw
  have E2 := sc_E0 E1 hM2 (by decide +kernel)
  have H20 : sx_M z9 hd_C σ 0 0 σ2 := hd_tr hM1 hM2 rfl
  have H2 : sx_M z9 hd_C σ sc_m 0 σ2 := sx_M_mask (by decide +kernel) H20
  refine kr_istore (lv' := [(4, .int w), (3, .int r), (0, .ref 65), (1, .ref 3), (2, .int D)]) rd_d_X8_readOne_13 (by decide) rfl ?_
  refine kr_iload_n 1 rd_d_X8_readOne_15 rfl ?_
  have l6 := sc_lf6 (b := b) (t := t)
  have i8 : (8 : Int32).toInt = 8 := rfl
  have i20 : (20 : Int32).toInt = 20 := rfl
  have i4 : (4 : Int32).toInt = 4 := rfl
  have im : (-1 : Int32).toInt = -1 := rfl
  have e65 : (σ2.2.1 65 3).toInt = (o : Nat) := E2.2.2.2.1
  have o20 := E2.2.2.2.2.1
  -- 52: one more
  have k52 : (sn_isk b 0 t = true ∨ rd_sgf t 40 = 0 ∨ 0 ≤ sn_lf b t) → ¬ (o = 20 ∨ 8 < F.length + 1) → am_K g (30 + 2 * m) tX8_readOne.1 0 0 52 [(4, .int w), (3, .int r), (0, .ref 65), (1, .ref 3), (2, .int D)] [] σ2 (sc_P σ b n F o t false) := by
    intro hk h4
    obtain ⟨m', rfl⟩ : ∃ m', m = m' + 1 := ⟨m - 1, by omega⟩
    have hrc := hrec m' rfl
    have t13 : t.1 = 1 ∨ t.1 = 2 ∨ t.1 = 3 := by
      rcases hk with h | h | h
      · exact Or.inl (sc_isk1 h)
      · exact Or.inr (Or.inr (sc_sg3 h))
      · exact Or.inl (sc_lf1 h)
    refine kr_aload_n 2 rd_d_X8_readOne_52 rfl ?_
    refine kr_dup rd_d_X8_readOne_53 rfl ?_
    refine kr_getf G.1 (rd_FL rd_k_X8_readOne_54).1 rd_d_X8_readOne_54 (hM2.1 65 (.inl 8) rfl) (v := .int (σ2.2.1 65 3)) (by unfold am_fa; rw [(rd_FL rd_k_X8_readOne_54).2]; rfl) ?_
    refine kr_iconst (v := 1) rd_d_X8_readOne_57 rfl ?_
    refine kr_iadd rd_d_X8_readOne_58 ?_
    have hty := (rd_FPi rd_k_X8_readOne_59).2
    refine kr_putI G.1 (rd_FPi rd_k_X8_readOne_59).1 rd_d_X8_readOne_59 (hM2.1 65 (.inl 8) rfl) (by rw [hty]; rfl) (by rw [hty]; rfl) (by rw [hty]; rfl) ?_
    have hM3 : sx_M z9 hd_C σ2 (Nat.shiftLeft 1 217) 0 (σ2.1, am_up σ2.2.1 65 3 (σ2.2.1 65 3 + 1), σ2.2.2.1, σ2.2.2.2) := hd_up hd_CsOk (sx_M_mask (by decide +kernel) (sx_M_self hM2)) (lo := .negSucc 2147483647) (hi := .ofNat 2147483647) (u := 217) rfl (Int32.le_toInt _) (Int32.toInt_le _) (by decide +kernel) ⟨rfl, rfl⟩ (hd_no (by decide)).1 (hd_no (by decide)).2
    generalize hσ3 : ((σ2.1, am_up σ2.2.1 65 3 (σ2.2.1 65 3 + 1), σ2.2.2.1, σ2.2.2.2) : am_S) = σ3 at hM3 ⊢
    have e3 : (σ3.2.1 65 3).toInt = ((o + 1 : Nat) : Int) := by
      rw [← hσ3]
      show (am_up σ2.2.1 65 3 (σ2.2.1 65 3 + 1) 65 3).toInt = _
      rw [am_up_s]
      have e : (1 : Int32).toInt = 1 := rfl
      rw [Int32.toInt_add, e65, e, Int.bmod_def]
      split <;> omega
    have E3 := sc_E1 E2 hM3 e3 (by omega)
    have H3 := hd_tr H2 hM3 (by decide +kernel)
    refine kr_aload_n 3 rd_d_X8_readOne_62 rfl ?_
    refine sc_stc G hct (by omega) (sx_M_self hM3) E3 t13 rfl rd_d_X8_readOne_63 rd_k_X8_readOne_63 (by decide) ?_
    intro σ4 hM4 E4
    have H4 := hd_tr H3 hM4 (by decide +kernel)
    refine kr_iload_n 1 rd_d_X8_readOne_66 rfl ?_
    by_cases hbr : rd_sgf t 40 = 0
    · rw [if_pos hbr] at hr
      refine kr_if_eq (tgt := 96) rd_d_X8_readOne_67 rfl (fun h => absurd h (sc_b1 (by omega))) (fun _ => ?_)
      have g1 := so_1 (b := b) (n := n) (so_br (F := F) hbr h4)
      refine kr_aload_n 2 rd_d_X8_readOne_70 rfl ?_
      refine kr_aload_n 3 rd_d_X8_readOne_71 rfl ?_
      refine kr_iload_n 4 rd_d_X8_readOne_72 rfl ?_
      refine kr_iconst (v := 1) rd_d_X8_readOne_73 rfl ?_
      refine kr_iadd rd_d_X8_readOne_74 ?_
      refine rd_call G (T2 := tX8_readCond) rfl rd_d_X8_readOne_75 rd_k_X8_readOne_75 rfl (hM4.1 65 (.inl 8) rfl) (as := [.ref 3, .int (D + 1)]) (st := []) rfl (Nat.le_of_ble_eq_true rfl) rfl (by decide) (d1 := 31 + 2 * m') (by omega) sc_Pn (hrc.2 σ4 (false :: F) (o + 1) (sn_nx b n t) (D + 1) (sx_M_self hM4) E4 (fun F' h => by cases h) (by rw [List.length_cons]; omega) (by rw [List.length_cons]; exact sc_D1 hD (by omega))) ?_
      intro v σ5 ⟨y, hv, hM5, hy⟩
      cases hv
      have H5 := hd_tr H4 hM5 (by decide +kernel)
      rcases hy with ⟨kd, at', a1, a2, a3, a4⟩ | ⟨o2, t2, a1, a2, a3, E5, a5⟩
      · refine kr_if_eq (tgt := 94) rd_d_X8_readOne_78 rfl (fun _ => ?_) (fun h => absurd (sc_b0 a2) h)
        refine kr_iconst (v := 0) rd_d_X8_readOne_94 rfl ?_
        exact kr_ireturn rd_d_X8_readOne_95 (ty := .boolean) rfl rfl ⟨0, rfl, H5, Or.inl ⟨kd, at', sn_go_t g1 a1, rfl, a3, a4⟩⟩
      · have a5' := a5 rfl
        have g2 := so_bc (n := n) (F := F) (o := o2) a5'
        refine kr_if_eq (tgt := 94) rd_d_X8_readOne_78 rfl (fun h => absurd h (sc_b1 (by omega))) (fun _ => ?_)
        refine kr_aload_n 3 rd_d_X8_readOne_81 rfl ?_
        refine kr_bipush (v := 41) rd_d_X8_readOne_82 rfl ?_
        refine sc_tsc G hct (by omega) (sx_M_self hM5) E5 (c := 41) rfl rfl rd_d_X8_readOne_84 rd_k_X8_readOne_84 (by decide) ?_ ?_
        · intro r6 σ6 b1 b2 b3 b4 b5
          rw [if_neg b1] at g2
          refine kr_if_eq (tgt := 94) rd_d_X8_readOne_87 rfl (fun _ => ?_) (fun h => absurd (sc_b0 b2) h)
          refine kr_iconst (v := 0) rd_d_X8_readOne_94 rfl ?_
          exact kr_ireturn rd_d_X8_readOne_95 (ty := .boolean) rfl rfl ⟨0, rfl, hd_tr H5 b3 (by decide +kernel), Or.inl ⟨1, t2.2.1, sn_go_t g1 (sn_go_t a1 g2), rfl, b4, b5⟩⟩
        · intro r6 σ6 b1 b2 b3 b4
          rw [if_pos b1] at g2
          refine kr_if_eq (tgt := 94) rd_d_X8_readOne_87 rfl (fun h => absurd h (sc_b1 (by omega))) (fun _ => ?_)
          refine kr_iconst (v := 1) rd_d_X8_readOne_90 rfl ?_
          refine kr_goto (tgt := 95) rd_d_X8_readOne_91 rfl ?_
          exact kr_ireturn rd_d_X8_readOne_95 (ty := .boolean) rfl rfl ⟨1, rfl, hd_tr H5 b3 (by decide +kernel), Or.inr ⟨o2, sn_nx b n t2, sn_go_t g1 (sn_go_t a1 g2), by omega, rfl, b4, fun h => by cases h⟩⟩
    · rw [if_neg hbr] at hr
      refine kr_if_eq (tgt := 96) rd_d_X8_readOne_67 rfl (fun _ => ?_) (fun h => absurd (sc_b0 hr) h)
      refine kr_iload 0 rd_d_X8_readOne_96 rfl ?_
      by_cases h0 : sn_isk b 0 t = true
      · have w0 : w.toInt = 0 := hw.trans (sc_wh0 h0)
        refine kr_if_ne (tgt := 121) rd_d_X8_readOne_98 rfl (fun h => absurd (sc_b0 w0) h) (fun _ => ?_)
        have g1 := so_1 (b := b) (n := n) (so_nt (F := F) h0 h4)
        refine kr_aload_n 2 rd_d_X8_readOne_101 rfl ?_
        refine kr_aload_n 3 rd_d_X8_readOne_102 rfl ?_
        refine kr_iload_n 4 rd_d_X8_readOne_103 rfl ?_
        refine kr_iconst (v := 1) rd_d_X8_readOne_104 rfl ?_
        refine kr_iadd rd_d_X8_readOne_105 ?_
        refine rd_call G (T2 := tX8_readOne) rfl rd_d_X8_readOne_106 rd_k_X8_readOne_106 rfl (hM4.1 65 (.inl 8) rfl) (as := [.ref 3, .int (D + 1)]) (st := []) rfl (Nat.le_of_ble_eq_true rfl) rfl (by decide) (d1 := 30 + 2 * m') (by omega) sc_Pn (hrc.1 σ4 (true :: F) (o + 1) (sn_nx b n t) (D + 1) (sx_M_self hM4) E4 (by rw [List.length_cons]; omega) (by rw [List.length_cons]; exact sc_D1 hD (by omega))) ?_
        intro v σ5 ⟨y, hv, hM5, hy⟩
        cases hv
        have H5 := hd_tr H4 hM5 (by decide +kernel)
        rcases hy with ⟨kd, at', a1, a2, a3, a4⟩ | ⟨o2, t2, a1, a2, a3, E5, -⟩
        · refine kr_if_ne (tgt := 114) rd_d_X8_readOne_109 rfl (fun h => absurd (sc_b0 a2) h) (fun _ => ?_)
          refine kr_iconst (v := 0) rd_d_X8_readOne_112 rfl ?_
          exact kr_ireturn rd_d_X8_readOne_113 (ty := .boolean) rfl rfl ⟨0, rfl, H5, Or.inl ⟨kd, at', sn_go_t g1 a1, rfl, a3, a4⟩⟩
        · refine kr_if_ne (tgt := 114) rd_d_X8_readOne_109 rfl (fun _ => ?_) (fun h => absurd h (sc_b1 (by omega)))
          refine kr_aload_n 2 rd_d_X8_readOne_114 rfl ?_
          refine kr_iconst (v := 0) rd_d_X8_readOne_115 rfl ?_
          refine sc_emc G hct (by omega) (sx_M_self hM5) rfl rd_d_X8_readOne_116 rd_k_X8_readOne_116 (by decide) ?_
          intro σ6 hM6
          refine kr_iconst (v := 1) rd_d_X8_readOne_119 rfl ?_
          exact kr_ireturn rd_d_X8_readOne_120 (ty := .boolean) rfl rfl ⟨1, rfl, hd_tr H5 hM6 (by decide +kernel), Or.inr ⟨o2, t2, sn_go_t g1 (sn_go_t a1 so_bt), by omega, rfl, sc_E0 E5 hM6 (by decide +kernel), fun h => by cases h⟩⟩
      · have hlf : 0 ≤ sn_lf b t := by
          rcases hk with h | h | h
          · exact absurd h h0
          · exact absurd h hbr
          · exact h
        have hw1 : w.toInt = sn_lf b t + 1 := by rw [hw, sc_wh1 h0, if_pos hlf]
        have g1 := so_1 (b := b) (n := n) (so_lf (F := F) h0 hlf h4)
        refine kr_if_ne (tgt := 121) rd_d_X8_readOne_98 rfl (fun _ => ?_) (fun h => absurd h (sc_b1 (by omega)))
        refine kr_iload 0 rd_d_X8_readOne_121 rfl ?_
        refine kr_iconst (v := 4) rd_d_X8_readOne_123 rfl ?_
        by_cases h3 : sn_lf b t < 3
        · rw [if_pos h3] at g1
          refine kr_icmp_lt (tgt := 135) rd_d_X8_readOne_124 rfl (fun _ => ?_) (fun h => absurd (Int32.lt_iff_toInt_lt.mpr (by omega)) h)
          refine kr_aload_n 2 rd_d_X8_readOne_135 rfl ?_
          refine kr_iload 0 rd_d_X8_readOne_136 rfl ?_
          refine sc_emc G hct (by omega) (sx_M_self hM4) rfl rd_d_X8_readOne_138 rd_k_X8_readOne_138 (by decide) ?_
          intro σ6 hM6
          refine kr_iconst (v := 1) rd_d_X8_readOne_141 rfl ?_
          exact kr_ireturn rd_d_X8_readOne_142 (ty := .boolean) rfl rfl ⟨1, rfl, hd_tr H4 hM6 (by decide +kernel), Or.inr ⟨o + 1, sn_nx b n t, g1, by omega, rfl, sc_E0 E4 hM6 (by decide +kernel), fun h => by cases h⟩⟩
        · rw [if_neg h3] at g1
          refine kr_icmp_lt (tgt := 135) rd_d_X8_readOne_124 rfl (fun h => absurd (Int32.lt_iff_toInt_lt.mp h) (by omega)) (fun _ => ?_)
          refine kr_aload_n 2 rd_d_X8_readOne_127 rfl ?_
          refine kr_aload_n 3 rd_d_X8_readOne_128 rfl ?_
          refine kr_iload 0 rd_d_X8_readOne_129 rfl ?_
          refine rd_call G (T2 := tX8_readComparison) rfl rd_d_X8_readOne_131 rd_k_X8_readOne_131 rfl (hM4.1 65 (.inl 8) rfl) (as := [.ref 3, .int w]) (st := []) rfl (Nat.le_of_ble_eq_true rfl) rfl (by decide) (d1 := 25) (by omega) (post1 := fun r σ' => ∃ y : Int32, r = some (some (.int y)) ∧ sx_M z9 hd_C σ4 sc_m 0 σ' ∧ ((∃ at' : Nat, ((¬ ((sn_nx b n t).1 = 3 ∧ 60 ≤ (sn_nx b n t).2.2.2.2 ∧ (sn_nx b n t).2.2.2.2 ≤ 62) ∧ at' = (sn_nx b n t).2.1) ∨ (((sn_nx b n t).1 = 3 ∧ 60 ≤ (sn_nx b n t).2.2.2.2 ∧ (sn_nx b n t).2.2.2.2 ≤ 62) ∧ (sn_nx b n (sn_nx b n t)).1 ≠ 2 ∧ at' = (sn_nx b n (sn_nx b n t)).2.1)) ∧ y.toInt = 0 ∧ (σ'.2.1 3 7).toInt = 1 ∧ (σ'.2.1 3 8).toInt = (at' : Nat)) ∨ (((sn_nx b n t).1 = 3 ∧ 60 ≤ (sn_nx b n t).2.2.2.2 ∧ (sn_nx b n t).2.2.2.2 ≤ 62) ∧ (sn_nx b n (sn_nx b n t)).1 = 2 ∧ y.toInt = 1 ∧ sc_E σ' b n (o + 1) (sn_nx b n (sn_nx b n (sn_nx b n t)))))) (fun _ h => by obtain ⟨y, h, -⟩ := h; cases h) (sc_cmp G hct (sx_M_self hM4) E4 (by simp [lv_args, Value.category]) (by simp [lv_args, Value.category]) (m2 := w) (by simp [lv_args, Value.category]) (fun r σ' at' a1 a2 a3 a4 a5 => ⟨r, rfl, a3, Or.inl ⟨at', a1, a2, a4, a5⟩⟩) (fun r σ' a1 a2 a3 a4 a5 => ⟨r, rfl, a4, Or.inr ⟨a1, a2, a3, a5⟩⟩)) ?_
          intro v σ5 ⟨y, hv, hM5, hy⟩
          cases hv
          have H5 := hd_tr H4 hM5 (by decide +kernel)
          rcases hy with ⟨at', a1, a2, a3, a4⟩ | ⟨a1, a2, a3, E5⟩
          · rw [sc_b0 a2]
            refine kr_ireturn rd_d_X8_readOne_134 (ty := .boolean) rfl rfl ⟨0, rfl, H5, Or.inl ⟨1, at', ?_, rfl, a3, a4⟩⟩
            rcases a1 with ⟨c1, rfl⟩ | ⟨c1, c2, rfl⟩
            · rw [if_neg c1] at g1
              exact g1
            · rw [if_pos c1, if_neg c2] at g1
              exact g1
          · rw [sc_bI a3]
            rw [if_pos a1, if_pos a2] at g1
            exact kr_ireturn rd_d_X8_readOne_134 (ty := .boolean) rfl rfl ⟨1, rfl, H5, Or.inr ⟨o + 1, _, g1, by omega, rfl, E5, fun h => by cases h⟩⟩
  -- 46: one too many
  have k46 : (sn_isk b 0 t = true ∨ rd_sgf t 40 = 0 ∨ 0 ≤ sn_lf b t) → (o = 20 ∨ 8 < F.length + 1) → am_K g (30 + 2 * m) tX8_readOne.1 0 0 46 [(4, .int w), (3, .int r), (0, .ref 65), (1, .ref 3), (2, .int D)] [] σ2 (sc_P σ b n F o t false) := by
    intro hk h4
    refine kr_aload_n 3 rd_d_X8_readOne_46 rfl ?_
    refine kr_iconst (v := 4) rd_d_X8_readOne_47 rfl ?_
    refine sc_refc G hct (by omega) (sx_M_self hM2) E2 (c := 4) rfl rfl rd_d_X8_readOne_48 rd_k_X8_readOne_48 (by decide) ?_
    intro σ3 hM3 e7 e8
    exact kr_ireturn rd_d_X8_readOne_51 (ty := .boolean) rfl rfl ⟨0, rfl, hd_tr H2 hM3 (by decide +kernel), Or.inl ⟨4, t.2.1, so_1 (so_f4 hk h4), rfl, e7, e8⟩⟩
  have k31 : (sn_isk b 0 t = true ∨ rd_sgf t 40 = 0 ∨ 0 ≤ sn_lf b t) → am_K g (30 + 2 * m) tX8_readOne.1 0 0 31 [(4, .int w), (3, .int r), (0, .ref 65), (1, .ref 3), (2, .int D)] [] σ2 (sc_P σ b n F o t false) := by
    intro hk
    refine kr_aload_n 2 rd_d_X8_readOne_31 rfl ?_
    refine kr_getf G.1 (rd_FL rd_k_X8_readOne_32).1 rd_d_X8_readOne_32 (hM2.1 65 (.inl 8) rfl) (v := .int (σ2.2.1 65 3)) (by unfold am_fa; rw [(rd_FL rd_k_X8_readOne_32).2]; rfl) ?_
    refine kr_bipush (v := 20) rd_d_X8_readOne_35 rfl ?_
    refine kr_icmp_ge (tgt := 46) rd_d_X8_readOne_37 rfl (fun h => ?_) (fun h => ?_)
    · have := Int32.le_iff_toInt_le.mp h
      exact k46 hk (Or.inl (by omega))
    · have h' : ¬ 20 ≤ (σ2.2.1 65 3).toInt := fun q => h (Int32.le_iff_toInt_le.mpr (by rw [i20]; exact q))
      refine kr_iload_n 4 rd_d_X8_readOne_40 rfl ?_
      refine kr_bipush (v := 8) rd_d_X8_readOne_41 rfl ?_
      refine kr_icmp_le (tgt := 52) rd_d_X8_readOne_43 rfl (fun h8 => ?_) (fun h8 => ?_)
      · have := Int32.le_iff_toInt_le.mp h8
        exact k52 hk (by omega)
      · have h8' : ¬ D.toInt ≤ 8 := fun q => h8 (Int32.le_iff_toInt_le.mpr (by rw [i8]; exact q))
        exact k46 hk (Or.inr (by omega))
  by_cases hbr : rd_sgf t 40 = 0
  · rw [if_pos hbr] at hr
    exact kr_if_ne (tgt := 31) rd_d_X8_readOne_16 rfl (fun _ => k31 (Or.inr (Or.inl hbr))) (fun h => absurd h (sc_b1 (by omega)))
  · rw [if_neg hbr] at hr
    refine kr_if_ne (tgt := 31) rd_d_X8_readOne_16 rfl (fun h => absurd (sc_b0 hr) h) (fun _ => ?_)
    refine kr_iload 0 rd_d_X8_readOne_19 rfl ?_
    refine kr_iconst (v := -1) rd_d_X8_readOne_21 rfl ?_
    by_cases h0 : sn_isk b 0 t = true
    · have w0 := hw.trans (sc_wh0 h0)
      exact kr_icmp_ne (tgt := 31) rd_d_X8_readOne_22 rfl (fun _ => k31 (Or.inl h0)) (fun h => absurd (congrArg Int32.toInt h) (by rw [w0, im]; decide))
    · have w1 := hw.trans (sc_wh1 h0)
      by_cases hlf : 0 ≤ sn_lf b t
      · rw [if_pos hlf] at w1
        exact kr_icmp_ne (tgt := 31) rd_d_X8_readOne_22 rfl (fun _ => k31 (Or.inr (Or.inr hlf))) (fun h => absurd (congrArg Int32.toInt h) (by rw [w1, im]; omega))
      · rw [if_neg hlf] at w1
        refine kr_icmp_ne (tgt := 31) rd_d_X8_readOne_22 rfl (fun h => absurd (Int32.toInt_inj.mp (w1.trans im.symm)) h) (fun _ => ?_)
        have hno : ¬ (sn_isk b 0 t = true ∨ rd_sgf t 40 = 0 ∨ 0 ≤ sn_lf b t) := fun q => by
          rcases q with q | q | q
          · exact h0 q
          · exact hbr q
          · exact hlf q
        refine kr_aload_n 3 rd_d_X8_readOne_25 rfl ?_
        refine kr_iconst (v := 1) rd_d_X8_readOne_26 rfl ?_
        refine sc_refc G hct (by omega) (sx_M_self hM2) E2 (c := 1) rfl rfl rd_d_X8_readOne_27 rd_k_X8_readOne_27 (by decide) ?_
        intro σ3 hM3 e7 e8
        exact kr_ireturn rd_d_X8_readOne_30 (ty := .boolean) rfl rfl ⟨0, rfl, hd_tr H2 hM3 (by decide +kernel), Or.inl ⟨1, t.2.1, so_1 (so_f1 hno), rfl, e7, e8⟩⟩
end SCA
