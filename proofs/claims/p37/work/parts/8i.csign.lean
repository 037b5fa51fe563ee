/-! the reader of the class: signs and numbers -/
theorem rd_tok_s {b : Nat → Nat} {n most p : Nat} (hp : p ≤ n) : ((rd_tok b n most p).1 = 3 → (rd_tok b n most p).2.2.2.2 = b (rd_tok b n most p).2.1 ∧ (rd_tok b n most p).2.1 < n) ∧ ((rd_tok b n most p).1 = 1 → (rd_tok b n most p).2.1 + (rd_tok b n most p).2.2.1 ≤ n) := by
  have et : rd_tok b n most p = rd_tk1 b n most (rd_sk b n (n - p) p) := rfl
  have hs2 := (rd_sk_in (b := b) (n := n) (f := n - p) (p := p)).2 hp
  rw [et]
  generalize rd_sk b n (n - p) p = s at hs2 ⊢
  unfold rd_tk1
  split
  · exact ⟨fun h => (by cases h), fun h => (by cases h)⟩
  · split
    · exact ⟨fun h => (by cases h), fun h => (by cases h)⟩
    · split
      · rename_i h1 h2 h3
        have i2 := (rd_rn_in (b := b) (n := n) (f := n - s) (p := s)).2 hs2
        have i1 := (rd_rn_in (b := b) (n := n) (f := n - s) (p := s)).1
        generalize rd_rn b n (n - s) s = e at i1 i2 ⊢
        refine ⟨fun h => ?_, fun h => ?_⟩
        · have h' : (if rd_all rd_ltr b (e - s) s = true ∧ e - s ≤ 7 then 1 else if rd_all rd_dgt b (e - s) s = true ∧ e - s ≤ 3 then 2 else 4) = 3 := h
          split at h'
          · cases h'
          · split at h' <;> cases h'
        · show s + (e - s) ≤ n
          omega
      · rename_i h1 h2 h3
        exact ⟨fun _ => ⟨rfl, (by show s < n; omega)⟩, fun h => (by have h' : (if rd_sgn (b s) = true then 3 else 4 : Nat) = 1 := h; split at h' <;> cases h')⟩
theorem rd_gd_s {b : Nat → Nat} {n most : Nat} {t : rd_K} (h : rd_gd b n most t) : (t.1 = 3 → t.2.2.2.2 = b t.2.1 ∧ t.2.1 < n) ∧ (t.1 = 1 → t.2.1 + t.2.2.1 ≤ n) := by
  obtain ⟨p, hp, rfl⟩ := h
  exact rd_tok_s hp
theorem rd_tk1_le {b : Nat → Nat} {n most s : Nat} : (rd_tk1 b n most s).1 ≤ 4 := by
  unfold rd_tk1
  split
  · exact Nat.le_refl _
  · split
    · exact Nat.zero_le _
    · split
      · show (if rd_all rd_ltr b (rd_rn b n (n - s) s - s) s = true ∧ rd_rn b n (n - s) s - s ≤ 7 then 1 else if rd_all rd_dgt b (rd_rn b n (n - s) s - s) s = true ∧ rd_rn b n (n - s) s - s ≤ 3 then 2 else 4) ≤ 4
        split
        · decide
        · split <;> decide
      · show (if rd_sgn (b s) = true then 3 else 4 : Nat) ≤ 4
        split <;> decide
theorem rd_gd_4 {b : Nat → Nat} {n most : Nat} {t : rd_K} (h : rd_gd b n most t) : t.1 ≤ 4 := by
  obtain ⟨p, hp, rfl⟩ := h
  exact rd_tk1_le (s := rd_sk b n (n - p) p)
theorem rc_kd5 {k : Nat} (h : k ≤ 4) : rc_kd k ≤ 4 ∧ (rc_kd k = 4 ↔ k = 3) ∧ (rc_kd k = 3 ↔ k = 2) ∧ (rc_kd k = 0 ↔ k = 0) ∧ (rc_kd k = 2 ↔ k = 1) := by
  have h5 : k = 0 ∨ k = 1 ∨ k = 2 ∨ k = 3 ∨ k = 4 := by omega
  rcases h5 with rfl | rfl | rfl | rfl | rfl <;> decide
theorem rc_N0 {σ σ' : am_S} {t : rd_K} {m : Nat} (N : rc_N σ t) (h : sx_M z9 hd_C σ m 0 σ') (h2 : sx_bit m 22 = false) (h3 : sx_bit m 23 = false) (h4 : sx_bit m 24 = false) (h5 : sx_bit m 25 = false) (h6 : sx_bit m 26 = false) : rc_N σ' t := by
  unfold rc_N at N ⊢
  rw [h.2.2.2.2.1 3 3 _ _ 23 rfl h3, h.2.2.2.2.1 3 4 _ _ 24 rfl h4, h.2.2.2.2.1 3 2 _ _ 22 rfl h2, h.2.2.2.2.1 3 5 _ _ 25 rfl h5, h.2.2.2.2.1 3 6 _ _ 26 rfl h6]
  exact N
section CI
variable {g : am_C} {L : Nat} {xs : Nat → Int32}
theorem rc_isAt (G : sx_G0 g L xs z9 hd_C ex_mt) (hct : rc_ct g) {σ : am_S} (hM : sx_M z9 hd_C σ 0 0 σ) {b : Nat → Nat} {n most : Nat} {t : rd_K} (X : rc_X σ b n most) (N : rc_N σ t) (hg : rd_gd b n most t) {c : Nat} {lw : List (Nat × Value)} (hl : (0, Value.ref 3) ∈ lw) {m1 : Int32} (hl1 : (1, Value.int m1) ∈ lw) (h1 : m1.toInt = c) {post : Option (Option Value) → am_S → Prop} (kk : ∀ (r : Int32) (σ' : am_S), sx_M z9 hd_C σ 0 0 σ' → r.toInt = (if rd_sgf t c = 0 then 1 else 0) → post (some (some (.int r))) σ') : am_K g 6 tX6_isAt.1 0 0 0 lw [] σ post := by
  have n1 := N.1
  have n2 := N.2.1
  have k5 := rc_kd5 (rd_gd_4 hg)
  by_cases t3 : t.1 = 3
  · have hs := (rd_gd_s hg).1 t3
    have e4 := k5.2.1.mpr t3
    refine sg_ia1c_run G hct hM hl hl1 (by omega) ?_
    intro lw1 y1 n0 σ1 p0 p1 c1 c2 hM1
    have X1 := rc_Xm X hM1 (sx_bit0 _) (sx_bit0 _) (sx_bit0 _)
    refine rc_bac G hct (d := 6) (by decide) (sx_M_self hM1) X1 (p := t.2.1) (by omega) hs.2 rfl rd_d_X6_isAt_16 rd_k_X6_isAt_16 (by decide) ?_
    intro r σ2 hM2 hr
    have i1 := Int32.toInt_lt y1
    have i2 := rc_bX X hs.2
    have hM12 : sx_M z9 hd_C σ 0 0 σ2 := hd_tr hM1 hM2 rfl
    have yes : b t.2.1 = c → rd_sgf t c = 0 := fun h => by unfold rd_sgf; rw [if_pos ⟨t3, by rw [hs.1]; exact h⟩]
    have no : b t.2.1 ≠ c → ¬ rd_sgf t c = 0 := fun h => by unfold rd_sgf; rw [if_neg (fun q => h (by rw [← hs.1]; exact q.2))]; decide
    rcases Nat.lt_trichotomy (b t.2.1) c with h | h | h
    · refine sg_ia2a_run G hct (sx_M_self hM2) p0 p1 (by omega) ?_
      intro r3 σ3 c3 hM3
      exact kk r3 σ3 (hd_tr hM12 hM3 rfl) (by rw [if_neg (no (by omega))]; omega)
    · refine sg_ia2b_run G hct (sx_M_self hM2) p0 p1 (by omega) ?_
      intro r3 σ3 c3 hM3
      exact kk r3 σ3 (hd_tr hM12 hM3 rfl) (by rw [if_pos (yes h)]; omega)
    · refine sg_ia2c_run G hct (sx_M_self hM2) p0 p1 (by omega) ?_
      intro r3 σ3 c3 hM3
      exact kk r3 σ3 (hd_tr hM12 hM3 rfl) (by rw [if_neg (no (by omega))]; omega)
  · have no : ¬ rd_sgf t c = 0 := by unfold rd_sgf; rw [if_neg (fun q => t3 q.1)]; decide
    have ne : rc_kd t.1 ≠ 4 := fun h => t3 (k5.2.1.mp h)
    refine sg_ia1a_run G hct hM hl hl1 (by have := k5.1; omega) ?_
    intro r3 σ3 c3 hM3
    exact kk r3 σ3 hM3 (by rw [if_neg no]; omega)
def rc_m78 : Nat := Nat.shiftLeft 3 27
theorem rc_takesSign (G : sx_G0 g L xs z9 hd_C ex_mt) (hct : rc_ct g) {σ : am_S} (hM : sx_M z9 hd_C σ 0 0 σ) {b : Nat → Nat} {n most : Nat} {t : rd_K} (X : rc_X σ b n most) (N : rc_N σ t) (hg : rd_gd b n most t) {c : Nat} {lw : List (Nat × Value)} (hl : (0, Value.ref 3) ∈ lw) {m1 : Int32} (hl1 : (1, Value.int m1) ∈ lw) (h1 : m1.toInt = c) {post : Option (Option Value) → am_S → Prop}
    (kf : ∀ (r : Int32) σ', rd_sgf t c ≠ 0 → r.toInt = 0 → sx_M z9 hd_C σ rc_m78 0 σ' → (σ'.2.1 3 7).toInt = 1 → (σ'.2.1 3 8).toInt = (t.2.1 : Nat) → post (some (some (.int r))) σ')
    (kt : ∀ (r : Int32) σ', rd_sgf t c = 0 → r.toInt = 1 → sx_M z9 hd_C σ rc_mN 0 σ' → rc_N σ' (rd_tok b n most t.2.2.2.1) → post (some (some (.int r))) σ') : am_K g 20 tX6_takesSign.1 0 0 0 lw [] σ post := by
  have n2 := N.2.1
  refine sg_ts1_run G hct hM hl hl1 ?_
  intro lw1 n0 σ1 p0 c1 hM1
  have X1 := rc_Xm X hM1 (sx_bit0 _) (sx_bit0 _) (sx_bit0 _)
  have N1 := rc_N0 N hM1 (sx_bit0 _) (sx_bit0 _) (sx_bit0 _) (sx_bit0 _) (sx_bit0 _)
  refine rd_call G (T2 := tX6_isAt) rfl rd_d_X6_takesSign_2 rd_k_X6_takesSign_2 rfl (hM1.1 3 (.inl 6) rfl) (as := [.int n0]) (st := []) rfl (Nat.le_of_ble_eq_true rfl) rfl (by decide) (d1 := 6) (by decide) (post1 := fun r σ' => ∃ y : Int32, r = some (some (.int y)) ∧ sx_M z9 hd_C σ1 0 0 σ' ∧ y.toInt = (if rd_sgf t c = 0 then 1 else 0)) (fun _ h => by obtain ⟨y, h, -⟩ := h; cases h) (rc_isAt G hct (sx_M_self hM1) X1 N1 hg (c := c) (by simp [lv_args, Value.category]) (m1 := n0) (by simp [lv_args, Value.category]) (by omega) (fun r σ' a1 a2 => ⟨r, rfl, a1, a2⟩)) ?_
  intro v σ2 ⟨y, hv, hM2, hy⟩
  cases hv
  have hM12 : sx_M z9 hd_C σ 0 0 σ2 := hd_tr hM1 hM2 rfl
  have X2 := rc_Xm X1 hM2 (sx_bit0 _) (sx_bit0 _) (sx_bit0 _)
  have N2 := rc_N0 N1 hM2 (sx_bit0 _) (sx_bit0 _) (sx_bit0 _) (sx_bit0 _) (sx_bit0 _)
  have n22 := N2.2.1
  by_cases hs : rd_sgf t c = 0
  · rw [if_pos hs] at hy
    have t3 : t.1 = 3 := by
      unfold rd_sgf at hs
      split at hs
      · rename_i q; exact q.1
      · cases hs
    refine sg_ts2b_run G hct (sx_M_self hM2) p0 (by omega) ?_
    intro lw3 σ3 p3 hM3
    have X3 := rc_Xm X2 hM3 (sx_bit0 _) (sx_bit0 _) (sx_bit0 _)
    have N3 := rc_N0 N2 hM3 (sx_bit0 _) (sx_bit0 _) (sx_bit0 _) (sx_bit0 _) (sx_bit0 _)
    refine rc_stc G hct (d := 20) (by decide) (sx_M_self hM3) X3 (N3.2.2.1 (Or.inr (Or.inr t3))) rfl rd_d_X6_takesSign_15 rd_k_X6_takesSign_15 (by decide) ?_
    intro σ4 hM4 N4
    refine sg_ts3_run G hct (sx_M_self hM4) p3 ?_
    intro r σ5 c5 hM5
    exact kt r σ5 hs (by omega) (hd_tr (hd_tr (sx_M_mask (by decide +kernel) (hd_tr hM12 hM3 rfl)) hM4 (by decide +kernel)) hM5 (by decide +kernel)) (rc_N0 N4 hM5 (sx_bit0 _) (sx_bit0 _) (sx_bit0 _) (sx_bit0 _) (sx_bit0 _))
  · rw [if_neg hs] at hy
    refine sg_ts2a_run G hct (sx_M_self hM2) p0 (by omega) ?_
    intro r σ3 c3 c4 c5 hM3
    exact kf r σ3 hs (by omega) (hd_tr (sx_M_mask (by decide +kernel) hM12) hM3 (by decide +kernel)) (by omega) (by omega)
theorem rc_sees (G : sx_G0 g L xs z9 hd_C ex_mt) (hct : rc_ct g) {σ : am_S} (hM : sx_M z9 hd_C σ 0 0 σ) {b : Nat → Nat} {n most : Nat} {t : rd_K} (N : rc_N σ t) (hg : rd_gd b n most t) {lo hi : Nat} {lw : List (Nat × Value)} (hl : (0, Value.ref 3) ∈ lw) {m1 m2 : Int32} (hl1 : (1, Value.int m1) ∈ lw) (hl2 : (2, Value.int m2) ∈ lw) (h1 : m1.toInt = lo) (h2 : m2.toInt = hi) {post : Option (Option Value) → am_S → Prop}
    (kf : ∀ (r : Int32) σ', rd_tkf t lo hi ≠ 0 → r.toInt = 0 → sx_M z9 hd_C σ rc_m78 0 σ' → (σ'.2.1 3 7).toInt = (rd_tkf t lo hi : Nat) → (σ'.2.1 3 8).toInt = (t.2.1 : Nat) → post (some (some (.int r))) σ')
    (kt : ∀ (r : Int32) σ', rd_tkf t lo hi = 0 → r.toInt = 1 → sx_M z9 hd_C σ 0 0 σ' → post (some (some (.int r))) σ') : am_K g 6 tX6_seesNumber.1 0 0 0 lw [] σ post := by
  have n1 := N.1
  have n2 := N.2.1
  have k5 := rc_kd5 (rd_gd_4 hg)
  by_cases t2 : t.1 = 2
  · have e3 := k5.2.2.1.mpr t2
    have n6 := N.2.2.2.2 t2
    have bad : ¬ (lo ≤ t.2.2.2.2 ∧ t.2.2.2.2 ≤ hi) → rd_tkf t lo hi = 2 := fun h => by unfold rd_tkf; rw [if_pos t2, if_neg h]
    refine sg_se1c_run G hct hM hl hl1 hl2 (by omega) ?_ ?_ ?_
    · intro r σ' c1 c2 c3 hM'
      exact kt r σ' (by unfold rd_tkf; rw [if_pos t2, if_pos (by omega)]) (by omega) hM'
    · intro r σ' c1 c2 c3 c4 hM'
      have e := bad (by omega)
      exact kf r σ' (by omega) (by omega) hM' (by rw [e]; show _ = (2 : Int); omega) (by omega)
    · intro r σ' c1 c2 c3 c4 hM'
      have e := bad (by omega)
      exact kf r σ' (by omega) (by omega) hM' (by rw [e]; show _ = (2 : Int); omega) (by omega)
  · have e : rd_tkf t lo hi = 1 := by unfold rd_tkf; rw [if_neg t2]
    have ne : rc_kd t.1 ≠ 3 := fun h => t2 (k5.2.2.1.mp h)
    have k4 := k5.1
    by_cases h : rc_kd t.1 ≤ 2
    · refine sg_se1a_run G hct hM hl hl1 hl2 (by omega) ?_
      intro r σ' c1 c2 c3 hM'
      exact kf r σ' (by omega) (by omega) hM' (by rw [e]; show _ = (1 : Int); omega) (by omega)
    · refine sg_se1b_run G hct hM hl hl1 hl2 (by omega) ?_
      intro r σ' c1 c2 c3 hM'
      exact kf r σ' (by omega) (by omega) hM' (by rw [e]; show _ = (1 : Int); omega) (by omega)
end CI
