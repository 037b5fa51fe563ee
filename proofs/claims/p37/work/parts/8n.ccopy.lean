/-! the class: rows copied; the draft cleared; all lines; the STATION -/
theorem rc_a5 : ∀ r, r < 7 → ∀ k, k < rc_ln r → (match sx_atl (z9.1 (5 + r)) k, sx_atl (z9.1 (13 + r)) k with | some (lo, hi, u), some (lo', hi', _) => u == 40 + r && (decide (lo ≤ lo') && decide (hi' ≤ hi)) | _, _ => false) = true := by decide +kernel
theorem rc_u5 {r k : Nat} (hr : r < 7) (hk : k < rc_ln r) : ∃ lo hi lo' hi', sx_atl (z9.1 (5 + r)) k = some (lo, hi, 40 + r) ∧ sx_atl (z9.1 (13 + r)) k = some (lo', hi', 58 + r) ∧ lo ≤ lo' ∧ hi' ≤ hi := by
  have h := rc_a5 r hr k hk
  obtain ⟨lo', hi', e'⟩ := rc_u13 hr hk
  rw [e'] at h
  split at h
  · rename_i lo hi u lo2 hi2 u2 e e2
    cases e2
    rw [Bool.and_eq_true, Bool.and_eq_true, beq_iff_eq, decide_eq_true_eq, decide_eq_true_eq] at h
    rw [h.1] at e
    exact ⟨lo, hi, lo', hi', e, e', h.2.1, h.2.2⟩
  · cases h
theorem rc_mo5 : ∀ r, r < 7 → (z9.2.1 (5 + r)).1 = 0 ∧ (z9.2.1 (5 + r)).2.1 = 0 := by decide +kernel
theorem rc_cl5 : ∀ c ∈ z9.2.2.2.2.1, ∀ r, r < 7 → c.2.1 ≠ 5 + r := by decide +kernel
theorem rc_cu5 : ∀ c ∈ z9.2.2.2.2.2.1, ∀ r, r < 7 → c.2.1 ≠ 5 + r := by decide +kernel
def rc_m5 (r : Nat) : Nat := Nat.shiftLeft 1 (40 + r)
theorem rc_m5b : ∀ r, r < 7 → sx_bit (rc_m5 r) (40 + r) = true ∧ (∀ r', r' < 7 → r' ≠ r → sx_bit (rc_m5 r) (40 + r') = false) ∧ (∀ r', r' < 7 → sx_bit (rc_m5 r) (58 + r') = false) ∧ sx_bit (rc_m5 r) 54 = false ∧ sx_bit (rc_m5 r) 55 = false ∧ sx_bit (rc_m5 r) 56 = false ∧ sx_bit (rc_m5 r) 57 = false := by decide +kernel
section CN
variable {g : am_C} {L : Nat} {xs : Nat → Int32}
theorem rc_Mup5 (G : sx_G0 g L xs z9 hd_C ex_mt) {σe σ : am_S} {r k : Nat} (hM : sx_M z9 hd_C σe (rc_m5 r) 0 σ) (hr : r < 7) (hk : k < rc_ln r) : sx_M z9 hd_C σe (rc_m5 r) 0 (σ.1, am_up σ.2.1 (5 + r) k (σ.2.1 (13 + r) k), σ.2.2.1, σ.2.2.2) := by
  refine sx_M_up G.2.2.2.2.2.1 hM (fun lo hi' u e => ?_) ⟨fun h => absurd (rc_mo5 r hr).1 h, fun h => absurd (rc_mo5 r hr).2 h⟩ (fun _ h => h) (fun _ h => h) (fun c hc ho => absurd ho (rc_cl5 c hc r hr)) (fun c hc ho => absurd ho (rc_cu5 c hc r hr))
  obtain ⟨lo1, hi1, lo2, hi2, e1, e2, h1, h2⟩ := rc_u5 hr hk
  rw [e1] at e
  cases e
  have := hM.2.2.1 (13 + r) k lo2 hi2 _ e2
  exact ⟨by omega, by omega, (rc_m5b r hr).1⟩
theorem rc_cpL0 (G : sx_G0 g L xs z9 hd_C ex_mt) (hct : rc_ct g) {σe : am_S} {post : Option (Option Value) → am_S → Prop} (kk : ∀ σ', sx_M z9 hd_C σe (rc_m5 0) 0 σ' → (∀ j, j < 10 → σ'.2.1 5 j = σe.2.1 13 j) → post (some none) σ') : ∀ (f k : Nat) (σ : am_S) (lw : List (Nat × Value)) (m2 m3 : Int32), k + f = 10 → sx_M z9 hd_C σe (rc_m5 0) 0 σ → (∀ j, j < k → σ.2.1 5 j = σe.2.1 13 j) → (0, Value.ref 13) ∈ lw → (1, Value.ref 5) ∈ lw → (2, Value.int m2) ∈ lw → (3, Value.int m3) ∈ lw → m2.toInt = 10 → m3.toInt = k → am_K g 15 tX11_copyRow.1 0 0 10 lw [] σ post := by
  intro f
  induction f with
  | zero =>
    intro k σ lw m2 m3 hk hM hc h0 h1 h2 h3 e2 e3
    refine sg_cp4_0_run G hct (sx_M_self hM) h0 h1 h2 (by omega) h3 (by omega) ?_
    intro σ' hM'
    refine kk σ' (hd_tr hM hM' (by decide +kernel)) (fun j hj => ?_)
    obtain ⟨lo1, hi1, lo2, hi2, e1, -⟩ := rc_u5 (r := 0) (k := j) (by decide) hj
    exact (hM'.2.2.2.2.1 5 j lo1 hi1 _ e1 (sx_bit0 _)).trans (hc j (by omega))
  | succ f ih =>
    intro k σ lw m2 m3 hk hM hc h0 h1 h2 h3 e2 e3
    refine sg_cp2_0_run G hct (sx_M_self hM) h0 h1 h2 (by omega) h3 (by omega) ?_
    intro lw1 y2 y3 c0 c1 σ1 p0 p1 p2 p3 f1 f2 f3 f4 hM1
    have H1 := hd_tr hM hM1 (by decide +kernel)
    have e0 : c0.toInt = k := by omega
    have e1 : c1.toInt = k := by omega
    refine kr_iald G.1 rd_d_X11_copyRow_19 (hM1.1 13 (.inr (.int, 10)) rfl) (hd_in e0 (by omega)) ?_
    rw [hd_clamp e0]
    refine kr_iast G.1 rd_d_X11_copyRow_20 (hM1.1 5 (.inr (.int, 10)) rfl) (hd_in e1 (by omega)) ?_
    rw [hd_clamp e1]
    have H2 := rc_Mup5 G (r := 0) (k := k) H1 (by decide) (by show k < 10; omega)
    refine sg_cp3_0_run G hct (sx_M_self H2) p0 p1 p2 (by omega) p3 (by omega) ?_
    intro lw3 z2 z3 σ3 q0 q1 q2 q3 f5 f6 hM3
    refine ih (k + 1) σ3 lw3 z2 z3 (by omega) (hd_tr H2 hM3 (by decide +kernel)) (fun j hj => ?_) q0 q1 q2 q3 (by omega) (by omega)
    obtain ⟨lo1, hi1, lo2, hi2, u1, u2, -⟩ := rc_u5 (r := 0) (k := j) (by decide) (by show j < 10; omega)
    rw [hM3.2.2.2.2.1 5 j lo1 hi1 _ u1 (sx_bit0 _)]
    show am_up σ1.2.1 5 k (σ1.2.1 13 k) 5 j = _
    by_cases ej : j = k
    · subst ej
      rw [am_up_s]
      exact H1.2.2.2.2.1 13 j lo2 hi2 _ u2 (by decide +kernel)
    · rw [am_up_n _ _ (fun h => ej h.2), hM1.2.2.2.2.1 5 j lo1 hi1 _ u1 (sx_bit0 _)]
      exact hc j (by omega)
theorem rc_cpc0 (G : sx_G0 g L xs z9 hd_C ex_mt) (hct : rc_ct g) {T : ex_T} {d : Nat} (hdp : 16 ≤ d) {σ : am_S} (hM : sx_M z9 hd_C σ 0 0 σ) {lw : List (Nat × Value)} {pc i mi q : Nat} (hT : ex_mt mi = some tX11_copyRow) (hd : decode T.1.2.1 pc = .ok (.invokestatic i, 3)) (hl : ex_lk ex_mt T pc (.invokestatic i) [0, mi, q] = true) {post : Option (Option Value) → am_S → Prop} (kk : ∀ σ', sx_M z9 hd_C σ (rc_m5 0) 0 σ' → (∀ j, j < 10 → σ'.2.1 5 j = σ.2.1 13 j) → am_K g d T.1 0 0 (pc + 3) lw [] σ' post) : am_K g d T.1 0 0 pc lw [.ref 5, .ref 13] σ post := by
  refine rd_callS G (T2 := tX11_copyRow) hT hd hl rfl rfl (as := [.ref 13, .ref 5]) (st := []) rfl (Nat.le_of_ble_eq_true rfl) rfl (by decide) (d1 := 15) hdp (post1 := fun r σ' => r = some none ∧ sx_M z9 hd_C σ (rc_m5 0) 0 σ' ∧ (∀ j, j < 10 → σ'.2.1 5 j = σ.2.1 13 j)) (fun _ h => by cases h.1) ?_ ?_
  · refine sg_cp1_0_run G hct hM (by simp [lv_args, Value.category]) (by simp [lv_args, Value.category]) ?_
    intro lw1 y2 y3 σ1 p0 p1 p2 p3 f1 f2 hM1
    exact rc_cpL0 G hct (σe := σ) (fun σ' a1 a2 => ⟨rfl, a1, a2⟩) 10 0 σ1 lw1 y2 y3 (by omega) (sx_M_mask (by decide +kernel) hM1) (fun j hj => absurd hj (Nat.not_lt_zero _)) p0 p1 p2 p3 (by omega) (by omega)
  · intro v σ' ⟨hv, a1, a2⟩
    cases hv
    exact kk σ' a1 a2
theorem rc_cpL1 (G : sx_G0 g L xs z9 hd_C ex_mt) (hct : rc_ct g) {σe : am_S} {post : Option (Option Value) → am_S → Prop} (kk : ∀ σ', sx_M z9 hd_C σe (rc_m5 1) 0 σ' → (∀ j, j < 10 → σ'.2.1 6 j = σe.2.1 14 j) → post (some none) σ') : ∀ (f k : Nat) (σ : am_S) (lw : List (Nat × Value)) (m2 m3 : Int32), k + f = 10 → sx_M z9 hd_C σe (rc_m5 1) 0 σ → (∀ j, j < k → σ.2.1 6 j = σe.2.1 14 j) → (0, Value.ref 14) ∈ lw → (1, Value.ref 6) ∈ lw → (2, Value.int m2) ∈ lw → (3, Value.int m3) ∈ lw → m2.toInt = 10 → m3.toInt = k → am_K g 15 tX11_copyRow.1 0 0 10 lw [] σ post := by
  intro f
  induction f with
  | zero =>
    intro k σ lw m2 m3 hk hM hc h0 h1 h2 h3 e2 e3
    refine sg_cp4_1_run G hct (sx_M_self hM) h0 h1 h2 (by omega) h3 (by omega) ?_
    intro σ' hM'
    refine kk σ' (hd_tr hM hM' (by decide +kernel)) (fun j hj => ?_)
    obtain ⟨lo1, hi1, lo2, hi2, e1, -⟩ := rc_u5 (r := 1) (k := j) (by decide) hj
    exact (hM'.2.2.2.2.1 6 j lo1 hi1 _ e1 (sx_bit0 _)).trans (hc j (by omega))
  | succ f ih =>
    intro k σ lw m2 m3 hk hM hc h0 h1 h2 h3 e2 e3
    refine sg_cp2_1_run G hct (sx_M_self hM) h0 h1 h2 (by omega) h3 (by omega) ?_
    intro lw1 y2 y3 c0 c1 σ1 p0 p1 p2 p3 f1 f2 f3 f4 hM1
    have H1 := hd_tr hM hM1 (by decide +kernel)
    have e0 : c0.toInt = k := by omega
    have e1 : c1.toInt = k := by omega
    refine kr_iald G.1 rd_d_X11_copyRow_19 (hM1.1 14 (.inr (.int, 10)) rfl) (hd_in e0 (by omega)) ?_
    rw [hd_clamp e0]
    refine kr_iast G.1 rd_d_X11_copyRow_20 (hM1.1 6 (.inr (.int, 10)) rfl) (hd_in e1 (by omega)) ?_
    rw [hd_clamp e1]
    have H2 := rc_Mup5 G (r := 1) (k := k) H1 (by decide) (by show k < 10; omega)
    refine sg_cp3_1_run G hct (sx_M_self H2) p0 p1 p2 (by omega) p3 (by omega) ?_
    intro lw3 z2 z3 σ3 q0 q1 q2 q3 f5 f6 hM3
    refine ih (k + 1) σ3 lw3 z2 z3 (by omega) (hd_tr H2 hM3 (by decide +kernel)) (fun j hj => ?_) q0 q1 q2 q3 (by omega) (by omega)
    obtain ⟨lo1, hi1, lo2, hi2, u1, u2, -⟩ := rc_u5 (r := 1) (k := j) (by decide) (by show j < 10; omega)
    rw [hM3.2.2.2.2.1 6 j lo1 hi1 _ u1 (sx_bit0 _)]
    show am_up σ1.2.1 6 k (σ1.2.1 14 k) 6 j = _
    by_cases ej : j = k
    · subst ej
      rw [am_up_s]
      exact H1.2.2.2.2.1 14 j lo2 hi2 _ u2 (by decide +kernel)
    · rw [am_up_n _ _ (fun h => ej h.2), hM1.2.2.2.2.1 6 j lo1 hi1 _ u1 (sx_bit0 _)]
      exact hc j (by omega)
theorem rc_cpc1 (G : sx_G0 g L xs z9 hd_C ex_mt) (hct : rc_ct g) {T : ex_T} {d : Nat} (hdp : 16 ≤ d) {σ : am_S} (hM : sx_M z9 hd_C σ 0 0 σ) {lw : List (Nat × Value)} {pc i mi q : Nat} (hT : ex_mt mi = some tX11_copyRow) (hd : decode T.1.2.1 pc = .ok (.invokestatic i, 3)) (hl : ex_lk ex_mt T pc (.invokestatic i) [0, mi, q] = true) {post : Option (Option Value) → am_S → Prop} (kk : ∀ σ', sx_M z9 hd_C σ (rc_m5 1) 0 σ' → (∀ j, j < 10 → σ'.2.1 6 j = σ.2.1 14 j) → am_K g d T.1 0 0 (pc + 3) lw [] σ' post) : am_K g d T.1 0 0 pc lw [.ref 6, .ref 14] σ post := by
  refine rd_callS G (T2 := tX11_copyRow) hT hd hl rfl rfl (as := [.ref 14, .ref 6]) (st := []) rfl (Nat.le_of_ble_eq_true rfl) rfl (by decide) (d1 := 15) hdp (post1 := fun r σ' => r = some none ∧ sx_M z9 hd_C σ (rc_m5 1) 0 σ' ∧ (∀ j, j < 10 → σ'.2.1 6 j = σ.2.1 14 j)) (fun _ h => by cases h.1) ?_ ?_
  · refine sg_cp1_1_run G hct hM (by simp [lv_args, Value.category]) (by simp [lv_args, Value.category]) ?_
    intro lw1 y2 y3 σ1 p0 p1 p2 p3 f1 f2 hM1
    exact rc_cpL1 G hct (σe := σ) (fun σ' a1 a2 => ⟨rfl, a1, a2⟩) 10 0 σ1 lw1 y2 y3 (by omega) (sx_M_mask (by decide +kernel) hM1) (fun j hj => absurd hj (Nat.not_lt_zero _)) p0 p1 p2 p3 (by omega) (by omega)
  · intro v σ' ⟨hv, a1, a2⟩
    cases hv
    exact kk σ' a1 a2
theorem rc_cpL2 (G : sx_G0 g L xs z9 hd_C ex_mt) (hct : rc_ct g) {σe : am_S} {post : Option (Option Value) → am_S → Prop} (kk : ∀ σ', sx_M z9 hd_C σe (rc_m5 2) 0 σ' → (∀ j, j < 10 → σ'.2.1 7 j = σe.2.1 15 j) → post (some none) σ') : ∀ (f k : Nat) (σ : am_S) (lw : List (Nat × Value)) (m2 m3 : Int32), k + f = 10 → sx_M z9 hd_C σe (rc_m5 2) 0 σ → (∀ j, j < k → σ.2.1 7 j = σe.2.1 15 j) → (0, Value.ref 15) ∈ lw → (1, Value.ref 7) ∈ lw → (2, Value.int m2) ∈ lw → (3, Value.int m3) ∈ lw → m2.toInt = 10 → m3.toInt = k → am_K g 15 tX11_copyRow.1 0 0 10 lw [] σ post := by
  intro f
  induction f with
  | zero =>
    intro k σ lw m2 m3 hk hM hc h0 h1 h2 h3 e2 e3
    refine sg_cp4_2_run G hct (sx_M_self hM) h0 h1 h2 (by omega) h3 (by omega) ?_
    intro σ' hM'
    refine kk σ' (hd_tr hM hM' (by decide +kernel)) (fun j hj => ?_)
    obtain ⟨lo1, hi1, lo2, hi2, e1, -⟩ := rc_u5 (r := 2) (k := j) (by decide) hj
    exact (hM'.2.2.2.2.1 7 j lo1 hi1 _ e1 (sx_bit0 _)).trans (hc j (by omega))
  | succ f ih =>
    intro k σ lw m2 m3 hk hM hc h0 h1 h2 h3 e2 e3
    refine sg_cp2_2_run G hct (sx_M_self hM) h0 h1 h2 (by omega) h3 (by omega) ?_
    intro lw1 y2 y3 c0 c1 σ1 p0 p1 p2 p3 f1 f2 f3 f4 hM1
    have H1 := hd_tr hM hM1 (by decide +kernel)
    have e0 : c0.toInt = k := by omega
    have e1 : c1.toInt = k := by omega
    refine kr_iald G.1 rd_d_X11_copyRow_19 (hM1.1 15 (.inr (.int, 10)) rfl) (hd_in e0 (by omega)) ?_
    rw [hd_clamp e0]
    refine kr_iast G.1 rd_d_X11_copyRow_20 (hM1.1 7 (.inr (.int, 10)) rfl) (hd_in e1 (by omega)) ?_
    rw [hd_clamp e1]
    have H2 := rc_Mup5 G (r := 2) (k := k) H1 (by decide) (by show k < 10; omega)
    refine sg_cp3_2_run G hct (sx_M_self H2) p0 p1 p2 (by omega) p3 (by omega) ?_
    intro lw3 z2 z3 σ3 q0 q1 q2 q3 f5 f6 hM3
    refine ih (k + 1) σ3 lw3 z2 z3 (by omega) (hd_tr H2 hM3 (by decide +kernel)) (fun j hj => ?_) q0 q1 q2 q3 (by omega) (by omega)
    obtain ⟨lo1, hi1, lo2, hi2, u1, u2, -⟩ := rc_u5 (r := 2) (k := j) (by decide) (by show j < 10; omega)
    rw [hM3.2.2.2.2.1 7 j lo1 hi1 _ u1 (sx_bit0 _)]
    show am_up σ1.2.1 7 k (σ1.2.1 15 k) 7 j = _
    by_cases ej : j = k
    · subst ej
      rw [am_up_s]
      exact H1.2.2.2.2.1 15 j lo2 hi2 _ u2 (by decide +kernel)
    · rw [am_up_n _ _ (fun h => ej h.2), hM1.2.2.2.2.1 7 j lo1 hi1 _ u1 (sx_bit0 _)]
      exact hc j (by omega)
theorem rc_cpc2 (G : sx_G0 g L xs z9 hd_C ex_mt) (hct : rc_ct g) {T : ex_T} {d : Nat} (hdp : 16 ≤ d) {σ : am_S} (hM : sx_M z9 hd_C σ 0 0 σ) {lw : List (Nat × Value)} {pc i mi q : Nat} (hT : ex_mt mi = some tX11_copyRow) (hd : decode T.1.2.1 pc = .ok (.invokestatic i, 3)) (hl : ex_lk ex_mt T pc (.invokestatic i) [0, mi, q] = true) {post : Option (Option Value) → am_S → Prop} (kk : ∀ σ', sx_M z9 hd_C σ (rc_m5 2) 0 σ' → (∀ j, j < 10 → σ'.2.1 7 j = σ.2.1 15 j) → am_K g d T.1 0 0 (pc + 3) lw [] σ' post) : am_K g d T.1 0 0 pc lw [.ref 7, .ref 15] σ post := by
  refine rd_callS G (T2 := tX11_copyRow) hT hd hl rfl rfl (as := [.ref 15, .ref 7]) (st := []) rfl (Nat.le_of_ble_eq_true rfl) rfl (by decide) (d1 := 15) hdp (post1 := fun r σ' => r = some none ∧ sx_M z9 hd_C σ (rc_m5 2) 0 σ' ∧ (∀ j, j < 10 → σ'.2.1 7 j = σ.2.1 15 j)) (fun _ h => by cases h.1) ?_ ?_
  · refine sg_cp1_2_run G hct hM (by simp [lv_args, Value.category]) (by simp [lv_args, Value.category]) ?_
    intro lw1 y2 y3 σ1 p0 p1 p2 p3 f1 f2 hM1
    exact rc_cpL2 G hct (σe := σ) (fun σ' a1 a2 => ⟨rfl, a1, a2⟩) 10 0 σ1 lw1 y2 y3 (by omega) (sx_M_mask (by decide +kernel) hM1) (fun j hj => absurd hj (Nat.not_lt_zero _)) p0 p1 p2 p3 (by omega) (by omega)
  · intro v σ' ⟨hv, a1, a2⟩
    cases hv
    exact kk σ' a1 a2
theorem rc_cpL3 (G : sx_G0 g L xs z9 hd_C ex_mt) (hct : rc_ct g) {σe : am_S} {post : Option (Option Value) → am_S → Prop} (kk : ∀ σ', sx_M z9 hd_C σe (rc_m5 3) 0 σ' → (∀ j, j < 10 → σ'.2.1 8 j = σe.2.1 16 j) → post (some none) σ') : ∀ (f k : Nat) (σ : am_S) (lw : List (Nat × Value)) (m2 m3 : Int32), k + f = 10 → sx_M z9 hd_C σe (rc_m5 3) 0 σ → (∀ j, j < k → σ.2.1 8 j = σe.2.1 16 j) → (0, Value.ref 16) ∈ lw → (1, Value.ref 8) ∈ lw → (2, Value.int m2) ∈ lw → (3, Value.int m3) ∈ lw → m2.toInt = 10 → m3.toInt = k → am_K g 15 tX11_copyRow.1 0 0 10 lw [] σ post := by
  intro f
  induction f with
  | zero =>
    intro k σ lw m2 m3 hk hM hc h0 h1 h2 h3 e2 e3
    refine sg_cp4_3_run G hct (sx_M_self hM) h0 h1 h2 (by omega) h3 (by omega) ?_
    intro σ' hM'
    refine kk σ' (hd_tr hM hM' (by decide +kernel)) (fun j hj => ?_)
    obtain ⟨lo1, hi1, lo2, hi2, e1, -⟩ := rc_u5 (r := 3) (k := j) (by decide) hj
    exact (hM'.2.2.2.2.1 8 j lo1 hi1 _ e1 (sx_bit0 _)).trans (hc j (by omega))
  | succ f ih =>
    intro k σ lw m2 m3 hk hM hc h0 h1 h2 h3 e2 e3
    refine sg_cp2_3_run G hct (sx_M_self hM) h0 h1 h2 (by omega) h3 (by omega) ?_
    intro lw1 y2 y3 c0 c1 σ1 p0 p1 p2 p3 f1 f2 f3 f4 hM1
    have H1 := hd_tr hM hM1 (by decide +kernel)
    have e0 : c0.toInt = k := by omega
    have e1 : c1.toInt = k := by omega
    refine kr_iald G.1 rd_d_X11_copyRow_19 (hM1.1 16 (.inr (.int, 10)) rfl) (hd_in e0 (by omega)) ?_
    rw [hd_clamp e0]
    refine kr_iast G.1 rd_d_X11_copyRow_20 (hM1.1 8 (.inr (.int, 10)) rfl) (hd_in e1 (by omega)) ?_
    rw [hd_clamp e1]
    have H2 := rc_Mup5 G (r := 3) (k := k) H1 (by decide) (by show k < 10; omega)
    refine sg_cp3_3_run G hct (sx_M_self H2) p0 p1 p2 (by omega) p3 (by omega) ?_
    intro lw3 z2 z3 σ3 q0 q1 q2 q3 f5 f6 hM3
    refine ih (k + 1) σ3 lw3 z2 z3 (by omega) (hd_tr H2 hM3 (by decide +kernel)) (fun j hj => ?_) q0 q1 q2 q3 (by omega) (by omega)
    obtain ⟨lo1, hi1, lo2, hi2, u1, u2, -⟩ := rc_u5 (r := 3) (k := j) (by decide) (by show j < 10; omega)
    rw [hM3.2.2.2.2.1 8 j lo1 hi1 _ u1 (sx_bit0 _)]
    show am_up σ1.2.1 8 k (σ1.2.1 16 k) 8 j = _
    by_cases ej : j = k
    · subst ej
      rw [am_up_s]
      exact H1.2.2.2.2.1 16 j lo2 hi2 _ u2 (by decide +kernel)
    · rw [am_up_n _ _ (fun h => ej h.2), hM1.2.2.2.2.1 8 j lo1 hi1 _ u1 (sx_bit0 _)]
      exact hc j (by omega)
theorem rc_cpc3 (G : sx_G0 g L xs z9 hd_C ex_mt) (hct : rc_ct g) {T : ex_T} {d : Nat} (hdp : 16 ≤ d) {σ : am_S} (hM : sx_M z9 hd_C σ 0 0 σ) {lw : List (Nat × Value)} {pc i mi q : Nat} (hT : ex_mt mi = some tX11_copyRow) (hd : decode T.1.2.1 pc = .ok (.invokestatic i, 3)) (hl : ex_lk ex_mt T pc (.invokestatic i) [0, mi, q] = true) {post : Option (Option Value) → am_S → Prop} (kk : ∀ σ', sx_M z9 hd_C σ (rc_m5 3) 0 σ' → (∀ j, j < 10 → σ'.2.1 8 j = σ.2.1 16 j) → am_K g d T.1 0 0 (pc + 3) lw [] σ' post) : am_K g d T.1 0 0 pc lw [.ref 8, .ref 16] σ post := by
  refine rd_callS G (T2 := tX11_copyRow) hT hd hl rfl rfl (as := [.ref 16, .ref 8]) (st := []) rfl (Nat.le_of_ble_eq_true rfl) rfl (by decide) (d1 := 15) hdp (post1 := fun r σ' => r = some none ∧ sx_M z9 hd_C σ (rc_m5 3) 0 σ' ∧ (∀ j, j < 10 → σ'.2.1 8 j = σ.2.1 16 j)) (fun _ h => by cases h.1) ?_ ?_
  · refine sg_cp1_3_run G hct hM (by simp [lv_args, Value.category]) (by simp [lv_args, Value.category]) ?_
    intro lw1 y2 y3 σ1 p0 p1 p2 p3 f1 f2 hM1
    exact rc_cpL3 G hct (σe := σ) (fun σ' a1 a2 => ⟨rfl, a1, a2⟩) 10 0 σ1 lw1 y2 y3 (by omega) (sx_M_mask (by decide +kernel) hM1) (fun j hj => absurd hj (Nat.not_lt_zero _)) p0 p1 p2 p3 (by omega) (by omega)
  · intro v σ' ⟨hv, a1, a2⟩
    cases hv
    exact kk σ' a1 a2
theorem rc_cpL4 (G : sx_G0 g L xs z9 hd_C ex_mt) (hct : rc_ct g) {σe : am_S} {post : Option (Option Value) → am_S → Prop} (kk : ∀ σ', sx_M z9 hd_C σe (rc_m5 4) 0 σ' → (∀ j, j < 6 → σ'.2.1 9 j = σe.2.1 17 j) → post (some none) σ') : ∀ (f k : Nat) (σ : am_S) (lw : List (Nat × Value)) (m2 m3 : Int32), k + f = 6 → sx_M z9 hd_C σe (rc_m5 4) 0 σ → (∀ j, j < k → σ.2.1 9 j = σe.2.1 17 j) → (0, Value.ref 17) ∈ lw → (1, Value.ref 9) ∈ lw → (2, Value.int m2) ∈ lw → (3, Value.int m3) ∈ lw → m2.toInt = 6 → m3.toInt = k → am_K g 15 tX11_copyRow.1 0 0 10 lw [] σ post := by
  intro f
  induction f with
  | zero =>
    intro k σ lw m2 m3 hk hM hc h0 h1 h2 h3 e2 e3
    refine sg_cp4_4_run G hct (sx_M_self hM) h0 h1 h2 (by omega) h3 (by omega) ?_
    intro σ' hM'
    refine kk σ' (hd_tr hM hM' (by decide +kernel)) (fun j hj => ?_)
    obtain ⟨lo1, hi1, lo2, hi2, e1, -⟩ := rc_u5 (r := 4) (k := j) (by decide) hj
    exact (hM'.2.2.2.2.1 9 j lo1 hi1 _ e1 (sx_bit0 _)).trans (hc j (by omega))
  | succ f ih =>
    intro k σ lw m2 m3 hk hM hc h0 h1 h2 h3 e2 e3
    refine sg_cp2_4_run G hct (sx_M_self hM) h0 h1 h2 (by omega) h3 (by omega) ?_
    intro lw1 y2 y3 c0 c1 σ1 p0 p1 p2 p3 f1 f2 f3 f4 hM1
    have H1 := hd_tr hM hM1 (by decide +kernel)
    have e0 : c0.toInt = k := by omega
    have e1 : c1.toInt = k := by omega
    refine kr_iald G.1 rd_d_X11_copyRow_19 (hM1.1 17 (.inr (.int, 6)) rfl) (hd_in e0 (by omega)) ?_
    rw [hd_clamp e0]
    refine kr_iast G.1 rd_d_X11_copyRow_20 (hM1.1 9 (.inr (.int, 6)) rfl) (hd_in e1 (by omega)) ?_
    rw [hd_clamp e1]
    have H2 := rc_Mup5 G (r := 4) (k := k) H1 (by decide) (by show k < 6; omega)
    refine sg_cp3_4_run G hct (sx_M_self H2) p0 p1 p2 (by omega) p3 (by omega) ?_
    intro lw3 z2 z3 σ3 q0 q1 q2 q3 f5 f6 hM3
    refine ih (k + 1) σ3 lw3 z2 z3 (by omega) (hd_tr H2 hM3 (by decide +kernel)) (fun j hj => ?_) q0 q1 q2 q3 (by omega) (by omega)
    obtain ⟨lo1, hi1, lo2, hi2, u1, u2, -⟩ := rc_u5 (r := 4) (k := j) (by decide) (by show j < 6; omega)
    rw [hM3.2.2.2.2.1 9 j lo1 hi1 _ u1 (sx_bit0 _)]
    show am_up σ1.2.1 9 k (σ1.2.1 17 k) 9 j = _
    by_cases ej : j = k
    · subst ej
      rw [am_up_s]
      exact H1.2.2.2.2.1 17 j lo2 hi2 _ u2 (by decide +kernel)
    · rw [am_up_n _ _ (fun h => ej h.2), hM1.2.2.2.2.1 9 j lo1 hi1 _ u1 (sx_bit0 _)]
      exact hc j (by omega)
theorem rc_cpc4 (G : sx_G0 g L xs z9 hd_C ex_mt) (hct : rc_ct g) {T : ex_T} {d : Nat} (hdp : 16 ≤ d) {σ : am_S} (hM : sx_M z9 hd_C σ 0 0 σ) {lw : List (Nat × Value)} {pc i mi q : Nat} (hT : ex_mt mi = some tX11_copyRow) (hd : decode T.1.2.1 pc = .ok (.invokestatic i, 3)) (hl : ex_lk ex_mt T pc (.invokestatic i) [0, mi, q] = true) {post : Option (Option Value) → am_S → Prop} (kk : ∀ σ', sx_M z9 hd_C σ (rc_m5 4) 0 σ' → (∀ j, j < 6 → σ'.2.1 9 j = σ.2.1 17 j) → am_K g d T.1 0 0 (pc + 3) lw [] σ' post) : am_K g d T.1 0 0 pc lw [.ref 9, .ref 17] σ post := by
  refine rd_callS G (T2 := tX11_copyRow) hT hd hl rfl rfl (as := [.ref 17, .ref 9]) (st := []) rfl (Nat.le_of_ble_eq_true rfl) rfl (by decide) (d1 := 15) hdp (post1 := fun r σ' => r = some none ∧ sx_M z9 hd_C σ (rc_m5 4) 0 σ' ∧ (∀ j, j < 6 → σ'.2.1 9 j = σ.2.1 17 j)) (fun _ h => by cases h.1) ?_ ?_
  · refine sg_cp1_4_run G hct hM (by simp [lv_args, Value.category]) (by simp [lv_args, Value.category]) ?_
    intro lw1 y2 y3 σ1 p0 p1 p2 p3 f1 f2 hM1
    exact rc_cpL4 G hct (σe := σ) (fun σ' a1 a2 => ⟨rfl, a1, a2⟩) 6 0 σ1 lw1 y2 y3 (by omega) (sx_M_mask (by decide +kernel) hM1) (fun j hj => absurd hj (Nat.not_lt_zero _)) p0 p1 p2 p3 (by omega) (by omega)
  · intro v σ' ⟨hv, a1, a2⟩
    cases hv
    exact kk σ' a1 a2
theorem rc_cpL5 (G : sx_G0 g L xs z9 hd_C ex_mt) (hct : rc_ct g) {σe : am_S} {post : Option (Option Value) → am_S → Prop} (kk : ∀ σ', sx_M z9 hd_C σe (rc_m5 5) 0 σ' → (∀ j, j < 6 → σ'.2.1 10 j = σe.2.1 18 j) → post (some none) σ') : ∀ (f k : Nat) (σ : am_S) (lw : List (Nat × Value)) (m2 m3 : Int32), k + f = 6 → sx_M z9 hd_C σe (rc_m5 5) 0 σ → (∀ j, j < k → σ.2.1 10 j = σe.2.1 18 j) → (0, Value.ref 18) ∈ lw → (1, Value.ref 10) ∈ lw → (2, Value.int m2) ∈ lw → (3, Value.int m3) ∈ lw → m2.toInt = 6 → m3.toInt = k → am_K g 15 tX11_copyRow.1 0 0 10 lw [] σ post := by
  intro f
  induction f with
  | zero =>
    intro k σ lw m2 m3 hk hM hc h0 h1 h2 h3 e2 e3
    refine sg_cp4_5_run G hct (sx_M_self hM) h0 h1 h2 (by omega) h3 (by omega) ?_
    intro σ' hM'
    refine kk σ' (hd_tr hM hM' (by decide +kernel)) (fun j hj => ?_)
    obtain ⟨lo1, hi1, lo2, hi2, e1, -⟩ := rc_u5 (r := 5) (k := j) (by decide) hj
    exact (hM'.2.2.2.2.1 10 j lo1 hi1 _ e1 (sx_bit0 _)).trans (hc j (by omega))
  | succ f ih =>
    intro k σ lw m2 m3 hk hM hc h0 h1 h2 h3 e2 e3
    refine sg_cp2_5_run G hct (sx_M_self hM) h0 h1 h2 (by omega) h3 (by omega) ?_
    intro lw1 y2 y3 c0 c1 σ1 p0 p1 p2 p3 f1 f2 f3 f4 hM1
    have H1 := hd_tr hM hM1 (by decide +kernel)
    have e0 : c0.toInt = k := by omega
    have e1 : c1.toInt = k := by omega
    refine kr_iald G.1 rd_d_X11_copyRow_19 (hM1.1 18 (.inr (.int, 6)) rfl) (hd_in e0 (by omega)) ?_
    rw [hd_clamp e0]
    refine kr_iast G.1 rd_d_X11_copyRow_20 (hM1.1 10 (.inr (.int, 6)) rfl) (hd_in e1 (by omega)) ?_
    rw [hd_clamp e1]
    have H2 := rc_Mup5 G (r := 5) (k := k) H1 (by decide) (by show k < 6; omega)
    refine sg_cp3_5_run G hct (sx_M_self H2) p0 p1 p2 (by omega) p3 (by omega) ?_
    intro lw3 z2 z3 σ3 q0 q1 q2 q3 f5 f6 hM3
    refine ih (k + 1) σ3 lw3 z2 z3 (by omega) (hd_tr H2 hM3 (by decide +kernel)) (fun j hj => ?_) q0 q1 q2 q3 (by omega) (by omega)
    obtain ⟨lo1, hi1, lo2, hi2, u1, u2, -⟩ := rc_u5 (r := 5) (k := j) (by decide) (by show j < 6; omega)
    rw [hM3.2.2.2.2.1 10 j lo1 hi1 _ u1 (sx_bit0 _)]
    show am_up σ1.2.1 10 k (σ1.2.1 18 k) 10 j = _
    by_cases ej : j = k
    · subst ej
      rw [am_up_s]
      exact H1.2.2.2.2.1 18 j lo2 hi2 _ u2 (by decide +kernel)
    · rw [am_up_n _ _ (fun h => ej h.2), hM1.2.2.2.2.1 10 j lo1 hi1 _ u1 (sx_bit0 _)]
      exact hc j (by omega)
theorem rc_cpc5 (G : sx_G0 g L xs z9 hd_C ex_mt) (hct : rc_ct g) {T : ex_T} {d : Nat} (hdp : 16 ≤ d) {σ : am_S} (hM : sx_M z9 hd_C σ 0 0 σ) {lw : List (Nat × Value)} {pc i mi q : Nat} (hT : ex_mt mi = some tX11_copyRow) (hd : decode T.1.2.1 pc = .ok (.invokestatic i, 3)) (hl : ex_lk ex_mt T pc (.invokestatic i) [0, mi, q] = true) {post : Option (Option Value) → am_S → Prop} (kk : ∀ σ', sx_M z9 hd_C σ (rc_m5 5) 0 σ' → (∀ j, j < 6 → σ'.2.1 10 j = σ.2.1 18 j) → am_K g d T.1 0 0 (pc + 3) lw [] σ' post) : am_K g d T.1 0 0 pc lw [.ref 10, .ref 18] σ post := by
  refine rd_callS G (T2 := tX11_copyRow) hT hd hl rfl rfl (as := [.ref 18, .ref 10]) (st := []) rfl (Nat.le_of_ble_eq_true rfl) rfl (by decide) (d1 := 15) hdp (post1 := fun r σ' => r = some none ∧ sx_M z9 hd_C σ (rc_m5 5) 0 σ' ∧ (∀ j, j < 6 → σ'.2.1 10 j = σ.2.1 18 j)) (fun _ h => by cases h.1) ?_ ?_
  · refine sg_cp1_5_run G hct hM (by simp [lv_args, Value.category]) (by simp [lv_args, Value.category]) ?_
    intro lw1 y2 y3 σ1 p0 p1 p2 p3 f1 f2 hM1
    exact rc_cpL5 G hct (σe := σ) (fun σ' a1 a2 => ⟨rfl, a1, a2⟩) 6 0 σ1 lw1 y2 y3 (by omega) (sx_M_mask (by decide +kernel) hM1) (fun j hj => absurd hj (Nat.not_lt_zero _)) p0 p1 p2 p3 (by omega) (by omega)
  · intro v σ' ⟨hv, a1, a2⟩
    cases hv
    exact kk σ' a1 a2
theorem rc_cpL6 (G : sx_G0 g L xs z9 hd_C ex_mt) (hct : rc_ct g) {σe : am_S} {post : Option (Option Value) → am_S → Prop} (kk : ∀ σ', sx_M z9 hd_C σe (rc_m5 6) 0 σ' → (∀ j, j < 8 → σ'.2.1 11 j = σe.2.1 19 j) → post (some none) σ') : ∀ (f k : Nat) (σ : am_S) (lw : List (Nat × Value)) (m2 m3 : Int32), k + f = 8 → sx_M z9 hd_C σe (rc_m5 6) 0 σ → (∀ j, j < k → σ.2.1 11 j = σe.2.1 19 j) → (0, Value.ref 19) ∈ lw → (1, Value.ref 11) ∈ lw → (2, Value.int m2) ∈ lw → (3, Value.int m3) ∈ lw → m2.toInt = 8 → m3.toInt = k → am_K g 15 tX11_copyRow.1 0 0 10 lw [] σ post := by
  intro f
  induction f with
  | zero =>
    intro k σ lw m2 m3 hk hM hc h0 h1 h2 h3 e2 e3
    refine sg_cp4_6_run G hct (sx_M_self hM) h0 h1 h2 (by omega) h3 (by omega) ?_
    intro σ' hM'
    refine kk σ' (hd_tr hM hM' (by decide +kernel)) (fun j hj => ?_)
    obtain ⟨lo1, hi1, lo2, hi2, e1, -⟩ := rc_u5 (r := 6) (k := j) (by decide) hj
    exact (hM'.2.2.2.2.1 11 j lo1 hi1 _ e1 (sx_bit0 _)).trans (hc j (by omega))
  | succ f ih =>
    intro k σ lw m2 m3 hk hM hc h0 h1 h2 h3 e2 e3
    refine sg_cp2_6_run G hct (sx_M_self hM) h0 h1 h2 (by omega) h3 (by omega) ?_
    intro lw1 y2 y3 c0 c1 σ1 p0 p1 p2 p3 f1 f2 f3 f4 hM1
    have H1 := hd_tr hM hM1 (by decide +kernel)
    have e0 : c0.toInt = k := by omega
    have e1 : c1.toInt = k := by omega
    refine kr_iald G.1 rd_d_X11_copyRow_19 (hM1.1 19 (.inr (.int, 8)) rfl) (hd_in e0 (by omega)) ?_
    rw [hd_clamp e0]
    refine kr_iast G.1 rd_d_X11_copyRow_20 (hM1.1 11 (.inr (.int, 8)) rfl) (hd_in e1 (by omega)) ?_
    rw [hd_clamp e1]
    have H2 := rc_Mup5 G (r := 6) (k := k) H1 (by decide) (by show k < 8; omega)
    refine sg_cp3_6_run G hct (sx_M_self H2) p0 p1 p2 (by omega) p3 (by omega) ?_
    intro lw3 z2 z3 σ3 q0 q1 q2 q3 f5 f6 hM3
    refine ih (k + 1) σ3 lw3 z2 z3 (by omega) (hd_tr H2 hM3 (by decide +kernel)) (fun j hj => ?_) q0 q1 q2 q3 (by omega) (by omega)
    obtain ⟨lo1, hi1, lo2, hi2, u1, u2, -⟩ := rc_u5 (r := 6) (k := j) (by decide) (by show j < 8; omega)
    rw [hM3.2.2.2.2.1 11 j lo1 hi1 _ u1 (sx_bit0 _)]
    show am_up σ1.2.1 11 k (σ1.2.1 19 k) 11 j = _
    by_cases ej : j = k
    · subst ej
      rw [am_up_s]
      exact H1.2.2.2.2.1 19 j lo2 hi2 _ u2 (by decide +kernel)
    · rw [am_up_n _ _ (fun h => ej h.2), hM1.2.2.2.2.1 11 j lo1 hi1 _ u1 (sx_bit0 _)]
      exact hc j (by omega)
theorem rc_cpc6 (G : sx_G0 g L xs z9 hd_C ex_mt) (hct : rc_ct g) {T : ex_T} {d : Nat} (hdp : 16 ≤ d) {σ : am_S} (hM : sx_M z9 hd_C σ 0 0 σ) {lw : List (Nat × Value)} {pc i mi q : Nat} (hT : ex_mt mi = some tX11_copyRow) (hd : decode T.1.2.1 pc = .ok (.invokestatic i, 3)) (hl : ex_lk ex_mt T pc (.invokestatic i) [0, mi, q] = true) {post : Option (Option Value) → am_S → Prop} (kk : ∀ σ', sx_M z9 hd_C σ (rc_m5 6) 0 σ' → (∀ j, j < 8 → σ'.2.1 11 j = σ.2.1 19 j) → am_K g d T.1 0 0 (pc + 3) lw [] σ' post) : am_K g d T.1 0 0 pc lw [.ref 11, .ref 19] σ post := by
  refine rd_callS G (T2 := tX11_copyRow) hT hd hl rfl rfl (as := [.ref 19, .ref 11]) (st := []) rfl (Nat.le_of_ble_eq_true rfl) rfl (by decide) (d1 := 15) hdp (post1 := fun r σ' => r = some none ∧ sx_M z9 hd_C σ (rc_m5 6) 0 σ' ∧ (∀ j, j < 8 → σ'.2.1 11 j = σ.2.1 19 j)) (fun _ h => by cases h.1) ?_ ?_
  · refine sg_cp1_6_run G hct hM (by simp [lv_args, Value.category]) (by simp [lv_args, Value.category]) ?_
    intro lw1 y2 y3 σ1 p0 p1 p2 p3 f1 f2 hM1
    exact rc_cpL6 G hct (σe := σ) (fun σ' a1 a2 => ⟨rfl, a1, a2⟩) 8 0 σ1 lw1 y2 y3 (by omega) (sx_M_mask (by decide +kernel) hM1) (fun j hj => absurd hj (Nat.not_lt_zero _)) p0 p1 p2 p3 (by omega) (by omega)
  · intro v σ' ⟨hv, a1, a2⟩
    cases hv
    exact kk σ' a1 a2
/-- what copyFrom writes -/
def rc_mQ : Nat := Nat.shiftLeft 2047 36
theorem rc_copyFrom (G : sx_G0 g L xs z9 hd_C ex_mt) (hct : rc_ct g) {σ : am_S} (hM : sx_M z9 hd_C σ 0 0 σ) {lw : List (Nat × Value)} (hl : (0, Value.ref 4) ∈ lw) (hl1 : (1, Value.ref 12) ∈ lw) {post : Option (Option Value) → am_S → Prop} (kk : ∀ σ', sx_M z9 hd_C σ rc_mQ 0 σ' → (∀ j, 7 ≤ j → j < 11 → (σ'.2.1 4 j).toInt = (σ.2.1 12 j).toInt) → (∀ r, r < 7 → ∀ k, k < rc_ln r → σ'.2.1 (5 + r) k = σ.2.1 (13 + r) k) → post (some none) σ') : am_K g 20 tX9_copyFrom.1 0 0 0 lw [] σ post := by
  have st : ∀ {σa σb : am_S} {r : Nat}, r < 7 → sx_M z9 hd_C σa (rc_m5 r) 0 σb → (∀ k, k < rc_ln r → σb.2.1 (5 + r) k = σa.2.1 (13 + r) k) → sx_M z9 hd_C σ rc_mQ 0 σa → (∀ r', r' < r → ∀ k, k < rc_ln r' → σa.2.1 (5 + r') k = σ.2.1 (13 + r') k) → sx_M z9 hd_C σ rc_mQ 0 σb ∧ (∀ r', r' < r + 1 → ∀ k, k < rc_ln r' → σb.2.1 (5 + r') k = σ.2.1 (13 + r') k) := by
    intro σa σb r hr h1 h2 H h3
    have hm : ∀ r, r < 7 → (Nat.lor (rc_m5 r) rc_mQ).beq rc_mQ = true := by decide +kernel
    have fr : ∀ r, r < 7 → sx_bit rc_mQ (58 + r) = false := by decide +kernel
    refine ⟨hd_tr H h1 (hm r hr), fun r' hr' k hk => ?_⟩
    obtain ⟨lo1, hi1, lo2, hi2, u1, u2, -⟩ := rc_u5 (r := r') (k := k) (by omega) hk
    by_cases e : r' = r
    · subst e
      rw [h2 k hk]
      exact H.2.2.2.2.1 (13 + r') k lo2 hi2 _ u2 (fr r' hr)
    · rw [h1.2.2.2.2.1 (5 + r') k lo1 hi1 _ u1 ((rc_m5b r hr).2.1 r' (by omega) e)]
      exact h3 r' (by omega) k hk
  have s0 : ∀ {σa σb : am_S} {r : Nat}, r ≤ 7 → sx_M z9 hd_C σa 0 0 σb → sx_M z9 hd_C σ rc_mQ 0 σa → (∀ r', r' < r → ∀ k, k < rc_ln r' → σa.2.1 (5 + r') k = σ.2.1 (13 + r') k) → sx_M z9 hd_C σ rc_mQ 0 σb ∧ (∀ r', r' < r → ∀ k, k < rc_ln r' → σb.2.1 (5 + r') k = σ.2.1 (13 + r') k) := by
    intro σa σb r hr h1 H h3
    refine ⟨hd_tr H h1 (by decide +kernel), fun r' hr' k hk => ?_⟩
    obtain ⟨lo1, hi1, lo2, hi2, u1, u2, -⟩ := rc_u5 (r := r') (k := k) (by omega) hk
    rw [h1.2.2.2.2.1 (5 + r') k lo1 hi1 _ u1 (sx_bit0 _)]
    exact h3 r' hr' k hk
  have A0 : sx_M z9 hd_C σ rc_mQ 0 σ ∧ (∀ r', r' < 0 → ∀ k, k < rc_ln r' → σ.2.1 (5 + r') k = σ.2.1 (13 + r') k) := ⟨sx_M_mask (by decide +kernel) hM, fun r' hr' => absurd hr' (Nat.not_lt_zero _)⟩
  refine sg_cf0_run G hct hM hl hl1 ?_
  intro lu0 ν0 p0 q0 hN0
  have B0 := s0 (r := 0) (by decide) hN0 A0.1 A0.2
  refine rc_cpc0 G hct (d := 20) (by decide) (sx_M_self hN0) rfl rd_d_X9_copyFrom_8 rd_k_X9_copyFrom_8 ?_
  intro τ1 hT0 hC0
  have A1 := st (r := 0) (by decide) hT0 hC0 B0.1 B0.2
  refine sg_cf1_run G hct (sx_M_self A1.1) p0 q0 ?_
  intro lu1 ν1 p1 q1 hN1
  have B1 := s0 (r := 1) (by decide) hN1 A1.1 A1.2
  refine rc_cpc1 G hct (d := 20) (by decide) (sx_M_self hN1) rfl rd_d_X9_copyFrom_19 rd_k_X9_copyFrom_19 ?_
  intro τ2 hT1 hC1
  have A2 := st (r := 1) (by decide) hT1 hC1 B1.1 B1.2
  refine sg_cf2_run G hct (sx_M_self A2.1) p1 q1 ?_
  intro lu2 ν2 p2 q2 hN2
  have B2 := s0 (r := 2) (by decide) hN2 A2.1 A2.2
  refine rc_cpc2 G hct (d := 20) (by decide) (sx_M_self hN2) rfl rd_d_X9_copyFrom_30 rd_k_X9_copyFrom_30 ?_
  intro τ3 hT2 hC2
  have A3 := st (r := 2) (by decide) hT2 hC2 B2.1 B2.2
  refine sg_cf3_run G hct (sx_M_self A3.1) p2 q2 ?_
  intro lu3 ν3 p3 q3 hN3
  have B3 := s0 (r := 3) (by decide) hN3 A3.1 A3.2
  refine rc_cpc3 G hct (d := 20) (by decide) (sx_M_self hN3) rfl rd_d_X9_copyFrom_41 rd_k_X9_copyFrom_41 ?_
  intro τ4 hT3 hC3
  have A4 := st (r := 3) (by decide) hT3 hC3 B3.1 B3.2
  refine sg_cf4_run G hct (sx_M_self A4.1) p3 q3 ?_
  intro lu4 ν4 p4 q4 hN4
  have B4 := s0 (r := 4) (by decide) hN4 A4.1 A4.2
  refine rc_cpc4 G hct (d := 20) (by decide) (sx_M_self hN4) rfl rd_d_X9_copyFrom_52 rd_k_X9_copyFrom_52 ?_
  intro τ5 hT4 hC4
  have A5 := st (r := 4) (by decide) hT4 hC4 B4.1 B4.2
  refine sg_cf5_run G hct (sx_M_self A5.1) p4 q4 ?_
  intro lu5 ν5 p5 q5 hN5
  have B5 := s0 (r := 5) (by decide) hN5 A5.1 A5.2
  refine rc_cpc5 G hct (d := 20) (by decide) (sx_M_self hN5) rfl rd_d_X9_copyFrom_63 rd_k_X9_copyFrom_63 ?_
  intro τ6 hT5 hC5
  have A6 := st (r := 5) (by decide) hT5 hC5 B5.1 B5.2
  refine sg_cf6_run G hct (sx_M_self A6.1) p5 q5 ?_
  intro lu6 ν6 p6 q6 hN6
  have B6 := s0 (r := 6) (by decide) hN6 A6.1 A6.2
  refine rc_cpc6 G hct (d := 20) (by decide) (sx_M_self hN6) rfl rd_d_X9_copyFrom_74 rd_k_X9_copyFrom_74 ?_
  intro τ7 hT6 hC6
  have A7 := st (r := 6) (by decide) hT6 hC6 B6.1 B6.2
  refine sg_cf7_run G hct (sx_M_self A7.1) p6 q6 ?_
  intro σ' f7 f8 f9 f10 hM'
  have fr : ∀ j, j < 4 → sx_bit rc_mQ (54 + j) = false := by decide +kernel
  have g7 := A7.1.2.2.2.2.1 12 7 _ _ 54 rfl (fr 0 (by decide))
  have g8 := A7.1.2.2.2.2.1 12 8 _ _ 55 rfl (fr 1 (by decide))
  have g9 := A7.1.2.2.2.2.1 12 9 _ _ 56 rfl (fr 2 (by decide))
  have g10 := A7.1.2.2.2.2.1 12 10 _ _ 57 rfl (fr 3 (by decide))
  refine kk σ' (hd_tr A7.1 hM' (by decide +kernel)) (fun j h1 h2 => ?_) (fun r hr k hk => ?_)
  · have h4 : j = 7 ∨ j = 8 ∨ j = 9 ∨ j = 10 := by omega
    rcases h4 with rfl | rfl | rfl | rfl
    · rw [← g7]; omega
    · rw [← g8]; omega
    · rw [← g9]; omega
    · rw [← g10]; omega
  · obtain ⟨lo1, hi1, lo2, hi2, u1, u2, -⟩ := rc_u5 hr hk
    have fr2 : ∀ r, r < 7 → sx_bit (Nat.shiftLeft 15 36) (40 + r) = false := by decide +kernel
    rw [hM'.2.2.2.2.1 (5 + r) k lo1 hi1 _ u1 (fr2 r hr)]
    exact A7.2 r hr k hk
end CN
