/-! the class: the draft cleared; all lines; the STATION -/
theorem rc_usT : ∀ k, k < 8 → am_usual k = rd_h0 (54 + k) ∧ 0 ≤ (am_usual k).toInt ∧ (am_usual k).toInt ≤ 99 := by decide +kernel
def rc_mC : Nat := Nat.lor (Nat.shiftLeft 15 54) (Nat.shiftLeft 1 64)
def rc_mF : Nat := Nat.lor rc_mL (Nat.shiftLeft 1 56)
theorem rc_a19 : ∀ k, k < 8 → sx_atl (z9.1 19) k = some (.ofNat 0, .ofNat 99, 64) := by decide +kernel
section CO
variable {g : am_C} {L : Nat} {xs : Nat → Int32}
theorem rc_Mup19 (G : sx_G0 g L xs z9 hd_C ex_mt) {σe σ : am_S} (hM : sx_M z9 hd_C σe rc_mC 0 σ) {k : Nat} (hk : k < 8) : sx_M z9 hd_C σe rc_mC 0 (σ.1, am_up σ.2.1 19 k (am_usual k), σ.2.2.1, σ.2.2.2) := by
  refine sx_M_up G.2.2.2.2.2.1 hM (fun lo hi' u e => ?_) ⟨fun h => absurd (rc_mo13 6 (by decide)).1 h, fun h => absurd (rc_mo13 6 (by decide)).2 h⟩ (fun _ h => h) (fun _ h => h) (fun c hc ho => absurd ho (rc_cl13 c hc 6 (by decide))) (fun c hc ho => absurd ho (rc_cu13 c hc 6 (by decide)))
  rw [rc_a19 k hk] at e
  cases e
  have := rc_usT k hk
  exact ⟨this.2.1, this.2.2, by decide +kernel⟩
theorem rc_usL (G : sx_G0 g L xs z9 hd_C ex_mt) (hct : rc_ct g) {σe : am_S} {post : Option (Option Value) → am_S → Prop} (kk : ∀ σ', sx_M z9 hd_C σe rc_mC 0 σ' → (∀ j, j < 8 → σ'.2.1 19 j = am_usual j) → (∀ j, 7 ≤ j → j < 11 → σ'.2.1 12 j = σe.2.1 12 j) → post (some none) σ') : ∀ (f k : Nat) (σ : am_S) (lw : List (Nat × Value)) (m2 m3 : Int32), k + f = 8 → sx_M z9 hd_C σe rc_mC 0 σ → (∀ j, j < k → σ.2.1 19 j = am_usual j) → (∀ j, 7 ≤ j → j < 11 → σ.2.1 12 j = σe.2.1 12 j) → (0, Value.retAddr 1) ∈ lw → (1, Value.ref 19) ∈ lw → (2, Value.int m2) ∈ lw → (3, Value.int m3) ∈ lw → m2.toInt = 8 → m3.toInt = k → am_K g 15 tX11_copyRow.1 0 0 10 lw [] σ post := by
  have k12 : ∀ {σa σb : am_S}, sx_M z9 hd_C σa 0 0 σb → ∀ j, 7 ≤ j → j < 11 → σb.2.1 12 j = σa.2.1 12 j := by
    intro σa σb h j h1 h2
    have h4 : j = 7 ∨ j = 8 ∨ j = 9 ∨ j = 10 := by omega
    rcases h4 with rfl | rfl | rfl | rfl
    · exact h.2.2.2.2.1 12 7 _ _ 54 rfl (sx_bit0 _)
    · exact h.2.2.2.2.1 12 8 _ _ 55 rfl (sx_bit0 _)
    · exact h.2.2.2.2.1 12 9 _ _ 56 rfl (sx_bit0 _)
    · exact h.2.2.2.2.1 12 10 _ _ 57 rfl (sx_bit0 _)
  have hX : g.2.2.2.2.2.2 1 = some (8, am_usual) := by rw [G.2.1]; rfl
  intro f
  induction f with
  | zero =>
    intro k σ lw m2 m3 hk hM hc hd h0 h1 h2 h3 e2 e3
    refine sg_cr4_run G hct (sx_M_self hM) h0 h1 h2 (by omega) h3 (by omega) ?_
    intro σ' hM'
    refine kk σ' (hd_tr hM hM' (by decide +kernel)) (fun j hj => ?_) (fun j j1 j2 => (k12 hM' j j1 j2).trans (hd j j1 j2))
    exact (hM'.2.2.2.2.1 19 j _ _ _ (rc_a19 j hj) (sx_bit0 _)).trans (hc j (by omega))
  | succ f ih =>
    intro k σ lw m2 m3 hk hM hc hd h0 h1 h2 h3 e2 e3
    refine sg_cr2_run G hct (sx_M_self hM) h0 h1 h2 (by omega) h3 (by omega) ?_
    intro lw1 y2 y3 c0 c1 σ1 p0 p1 p2 p3 f1 f2 f3 f4 hM1
    have H1 := hd_tr hM hM1 (by decide +kernel)
    have e0 : c0.toInt = k := by omega
    have e1 : c1.toInt = k := by omega
    refine kr_ialdX G.1 rd_d_X11_copyRow_19 hX (hd_in e0 (by omega)) ?_
    rw [hd_clamp e0]
    refine kr_iast G.1 rd_d_X11_copyRow_20 (hM1.1 19 (.inr (.int, 8)) rfl) (hd_in e1 (by omega)) ?_
    rw [hd_clamp e1]
    have H2 := rc_Mup19 G (k := k) H1 (by omega)
    refine sg_cr3_run G hct (sx_M_self H2) p0 p1 p2 (by omega) p3 (by omega) ?_
    intro lw3 z2 z3 σ3 q0 q1 q2 q3 f5 f6 hM3
    refine ih (k + 1) σ3 lw3 z2 z3 (by omega) (hd_tr H2 hM3 (by decide +kernel)) (fun j hj => ?_) (fun j j1 j2 => ?_) q0 q1 q2 q3 (by omega) (by omega)
    · rw [hM3.2.2.2.2.1 19 j _ _ _ (rc_a19 j (by omega)) (sx_bit0 _)]
      show am_up σ1.2.1 19 k (am_usual k) 19 j = _
      by_cases ej : j = k
      · subst ej
        rw [am_up_s]
      · rw [am_up_n _ _ (fun h => ej h.2), hM1.2.2.2.2.1 19 j _ _ _ (rc_a19 j (by omega)) (sx_bit0 _)]
        exact hc j (by omega)
    · rw [k12 hM3 j j1 j2]
      show am_up σ1.2.1 19 k (am_usual k) 12 j = _
      rw [am_up_n _ _ (fun h => by omega), k12 hM1 j j1 j2]
      exact hd j j1 j2
theorem rc_clear (G : sx_G0 g L xs z9 hd_C ex_mt) (hct : rc_ct g) {σ : am_S} (hM : sx_M z9 hd_C σ 0 0 σ) {lw : List (Nat × Value)} (hl : (0, Value.ref 12) ∈ lw) {post : Option (Option Value) → am_S → Prop} (kk : ∀ σ', sx_M z9 hd_C σ rc_mC 0 σ' → (∀ j, 7 ≤ j → j < 11 → (σ'.2.1 12 j).toInt = 0) → (∀ j, j < 8 → σ'.2.1 19 j = am_usual j) → post (some none) σ') : am_K g 20 tX9_clear.1 0 0 0 lw [] σ post := by
  refine sg_cl1_run G hct hM hl ?_
  intro lw1 σ1 p0 f1 f2 f3 f4 hM1
  have z1 : ∀ j, 7 ≤ j → j < 11 → (σ1.2.1 12 j).toInt = 0 := by
    intro j h1 h2
    have h4 : j = 7 ∨ j = 8 ∨ j = 9 ∨ j = 10 := by omega
    rcases h4 with rfl | rfl | rfl | rfl <;> omega
  refine rd_callS G (T2 := tX11_copyRow) rfl rd_d_X9_clear_27 rd_k_X9_clear_27 rfl rfl (as := [.retAddr 1, .ref 19]) (st := []) rfl (Nat.le_of_ble_eq_true rfl) rfl (by decide) (d1 := 15) (by decide) (post1 := fun r σ' => r = some none ∧ sx_M z9 hd_C σ1 rc_mC 0 σ' ∧ (∀ j, j < 8 → σ'.2.1 19 j = am_usual j) ∧ (∀ j, 7 ≤ j → j < 11 → σ'.2.1 12 j = σ1.2.1 12 j)) (fun _ h => by cases h.1) ?_ ?_
  · refine sg_cr1_run G hct (sx_M_self hM1) (by simp [lv_args, Value.category]) (by simp [lv_args, Value.category]) ?_
    intro lw2 y2 y3 σ2 u0 u1 u2 u3 g1 g2 hM2
    refine rc_usL G hct (σe := σ1) (fun σ' a1 a2 a3 => ⟨rfl, a1, a2, a3⟩) 8 0 σ2 lw2 y2 y3 (by omega) (sx_M_mask (by decide +kernel) hM2) (fun j hj => absurd hj (Nat.not_lt_zero _)) (fun j h1 h2 => ?_) u0 u1 u2 u3 (by omega) (by omega)
    have h4 : j = 7 ∨ j = 8 ∨ j = 9 ∨ j = 10 := by omega
    rcases h4 with rfl | rfl | rfl | rfl
    · exact hM2.2.2.2.2.1 12 7 _ _ 54 rfl (sx_bit0 _)
    · exact hM2.2.2.2.2.1 12 8 _ _ 55 rfl (sx_bit0 _)
    · exact hM2.2.2.2.2.1 12 9 _ _ 56 rfl (sx_bit0 _)
    · exact hM2.2.2.2.2.1 12 10 _ _ 57 rfl (sx_bit0 _)
  · intro v σ2 ⟨hv, a1, a2, a3⟩
    cases hv
    refine sg_cl2_run G hct (sx_M_self a1) p0 ?_
    intro σ3 hM3
    refine kk σ3 (hd_tr (hd_tr (sx_M_mask (by decide +kernel) hM1) a1 (by decide +kernel)) hM3 (by decide +kernel)) (fun j h1 h2 => ?_) (fun j hj => (hM3.2.2.2.2.1 19 j _ _ _ (rc_a19 j hj) (sx_bit0 _)).trans (a2 j hj))
    have h4 : j = 7 ∨ j = 8 ∨ j = 9 ∨ j = 10 := by omega
    rcases h4 with rfl | rfl | rfl | rfl
    · rw [hM3.2.2.2.2.1 12 7 _ _ 54 rfl (sx_bit0 _), a3 7 (by decide) (by decide)]; exact z1 7 (by decide) (by decide)
    · rw [hM3.2.2.2.2.1 12 8 _ _ 55 rfl (sx_bit0 _), a3 8 (by decide) (by decide)]; exact z1 8 (by decide) (by decide)
    · rw [hM3.2.2.2.2.1 12 9 _ _ 56 rfl (sx_bit0 _), a3 9 (by decide) (by decide)]; exact z1 9 (by decide) (by decide)
    · rw [hM3.2.2.2.2.1 12 10 _ _ 57 rfl (sx_bit0 _), a3 10 (by decide) (by decide)]; exact z1 10 (by decide) (by decide)
/-- the draft, read to its end -/
def rc_D (σ : am_S) (q : rd_Q) : Prop := (σ.2.1 12 7).toInt = (q.2.1 0).toInt ∧ ((q.2.1 1).toInt = 0 → (σ.2.1 12 8).toInt = 1 ∧ (σ.2.1 17 0).toInt = 10 ∧ (σ.2.1 18 0).toInt = 1) ∧ ((q.2.1 1).toInt ≠ 0 → (σ.2.1 12 8).toInt = (q.2.1 1).toInt) ∧ ∀ r, r < 7 → rc_c (q.2.1 0).toInt.toNat (q.2.1 1).toInt.toNat r ≤ rc_ln r ∧ ∀ k, k < rc_c (q.2.1 0).toInt.toNat (q.2.1 1).toInt.toNat r → σ.2.1 (13 + r) k = q.2.1 (rc_bs r + k)
theorem rc_stL (G : sx_G0 g L xs z9 hd_C ex_mt) (hct : rc_ct g) {σe : am_S} {b : Nat → Nat} {n most : Nat} {x : (Nat × Nat) ⊕ (Nat × rd_Q)} {post : Option (Option Value) → am_S → Prop}
    (kf : ∀ (r : Int32) (σ' : am_S) (kd at' : Nat), x = .inl (kd, at') → r.toInt = 0 → sx_M z9 hd_C σe rc_mF 0 σ' → (σ'.2.1 3 7).toInt = kd → (σ'.2.1 3 8).toInt = at' → at' ≤ 940 → post (some (some (.int r))) σ')
    (kt : ∀ (r : Int32) (σ' : am_S) (l : Nat) (q : rd_Q), x = .inr (l, q) → r.toInt = 1 → sx_M z9 hd_C σe rc_mF 0 σ' → (σ'.2.1 12 9).toInt = l → (σ'.2.1 3 7).toInt = 0 → rc_D σ' q → post (some (some (.int r))) σ') : ∀ (f l : Nat) (q : rd_Q) (σ : am_S) (lw : List (Nat × Value)), n - q.1.2.2.2.1 < f → 2 * l ≤ q.1.2.2.2.1 → x = rd_stn b n most f l q → sx_M z9 hd_C σe rc_mF 0 σ → rc_E2 σ b n most q → (σ.2.1 12 9).toInt = l → (σ.2.1 3 7).toInt = 0 → (0, Value.ref 12) ∈ lw → (1, Value.ref 3) ∈ lw → am_K g 50 tX9_readFrom.1 0 0 4 lw [] σ post := by
  intro f
  induction f with
  | zero => intro l q σ lw hf; omega
  | succ f ih =>
    intro l q σ lw hf hlq hx H E hln hft hl hl1
    have hg := E.2.2.2
    have hgn := (rd_gd_n hg).1
    have n9 := E.1.2.2.2.1
    have m9 := E.1.2.2.2.2
    have k5 := rc_kd5 (rd_gd_4 hg)
    have n1 := E.2.1.1
    have ex : x = if q.1.1 = 0 then .inr (l, q) else (match rd_line b n most q with
      | .inl e => .inl e
      | .inr q1 => if rd_sgf q1.1 59 = 0 then rd_stn b n most f (l + 1) (rd_nx b n most q1) else .inl (1, q1.1.2.1)) := hx
    by_cases t0 : q.1.1 = 0
    · rw [if_pos t0] at ex
      have kd0 := k5.2.2.2.1.mpr t0
      refine sg_rf2a_run G hct (sx_M_self H) hl hl1 (by omega) (by omega) ?_
      intro lw1 σ1 p0 p1 hM1
      have E1 : rc_E2 σ1 b n most q := rc_E0 E hM1
      have H1 := hd_tr H hM1 (by decide +kernel)
      have l1 : (σ1.2.1 12 9).toInt = l := by rw [hM1.2.2.2.2.1 12 9 _ _ 56 rfl (sx_bit0 _)]; exact hln
      have f1 : (σ1.2.1 3 7).toInt = 0 := by rw [hM1.2.2.2.2.1 3 7 _ _ 27 rfl (sx_bit0 _)]; exact hft
      have k8 : (0 : Int) ≤ (σ1.2.1 12 8).toInt ∧ (σ1.2.1 12 8).toInt ≤ (6 : Int) := hM1.2.2.1 12 8 _ _ 55 rfl
      have e8 := E1.2.2.1.2.1
      by_cases s0 : (q.2.1 1).toInt = 0
      · refine sg_rf5a_run G hct (sx_M_self hM1) p0 p1 (by omega) ?_
        intro r σ2 g1 g2 g3 g4 hM2
        refine kt r σ2 l q ex (by omega) (hd_tr H1 hM2 (by decide +kernel)) ?_ ?_ ⟨?_, fun _ => ⟨by omega, by omega, by omega⟩, fun h => absurd s0 h, fun r' hr' => ⟨(E1.2.2.1.2.2.2 r' hr').1, fun k hk => ?_⟩⟩
        · rw [hM2.2.2.2.2.1 12 9 _ _ 56 rfl (by decide +kernel)]; exact l1
        · rw [hM2.2.2.2.2.1 3 7 _ _ 27 rfl (by decide +kernel)]; exact f1
        · rw [hM2.2.2.2.2.1 12 7 _ _ 54 rfl (by decide +kernel)]; exact E1.2.2.1.1
        · have hrow := E1.2.2.1.2.2.2 r' hr'
          obtain ⟨lo, hi, e⟩ := rc_u13 hr' (Nat.lt_of_lt_of_le hk hrow.1)
          have r45 : r' ≠ 4 ∧ r' ≠ 5 := by
            constructor
            · rintro rfl
              have hk' : k < (q.2.1 1).toInt.toNat := hk
              omega
            · rintro rfl
              have hk' : k < (q.2.1 1).toInt.toNat := hk
              omega
          have fr : ∀ r, r < 7 → r ≠ 4 → r ≠ 5 → sx_bit (Nat.lor (Nat.shiftLeft 1 55) (Nat.shiftLeft 3 62)) (58 + r) = false := by decide +kernel
          rw [hM2.2.2.2.2.1 (13 + r') k lo hi _ e (fr r' hr' r45.1 r45.2)]
          exact hrow.2 k hk
      · refine sg_rf5b_run G hct (sx_M_self hM1) p0 p1 (by omega) ?_
        intro r σ2 g1 hM2
        have E2 : rc_E2 σ2 b n most q := rc_E0 E1 hM2
        refine kt r σ2 l q ex (by omega) (hd_tr H1 hM2 (by decide +kernel)) ?_ ?_ ⟨E2.2.2.1.1, fun h => absurd h s0, fun _ => E2.2.2.1.2.1, E2.2.2.1.2.2.2⟩
        · rw [hM2.2.2.2.2.1 12 9 _ _ 56 rfl (sx_bit0 _)]; exact l1
        · rw [hM2.2.2.2.2.1 3 7 _ _ 27 rfl (sx_bit0 _)]; exact f1
    · rw [if_neg t0] at ex
      have kd0 : rc_kd q.1.1 ≠ 0 := fun h => t0 (k5.2.2.2.1.mp h)
      have kd4 := k5.1
      refine sg_rf2b_run G hct (sx_M_self H) hl hl1 (by omega) (by omega) ?_
      intro lw1 σ1 p0 p1 hM1
      have E1 : rc_E2 σ1 b n most q := rc_E0 E hM1
      have H1 := hd_tr H hM1 (by decide +kernel)
      have lok := rd_line_ok hg
      refine rd_call G (T2 := tX9_readLine) rfl rd_d_X9_readFrom_23 rd_k_X9_readFrom_23 rfl (hM1.1 12 (.inl 9) rfl) (as := [.ref 3]) (st := []) rfl (Nat.le_of_ble_eq_true rfl) rfl (by decide) (d1 := 40) (by decide)
        (post1 := fun r σ' => ∃ y : Int32, r = some (some (.int y)) ∧ ((∃ kd at' : Nat, rd_line b n most q = .inl (kd, at') ∧ y.toInt = 0 ∧ sx_M z9 hd_C σ1 rc_mL 0 σ' ∧ (σ'.2.1 3 7).toInt = kd ∧ (σ'.2.1 3 8).toInt = at') ∨ (∃ q' : rd_Q, rd_line b n most q = .inr q' ∧ y.toInt = 1 ∧ sx_M z9 hd_C σ1 rc_mK 0 σ' ∧ rc_E2 σ' b n most q'))) (fun _ h => by obtain ⟨y, h, -⟩ := h; cases h)
        (rc_lineK G hct (sx_M_self hM1) E1 (by simp [lv_args, Value.category]) (by simp [lv_args, Value.category]) ⟨fun r σ' kd at' c1 c2 c3 c4 c5 => ⟨r, rfl, Or.inl ⟨kd, at', c1, c2, c3, c4, c5⟩⟩, fun r σ' q' c1 c2 c3 c4 => ⟨r, rfl, Or.inr ⟨q', c1, c2, c3, c4⟩⟩⟩) ?_
      intro v σ2 ⟨y, hv, hh⟩
      cases hv
      rcases hh with ⟨kd, at', c1, c2, c3, c4, c5⟩ | ⟨q1, c1, c2, c3, c4⟩
      · rw [c1] at ex
        have hat := lok.2 kd at' c1
        refine sg_rf3a_run G hct (sx_M_self c3) p0 p1 (by omega) ?_
        intro r σ3 f1 hM3
        have f78 := rc_F78 hM3
        exact kf r σ3 kd at' ex (by omega) (hd_tr (hd_tr H1 c3 (by decide +kernel)) hM3 (by decide +kernel)) (by rw [f78.1]; exact c4) (by rw [f78.2]; exact c5) (by omega)
      · rw [c1] at ex
        have gd := rd_Ok_gd lok c1
        have gx := rd_gd_x gd.1
        have H2 := hd_tr H1 c3 (by decide +kernel)
        have l2 : (σ2.2.1 12 9).toInt = l := by
          rw [c3.2.2.2.2.1 12 9 _ _ 56 rfl (by decide +kernel), hM1.2.2.2.2.1 12 9 _ _ 56 rfl (sx_bit0 _)]; exact hln
        have t2 : (σ2.2.1 3 7).toInt = 0 := by
          rw [c3.2.2.2.2.1 3 7 _ _ 27 rfl (by decide +kernel), hM1.2.2.2.2.1 3 7 _ _ 27 rfl (sx_bit0 _)]; exact hft
        refine sg_rf3b_run G hct (sx_M_self c3) p0 p1 (by omega) ?_
        intro lw3 a1 σ3 q0 q1' f1 hM3
        have E3 : rc_E2 σ3 b n most q1 := rc_E0 c4 hM3
        have H3 := hd_tr H2 hM3 (by decide +kernel)
        refine rd_call G (T2 := tX6_takesSign) rfl rd_d_X9_readFrom_32 rd_k_X9_readFrom_32 rfl (hM3.1 3 (.inl 6) rfl) (as := [.int a1]) (st := []) rfl (Nat.le_of_ble_eq_true rfl) rfl (by decide) (d1 := 20) (by decide)
          (post1 := fun r σ' => ∃ y : Int32, r = some (some (.int y)) ∧ ((rd_sgf q1.1 59 ≠ 0 ∧ y.toInt = 0 ∧ sx_M z9 hd_C σ3 rc_m78 0 σ' ∧ (σ'.2.1 3 7).toInt = 1 ∧ (σ'.2.1 3 8).toInt = (q1.1.2.1 : Nat)) ∨ (rd_sgf q1.1 59 = 0 ∧ y.toInt = 1 ∧ sx_M z9 hd_C σ3 rc_mN 0 σ' ∧ rc_N σ' (rd_tok b n most q1.1.2.2.2.1)))) (fun _ h => by obtain ⟨y, h, -⟩ := h; cases h)
          (rc_takesSign G hct (sx_M_self hM3) E3.1 E3.2.1 E3.2.2.2 (c := 59) (by simp [lv_args, Value.category]) (m1 := a1) (by simp [lv_args, Value.category]) (by omega) (fun r σ' e1 e2 e3 e4 e5 => ⟨r, rfl, Or.inl ⟨e1, e2, e3, e4, e5⟩⟩) (fun r σ' e1 e2 e3 e4 => ⟨r, rfl, Or.inr ⟨e1, e2, e3, e4⟩⟩)) ?_
        intro v4 σ4 ⟨y4, hv4, hh4⟩
        cases hv4
        rcases hh4 with ⟨e1, e2, e3, e4, e5⟩ | ⟨e1, e2, e3, e4⟩
        · have ex2 : x = .inl (1, q1.1.2.1) := ex.trans (if_neg e1)
          have hat := (rd_gd_n gd.1).2.1
          refine sg_rf4a_run G hct (sx_M_self e3) q0 q1' (by omega) ?_
          intro r σ5 f2 hM5
          have f78 := rc_F78 hM5
          exact kf r σ5 1 q1.1.2.1 ex2 (by omega) (hd_tr (hd_tr H3 e3 (by decide +kernel)) hM5 (by decide +kernel)) (by rw [f78.1]; exact e4) (by rw [f78.2]; exact e5) (by omega)
        · have ex2 : x = rd_stn b n most f (l + 1) (rd_nx b n most q1) := ex.trans (if_pos e1)
          have t3 : q1.1.1 = 3 := by
            unfold rd_sgf at e1
            split at e1
            · rename_i h; exact h.1
            · cases e1
          have p3 := gd.2.2 t3
          have E4 : rc_E2 σ4 b n most (rd_nx b n most q1) := rc_En E3 e3 e4
          have l4 : (σ4.2.1 12 9).toInt = l := by
            rw [e3.2.2.2.2.1 12 9 _ _ 56 rfl (by decide +kernel), hM3.2.2.2.2.1 12 9 _ _ 56 rfl (sx_bit0 _)]; exact l2
          have t4 : (σ4.2.1 3 7).toInt = 0 := by
            rw [e3.2.2.2.2.1 3 7 _ _ 27 rfl (by decide +kernel), hM3.2.2.2.2.1 3 7 _ _ 27 rfl (sx_bit0 _)]; exact t2
          have gn1 := (rd_gd_n gd.1).1
          have q2 : q1.1.2.2.2.1 ≤ (rd_nx b n most q1).1.2.2.2.1 := gx.2.1
          refine sg_rf4b_run G hct (sx_M_self e3) q0 q1' (by omega) (by omega) ?_
          intro lw5 σ5 u0 u1 f2 hM5
          have E5 : rc_E2 σ5 b n most (rd_nx b n most q1) := ⟨rc_Xm E4.1 hM5 (by decide +kernel) (by decide +kernel) (by decide +kernel), rc_N0 E4.2.1 hM5 (by decide +kernel) (by decide +kernel) (by decide +kernel) (by decide +kernel) (by decide +kernel), ⟨by rw [hM5.2.2.2.2.1 12 7 _ _ 54 rfl (by decide +kernel)]; exact E4.2.2.1.1, by rw [hM5.2.2.2.2.1 12 8 _ _ 55 rfl (by decide +kernel)]; exact E4.2.2.1.2.1, by rw [hM5.2.2.2.2.1 12 10 _ _ 57 rfl (by decide +kernel)]; exact E4.2.2.1.2.2.1, fun r' hr' => ⟨(E4.2.2.1.2.2.2 r' hr').1, fun k hk => by
            obtain ⟨lo, hi, e⟩ := rc_u13 hr' (Nat.lt_of_lt_of_le hk (E4.2.2.1.2.2.2 r' hr').1)
            have fr : ∀ r, r < 7 → sx_bit (Nat.shiftLeft 1 56) (58 + r) = false := by decide +kernel
            rw [hM5.2.2.2.2.1 (13 + r') k lo hi _ e (fr r' hr')]
            exact (E4.2.2.1.2.2.2 r' hr').2 k hk⟩⟩, E4.2.2.2⟩
          refine ih (l + 1) (rd_nx b n most q1) σ5 lw5 (by omega) (by omega) ex2 (hd_tr (hd_tr H3 e3 (by decide +kernel)) hM5 (by decide +kernel)) E5 (by omega) ?_ u0 u1
          rw [hM5.2.2.2.2.1 3 7 _ _ 27 rfl (by decide +kernel)]
          exact t4
theorem rc_readFrom (G : sx_G0 g L xs z9 hd_C ex_mt) (hct : rc_ct g) {σ : am_S} (hM : sx_M z9 hd_C σ 0 0 σ) {b : Nat → Nat} {n : Nat} (X : rc_X σ b n 900) (N : rc_N σ (rd_tok b n 900 0)) (h7 : (σ.2.1 3 7).toInt = 0) {lw : List (Nat × Value)} (hl : (0, Value.ref 12) ∈ lw) (hl1 : (1, Value.ref 3) ∈ lw) {post : Option (Option Value) → am_S → Prop}
    (kf : ∀ (r : Int32) (σ' : am_S) (kd at' : Nat), rd_all9 b n = .inl (kd, at') → r.toInt = 0 → sx_M z9 hd_C σ rc_mF 0 σ' → (σ'.2.1 3 7).toInt = kd → (σ'.2.1 3 8).toInt = at' → at' ≤ 940 → post (some (some (.int r))) σ')
    (kt : ∀ (r : Int32) (σ' : am_S) (l : Nat) (q : rd_Q), rd_all9 b n = .inr (l, q) → r.toInt = 1 → sx_M z9 hd_C σ rc_mF 0 σ' → (σ'.2.1 12 9).toInt = l → (σ'.2.1 3 7).toInt = 0 → rc_D σ' q → post (some (some (.int r))) σ') : am_K g 50 tX9_readFrom.1 0 0 0 lw [] σ post := by
  refine sg_rf1_run G hct hM hl hl1 ?_
  intro lw1 σ1 p0 p1 hM1
  refine rd_call G (T2 := tX9_clear) rfl rd_d_X9_readFrom_1 rd_k_X9_readFrom_1 rfl (hM1.1 12 (.inl 9) rfl) (as := []) (st := []) rfl (Nat.le_of_ble_eq_true rfl) rfl (by decide) (d1 := 20) (by decide) (post1 := fun r σ' => r = some none ∧ sx_M z9 hd_C σ1 rc_mC 0 σ' ∧ (∀ j, 7 ≤ j → j < 11 → (σ'.2.1 12 j).toInt = 0) ∧ (∀ j, j < 8 → σ'.2.1 19 j = am_usual j)) (fun _ h => by cases h.1) (rc_clear G hct (sx_M_self hM1) (by simp [lv_args, Value.category]) (fun σ' a1 a2 a3 => ⟨rfl, a1, a2, a3⟩)) ?_
  intro v σ2 ⟨hv, a1, a2, a3⟩
  cases hv
  have H2 : sx_M z9 hd_C σ rc_mF 0 σ2 := hd_tr (sx_M_mask (by decide +kernel) hM1) a1 (by decide +kernel)
  have X2 : rc_X σ2 b n 900 := rc_Xm (rc_Xm X hM1 (sx_bit0 _) (sx_bit0 _) (sx_bit0 _)) a1 (by decide +kernel) (by decide +kernel) (by decide +kernel)
  have N2 := rc_N0 (rc_N0 N hM1 (sx_bit0 _) (sx_bit0 _) (sx_bit0 _) (sx_bit0 _) (sx_bit0 _)) a1 (by decide +kernel) (by decide +kernel) (by decide +kernel) (by decide +kernel) (by decide +kernel)
  have h00 : (rd_h0 0).toInt = 0 := by decide
  have h01 : (rd_h0 1).toInt = 0 := by decide
  have E2 : rc_E2 σ2 b n 900 (rd_tok b n 900 0, rd_h0, 0) := by
    refine ⟨X2, N2, ⟨?_, ?_, ?_, fun r hr => ?_⟩, ⟨0, Nat.zero_le _, rfl⟩⟩
    · show _ = (rd_h0 0).toInt
      rw [h00]; exact a2 7 (by decide) (by decide)
    · show _ = (rd_h0 1).toInt
      rw [h01]; exact a2 8 (by decide) (by decide)
    · exact Int32.toInt_inj.mp (a2 10 (by decide) (by decide))
    · show rc_c (rd_h0 0).toInt.toNat (rd_h0 1).toInt.toNat r ≤ rc_ln r ∧ ∀ k, k < rc_c (rd_h0 0).toInt.toNat (rd_h0 1).toInt.toNat r → σ2.2.1 (13 + r) k = rd_h0 (rc_bs r + k)
      rw [h00, h01]
      have r7 : r = 0 ∨ r = 1 ∨ r = 2 ∨ r = 3 ∨ r = 4 ∨ r = 5 ∨ r = 6 := by omega
      rcases r7 with rfl | rfl | rfl | rfl | rfl | rfl | rfl
      · exact ⟨Nat.zero_le _, fun k hk => absurd hk (Nat.not_lt_zero _)⟩
      · exact ⟨Nat.zero_le _, fun k hk => absurd hk (Nat.not_lt_zero _)⟩
      · exact ⟨Nat.zero_le _, fun k hk => absurd hk (Nat.not_lt_zero _)⟩
      · exact ⟨Nat.zero_le _, fun k hk => absurd hk (Nat.not_lt_zero _)⟩
      · exact ⟨Nat.zero_le _, fun k hk => absurd hk (Nat.not_lt_zero _)⟩
      · exact ⟨Nat.zero_le _, fun k hk => absurd hk (Nat.not_lt_zero _)⟩
      · exact ⟨Nat.le_refl _, fun k hk => (a3 k hk).trans (rc_usT k hk).1⟩
  refine rc_stL G hct (σe := σ) (x := rd_all9 b n) kf kt (n + 1) 0 _ σ2 lw1 (by omega) (Nat.zero_le _) rfl H2 E2 (a2 9 (by decide) (by decide)) ?_ p0 p1
  rw [a1.2.2.2.2.1 3 7 _ _ 27 rfl (by decide +kernel), hM1.2.2.2.2.1 3 7 _ _ 27 rfl (sx_bit0 _)]
  exact h7
def rc_mO : Nat := Nat.lor rc_mN (Nat.lor (Nat.shiftLeft 1 21) rc_m78)
/-- what the class's station writes -/
def rc_mS : Nat := Nat.lor rc_mF (Nat.lor rc_mO (Nat.lor rc_mQ (Nat.lor (Nat.shiftLeft 1 16) (Nat.lor (Nat.shiftLeft 1 18) (Nat.lor (Nat.shiftLeft 2047 68) (Nat.lor (Nat.shiftLeft 3 94) (Nat.lor (Nat.shiftLeft 3 210) (Nat.shiftLeft 7 237))))))))
/-- the place is the STATION read -/
def rc_P (σ : am_S) (q : rd_Q) : Prop := (σ.2.1 4 7).toInt = (q.2.1 0).toInt ∧ ((q.2.1 1).toInt = 0 → (σ.2.1 4 8).toInt = 1 ∧ (σ.2.1 9 0).toInt = 10 ∧ (σ.2.1 10 0).toInt = 1) ∧ ((q.2.1 1).toInt ≠ 0 → (σ.2.1 4 8).toInt = (q.2.1 1).toInt) ∧ ∀ r, r < 7 → rc_c (q.2.1 0).toInt.toNat (q.2.1 1).toInt.toNat r ≤ rc_ln r ∧ ∀ k, k < rc_c (q.2.1 0).toInt.toNat (q.2.1 1).toInt.toNat r → σ.2.1 (5 + r) k = q.2.1 (rc_bs r + k)
theorem rc_station (G : sx_G0 g L xs z9 hd_C ex_mt) (hct : rc_ct g) {σ : am_S} (hM : sx_M z9 hd_C σ 0 0 σ) {n : Nat} (hn : (σ.2.1 1 1).toInt = n) {lw : List (Nat × Value)} (hl : (0, Value.ref 0) ∈ lw) {post : Option (Option Value) → am_S → Prop}
    (kf : ∀ (r : Int32) (σ' : am_S) (kd at' : Nat), rd_all9 (rd_by (σ.2.1 2)) n = .inl (kd, at') → r.toInt = -1 - (at' : Int) → sx_M z9 hd_C σ rc_mS 0 σ' → (σ'.2.1 0 16).toInt = kd → (σ'.2.1 1 1).toInt = 0 → (∀ r, r < 7 → ∀ k, k < rc_ln r → σ'.2.1 (5 + r) k = σ.2.1 (5 + r) k) → (∀ j, 7 ≤ j → j < 11 → σ'.2.1 4 j = σ.2.1 4 j) → post (some (some (.int r))) σ')
    (kt : ∀ (r : Int32) (σ' : am_S) (l : Nat) (q : rd_Q), rd_all9 (rd_by (σ.2.1 2)) n = .inr (l, q) → r.toInt = l → sx_M z9 hd_C σ rc_mS 0 σ' → (σ'.2.1 0 16).toInt = 0 → (σ'.2.1 1 1).toInt = 0 → rc_P σ' q → post (some (some (.int r))) σ') : am_K g 60 tX11_station.1 0 0 0 lw [] σ post := by
  have k2 : (σ.2.1 1 1).toInt ≤ (940 : Int) := (hM.2.2.1 1 1 _ _ 18 rfl).2
  refine sg_cs1_run G hct hM hl ?_
  intro lw1 a1 σ1 p0 f1 hM1
  -- open
  refine rd_call G (T2 := tX6_open) rfl rd_d_X11_station_7 rd_k_X11_station_7 rfl (hM1.1 3 (.inl 6) rfl) (as := [.int a1]) (st := []) rfl (Nat.le_of_ble_eq_true rfl) rfl (by decide) (d1 := 15) (by decide) (post1 := fun r σ' => r = some none ∧ sx_M z9 hd_C σ1 rc_mO 0 σ' ∧ rc_X σ' (rd_by (σ.2.1 2)) n 900 ∧ rc_N σ' (rd_tok (rd_by (σ.2.1 2)) n 900 0) ∧ (σ'.2.1 3 7).toInt = 0) (fun _ h => by cases h.1) ?_ ?_
  · refine sg_op1_run G hct (sx_M_self hM1) (by simp [lv_args, Value.category]) (m1 := a1) (by simp [lv_args, Value.category]) ?_
    intro lw2 σ2 q0 g1 g2 g3 g4 hM2
    have X2 : rc_X σ2 (rd_by (σ.2.1 2)) n 900 := by
      refine ⟨fun k hk => ?_, ?_, ?_, by omega, by decide⟩
      · unfold rd_by
        rw [hM2.2.2.2.2.1 2 k _ _ 19 (rc_a2 hk) (by decide +kernel), hM1.2.2.2.2.1 2 k _ _ 19 (rc_a2 hk) (sx_bit0 _)]
      · rw [hM2.2.2.2.2.1 1 1 _ _ 18 rfl (by decide +kernel), hM1.2.2.2.2.1 1 1 _ _ 18 rfl (sx_bit0 _)]
        exact hn
      · show _ = (900 : Int)
        omega
    refine rc_stc G hct (d := 15) (by decide) (sx_M_self hM2) X2 (p := 0) (by show _ = (0 : Int); omega) rfl rd_d_X6_open_21 rd_k_X6_open_21 (by decide) ?_
    intro σ3 hM3 N3
    refine sg_op2_run G hct (sx_M_self hM3) q0 ?_
    intro σ4 hM4
    refine ⟨rfl, hd_tr (hd_tr (sx_M_mask (by decide +kernel) hM2) hM3 (by decide +kernel)) hM4 (by decide +kernel), rc_Xm (rc_Xm X2 hM3 (by decide +kernel) (by decide +kernel) (by decide +kernel)) hM4 (sx_bit0 _) (sx_bit0 _) (sx_bit0 _), rc_N0 N3 hM4 (sx_bit0 _) (sx_bit0 _) (sx_bit0 _) (sx_bit0 _) (sx_bit0 _), ?_⟩
    rw [hM4.2.2.2.2.1 3 7 _ _ 27 rfl (sx_bit0 _), hM3.2.2.2.2.1 3 7 _ _ 27 rfl (by decide +kernel)]
    omega
  · intro v σ2 ⟨hv, a2, X2, N2, z2⟩
    cases hv
    have H2 : sx_M z9 hd_C σ rc_mS 0 σ2 := hd_tr (sx_M_mask (by decide +kernel) hM1) a2 (by decide +kernel)
    refine sg_cs2_run G hct (sx_M_self a2) p0 ?_
    intro lw3 σ3 q0 hM3
    have H3 := hd_tr H2 hM3 (by decide +kernel)
    have X3 := rc_Xm X2 hM3 (sx_bit0 _) (sx_bit0 _) (sx_bit0 _)
    have N3 := rc_N0 N2 hM3 (sx_bit0 _) (sx_bit0 _) (sx_bit0 _) (sx_bit0 _) (sx_bit0 _)
    have z3 : (σ3.2.1 3 7).toInt = 0 := by rw [hM3.2.2.2.2.1 3 7 _ _ 27 rfl (sx_bit0 _)]; exact z2
    have keep : ∀ u, (36 ≤ u ∧ u ≤ 46) → sx_bit rc_mO u = false ∧ sx_bit rc_mF u = false ∧ sx_bit (Nat.lor (Nat.shiftLeft 1 16) (Nat.shiftLeft 1 18)) u = false := by
      intro u hu
      have d : ∀ i, i < 11 → sx_bit rc_mO (36 + i) = false ∧ sx_bit rc_mF (36 + i) = false ∧ sx_bit (Nat.lor (Nat.shiftLeft 1 16) (Nat.shiftLeft 1 18)) (36 + i) = false := by decide +kernel
      have := d (u - 36) (by omega)
      rw [show 36 + (u - 36) = u by omega] at this
      exact this
    refine rd_call G (T2 := tX9_readFrom) rfl rd_d_X11_station_18 rd_k_X11_station_18 rfl (hM3.1 12 (.inl 9) rfl) (as := [.ref 3]) (st := []) rfl (Nat.le_of_ble_eq_true rfl) rfl (by decide) (d1 := 50) (by decide)
      (post1 := fun r σ' => ∃ y : Int32, r = some (some (.int y)) ∧ ((∃ kd at' : Nat, rd_all9 (rd_by (σ.2.1 2)) n = .inl (kd, at') ∧ y.toInt = 0 ∧ sx_M z9 hd_C σ3 rc_mF 0 σ' ∧ (σ'.2.1 3 7).toInt = kd ∧ (σ'.2.1 3 8).toInt = at' ∧ at' ≤ 940) ∨ (∃ (l : Nat) (q' : rd_Q), rd_all9 (rd_by (σ.2.1 2)) n = .inr (l, q') ∧ y.toInt = 1 ∧ sx_M z9 hd_C σ3 rc_mF 0 σ' ∧ (σ'.2.1 12 9).toInt = l ∧ (σ'.2.1 3 7).toInt = 0 ∧ rc_D σ' q'))) (fun _ h => by obtain ⟨y, h, -⟩ := h; cases h)
      (rc_readFrom G hct (sx_M_self hM3) X3 N3 z3 (by simp [lv_args, Value.category]) (by simp [lv_args, Value.category]) (fun r σ' kd at' c1 c2 c3 c4 c5 c6 => ⟨r, rfl, Or.inl ⟨kd, at', c1, c2, c3, c4, c5, c6⟩⟩) (fun r σ' l q' c1 c2 c3 c4 c5 c6 => ⟨r, rfl, Or.inr ⟨l, q', c1, c2, c3, c4, c5, c6⟩⟩)) ?_
    intro v4 σ4 ⟨y, hv4, hh⟩
    cases hv4
    rcases hh with ⟨kd, at', c1, c2, c3, c4, c5, c6⟩ | ⟨l, q, c1, c2, c3, c4, c5, c6⟩
    · refine sg_cs3a_run G hct (sx_M_self c3) q0 (by omega) (by omega) ?_
      intro r σ5 g1 g2 g3 hM5
      have hM5' : sx_M z9 hd_C σ4 (Nat.lor (Nat.shiftLeft 1 16) (Nat.shiftLeft 1 18)) 0 σ5 := sx_M_mask (by decide +kernel) hM5
      have back : ∀ o j lo hi u, sx_atl (z9.1 o) j = some (lo, hi, u) → 36 ≤ u ∧ u ≤ 46 → σ5.2.1 o j = σ.2.1 o j := by
        intro o j lo hi u e hu
        obtain ⟨k1, k2, k3⟩ := keep u hu
        rw [hM5'.2.2.2.2.1 o j lo hi u e k3, c3.2.2.2.2.1 o j lo hi u e k2, hM3.2.2.2.2.1 o j lo hi u e (sx_bit0 _), a2.2.2.2.2.1 o j lo hi u e k1, hM1.2.2.2.2.1 o j lo hi u e (sx_bit0 _)]
      refine kf r σ5 kd at' c1 (by omega) (hd_tr (hd_tr H3 c3 (by decide +kernel)) hM5 (by decide +kernel)) (by omega) (by omega) (fun r' hr' k hk => ?_) (fun j h1 h2 => ?_)
      · obtain ⟨lo1, hi1, lo2, hi2, e1, -⟩ := rc_u5 hr' hk
        exact back (5 + r') k lo1 hi1 _ e1 (by omega)
      · have h4 : j = 7 ∨ j = 8 ∨ j = 9 ∨ j = 10 := by omega
        rcases h4 with rfl | rfl | rfl | rfl
        · exact back 4 7 _ _ 36 rfl (by decide)
        · exact back 4 8 _ _ 37 rfl (by decide)
        · exact back 4 9 _ _ 38 rfl (by decide)
        · exact back 4 10 _ _ 39 rfl (by decide)
    · refine sg_cs3b_run G hct (sx_M_self c3) q0 (by omega) ?_
      intro lw5 σ5 u0 g1 g2 hM5
      have hM5' : sx_M z9 hd_C σ4 (Nat.lor (Nat.shiftLeft 1 16) (Nat.shiftLeft 1 18)) 0 σ5 := sx_M_mask (by decide +kernel) hM5
      have H5 := hd_tr (hd_tr H3 c3 (by decide +kernel)) hM5 (by decide +kernel)
      refine rd_call G (T2 := tX9_copyFrom) rfl rd_d_X11_station_63 rd_k_X11_station_63 rfl (hM5.1 4 (.inl 9) rfl) (as := [.ref 12]) (st := []) rfl (Nat.le_of_ble_eq_true rfl) rfl (by decide) (d1 := 20) (by decide) (post1 := fun r σ' => r = some none ∧ sx_M z9 hd_C σ5 rc_mQ 0 σ' ∧ (∀ j, 7 ≤ j → j < 11 → (σ'.2.1 4 j).toInt = (σ5.2.1 12 j).toInt) ∧ (∀ r, r < 7 → ∀ k, k < rc_ln r → σ'.2.1 (5 + r) k = σ5.2.1 (13 + r) k)) (fun _ h => by cases h.1) (rc_copyFrom G hct (sx_M_self hM5) (by simp [lv_args, Value.category]) (by simp [lv_args, Value.category]) (fun σ' b1 b2 b3 => ⟨rfl, b1, b2, b3⟩)) ?_
      intro v6 σ6 ⟨hv6, b1, b2, b3⟩
      cases hv6
      have H6 := hd_tr H5 b1 (by decide +kernel)
      have e5 : ∀ o j lo hi u, sx_atl (z9.1 o) j = some (lo, hi, u) → 54 ≤ u ∧ u ≤ 64 → σ5.2.1 o j = σ4.2.1 o j := by
        intro o j lo hi u e hu
        have d : ∀ i, i < 11 → sx_bit (Nat.lor (Nat.shiftLeft 1 16) (Nat.shiftLeft 1 18)) (54 + i) = false := by decide +kernel
        have := d (u - 54) (by omega)
        rw [show 54 + (u - 54) = u by omega] at this
        exact hM5'.2.2.2.2.1 o j lo hi u e this
      refine sg_cs4_run G hct (sx_M_self b1) u0 ?_
      intro r σ7 g3 z17 z18 z19 hM7
      have m7 : (Nat.lor (Nat.shiftLeft 2047 68) (Nat.lor (Nat.shiftLeft 3 94) (Nat.lor (Nat.shiftLeft 3 210) (Nat.shiftLeft 7 237)))) = Nat.lor (Nat.shiftLeft 2047 68) (Nat.lor (Nat.shiftLeft 3 94) (Nat.lor (Nat.shiftLeft 3 210) (Nat.shiftLeft 7 237))) := rfl
      have hM7' : sx_M z9 hd_C σ6 (Nat.lor (Nat.shiftLeft 2047 68) (Nat.lor (Nat.shiftLeft 3 94) (Nat.lor (Nat.shiftLeft 3 210) (Nat.shiftLeft 7 237)))) 0 σ7 := sx_M_mask (by decide +kernel) hM7
      have e7 : ∀ o j lo hi u, sx_atl (z9.1 o) j = some (lo, hi, u) → 36 ≤ u ∧ u ≤ 46 → σ7.2.1 o j = σ6.2.1 o j := by
        intro o j lo hi u e hu
        have d : ∀ i, i < 11 → sx_bit (Nat.lor (Nat.shiftLeft 2047 68) (Nat.lor (Nat.shiftLeft 3 94) (Nat.lor (Nat.shiftLeft 3 210) (Nat.shiftLeft 7 237)))) (36 + i) = false := by decide +kernel
        have := d (u - 36) (by omega)
        rw [show 36 + (u - 36) = u by omega] at this
        exact hM7'.2.2.2.2.1 o j lo hi u e this
      have f7 := e7 4 7 _ _ 36 rfl (by decide)
      have f8 := e7 4 8 _ _ 37 rfl (by decide)
      have f9 := e7 4 9 _ _ 38 rfl (by decide)
      have d7 := e5 12 7 _ _ 54 rfl (by decide)
      have d8 := e5 12 8 _ _ 55 rfl (by decide)
      have d9 := e5 12 9 _ _ 56 rfl (by decide)
      have b27 := b2 7 (by decide) (by decide)
      have b28 := b2 8 (by decide) (by decide)
      have b29 := b2 9 (by decide) (by decide)
      rw [d7] at b27
      rw [d8] at b28
      rw [d9] at b29
      have rows : ∀ r, r < 7 → ∀ k, k < rc_ln r → σ7.2.1 (5 + r) k = σ4.2.1 (13 + r) k := by
        intro r hr k hk
        obtain ⟨lo1, hi1, lo2, hi2, e1, e2, -⟩ := rc_u5 hr hk
        rw [e7 (5 + r) k lo1 hi1 _ e1 (by omega), b3 r hr k hk, e5 (13 + r) k lo2 hi2 _ e2 (by omega)]
      refine kt r σ7 l q c1 (by omega) (hd_tr H6 hM7 (by decide +kernel)) ?_ ?_ ⟨?_, fun h => ?_, fun h => ?_, fun r' hr' => ⟨(c6.2.2.2 r' hr').1, fun k hk => ?_⟩⟩
      · rw [hM7.2.2.2.2.1 0 16 _ _ 16 rfl (by decide +kernel), b1.2.2.2.2.1 0 16 _ _ 16 rfl (by decide +kernel)]
        omega
      · rw [hM7.2.2.2.2.1 1 1 _ _ 18 rfl (by decide +kernel), b1.2.2.2.2.1 1 1 _ _ 18 rfl (by decide +kernel)]
        omega
      · rw [f7, b27]; exact c6.1
      · have hc := c6.2.1 h
        refine ⟨by rw [f8, b28]; exact hc.1, ?_, ?_⟩
        · rw [rows 4 (by decide) 0 (by decide)]; exact hc.2.1
        · rw [rows 5 (by decide) 0 (by decide)]; exact hc.2.2
      · rw [f8, b28]; exact c6.2.2.1 h
      · rw [rows r' hr' k (Nat.lt_of_lt_of_le hk (c6.2.2.2 r' hr').1)]
        exact (c6.2.2.2 r' hr').2 k hk
end CO
