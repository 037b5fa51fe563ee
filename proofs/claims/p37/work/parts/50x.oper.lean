/-! operand and behind -/
/-- where the reader ends -/
def hd_E (σe σ : am_S) : Prop := sx_M z9 hd_C σe hd_mS 0 σ ∧ σ.2.1 118 2 = 0
theorem hd_J.e {σe σ : am_S} {c t w n : Nat} (J : hd_J σe σ c t w n) : hd_E σe σ := ⟨J.1, J.2.2.2.2.2.2.2.2.2⟩
theorem hd_E.m {σe σ σ' : am_S} {m : Nat} (E : hd_E σe σ) (hM : sx_M z9 hd_C σ m 0 σ') (hk : (Nat.lor m hd_mS).beq hd_mS = true ∧ sx_bit m 361 = false) : hd_E σe σ' := ⟨hd_tr E.1 hM hk.1, (hd_f2 hM hk.2).trans E.2⟩
section HX
variable {g : am_C} {L : Nat} {xs : Nat → Int32}
theorem hd_operand (G : sx_G0 g L xs z9 hd_C ex_mt) (hct : ∀ (mi : Nat) (T2 : ex_T) (c' : sx_Ct), ex_mt mi = some T2 → c' ∈ k9 mi → c'.1 < 60 → sx_Holds g z9 hd_C T2 c') {σe σ : am_S} {c t n : Nat} (J : hd_J σe σ c t 0 n) {lw : List (Nat × Value)} (hl : (0, Value.ref 118) ∈ lw) {post : Option (Option Value) → am_S → Prop} (k0 : ∀ (r : Int32) σ', r.toInt = 0 → hd_E σe σ' → post (some (some (.int r))) σ') (k1 : ∀ (r : Int32) σ' c' t' w', r.toInt = 1 → hd_J σe σ' c' t' w' (n + 1) → t' ≤ t + 1 → post (some (some (.int r))) σ') : am_K g 25 tX12_operand.1 0 0 0 lw [] σ post := by
  have J0 := J
  obtain ⟨j1, j2, j3, j4, j5, j6, j7, j8, j9, j10⟩ := J
  have eN : (σ.2.1 118 40).toInt = (n : Nat) := by rw [j5]; exact hd_ti (by omega)
  have eT : (σ.2.1 118 41).toInt = (t : Nat) := by rw [j3]; exact hd_ti (by omega)
  have push : ∀ (lw1 : List (Nat × Value)) (x y : Int32) (σ1 : am_S) (m : Nat), sx_M z9 hd_C σ m 0 σ1 → ((Nat.lor m hd_mS).beq hd_mS = true ∧ sx_bit m 398 = false ∧ sx_bit m 400 = false ∧ sx_bit m 402 = false ∧ sx_bit m 361 = false ∧ sx_bit m 446 = false ∧ sx_bit m 484 = false) → (x.toInt = 20 ∨ x.toInt = 23) → y.toInt = (t : Nat) → (σ1.2.1 118 40).toInt = ((n + 1 : Nat) : Int) → n ≤ 19 → (0, Value.ref 118) ∈ lw1 → am_K g 25 tX12_operand.1 0 0 103 lw1 [.int x, .int y, .ref 134] σ1 post := by
    intro lw1 x y σ1 m hM1 hb hx hy hn1 hn hl1
    obtain ⟨b0, b1, b2, b3, b4, b5, b6⟩ := hb
    have H1 := hd_tr j1 hM1 b0
    have e22 : ∀ j, j < 135 → σ1.2.1 122 j = σ.2.1 122 j := fun j hj => hd_fr122 hM1 b5 hj
    have e34 : ∀ j, j < 45 → σ1.2.1 134 j = σ.2.1 134 j := fun j hj => hd_fr134 hM1 b6 hj
    refine kr_iast G.1 hd_d_operand_103 (hd_sh H1).2.2 (hd_in hy (by omega)) ?_
    rw [hd_clamp hy]
    have H2 := hd_up134 (k := t) (v := x) H1 (by omega) (by decide +kernel)
    have eT1 : σ1.2.1 118 41 = Int32.ofNat t := (hd_f41 hM1 b2).trans j3
    have eT2 : (am_up σ1.2.1 134 t x 118 41).toInt = (t : Nat) := by rw [am_up_o _ _ (by decide), eT1]; exact hd_ti (by omega)
    refine sg_o2_run G hct (sx_M_self H2) hl1 (by show 0 ≤ (am_up σ1.2.1 134 t x 118 41).toInt ∧ (am_up σ1.2.1 134 t x 118 41).toInt ≤ 39; omega) ?_
    intro r σ3 f1 f2 hM3
    have q34 : ∀ j, j < 45 → σ3.2.1 134 j = am_up σ1.2.1 134 t x 134 j := fun j hj => hd_fr134 hM3 (by decide +kernel) hj
    have q22 : ∀ j, j < 135 → σ3.2.1 122 j = σ.2.1 122 j := fun j hj => (hd_fr122 hM3 (by decide +kernel) hj).trans ((am_up_o σ1.2.1 (o := 134) (k := t) x (by decide)).trans (e22 j hj))
    have lowr : ∀ j, j < t → σ3.2.1 134 j = σ.2.1 134 j := fun j hj => by rw [q34 j (by omega), am_up_n _ _ (by omega), e34 j (by omega)]
    have top : σ3.2.1 134 t = x := by rw [q34 t (by omega), am_up_s]
    have f2' : -1 ≤ 1 * (am_up σ1.2.1 134 t x 118 41).toInt + (-1 * (σ3.2.1 118 41).toInt + 0) ∧ 1 * (am_up σ1.2.1 134 t x 118 41).toInt + (-1 * (σ3.2.1 118 41).toInt + 0) ≤ -1 := f2
    refine k1 r σ3 c (t + 1) 0 (by omega) ⟨hd_tr H2 hM3 (by decide +kernel), (hd_f39 hM3 (by decide +kernel)).trans ((hd_f39 hM1 b1).trans j2), hd_nat (by omega) (by omega), (hd_f43 hM3 (by decide +kernel)).trans ((hd_f43 hM1 b3).trans j4), (hd_f40 hM3 (by decide +kernel)).trans (hd_nat (by omega) hn1), by omega, ?_, hd_ok_congr (fun j hj => q22 j (by omega)) j8, ?_, (hd_f2 hM3 (by decide +kernel)).trans ((hd_f2 hM1 b4).trans j10)⟩ (Nat.le_refl _)
    · intro j hj
      rcases Nat.lt_or_ge j t with h | h
      · rw [lowr j h]; exact j7 j h
      · rw [show j = t by omega, top]; omega
    · rw [hd_dp_congr (fun j hj => q22 j (by omega))]
      show _ = hd_bn (σ3.2.1 134) t + (if σ3.2.1 134 t = 21 ∨ σ3.2.1 134 t = 22 then 1 else 0) + (0 : Nat)
      rw [top, hd_bn_congr lowr, if_neg (fun h => by rcases h with h | h <;> rw [h] at hx <;> rcases hx with hx | hx <;> cases hx)]
      omega
  refine sg_o1_run G hct (sx_M_self j1) hl (fun r σ' f hM => k0 r σ' (by omega) (J0.e.m hM (by decide +kernel))) ?_ ?_ ?_
  · intro lw1 x y σ1 hl1 f1 f2 f3 f4 hM1
    exact push lw1 x y σ1 _ hM1 (by decide +kernel) (Or.inl (by omega)) (by omega) (by omega) (by omega) hl1
  · intro lw1 x y σ1 hl1 f1 f2 f3 f4 hM1
    exact push lw1 x y σ1 _ hM1 (by decide +kernel) (Or.inr (by omega)) (by omega) (by omega) (by omega) hl1
  · intro lw1 lf σ1 hl1 hl3 f1 f2 f3 hM1
    have H1 := hd_tr j1 hM1 (by decide +kernel)
    have E1 : hd_E σe σ1 := J0.e.m hM1 (by decide +kernel)
    have e22 : ∀ j, j < 135 → σ1.2.1 122 j = σ.2.1 122 j := fun j hj => hd_fr122 hM1 (by decide +kernel) hj
    have e34 : ∀ j, j < 45 → σ1.2.1 134 j = σ.2.1 134 j := fun j hj => hd_fr134 hM1 (by decide +kernel) hj
    have p39 : σ1.2.1 118 39 = Int32.ofNat c := (hd_f39 hM1 (by decide +kernel)).trans j2
    have p41 : σ1.2.1 118 41 = Int32.ofNat t := (hd_f41 hM1 (by decide +kernel)).trans j3
    have p40 : σ1.2.1 118 40 = Int32.ofNat (n + 1) := hd_nat (by omega) (by omega)
    -- the leaf's code
    have leaf : ∀ (σ2 : am_S) (m : Nat) (x s v : Int32) {post1 : Option (Option Value) → am_S → Prop}, sx_M z9 hd_C σ1 m 0 σ2 → ((Nat.lor m hd_mS).beq hd_mS = true ∧ sx_bit m 398 = false ∧ sx_bit m 399 = false ∧ sx_bit m 400 = false ∧ sx_bit m 361 = false ∧ sx_bit m 446 = false ∧ sx_bit m 484 = false) → (σ2.2.1 118 43).toInt = 1 → 0 ≤ x.toInt → x.toInt ≤ 6 → (∀ σ', hd_J σe σ' (c + 1) t 1 (n + 1) → post1 (some none) σ') → am_K g 5 tX12_code.1 0 0 0 [(0, .ref 118), (1, .int x), (2, .int s), (3, .int v)] [] σ2 post1 := by
      intro σ2 m x s v post1 hM2 hb hw hx1 hx2 kk
      obtain ⟨b0, b1, b2, b3, b4, b5, b6⟩ := hb
      have r22 : ∀ j, j < 135 → σ2.2.1 122 j = σ.2.1 122 j := fun j hj => (hd_fr122 hM2 b5 hj).trans (e22 j hj)
      have r34 : ∀ j, j < 45 → σ2.2.1 134 j = σ.2.1 134 j := fun j hj => (hd_fr134 hM2 b6 hj).trans (e34 j hj)
      have hx20 : ¬ x = 20 := fun h => by rw [h] at hx2; exact absurd hx2 (by decide)
      have hx21 : ¬ (x = 21 ∨ x = 22) := fun h => by rcases h with h | h <;> rw [h] at hx2 <;> exact absurd hx2 (by decide)
      refine hd_codeJ G hct (hd_tr H1 hM2 b0) ((hd_f39 hM2 b1).trans p39) ((hd_f41 hM2 b3).trans p41) (hd_nat (by omega) (by omega)) ((hd_f40 hM2 b2).trans p40) (by omega) (fun j hj => by rw [r34 j (by omega)]; exact j7 j hj) (hd_ok_congr (fun j hj => r22 j (by omega)) j8) x s v (fun h => absurd h hx20) (fun h => absurd h hx21) ?_ ((hd_f2 hM2 b4).trans E1.2) kk
      rw [if_neg hx20, if_neg hx21, hd_dp_congr (fun j hj => r22 j (by omega)), hd_bn_congr (fun j hj => r34 j (by omega)), j9]
      omega
    refine sg_o3_run G hct (sx_M_self H1) hl1 hl3 (by omega) (fun r σ' f hM => k0 r σ' (by omega) (E1.m hM (by decide +kernel))) ?_ ?_
    · intro lw2 y0 y1 y2 σ2 hl2 f4 f5 f6 f7 hM2
      refine hd_call G (T2 := tX12_code) rfl hd_d_operand_140 hd_k_operand_140 rfl (hd_sh (hd_tr H1 hM2 (by decide +kernel))).1 (as := [.int y2, .int y1, .int y0]) (st := []) rfl (Nat.le_of_ble_eq_true rfl) rfl (Nat.le_of_ble_eq_true rfl) (d1 := 5) (by decide) (post1 := fun r σ3 => r = some none ∧ hd_J σe σ3 (c + 1) t 1 (n + 1)) (fun _ h => by cases h.1) (leaf σ2 _ y2 y1 y0 hM2 (by decide +kernel) (by omega) (by omega) (by omega) (fun σ' h => ⟨rfl, h⟩)) ?_
      intro v σ3 h3
      cases h3.1
      exact sg_o4_run G hct (sx_M_self h3.2.1) hl2 (fun r σ4 f hM4 => k1 r σ4 (c + 1) t 1 (by omega) (hd_Jm h3.2 hM4 (by decide +kernel)) (by omega))
    · intro lw2 y0 y1 y2 σ2 hl2 f6 f7 hM2
      refine hd_call G (T2 := tX12_code) rfl hd_d_operand_209 hd_k_operand_209 rfl (hd_sh (hd_tr H1 hM2 (by decide +kernel))).1 (as := [.int y2, .int y1, .int y0]) (st := []) rfl (Nat.le_of_ble_eq_true rfl) rfl (Nat.le_of_ble_eq_true rfl) (d1 := 5) (by decide) (post1 := fun r σ3 => r = some none ∧ hd_J σe σ3 (c + 1) t 1 (n + 1)) (fun _ h => by cases h.1) (leaf σ2 _ y2 y1 y0 hM2 (by decide +kernel) (by omega) (by omega) (by omega) (fun σ' h => ⟨rfl, h⟩)) ?_
      intro v σ3 h3
      cases h3.1
      exact sg_o5_run G hct (sx_M_self h3.2.1) hl2 (fun r σ4 f hM4 => k1 r σ4 (c + 1) t 1 (by omega) (hd_Jm h3.2 hM4 (by decide +kernel)) (by omega))
theorem hd_behind (G : sx_G0 g L xs z9 hd_C ex_mt) (hct : ∀ (mi : Nat) (T2 : ex_T) (c' : sx_Ct), ex_mt mi = some T2 → c' ∈ k9 mi → c'.1 < 60 → sx_Holds g z9 hd_C T2 c') {σe σ : am_S} {c t n : Nat} (J : hd_J σe σ c t 1 n) {lw : List (Nat × Value)} (hl : (0, Value.ref 118) ∈ lw) {post : Option (Option Value) → am_S → Prop} (k0 : ∀ (r : Int32) σ', r.toInt = 0 → hd_E σe σ' → post (some (some (.int r))) σ') (k1 : ∀ (r : Int32) σ' c' t' w', r.toInt = 1 → hd_J σe σ' c' t' w' n → ((w' = 0 ∧ t' ≤ t + 1) ∨ (w' = 1 ∧ t' < t)) → post (some (some (.int r))) σ') : am_K g 25 tX12_behind.1 0 0 0 lw [] σ post := by
  refine sg_b1_run G hct (sx_M_self J.1) hl ?_
  intro lw1 σ1 hl1 hM1
  have J1 := hd_Jm J hM1 (by decide +kernel)
  refine hd_call G (T2 := tX12_nots) rfl hd_d_behind_1 hd_k_behind_1 rfl (hd_sh J1.1).1 (as := []) (st := []) rfl (Nat.le_of_ble_eq_true rfl) rfl (Nat.le_of_ble_eq_true rfl) (d1 := 20) (by decide) (post1 := fun r σ2 => r = some none ∧ ∃ c' t', hd_J σe σ2 c' t' 1 n ∧ t' ≤ t) (fun _ h => by cases h.1) (hd_nots G hct t (fun σ' c' t' h1 h2 => ⟨rfl, c', t', h1, h2⟩) t c σ1 _ (Nat.le_refl _) J1 (by simp [lv_args])) ?_
  intro v σ2 h2
  obtain ⟨hv, c2, t2, J2, ht2⟩ := h2
  cases hv
  refine sg_b2_run G hct (sx_M_self J2.1) hl1 ?_ ?_
  · intro lw3 x σ3 hl3 f1 hM3
    have J3 := hd_Jm J2 hM3 (by decide +kernel)
    refine hd_call G (T2 := tX12_joins) rfl hd_d_behind_42 hd_k_behind_42 rfl (hd_sh J3.1).1 (as := [.int x]) (st := []) rfl (Nat.le_of_ble_eq_true rfl) rfl (Nat.le_of_ble_eq_true rfl) (d1 := 20) (by decide) (post1 := fun r σ4 => r = some none ∧ ∃ c' t', hd_J σe σ4 c' t' 1 n ∧ t' ≤ t2) (fun _ h => by cases h.1) (hd_joins G hct t2 (x := x) (by omega) (fun σ' c' t' h1 h2 _ => ⟨rfl, c', t', h1, h2⟩) t2 c2 σ3 _ (Nat.le_refl _) J3 (by simp [lv_args]) (by simp [lv_args, Value.category])) ?_
    intro v σ4 h4
    obtain ⟨hv, c4, t4, J4, ht4⟩ := h4
    cases hv
    refine sg_b3_run G hct (sx_M_self J4.1) hl3 ?_
    intro lw5 y i σ5 hl5 g1 g2 g3 hM5
    have J5 := hd_Jm J4 hM5 (by decide +kernel)
    have J5' := J5
    obtain ⟨j1, j2, j3, j4, j5, j6, j7, j8, j9, j10⟩ := J5
    have eT4 : (σ4.2.1 118 41).toInt = (t4 : Nat) := by rw [J4.2.2.1]; exact hd_ti (by omega)
    have ei : i.toInt = (t4 : Nat) := by omega
    refine kr_iast G.1 hd_d_behind_70 (hd_sh j1).2.2 (hd_in ei (by omega)) ?_
    rw [hd_clamp ei]
    have H6 := hd_up134 (k := t4) (v := y) j1 (by omega) (by decide +kernel)
    have eT6 : (am_up σ5.2.1 134 t4 y 118 41).toInt = (t4 : Nat) := by rw [am_up_o _ _ (by decide), j3]; exact hd_ti (by omega)
    refine sg_b4_run G hct (sx_M_self H6) hl5 (by show 0 ≤ (am_up σ5.2.1 134 t4 y 118 41).toInt ∧ (am_up σ5.2.1 134 t4 y 118 41).toInt ≤ 39; omega) ?_
    intro r σ7 p1 p2 p3 hM7
    have p2' : -1 ≤ 1 * (am_up σ5.2.1 134 t4 y 118 41).toInt + (-1 * (σ7.2.1 118 41).toInt + 0) ∧ 1 * (am_up σ5.2.1 134 t4 y 118 41).toInt + (-1 * (σ7.2.1 118 41).toInt + 0) ≤ -1 := p2
    have q34 : ∀ j, j < 45 → σ7.2.1 134 j = am_up σ5.2.1 134 t4 y 134 j := fun j hj => hd_fr134 hM7 (by decide +kernel) hj
    have q22 : ∀ j, j < 135 → σ7.2.1 122 j = σ5.2.1 122 j := fun j hj => (hd_fr122 hM7 (by decide +kernel) hj).trans (am_up_o σ5.2.1 (o := 134) (k := t4) y (a := 122) (b := j) (by decide))
    have lowr : ∀ j, j < t4 → σ7.2.1 134 j = σ5.2.1 134 j := fun j hj => by rw [q34 j (by omega), am_up_n _ _ (by omega)]
    have top : σ7.2.1 134 t4 = y := by rw [q34 t4 (by omega), am_up_s]
    have hy : y = 21 ∨ y = 22 := by
      rcases (show y.toInt = 21 ∨ y.toInt = 22 by omega) with h | h
      · exact Or.inl (Int32.toInt_inj.mp (by rw [h]; rfl))
      · exact Or.inr (Int32.toInt_inj.mp (by rw [h]; rfl))
    refine k1 r σ7 c4 (t4 + 1) 0 (by omega) ⟨hd_tr H6 hM7 (by decide +kernel), (hd_f39 hM7 (by decide +kernel)).trans j2, hd_nat (by omega) (by omega), hd_nat (by omega) (by omega), (hd_f40 hM7 (by decide +kernel)).trans j5, by omega, ?_, hd_ok_congr (fun j hj => q22 j (by omega)) j8, ?_, (hd_f2 hM7 (by decide +kernel)).trans j10⟩ (Or.inl ⟨rfl, by omega⟩)
    · intro j hj
      rcases Nat.lt_or_ge j t4 with h | h
      · rw [lowr j h]; exact j7 j h
      · rw [show j = t4 by omega, top]; omega
    · rw [hd_dp_congr (fun j hj => q22 j (by omega))]
      show _ = hd_bn (σ7.2.1 134) t4 + (if σ7.2.1 134 t4 = 21 ∨ σ7.2.1 134 t4 = 22 then 1 else 0) + (0 : Nat)
      rw [top, hd_bn_congr lowr, if_pos hy, j9]
      omega
  · intro lw3 x σ3 hl3 f1 hM3
    have J3 := hd_Jm J2 hM3 (by decide +kernel)
    refine hd_call G (T2 := tX12_joins) rfl hd_d_behind_95 hd_k_behind_95 rfl (hd_sh J3.1).1 (as := [.int x]) (st := []) rfl (Nat.le_of_ble_eq_true rfl) rfl (Nat.le_of_ble_eq_true rfl) (d1 := 20) (by decide) (post1 := fun r σ4 => r = some none ∧ ∃ c' t', hd_J σe σ4 c' t' 1 n ∧ t' ≤ t2 ∧ ∀ j, t' = j + 1 → ¬ (σ4.2.1 134 j = 21 ∨ σ4.2.1 134 j = 22)) (fun _ h => by cases h.1) (hd_joins G hct t2 (x := x) (by omega) (fun σ' c' t' h1 h2 h3 => ⟨rfl, c', t', h1, h2, h3 (by omega)⟩) t2 c2 σ3 _ (Nat.le_refl _) J3 (by simp [lv_args]) (by simp [lv_args, Value.category])) ?_
    intro v σ4 h4
    obtain ⟨hv, c4, t4, J4, ht4, hno⟩ := h4
    cases hv
    have eT4 : (σ4.2.1 118 41).toInt = (t4 : Nat) := by rw [J4.2.2.1]; exact hd_ti (by have := J4.2.2.2.2.2.1; omega)
    refine sg_b5_run G hct (sx_M_self J4.1) hl3 (fun r σ' f hM => k0 r σ' (by omega) (J4.e.m hM (by decide +kernel))) ?_
    intro r σ5 g1 g2 g3 hM5
    obtain ⟨j1, j2, j3, j4, j5, j6, j7, j8, j9, j10⟩ := J4
    obtain ⟨t5, rfl⟩ : ∃ t5, t4 = t5 + 1 := ⟨t4 - 1, by omega⟩
    have q34 : ∀ j, j < 45 → σ5.2.1 134 j = σ4.2.1 134 j := fun j hj => hd_fr134 hM5 (by decide +kernel) hj
    have q22 : ∀ j, j < 135 → σ5.2.1 122 j = σ4.2.1 122 j := fun j hj => hd_fr122 hM5 (by decide +kernel) hj
    refine k1 r σ5 c4 t5 1 (by omega) ⟨hd_tr j1 hM5 (by decide +kernel), (hd_f39 hM5 (by decide +kernel)).trans j2, hd_nat (by omega) (by omega), (hd_f43 hM5 (by decide +kernel)).trans j4, (hd_f40 hM5 (by decide +kernel)).trans j5, by omega, ?_, hd_ok_congr (fun j hj => q22 j (by omega)) j8, ?_, (hd_f2 hM5 (by decide +kernel)).trans j10⟩ (Or.inr ⟨rfl, by omega⟩)
    · intro j hj
      rw [q34 j (by omega)]
      exact j7 j (by omega)
    · rw [hd_dp_congr (fun j hj => q22 j (by omega)), hd_bn_congr (fun j hj => q34 j (by omega)), j9]
      show hd_bn (σ4.2.1 134) t5 + (if σ4.2.1 134 t5 = 21 ∨ σ4.2.1 134 t5 = 22 then 1 else 0) + _ = _
      rw [if_neg (hno t5 rfl)]
      omega
end HX
