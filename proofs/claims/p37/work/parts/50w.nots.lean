/-! nots and joins -/
section HW
variable {g : am_C} {L : Nat} {xs : Nat → Int32}
/-- a code more, the reader's state kept -/
theorem hd_codeJ (G : sx_G0 g L xs z9 hd_C ex_mt) (hct : ∀ (mi : Nat) (T2 : ex_T) (c' : sx_Ct), ex_mt mi = some T2 → c' ∈ k9 mi → c'.1 < 60 → sx_Holds g z9 hd_C T2 c') {σe σ : am_S} {c t w n : Nat} (j1 : sx_M z9 hd_C σe hd_mS 0 σ) (j2 : σ.2.1 118 39 = Int32.ofNat c) (j3 : σ.2.1 118 41 = Int32.ofNat t) (j4 : σ.2.1 118 43 = Int32.ofNat w) (j5 : σ.2.1 118 40 = Int32.ofNat n) (j6 : w ≤ 1 ∧ n ≤ 20 ∧ c + 1 + t + w ≤ 2 * n) (j7 : ∀ j, j < t → 20 ≤ (σ.2.1 134 j).toInt ∧ (σ.2.1 134 j).toInt ≤ 23) (j8 : hd_ok (σ.2.1 122) c) (x s m : Int32) (h20 : x = 20 → 1 ≤ hd_dp (σ.2.1 122) c) (h21 : x = 21 ∨ x = 22 → 2 ≤ hd_dp (σ.2.1 122) c) (j9 : (if x = 20 then hd_dp (σ.2.1 122) c else if x = 21 ∨ x = 22 then hd_dp (σ.2.1 122) c - 1 else hd_dp (σ.2.1 122) c + 1) = hd_bn (σ.2.1 134) t + w) (j10 : σ.2.1 118 2 = 0) {post : Option (Option Value) → am_S → Prop} (k : ∀ σ', hd_J σe σ' (c + 1) t w n → post (some none) σ') : am_K g 5 tX12_code.1 0 0 0 [(0, .ref 118), (1, .int x), (2, .int s), (3, .int m)] [] σ post := by
  refine hd_code G hct (sx_M_self j1) j2 (by omega) x s m (fun σ' hM e1 e2 e3 => k σ' ?_)
  have e4 : ∀ j, j < t → σ'.2.1 134 j = σ.2.1 134 j := fun j hj => hd_fr134 hM (by decide +kernel) (by omega)
  have e5 := hd_dp_congr e3
  refine ⟨hd_tr j1 hM (by decide +kernel), e1, (hd_f41 hM (by decide +kernel)).trans j3, (hd_f43 hM (by decide +kernel)).trans j4, (hd_f40 hM (by decide +kernel)).trans j5, by omega, fun j hj => ?_, ?_, ?_, (hd_f2 hM (by decide +kernel)).trans j10⟩
  · rw [e4 j hj]; exact j7 j hj
  · refine ⟨hd_ok_congr e3 j8, ?_, ?_⟩
    · rw [e2, e5]; exact h20
    · rw [e2, e5]; exact h21
  · show (if σ'.2.1 122 (3 * c) = 20 then hd_dp (σ'.2.1 122) c else if σ'.2.1 122 (3 * c) = 21 ∨ σ'.2.1 122 (3 * c) = 22 then hd_dp (σ'.2.1 122) c - 1 else hd_dp (σ'.2.1 122) c + 1) = _
    rw [e2, e5, hd_bn_congr e4]
    exact j9
theorem hd_nots (G : sx_G0 g L xs z9 hd_C ex_mt) (hct : ∀ (mi : Nat) (T2 : ex_T) (c' : sx_Ct), ex_mt mi = some T2 → c' ∈ k9 mi → c'.1 < 60 → sx_Holds g z9 hd_C T2 c') {σe : am_S} {n : Nat} {post : Option (Option Value) → am_S → Prop} (t0 : Nat) (k : ∀ σ' c' t', hd_J σe σ' c' t' 1 n → t' ≤ t0 → post (some none) σ') : ∀ (t c : Nat) (σ : am_S) (lw : List (Nat × Value)), t ≤ t0 → hd_J σe σ c t 1 n → (0, Value.ref 118) ∈ lw → am_K g 20 tX12_nots.1 0 0 0 lw [] σ post := by
  intro t
  induction t with
  | zero =>
    intro c σ lw ht0 J hl
    have ht : (σ.2.1 118 41).toInt = (0 : Nat) := by rw [J.2.2.1]; rfl
    refine sg_n1_run G hct (sx_M_self J.1) hl (fun σ' hM => k σ' c 0 (hd_Jm J hM (by decide +kernel)) (Nat.zero_le _)) ?_
    intro lw' n0' σ' _ _ f2
    omega
  | succ t ih =>
    intro c σ lw ht0 J hl
    have J0 := J
    obtain ⟨j1, j2, j3, j4, j5, j6, j7, j8, j9, j10⟩ := J
    have ht : (σ.2.1 118 41).toInt = ((t + 1 : Nat) : Int) := by rw [j3]; exact hd_ti (by omega)
    refine sg_n1_run G hct (sx_M_self j1) hl (fun σ' hM => k σ' c (t + 1) (hd_Jm J0 hM (by decide +kernel)) ht0) ?_
    intro lw1 x1 σ1 hl1 f1 f2 f3 hM1
    have J1 := hd_Jm J0 hM1 (by decide +kernel)
    have ex1 : x1.toInt = ((t : Nat) : Int) := by omega
    refine kr_iald G.1 hd_d_nots_17 (hd_sh J1.1).2.2 (hd_in ex1 (by omega)) ?_
    rw [hd_clamp ex1]
    have rng := J1.2.2.2.2.2.2.1 t (by omega)
    by_cases h20 : (σ1.2.1 134 t).toInt = 20
    · refine sg_n2_run G hct (sx_M_self J1.1) hl1 (by rw [J1.2.2.1, hd_ti (by omega)]; omega) (by omega) ?_
      intro lw2 y0 y1 y2 σ2 hl2 f4 f5 f6 f7 hM2
      have e34 : ∀ j, j < 45 → σ2.2.1 134 j = σ1.2.1 134 j := fun j hj => hd_fr134 hM2 (by decide +kernel) hj
      have e22 : ∀ j, j < 135 → σ2.2.1 122 j = σ1.2.1 122 j := fun j hj => hd_fr122 hM2 (by decide +kernel) hj
      have ey2 : y2 = 20 := Int32.toInt_inj.mp (by have : (20 : Int32).toInt = 20 := rfl; omega)
      obtain ⟨i1, i2, i3, i4, i5, i6, i7, i8, i9, i10⟩ := J1
      have hv : σ1.2.1 134 t = 20 := Int32.toInt_inj.mp (by have : (20 : Int32).toInt = 20 := rfl; omega)
      have hbn : hd_bn (σ1.2.1 134) (t + 1) = hd_bn (σ1.2.1 134) t := by
        show hd_bn (σ1.2.1 134) t + (if σ1.2.1 134 t = 21 ∨ σ1.2.1 134 t = 22 then 1 else 0) = _
        rw [hv, if_neg (by decide), Int.add_zero]
      have hdp : hd_dp (σ2.2.1 122) c = hd_dp (σ1.2.1 122) c := hd_dp_congr (fun j hj => e22 j (by omega))
      have hb2 : hd_bn (σ2.2.1 134) t = hd_bn (σ1.2.1 134) t := hd_bn_congr (fun j hj => e34 j (by omega))
      have hpos := hd_bn_pos (f := σ1.2.1 134) (t := t)
      have H2 := hd_tr i1 hM2 (by decide +kernel)
      subst ey2
      refine hd_call G (T2 := tX12_code) rfl hd_d_nots_48 hd_k_nots_48 rfl (hd_sh H2).1 (as := [.int 20, .int y1, .int y0]) (st := []) rfl (Nat.le_of_ble_eq_true rfl) rfl (Nat.le_of_ble_eq_true rfl) (d1 := 5) (by decide) (post1 := fun r σ3 => r = some none ∧ hd_J σe σ3 (c + 1) t 1 n) (fun _ h => by cases h.1) ?_ ?_
      · refine hd_codeJ G hct H2 ((hd_f39 hM2 (by decide +kernel)).trans i2) (hd_nat (by omega) (by rw [i3, hd_ti (by omega)] at f7; omega)) ((hd_f43 hM2 (by decide +kernel)).trans i4) ((hd_f40 hM2 (by decide +kernel)).trans i5) (by omega) (fun j hj => by rw [e34 j (by omega)]; exact i7 j (by omega)) (hd_ok_congr (fun j hj => e22 j (by omega)) i8) 20 y1 y0 (fun _ => by omega) (fun h => by rcases h with h | h <;> cases h) ?_ ((hd_f2 hM2 (by decide +kernel)).trans i10) (fun σ3 h3 => ⟨rfl, h3⟩)
        rw [if_pos rfl]
        omega
      · intro v σ3 h3
        cases h3.1
        refine kr_goto (tgt := 0) hd_d_nots_51 rfl ?_
        exact ih (c + 1) σ3 lw2 (by omega) h3.2 hl2
    · refine sg_n3_run G hct (sx_M_self J1.1) hl1 (by omega) ?_
      intro σ2 hM2
      exact k σ2 c (t + 1) (hd_Jm J1 hM2 (by decide +kernel)) ht0
theorem hd_joins (G : sx_G0 g L xs z9 hd_C ex_mt) (hct : ∀ (mi : Nat) (T2 : ex_T) (c' : sx_Ct), ex_mt mi = some T2 → c' ∈ k9 mi → c'.1 < 60 → sx_Holds g z9 hd_C T2 c') {σe : am_S} {n : Nat} {post : Option (Option Value) → am_S → Prop} (t0 : Nat) {x : Int32} (hx : x.toInt = 21 ∨ x.toInt = 22) (k : ∀ σ' c' t', hd_J σe σ' c' t' 1 n → t' ≤ t0 → (x.toInt = 22 → ∀ j, t' = j + 1 → ¬ (σ'.2.1 134 j = 21 ∨ σ'.2.1 134 j = 22)) → post (some none) σ') : ∀ (t c : Nat) (σ : am_S) (lw : List (Nat × Value)), t ≤ t0 → hd_J σe σ c t 1 n → (0, Value.ref 118) ∈ lw → (1, Value.int x) ∈ lw → am_K g 20 tX12_joins.1 0 0 0 lw [] σ post := by
  intro t
  induction t with
  | zero =>
    intro c σ lw ht0 J hl hl1
    have ht : (σ.2.1 118 41).toInt = (0 : Nat) := by rw [J.2.2.1]; rfl
    refine sg_j1_run G hct (sx_M_self J.1) hl hl1 (fun σ' _ hM => k σ' c 0 (hd_Jm J hM (by decide +kernel)) (Nat.zero_le _) (fun _ j h => by omega)) ?_
    intro lw' m1' n0' σ' _ _ _ f2
    omega
  | succ t ih =>
    intro c σ lw ht0 J hl hl1
    have J0 := J
    obtain ⟨j1, j2, j3, j4, j5, j6, j7, j8, j9, j10⟩ := J
    have ht : (σ.2.1 118 41).toInt = ((t + 1 : Nat) : Int) := by rw [j3]; exact hd_ti (by omega)
    refine sg_j1_run G hct (sx_M_self j1) hl hl1 (fun σ' f0 hM => by omega) ?_
    intro lw1 x9 x1 σ1 hl1' hlx f1 f2 f3 f4 hM1
    have ex9 : x9 = x := Int32.toInt_inj.mp (by omega)
    subst ex9
    have J1 := hd_Jm J0 hM1 (by decide +kernel)
    have ex1 : x1.toInt = ((t : Nat) : Int) := by omega
    refine kr_iald G.1 hd_d_joins_17 (hd_sh J1.1).2.2 (hd_in ex1 (by omega)) ?_
    rw [hd_clamp ex1]
    have rng := J1.2.2.2.2.2.2.1 t (by omega)
    have htop1 : (σ1.2.1 118 41).toInt = ((t + 1 : Nat) : Int) := by rw [J1.2.2.1]; exact hd_ti (by omega)
    -- off the stack
    have pop : ∀ (σa σ2 : am_S) (lw2 : List (Nat × Value)) (y : Int32) (m : Nat), hd_J σe σa c (t + 1) 1 n → sx_M z9 hd_C σa m 0 σ2 → m = 2582249878086908589655919172003011874329705792829223512830659356540647622016841194629645353280137831435903171972747493376 → (σ2.2.1 118 41).toInt = (t : Nat) → y.toInt = (t : Nat) → (σa.2.1 134 t = 21 ∨ σa.2.1 134 t = 22) → (0, Value.ref 118) ∈ lw2 → (1, Value.int x9) ∈ lw2 → am_K g 20 tX12_joins.1 0 0 64 lw2 [.int y, .ref 134, .ref 118] σ2 post := by
      intro σa σ2 lw2 y m Ja hM2 hm htop ey hv hl2 hl2x
      subst hm
      obtain ⟨i1, i2, i3, i4, i5, i6, i7, i8, i9, i10⟩ := Ja
      have e34 : ∀ j, j < 45 → σ2.2.1 134 j = σa.2.1 134 j := fun j hj => hd_fr134 hM2 (by decide +kernel) hj
      have e22 : ∀ j, j < 135 → σ2.2.1 122 j = σa.2.1 122 j := fun j hj => hd_fr122 hM2 (by decide +kernel) hj
      have H2 := hd_tr i1 hM2 (by decide +kernel)
      refine kr_iald G.1 hd_d_joins_64 (hd_sh H2).2.2 (hd_in ey (by omega)) ?_
      rw [hd_clamp ey, e34 t (by omega)]
      refine sg_j9_run G hct (sx_M_self H2) hl2 hl2x ?_
      intro lw3 z9' y0 y1 y2 σ3 hl3 hl3x f4 f5 f6 f7 hM3
      have e34b : ∀ j, j < 45 → σ3.2.1 134 j = σa.2.1 134 j := fun j hj => (hd_fr134 hM3 (by decide +kernel) hj).trans (e34 j hj)
      have e22b : ∀ j, j < 135 → σ3.2.1 122 j = σa.2.1 122 j := fun j hj => (hd_fr122 hM3 (by decide +kernel) hj).trans (e22 j hj)
      have H3 := hd_tr H2 hM3 (by decide +kernel)
      have ez : z9' = x9 := Int32.toInt_inj.mp (by omega)
      subst ez
      have ey2 : y2 = σa.2.1 134 t := Int32.toInt_inj.mp (by omega)
      have hbn : hd_bn (σa.2.1 134) (t + 1) = hd_bn (σa.2.1 134) t + 1 := by
        show hd_bn (σa.2.1 134) t + (if σa.2.1 134 t = 21 ∨ σa.2.1 134 t = 22 then 1 else 0) = _
        rw [if_pos hv]
      have hdp : hd_dp (σ3.2.1 122) c = hd_dp (σa.2.1 122) c := hd_dp_congr (fun j hj => e22b j (by omega))
      have hb2 : hd_bn (σ3.2.1 134) t = hd_bn (σa.2.1 134) t := hd_bn_congr (fun j hj => e34b j (by omega))
      have hpos := hd_bn_pos (f := σa.2.1 134) (t := t)
      have hn20 : ¬ y2 = 20 := by
        rw [ey2]
        rcases hv with h | h <;> rw [h] <;> decide
      have hjn : y2 = 21 ∨ y2 = 22 := by rw [ey2]; exact hv
      refine hd_call G (T2 := tX12_code) rfl hd_d_joins_67 hd_k_joins_67 rfl (hd_sh H3).1 (as := [.int y2, .int y1, .int y0]) (st := []) rfl (Nat.le_of_ble_eq_true rfl) rfl (Nat.le_of_ble_eq_true rfl) (d1 := 5) (by decide) (post1 := fun r σ4 => r = some none ∧ hd_J σe σ4 (c + 1) t 1 n) (fun _ h => by cases h.1) ?_ ?_
      · refine hd_codeJ G hct H3 ((hd_f39 hM3 (by decide +kernel)).trans ((hd_f39 hM2 (by decide +kernel)).trans i2)) ((hd_f41 hM3 (by decide +kernel)).trans (hd_nat (by omega) htop)) ((hd_f43 hM3 (by decide +kernel)).trans ((hd_f43 hM2 (by decide +kernel)).trans i4)) ((hd_f40 hM3 (by decide +kernel)).trans ((hd_f40 hM2 (by decide +kernel)).trans i5)) (by omega) (fun j hj => by rw [e34b j (by omega)]; exact i7 j (by omega)) (hd_ok_congr (fun j hj => e22b j (by omega)) i8) y2 y1 y0 (fun h => absurd h hn20) (fun _ => by omega) ?_ ((hd_f2 hM3 (by decide +kernel)).trans ((hd_f2 hM2 (by decide +kernel)).trans i10)) (fun σ4 h4 => ⟨rfl, h4⟩)
        rw [if_neg hn20, if_pos hjn]
        omega
      · intro v σ4 h4
        cases h4.1
        refine kr_goto (tgt := 0) hd_d_joins_70 rfl ?_
        exact ih (c + 1) σ4 lw3 (by omega) h4.2 hl3 hl3x
    -- the second look
    have look : ∀ (lwa : List (Nat × Value)) (y : Int32) (σ2 : am_S), hd_J σe σ2 c (t + 1) 1 n → σ2.2.1 134 t = σ1.2.1 134 t → y.toInt = (t : Nat) → ¬ (σ1.2.1 134 t).toInt = 21 → (0, Value.ref 118) ∈ lwa → (1, Value.int x9) ∈ lwa → am_K g 20 tX12_joins.1 0 0 33 lwa [.int y, .ref 134] σ2 post := by
      intro lwa y σ2 J2 e2 ey h21 hla hlax
      refine kr_iald G.1 hd_d_joins_33 (hd_sh J2.1).2.2 (hd_in ey (by omega)) ?_
      rw [hd_clamp ey, e2]
      have htop2 : (σ2.2.1 118 41).toInt = ((t + 1 : Nat) : Int) := by rw [J2.2.2.1]; exact hd_ti (by omega)
      by_cases h22 : (σ1.2.1 134 t).toInt = 22
      · rcases hx with hx1 | hx2
        · exact sg_j6_run G hct (sx_M_self J2.1) hla hlax (by omega) (by omega) (by omega) (fun σ3 hM3 => k σ3 c (t + 1) (hd_Jm J2 hM3 (by decide +kernel)) ht0 (fun h => by omega))
        · refine sg_j5_run G hct (sx_M_self J2.1) hla hlax (by omega) (by omega) (by omega) ?_
          intro lw3 z y3 σ3 hl3 hl3x f4 f5 f6 hM3
          have ez : z = x9 := Int32.toInt_inj.mp (by omega)
          subst ez
          exact pop σ2 σ3 lw3 y3 _ J2 hM3 rfl (by omega) (by omega) (Or.inr (by rw [e2]; exact Int32.toInt_inj.mp (by have : (22 : Int32).toInt = 22 := rfl; omega))) hl3 hl3x
      · have fin : ∀ σ3 m, sx_M z9 hd_C σ2 m 0 σ3 → hd_kp m = true → sx_bit m 484 = false → post (some none) σ3 := by
          intro σ3 m hM3 hk hb
          refine k σ3 c (t + 1) (hd_Jm J2 hM3 hk) ht0 (fun _ j hj => ?_)
          cases hj
          rw [hd_fr134 hM3 hb (by omega), e2]
          intro h
          rcases h with h | h
          · rw [h] at h21; exact h21 rfl
          · rw [h] at h22; exact h22 rfl
        by_cases h20 : (σ1.2.1 134 t).toInt = 20
        · exact sg_j7_run G hct (sx_M_self J2.1) hla hlax (by omega) (fun σ3 hM3 => fin σ3 _ hM3 (by decide +kernel) (by decide +kernel))
        · exact sg_j8_run G hct (sx_M_self J2.1) hla hlax (by omega) (fun σ3 hM3 => fin σ3 _ hM3 (by decide +kernel) (by decide +kernel))
    by_cases h21 : (σ1.2.1 134 t).toInt = 21
    · refine sg_j2_run G hct (sx_M_self J1.1) hl1' hlx (by omega) (by omega) ?_
      intro lw3 z y3 σ3 hl3 hl3x f4 f5 f6 hM3
      have ez : z = x9 := Int32.toInt_inj.mp (by omega)
      subst ez
      exact pop σ1 σ3 lw3 y3 _ J1 hM3 rfl (by omega) (by omega) (Or.inl (Int32.toInt_inj.mp (by have : (21 : Int32).toInt = 21 := rfl; omega))) hl3 hl3x
    · by_cases h20 : (σ1.2.1 134 t).toInt = 20
      · refine sg_j3_run G hct (sx_M_self J1.1) hl1' hlx (by omega) (by omega) ?_
        intro lw3 z y3 σ3 hl3 hl3x f4 f5 f6 hM3
        have ez : z = x9 := Int32.toInt_inj.mp (by omega)
        subst ez
        exact look lw3 y3 σ3 (hd_Jm J1 hM3 (by decide +kernel)) (hd_fr134 hM3 (by decide +kernel) (by omega)) (by omega) h21 hl3 hl3x
      · refine sg_j4_run G hct (sx_M_self J1.1) hl1' hlx (by omega) (by omega) ?_
        intro lw3 z y3 σ3 hl3 hl3x f4 f5 f6 hM3
        have ez : z = x9 := Int32.toInt_inj.mp (by omega)
        subst ez
        exact look lw3 y3 σ3 (hd_Jm J1 hM3 (by decide +kernel)) (hd_fr134 hM3 (by decide +kernel) (by omega)) (by omega) h21 hl3 hl3x
end HW
