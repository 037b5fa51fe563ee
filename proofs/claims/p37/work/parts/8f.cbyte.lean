/-! the reader of the class: bytes -/
abbrev rc_ct (g : am_C) : Prop := ∀ (mi : Nat) (T2 : ex_T) (c' : sx_Ct), ex_mt mi = some T2 → c' ∈ k9 mi → c'.1 < 60 → sx_Holds g z9 hd_C T2 c'
/-- what a token's reading writes: next, kind, start, size, number -/
def rc_mN : Nat := Nat.shiftLeft 31 22
def rc_X (σ : am_S) (b : Nat → Nat) (n most : Nat) : Prop := (∀ k, k < 940 → rd_by (σ.2.1 2) k = b k) ∧ (σ.2.1 1 1).toInt = n ∧ (σ.2.1 3 1).toInt = most ∧ n ≤ 940 ∧ most ≤ 940
theorem rc_a2 {k : Nat} (h : k < 940) : sx_atl (z9.1 2) k = some (.negSucc 127, .ofNat 127, 19) := by
  show sx_atl [(940, .negSucc 127, .ofNat 127, 19)] k = _
  unfold sx_atl
  rw [if_pos h]
theorem rc_Xm {σ σ' : am_S} {m : Nat} {b : Nat → Nat} {n most : Nat} (X : rc_X σ b n most) (hM : sx_M z9 hd_C σ m 0 σ') (h18 : sx_bit m 18 = false) (h19 : sx_bit m 19 = false) (h21 : sx_bit m 21 = false) : rc_X σ' b n most := by
  refine ⟨fun k hk => ?_, ?_, ?_, X.2.2.2⟩
  · rw [← X.1 k hk]
    unfold rd_by
    rw [hM.2.2.2.2.1 2 k _ _ 19 (rc_a2 hk) h19]
  · rw [hM.2.2.2.2.1 1 1 _ _ 18 rfl h18]
    exact X.2.1
  · rw [hM.2.2.2.2.1 3 1 _ _ 21 rfl h21]
    exact X.2.2.1
section CB
variable {g : am_C} {L : Nat} {xs : Nat → Int32}
theorem rc_byteAt (G : sx_G0 g L xs z9 hd_C ex_mt) (hct : rc_ct g) {σ : am_S} {lw : List (Nat × Value)} {post : Option (Option Value) → am_S → Prop} (hM : sx_M z9 hd_C σ 0 0 σ) {b : Nat → Nat} {n most p : Nat} (X : rc_X σ b n most) (hl : (0, Value.ref 1) ∈ lw) {m1 : Int32} (hl1 : (1, Value.int m1) ∈ lw) (hk : m1.toInt = p) (hp : p < n) (k : ∀ (r : Int32) (σ' : am_S), sx_M z9 hd_C σ 0 0 σ' → r.toInt = (b p : Nat) → post (some (some (.int r))) σ') : am_K g 3 tX10_byteAt.1 0 0 0 lw [] σ post := by
  have x1 := X.2.1
  have n9 := X.2.2.2.1
  refine sg_ba1_run G hct hM hl hl1 ?_ ?_ ?_
  · intro r σ' f1 f2 hM'
    omega
  · intro r σ' f1 f2 hM'
    omega
  · intro lw1 n0 σ1 hl1 f1 f2 f3 hM1
    have en : n0.toInt = p := by omega
    refine kr_bald G.1 rd_d_X10_byteAt_26 (hM1.1 2 (.inr (.byte, 940)) rfl) (hd_in en (by omega)) ?_
    rw [hd_clamp en]
    refine sg_ba2_run G hct (sx_M_self hM1) hl1 ?_
    intro lw2 a c σ2 hl2 f4 f5 hM2
    obtain rfl : a = 255 := Int32.toInt_inj.mp (by have : (255 : Int32).toInt = 255 := rfl; omega)
    obtain rfl : c = σ1.2.1 2 p := Int32.toInt_inj.mp (by omega)
    refine kr_iand rd_d_X10_byteAt_30 ?_
    refine sg_ba3_run G hct (sx_M_self hM2) hl2 ?_
    intro r σ3 f6 hM3
    refine k r σ3 (hd_tr (hd_tr hM1 hM2 rfl) hM3 rfl) ?_
    have hb := rd_by_int (σ1.2.1 2) p
    have e : rd_by (σ1.2.1 2) p = b p := by
      rw [← X.1 p (by omega)]
      unfold rd_by
      rw [hM1.2.2.2.2.1 2 p _ _ 19 (rc_a2 (by omega)) (sx_bit0 _)]
    rw [e] at hb
    omega
/-- byteAt, called -/
theorem rc_bac (G : sx_G0 g L xs z9 hd_C ex_mt) (hct : rc_ct g) {T : ex_T} {d : Nat} (hdp : 4 ≤ d) {σ : am_S} (hM : sx_M z9 hd_C σ 0 0 σ) {b : Nat → Nat} {n most p : Nat} (X : rc_X σ b n most) {m1 : Int32} (hk : m1.toInt = p) (hp : p < n) {lw : List (Nat × Value)} {pc i mi q : Nat} (hT : ex_mt mi = some tX10_byteAt) (hd : decode T.1.2.1 pc = .ok (.invokevirtual i, 3)) (hl : ex_lk ex_mt T pc (.invokevirtual i) [0, mi, q] = true) {st : List Value} (hroom : (st.map fun v => v.category).sum ≤ 8) {post : Option (Option Value) → am_S → Prop} (kk : ∀ (r : Int32) σ', sx_M z9 hd_C σ 0 0 σ' → r.toInt = (b p : Nat) → am_K g d T.1 0 0 (pc + 3) lw (.int r :: st) σ' post) : am_K g d T.1 0 0 pc lw (.int m1 :: .ref 1 :: st) σ post := by
  refine rd_call G (T2 := tX10_byteAt) hT hd hl rfl (hM.1 1 (.inl 10) rfl) (as := [.int m1]) (st := st) rfl (Nat.le_of_ble_eq_true rfl) rfl hroom (d1 := 3) hdp (post1 := fun r σ' => ∃ y : Int32, r = some (some (.int y)) ∧ sx_M z9 hd_C σ 0 0 σ' ∧ y.toInt = (b p : Nat)) (fun _ h => by obtain ⟨y, h, -⟩ := h; cases h) (rc_byteAt G hct hM X (by simp [lv_args, Value.category]) (m1 := m1) (by simp [lv_args, Value.category]) hk hp (fun r σ' h1 h2 => ⟨r, rfl, h1, h2⟩)) ?_
  intro v σ' ⟨y, hv, h1, h2⟩
  cases hv
  exact kk y σ' h1 h2
theorem rc_bX {σ : am_S} {b : Nat → Nat} {n most : Nat} (X : rc_X σ b n most) {k : Nat} (hk : k < n) : b k ≤ 255 := by
  have := X.2.2.2.1
  rw [← X.1 k (by omega)]
  exact rd_by_le _ _
/-! a run of letters and digits -/
def rc_pw (d : Nat) : Nat := if d = 0 then 1 else if d = 1 then 10 else if d = 2 then 100 else 1000
theorem rc_pw1 (d : Nat) : 1 ≤ rc_pw d ∧ rc_pw d ≤ 1000 := by
  unfold rc_pw
  split
  · decide
  · split
    · decide
    · split <;> decide
theorem rc_pw2 {d : Nat} (h : d ≤ 2) : rc_pw (d + 1) = 10 * rc_pw d := by
  have h3 : d = 0 ∨ d = 1 ∨ d = 2 := by omega
  rcases h3 with rfl | rfl | rfl <;> rfl
theorem rc_pw3 {d : Nat} (h : 3 ≤ d) : rc_pw (d + 1) = rc_pw d := by
  unfold rc_pw
  rw [if_neg (by omega), if_neg (by omega), if_neg (by omega), if_neg (by omega), if_neg (by omega), if_neg (by omega)]
def rc_ad (b : Nat → Nat) (s j a d : Nat) : Prop := (rd_all rd_ltr b j s = true ↔ d = 0) ∧ (rd_all rd_dgt b j s = true ↔ a = 0)
def rc_nz (x : Int) (b : Nat → Nat) (s j a : Nat) : Prop := a = 0 → x = ((rd_nm b (min j 3) s 0 : Nat) : Int)
/-- j bytes read: a letters, d digits -/
def rc_F (σ : am_S) (b : Nat → Nat) (s j a d : Nat) : Prop := (σ.2.1 3 2).toInt = ((s + j : Nat) : Int) ∧ (σ.2.1 3 4).toInt = (s : Nat) ∧ a + d = j ∧ rc_ad b s j a d ∧ rc_nz (σ.2.1 3 6).toInt b s j a ∧ 0 ≤ (σ.2.1 3 6).toInt ∧ (σ.2.1 3 6).toInt + 1 ≤ ((rc_pw d : Nat) : Int)
theorem rc_F0 {σ σ' : am_S} {b : Nat → Nat} {s j a d : Nat} (F : rc_F σ b s j a d) (h : sx_M z9 hd_C σ 0 0 σ') : rc_F σ' b s j a d := by
  unfold rc_F
  rw [h.2.2.2.2.1 3 2 _ _ 22 rfl (sx_bit0 _), h.2.2.2.2.1 3 4 _ _ 24 rfl (sx_bit0 _), h.2.2.2.2.1 3 6 _ _ 26 rfl (sx_bit0 _)]
  exact F
/-- the token's kind, as the class numbers it -/
def rc_kd (k : Nat) : Nat := if k = 0 then 0 else if k = 1 then 2 else if k = 2 then 3 else if k = 3 then 4 else 1
/-- the token stands there -/
def rc_N (σ : am_S) (t : rd_K) : Prop := (σ.2.1 3 3).toInt = (rc_kd t.1 : Nat) ∧ (σ.2.1 3 4).toInt = (t.2.1 : Nat) ∧ ((t.1 = 1 ∨ t.1 = 2 ∨ t.1 = 3) → (σ.2.1 3 2).toInt = (t.2.2.2.1 : Nat)) ∧ (t.1 = 1 → (σ.2.1 3 5).toInt = (t.2.2.1 : Nat)) ∧ (t.1 = 2 → (σ.2.1 3 6).toInt = (t.2.2.2.2 : Nat))
theorem rc_run (G : sx_G0 g L xs z9 hd_C ex_mt) (hct : rc_ct g) {σe : am_S} {b : Nat → Nat} {n most s e : Nat} (Xe : rc_X σe b n most) (hsn : s < n) (hld : (rd_ltr (b s) || rd_dgt (b s)) = true) {post : Option (Option Value) → am_S → Prop} (kend : ∀ σ', sx_M z9 hd_C σe rc_mN 0 σ' → rc_N σ' (rd_tk2 b s e) → post (some none) σ') : ∀ (f j a d : Nat) (σ : am_S) (lw : List (Nat × Value)) (m1 m2 : Int32), n - (s + j) ≤ f → sx_M z9 hd_C σe rc_mN 0 σ → rc_F σ b s j a d → m1.toInt = a → m2.toInt = d → s + j ≤ n → rd_rn b n (n - (s + j)) (s + j) = e → (0, Value.ref 3) ∈ lw → (1, Value.int m1) ∈ lw → (2, Value.int m2) ∈ lw → am_K g 8 tX6_readRun.1 0 0 17 lw [] σ post := by
  intro f
  induction f using Nat.strongRecOn with
  | ind f ih =>
  intro j a d σ lw m1 m2 hf hM F e1 e2 hjn he hl hl1 hl2
  have n9 := Xe.2.2.2.1
  have X := rc_Xm Xe hM (by decide +kernel) (by decide +kernel) (by decide +kernel)
  have x1 := X.2.1
  -- the run's end
  have fin : ∀ (σ2 : am_S) (lw2 : List (Nat × Value)) (z1 z2 : Int32), sx_M z9 hd_C σe rc_mN 0 σ2 → rc_F σ2 b s j a d → (0, Value.ref 3) ∈ lw2 → (1, Value.int z1) ∈ lw2 → (2, Value.int z2) ∈ lw2 → z1.toInt = a → z2.toInt = d → ¬ (s + j < n ∧ (rd_ltr (b (s + j)) || rd_dgt (b (s + j))) = true) → am_K g 8 tX6_readRun.1 0 0 107 lw2 [] σ2 post := by
    intro σ2 lw2 z1 z2 H2 F2 q0 q1 q2 c1 c2 hno
    obtain ⟨g1, g2, g3, gad, gnz, -⟩ := F2
    have ee : e = s + j := by rw [← he, rd_rn_at hno]
    have hj : 1 ≤ j := by
      rcases Nat.eq_zero_or_pos j with h | h
      · subst h
        exact absurd ⟨hsn, hld⟩ hno
      · exact h
    have es : e - s = j := by omega
    have ek : (rd_tk2 b s e).1 = if rd_all rd_ltr b j s = true ∧ j ≤ 7 then 1 else if rd_all rd_dgt b j s = true ∧ j ≤ 3 then 2 else 4 := by
      unfold rd_tk2
      rw [es]
    have fi : ∀ (σ3 : am_S) (kd : Nat), sx_M z9 hd_C σ2 (Nat.shiftLeft 5 23) 0 σ3 → (rd_tk2 b s e).1 = kd → (σ3.2.1 3 3).toInt = (rc_kd kd : Nat) → (σ3.2.1 3 5).toInt = (j : Nat) → (kd = 2 → a = 0 ∧ j ≤ 3) → post (some none) σ3 := by
      intro σ3 kd hM3 h1 h2 h3 h4
      refine kend σ3 (hd_tr H2 hM3 (by decide +kernel)) ⟨by rw [h1]; exact h2, ?_, fun _ => ?_, fun _ => ?_, fun h => ?_⟩
      · rw [hM3.2.2.2.2.1 3 4 _ _ 24 rfl (by decide +kernel)]
        exact g2
      · rw [hM3.2.2.2.2.1 3 2 _ _ 22 rfl (by decide +kernel), g1]
        show ((s + j : Nat) : Int) = ((e : Nat) : Int)
        rw [ee]
      · rw [h3]
        show ((j : Nat) : Int) = ((e - s : Nat) : Int)
        rw [es]
      · rw [h1] at h
        obtain ⟨h5, h6⟩ := h4 h
        rw [hM3.2.2.2.2.1 3 6 _ _ 26 rfl (by decide +kernel), gnz h5]
        show ((rd_nm b (min j 3) s 0 : Nat) : Int) = ((rd_nm b (e - s) s 0 : Nat) : Int)
        rw [es, show min j 3 = j by omega]
    refine sg_rr4_run G hct (sx_M_self H2) q0 q1 (by omega) q2 (by omega) (by omega) ?_ ?_ ?_ ?_ ?_
    · intro σ3 h1 h2 h3 h4 hM3
      exact fi σ3 1 hM3 (by rw [ek, if_pos ⟨gad.1.mpr (by omega), by omega⟩]) (by show _ = (2 : Int); omega) (by omega) (fun h => by cases h)
    · intro σ3 h1 h2 h3 h4 hM3
      exact fi σ3 2 hM3 (by rw [ek, if_neg (fun q => by have := gad.1.mp q.1; omega), if_pos ⟨gad.2.mpr (by omega), by omega⟩]) (by show _ = (3 : Int); omega) (by omega) (fun _ => ⟨by omega, by omega⟩)
    · intro σ3 h1 h2 h3 h4 hM3
      exact fi σ3 4 hM3 (by rw [ek, if_neg (by omega), if_neg (fun q => by have := gad.2.mp q.1; omega)]) (by show _ = (1 : Int); omega) (by omega) (fun h => by cases h)
    · intro σ3 h1 h2 h3 h4 hM3
      exact fi σ3 4 hM3 (by rw [ek, if_neg (fun q => by have := gad.1.mp q.1; omega), if_neg (fun q => by have := gad.2.mp q.1; omega)]) (by show _ = (1 : Int); omega) (by omega) (fun h => by cases h)
    · intro σ3 h1 h2 h3 h4 hM3
      exact fi σ3 4 hM3 (by rw [ek, if_neg (fun q => by have := gad.1.mp q.1; omega), if_neg (by omega)]) (by show _ = (1 : Int); omega) (by omega) (fun h => by cases h)
  have f1 := F.1
  refine sg_rr2_run G hct (sx_M_self hM) hl hl1 hl2 ?_ ?_
  · intro lw1 y1 y2 n0 σ1 h0 h1 h2 c1 c2 c3 c4 hM1
    have H1 := hd_tr hM hM1 (by decide +kernel)
    have F1 := rc_F0 F hM1
    have X1 := rc_Xm X hM1 (sx_bit0 _) (sx_bit0 _) (sx_bit0 _)
    have hlt : s + j < n := by omega
    refine rc_bac G hct (d := 8) (by decide) (sx_M_self hM1) X1 (p := s + j) (by omega) hlt rfl rd_d_X6_readRun_39 rd_k_X6_readRun_39 (by decide) ?_
    intro r σ2 hM2 hr
    have H2 := hd_tr H1 hM2 (by decide +kernel)
    have F2 := rc_F0 F1 hM2
    have hb := rc_bX X hlt
    obtain ⟨g1, g2, g3, gad, gnz, g7, g8⟩ := F2
    have pw := rc_pw1 d
    have none : (b (s + j) ≤ 47 ∨ (58 ≤ b (s + j) ∧ b (s + j) ≤ 96) ∨ 123 ≤ b (s + j)) → ¬ (s + j < n ∧ (rd_ltr (b (s + j)) || rd_dgt (b (s + j))) = true) := by
      intro h ⟨_, h5⟩
      rw [Bool.or_eq_true, rd_ltr_iff, rd_dgt_iff] at h5
      omega
    by_cases i1 : b (s + j) ≤ 47
    · refine sg_rr3d_run G hct (sx_M_self hM2) h0 h1 (by omega) h2 (by omega) (by omega) ?_
      intro lw3 z1 z2 σ3 q0 q1 q2 t1 t2 hM3
      exact fin σ3 lw3 z1 z2 (hd_tr H2 hM3 (by decide +kernel)) (rc_F0 ⟨g1, g2, g3, gad, gnz, g7, g8⟩ hM3) q0 q1 q2 (by omega) (by omega) (none (by omega))
    by_cases i2 : b (s + j) ≤ 57
    · have hdg : rd_dgt (b (s + j)) = true := rd_dgt_iff.mpr (by omega)
      have hor : (rd_ltr (b (s + j)) || rd_dgt (b (s + j))) = true := by rw [hdg, Bool.or_true]
      have he2 : rd_rn b n (n - (s + (j + 1))) (s + (j + 1)) = e := by rw [← he, rd_rn_eq hlt hor]; rfl
      have lad : rc_ad b s (j + 1) a (d + 1) := by
        constructor
        · rw [rd_all_snoc, rd_dl hdg, Bool.and_false]
          exact ⟨fun h => (by cases h), fun h => absurd h (Nat.succ_ne_zero d)⟩
        · rw [rd_all_snoc, hdg, Bool.and_true]
          exact gad.2
      by_cases d3 : d ≤ 2
      · have pw2 := rc_pw2 d3
        refine sg_rr3b_run G hct (sx_M_self hM2) h0 h1 (by omega) h2 (by omega) (by omega) (by omega) (by omega) ?_
        intro lw3 z1 z2 σ3 q0 q1 q2 t1 t2 t3 t4 hM3
        have hst : (σ3.2.1 3 4).toInt = (s : Nat) := by
          rw [hM3.2.2.2.2.1 3 4 _ _ 24 rfl (by decide +kernel)]
          exact g2
        have hnz : rc_nz (σ3.2.1 3 6).toInt b s (j + 1) a := by
          intro h
          have h6 := gnz h
          rw [show min j 3 = j by omega] at h6
          rw [show min (j + 1) 3 = j + 1 by omega, rd_nm_snoc]
          omega
        exact ih (f - 1) (by omega) (j + 1) a (d + 1) σ3 lw3 z1 z2 (by omega) (hd_tr H2 hM3 (by decide +kernel)) ⟨by omega, hst, by omega, lad, hnz, by omega, by omega⟩ (by omega) (by omega) (by omega) he2 q0 q1 q2
      · have pw3 := rc_pw3 (d := d) (by omega)
        refine sg_rr3c_run G hct (sx_M_self hM2) h0 h1 (by omega) h2 (by omega) (by omega) (by omega) (by omega) ?_
        intro lw3 z1 z2 σ3 q0 q1 q2 t1 t2 t3 t4 hM3
        have hst : (σ3.2.1 3 4).toInt = (s : Nat) := by
          rw [hM3.2.2.2.2.1 3 4 _ _ 24 rfl (by decide +kernel)]
          exact g2
        have hnz : rc_nz (σ3.2.1 3 6).toInt b s (j + 1) a := by
          intro h
          have h6 := gnz h
          rw [show min (j + 1) 3 = min j 3 by omega]
          omega
        exact ih (f - 1) (by omega) (j + 1) a (d + 1) σ3 lw3 z1 z2 (by omega) (hd_tr H2 hM3 (by decide +kernel)) ⟨by omega, hst, by omega, lad, hnz, by omega, by omega⟩ (by omega) (by omega) (by omega) he2 q0 q1 q2
    by_cases i3 : b (s + j) ≤ 96
    · refine sg_rr3e_run G hct (sx_M_self hM2) h0 h1 (by omega) h2 (by omega) (by omega) ?_
      intro lw3 z1 z2 σ3 q0 q1 q2 t1 t2 hM3
      exact fin σ3 lw3 z1 z2 (hd_tr H2 hM3 (by decide +kernel)) (rc_F0 ⟨g1, g2, g3, gad, gnz, g7, g8⟩ hM3) q0 q1 q2 (by omega) (by omega) (none (by omega))
    by_cases i4 : b (s + j) ≤ 122
    · have hlt2 : rd_ltr (b (s + j)) = true := rd_ltr_iff.mpr (by omega)
      have hor : (rd_ltr (b (s + j)) || rd_dgt (b (s + j))) = true := by rw [hlt2]; rfl
      have he2 : rd_rn b n (n - (s + (j + 1))) (s + (j + 1)) = e := by rw [← he, rd_rn_eq hlt hor]; rfl
      have lad : rc_ad b s (j + 1) (a + 1) d := by
        constructor
        · rw [rd_all_snoc, hlt2, Bool.and_true]
          exact gad.1
        · rw [rd_all_snoc, rd_ld hlt2, Bool.and_false]
          exact ⟨fun h => (by cases h), fun h => absurd h (Nat.succ_ne_zero a)⟩
      refine sg_rr3a_run G hct (sx_M_self hM2) h0 h1 (by omega) h2 (by omega) (by omega) (by omega) (by omega) ?_
      intro lw3 z1 z2 σ3 q0 q1 q2 t1 t2 t3 t4 hM3
      have hst : (σ3.2.1 3 4).toInt = (s : Nat) := by
        rw [hM3.2.2.2.2.1 3 4 _ _ 24 rfl (by decide +kernel)]
        exact g2
      exact ih (f - 1) (by omega) (j + 1) (a + 1) d σ3 lw3 z1 z2 (by omega) (hd_tr H2 hM3 (by decide +kernel)) ⟨by omega, hst, by omega, lad, fun h => absurd h (Nat.succ_ne_zero a), by omega, by omega⟩ (by omega) (by omega) (by omega) he2 q0 q1 q2
    · refine sg_rr3f_run G hct (sx_M_self hM2) h0 h1 (by omega) h2 (by omega) (by omega) ?_
      intro lw3 z1 z2 σ3 q0 q1 q2 t1 t2 hM3
      exact fin σ3 lw3 z1 z2 (hd_tr H2 hM3 (by decide +kernel)) (rc_F0 ⟨g1, g2, g3, gad, gnz, g7, g8⟩ hM3) q0 q1 q2 (by omega) (by omega) (none (by omega))
  · intro lw1 y1 y2 σ1 h0 h1 h2 c1 c2 c3 hM1
    exact fin σ1 lw1 y1 y2 (hd_tr hM hM1 (by decide +kernel)) (rc_F0 F hM1) h0 h1 h2 (by omega) (by omega) (fun h => by omega)
end CB
