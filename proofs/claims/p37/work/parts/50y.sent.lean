/-! sentence -/
theorem hd_toK {σe σ : am_S} {m : Nat} (h : sx_M z9 hd_C σe m 0 σ) : sx_M zK hd_T σe m 0 σ := ⟨h.1, h.2.1, h.2.2.1, h.2.2.2.1, h.2.2.2.2.1, fun c hc => (by cases hc), fun c hc => (by cases hc), h.2.2.2.2.2.2.2⟩
theorem hd_GK {g : am_C} {L : Nat} {xs : Nat → Int32} (G : sx_G0 g L xs z9 hd_C ex_mt) : sx_G0 g L xs zK hd_T ex_mt := ⟨G.1, G.2.1, G.2.2.1, G.2.2.2.1, fun c hc => (by cases hc), fun c hc => (by cases hc), ⟨fun c hc => (by cases hc), fun c hc => (by cases hc), fun c hc => (by cases hc)⟩, G.2.2.2.2.2.2.2⟩
theorem hd_ctK {g : am_C} : ∀ (mi : Nat) (T2 : ex_T) (c' : sx_Ct), ex_mt mi = some T2 → c' ∈ k9 mi → c'.1 < 0 → sx_Holds g zK hd_T T2 c' := fun _ _ _ _ _ h => absurd h (Nat.not_lt_zero _)
theorem hd_CsK : sx_CsOk zK hd_T := fun c hc => (by cases hc)
/-- none of these slots' units are among m -/
noncomputable def hd_out (m o n : Nat) : Bool := (List.range n).all (fun k => match sx_atl (z9.1 o) k with
  | some q => !sx_bit m q.2.2
  | none => false)
theorem hd_frz {σe σ : am_S} {m o n : Nat} (h : hd_out m o n = true) (hM : sx_M zK hd_T σe m 0 σ) : ∀ k, k < n → σ.2.1 o k = σe.2.1 o k := by
  intro k hk
  have q := List.all_eq_true.mp h k (List.mem_range.mpr hk)
  revert q
  cases ha : sx_atl (z9.1 o) k with
  | none => intro q; cases q
  | some q =>
    intro hb
    simp only [Bool.not_eq_true'] at hb
    exact hM.2.2.2.2.1 o k q.1 q.2.1 q.2.2 ha hb
theorem hd_c0_congr {c : sx_Cl} {σ σ' : am_S} (h1 : σ'.2.1 c.2.1 c.2.2.1 = σ.2.1 c.2.1 c.2.2.1) (h2 : ∀ j, j < c.2.2.2.2 → σ'.2.1 c.2.1 (c.2.2.2.1 + j) = σ.2.1 c.2.1 (c.2.2.2.1 + j)) (h : sx_c0 c σ) : sx_c0 c σ' := by
  intro j hj hlt
  rw [h1] at hlt
  rw [h2 j hj]
  exact h j hj hlt
/-- the clauses again, behind a change of the SENTENCE alone -/
theorem hd_fin {σe σ : am_S} (h0 : sx_M z9 hd_C σe 0 0 σe) (hK : sx_M zK hd_T σe hd_mS 0 σ) (hw : hd_W (σ.2.1 120)) : sx_M z9 hd_C σe hd_mS 0 σ := by
  have f0 := hd_frz (o := 120) (n := 96) (by decide +kernel) hK
  have f1 := hd_frz (o := 121) (n := 62) (by decide +kernel) hK
  have f2 := hd_frz (o := 136) (n := 554) (by decide +kernel) hK
  have c0 : ∀ c ∈ z9.2.2.2.2.1, sx_c0 c σe := fun c hc => h0.2.2.2.2.2.1 c hc (by show sx_bit 0 c.1 = false; rw [sx_bit_eq]; exact Nat.zero_testBit _)
  have c1 : ∀ c ∈ z9.2.2.2.2.2.1, hd_C c.1 σe := fun c hc => h0.2.2.2.2.2.2.1 c hc (by show sx_bit 0 c.1 = false; rw [sx_bit_eq]; exact Nat.zero_testBit _)
  refine ⟨hK.1, hK.2.1, hK.2.2.1, hK.2.2.2.1, hK.2.2.2.2.1, ?_, ?_, hK.2.2.2.2.2.2.2⟩
  · have key : ∀ c ∈ z9.2.2.2.2.1, sx_c0 c σe → sx_c0 c σ := by
      refine hd_c8 ?_ ?_ ?_ ?_ ?_ ?_ ?_ ?_
      · exact hd_c0_congr (f0 0 (by decide)) (fun j hj => f0 (2 + j) (by have : j < 10 := hj; omega))
      · exact hd_c0_congr (f0 1 (by decide)) (fun j hj => f0 (48 + j) (by have : j < 6 := hj; omega))
      · exact hd_c0_congr (f1 0 (by decide)) (fun j hj => f1 (2 + j) (by have : j < 10 := hj; omega))
      · exact hd_c0_congr (f1 1 (by decide)) (fun j hj => f1 (48 + j) (by have : j < 6 := hj; omega))
      · exact hd_c0_congr (f2 0 (by decide)) (fun j hj => f2 (2 + j) (by have : j < 10 := hj; omega))
      · exact hd_c0_congr (f2 1 (by decide)) (fun j hj => f2 (48 + j) (by have : j < 6 := hj; omega))
      · exact hd_c0_congr (f2 277 (by decide)) (fun j hj => f2 (279 + j) (by have : j < 10 := hj; omega))
      · exact hd_c0_congr (f2 278 (by decide)) (fun j hj => f2 (325 + j) (by have : j < 6 := hj; omega))
    exact fun c hc _ => key c hc (c0 c hc)
  · have key : ∀ c ∈ z9.2.2.2.2.2.1, hd_C c.1 σe → hd_C c.1 σ := by
      refine hd_u3 ?_ ?_ ?_
      · exact fun _ => hw
      · exact fun h => hd_W_congr (fun k _ h2 => f2 k (by omega)) h
      · exact fun h => hd_W_congr (f := fun k => σe.2.1 136 (277 + k)) (f' := fun k => σ.2.1 136 (277 + k)) (fun k _ h2 => f2 (277 + k) (by omega)) h
    exact fun c hc _ => key c hc (c1 c hc)
theorem hd_a120 : ∀ k, k < 180 → sx_atl (z9.1 120) (97 + k) = some (sx_lo, sx_up, 429) := by decide +kernel
section HY
variable {g : am_C} {L : Nat} {xs : Nat → Int32}
/-- the codes go over -/
theorem hd_copy (G : sx_G0 g L xs z9 hd_C ex_mt) {σe : am_S} (h0 : sx_M z9 hd_C σe 0 0 σe) {c : Nat} (hc9 : c ≤ 40) {rd : Nat → Int32} (hok : hd_ok rd c) {post : Option (Option Value) → am_S → Prop} (k : ∀ (r : Int32) σ', hd_E σe σ' → post (some (some (.int r))) σ') : ∀ (b i : Nat) (σ : am_S) (lw : List (Nat × Value)) (x : Int32), i + b = 3 * c → sx_M zK hd_T σe hd_mS 0 σ → σ.2.1 118 39 = Int32.ofNat c → σ.2.1 118 2 = 0 → (∀ j, j < 3 * c → σ.2.1 122 j = rd j) → σ.2.1 120 96 = Int32.ofNat c → (∀ j, j < i → σ.2.1 120 (97 + j) = rd j) → (0, Value.ref 118) ∈ lw → (2, Value.int x) ∈ lw → x.toInt = (i : Nat) → am_K g 30 tX12_sentence.1 0 0 145 lw [] σ post := by
  intro b
  induction b with
  | zero =>
    intro i σ lw x hb hM h39 h2 hrd h96 hcp hl hl2 hx
    have e39 : (σ.2.1 118 39).toInt = (c : Nat) := by rw [h39]; exact hd_ti (by omega)
    refine sg_s8_run (hd_GK G) hd_ctK (sx_M_self hM) hl hl2 (by omega) ?_ ?_
    · intro r σ' f1 hM1
      have hM2 := hd_tr hM hM1 (by decide +kernel)
      refine k r σ' ⟨hd_fin h0 hM2 ?_, (hM1.2.2.2.2.1 118 2 _ _ 361 rfl (by decide +kernel)).trans h2⟩
      have e96 : σ'.2.1 120 96 = Int32.ofNat c := (hM1.2.2.2.2.1 120 96 _ _ 428 rfl (by decide +kernel)).trans h96
      unfold hd_W
      rw [e96, hd_ti (by omega), show min ((c : Nat) : Int).toNat 60 = c by rw [Int.toNat_natCast]; omega]
      refine hd_ok_congr (fun j hj => ?_) hok
      exact (hM1.2.2.2.2.1 120 (97 + j) _ _ 429 (hd_a120 j (by omega)) (by decide +kernel)).trans (hcp j (by omega))
    · intro lw1 x1 n0 n1 σ1 _ _ _ _ f3
      omega
  | succ b ih =>
    intro i σ lw x hb hM h39 h2 hrd h96 hcp hl hl2 hx
    have e39 : (σ.2.1 118 39).toInt = (c : Nat) := by rw [h39]; exact hd_ti (by omega)
    refine sg_s8_run (hd_GK G) hd_ctK (sx_M_self hM) hl hl2 (by omega) ?_ ?_
    · intro r σ' f1
      omega
    · intro lw1 x1 n0 n1 σ1 hl1 hl12 f1 f2 f3 f4 f5 hM1
      have hM2 := hd_tr hM hM1 (by decide +kernel)
      have en0 : n0.toInt = (i : Nat) := by omega
      have en1 : n1.toInt = ((97 + i : Nat) : Int) := by omega
      have q22 : ∀ j, j < 3 * c → σ1.2.1 122 j = rd j := fun j hj => (hM1.2.2.2.2.1 122 j _ _ 446 (hd_a122 (by omega)) (by decide +kernel)).trans (hrd j hj)
      refine kr_iald G.1 hd_d_sentence_168 (hM2.1 122 (.inr (.int, 135)) rfl) (hd_in en0 (by omega)) ?_
      rw [hd_clamp en0]
      refine kr_iast G.1 hd_d_sentence_169 (hM2.1 120 (.inr (.int, 277)) rfl) (hd_in en1 (by omega)) ?_
      rw [hd_clamp en1]
      have hM3 : sx_M zK hd_T σe hd_mS 0 (σ1.1, am_up σ1.2.1 120 (97 + i) (σ1.2.1 122 i), σ1.2.2.1, σ1.2.2.2) := hd_up hd_CsK hM2 (hd_a120 i (by omega)) (Int32.le_toInt _) (Int32.toInt_le _) (by decide +kernel) ⟨rfl, rfl⟩ (fun c hc => by cases hc) (fun c hc => by cases hc)
      refine sg_s9_run (hd_GK G) hd_ctK (sx_M_self hM3) hl1 hl12 (by omega) ?_
      intro lw4 x4 σ4 hl4 hl42 f6 hM4
      have hM5 := hd_tr hM3 hM4 (by decide +kernel)
      refine ih (i + 1) σ4 lw4 x4 (by omega) hM5 ?_ ?_ ?_ ?_ ?_ hl4 hl42 (by omega)
      · exact (hM4.2.2.2.2.1 118 39 _ _ 398 rfl (by decide +kernel)).trans ((hM1.2.2.2.2.1 118 39 _ _ 398 rfl (by decide +kernel)).trans h39)
      · exact (hM4.2.2.2.2.1 118 2 _ _ 361 rfl (by decide +kernel)).trans ((hM1.2.2.2.2.1 118 2 _ _ 361 rfl (by decide +kernel)).trans h2)
      · intro j hj
        exact (hM4.2.2.2.2.1 122 j _ _ 446 (hd_a122 (by omega)) (by decide +kernel)).trans ((am_up_o σ1.2.1 (o := 120) (k := 97 + i) (σ1.2.1 122 i) (a := 122) (b := j) (by decide)).trans (q22 j hj))
      · exact (hM4.2.2.2.2.1 120 96 _ _ 428 rfl (by decide +kernel)).trans ((am_up_n _ _ (by omega)).trans ((hM1.2.2.2.2.1 120 96 _ _ 428 rfl (by decide +kernel)).trans h96))
      · intro j hj
        refine (hM4.2.2.2.2.1 120 (97 + j) _ _ 429 (hd_a120 j (by omega)) (by decide +kernel)).trans ?_
        show am_up σ1.2.1 120 (97 + i) (σ1.2.1 122 i) 120 (97 + j) = _
        rcases Nat.lt_or_ge j i with h | h
        · rw [am_up_n _ _ (by omega)]
          exact (hM1.2.2.2.2.1 120 (97 + j) _ _ 429 (hd_a120 j (by omega)) (by decide +kernel)).trans (hcp j h)
        · rw [show j = i by omega, am_up_s]
          exact q22 i (by omega)
theorem hd_loop (G : sx_G0 g L xs z9 hd_C ex_mt) (hct : ∀ (mi : Nat) (T2 : ex_T) (c' : sx_Ct), ex_mt mi = some T2 → c' ∈ k9 mi → c'.1 < 60 → sx_Holds g z9 hd_C T2 c') {σe : am_S} (h0 : sx_M z9 hd_C σe 0 0 σe) {post : Option (Option Value) → am_S → Prop} (k : ∀ (r : Int32) σ', hd_E σe σ' → post (some (some (.int r))) σ') : ∀ (N : Nat) (c t w n : Nat) (σ : am_S) (lw : List (Nat × Value)) (x : Int32), 20000 + 500 * w + t < N + 1000 * n → hd_J σe σ c t w n → (0, Value.ref 118) ∈ lw → (1, Value.int x) ∈ lw → x.toInt = 1 → am_K g 30 tX12_sentence.1 0 0 48 lw [] σ post := by
  intro N
  induction N with
  | zero => intro c t w n σ lw x h J; have := J.2.2.2.2.2.1; omega
  | succ N ih =>
    intro c t w n σ lw x hN J hl hl1 hx
    have j6 := J.2.2.2.2.2.1
    have eW : (σ.2.1 118 43).toInt = (w : Nat) := by rw [J.2.2.2.1]; exact hd_ti (by omega)
    refine sg_s2_run G hct (sx_M_self J.1) hl hl1 (by omega) ?_ ?_ ?_
    · intro lw1 x1 σ1 hl1' hx1 f1 hM1
      have J1 := hd_Jm J hM1 (by decide +kernel)
      obtain rfl : w = 1 := by omega
      refine hd_call G (T2 := tX12_nots) rfl hd_d_sentence_67 hd_k_sentence_67 rfl (hd_sh J1.1).1 (as := []) (st := []) rfl (Nat.le_of_ble_eq_true rfl) rfl (Nat.le_of_ble_eq_true rfl) (d1 := 20) (by decide) (post1 := fun r σ2 => r = some none ∧ ∃ c' t', hd_J σe σ2 c' t' 1 n) (fun _ h => by cases h.1) (hd_nots G hct t (fun σ' c' t' h1 h2 => ⟨rfl, c', t', h1⟩) t c σ1 _ (Nat.le_refl _) J1 (by simp [lv_args])) ?_
      intro v σ2 h2
      obtain ⟨hv, c2, t2, J2⟩ := h2
      cases hv
      refine sg_s3_run G hct (sx_M_self J2.1) hl1' hx1 ?_
      intro lw3 y σ3 hl3 f2 hM3
      have J3 := hd_Jm J2 hM3 (by decide +kernel)
      refine hd_call G (T2 := tX12_joins) rfl hd_d_sentence_73 hd_k_sentence_73 rfl (hd_sh J3.1).1 (as := [.int y]) (st := []) rfl (Nat.le_of_ble_eq_true rfl) rfl (Nat.le_of_ble_eq_true rfl) (d1 := 20) (by decide) (post1 := fun r σ4 => r = some none ∧ ∃ c' t', hd_J σe σ4 c' t' 1 n) (fun _ h => by cases h.1) (hd_joins G hct t2 (x := y) (by omega) (fun σ' c' t' h1 h2 _ => ⟨rfl, c', t', h1⟩) t2 c2 σ3 _ (Nat.le_refl _) J3 (by simp [lv_args]) (by simp [lv_args, Value.category])) ?_
      intro v σ4 h4
      obtain ⟨hv, c4, t4, J4⟩ := h4
      cases hv
      refine sg_s4_run G hct (sx_M_self J4.1) hl3 (fun r σ' hM => k r σ' (J4.e.m hM (by decide +kernel))) ?_
      intro lw5 n0 n1 σ5 hl5 g1 g2 g3 g4 g5 hM5
      have J5 := hd_Jm J4 hM5 (by decide +kernel)
      obtain ⟨i1, i2, i3, i4, i5, i6, i7, i8, i9, i10⟩ := J5
      have ec4 : (σ4.2.1 118 39).toInt = (c4 : Nat) := by rw [J4.2.1]; exact hd_ti (by omega)
      have en0 : n0 = Int32.ofNat c4 := hd_nat (by omega) (by omega)
      have en1 : n1.toInt = ((96 : Nat) : Int) := by omega
      refine kr_iast G.1 hd_d_sentence_142 (i1.1 120 (.inr (.int, 277)) rfl) (hd_in en1 (by omega)) ?_
      rw [hd_clamp en1]
      have hM6 : sx_M zK hd_T σe hd_mS 0 (σ5.1, am_up σ5.2.1 120 96 n0, σ5.2.2.1, σ5.2.2.2) := hd_up (lo := 0) (hi := 40) (u := 428) hd_CsK (hd_toK i1) rfl (by omega) (by omega) (by decide +kernel) ⟨rfl, rfl⟩ (fun c hc => by cases hc) (fun c hc => by cases hc)
      refine sg_s7_run (hd_GK G) hd_ctK (sx_M_self hM6) hl5 ?_
      intro lw7 x7 σ7 hl7 hl72 g6 hM7
      refine hd_copy G h0 (c := c4) (by omega) (rd := σ5.2.1 122) i8 k (3 * c4) 0 σ7 lw7 x7 (by omega) (hd_tr hM6 hM7 (by decide +kernel)) ?_ ?_ ?_ ?_ (fun j hj => by omega) hl7 hl72 (by omega)
      · exact (hM7.2.2.2.2.1 118 39 _ _ 398 rfl (by decide +kernel)).trans i2
      · exact (hM7.2.2.2.2.1 118 2 _ _ 361 rfl (by decide +kernel)).trans i10
      · intro j hj
        exact (hM7.2.2.2.2.1 122 j _ _ 446 (hd_a122 (by omega)) (by decide +kernel)).trans (am_up_o σ5.2.1 (o := 120) (k := 96) n0 (a := 122) (b := j) (by decide))
      · refine (hM7.2.2.2.2.1 120 96 _ _ 428 rfl (by decide +kernel)).trans ?_
        show am_up σ5.2.1 120 96 n0 120 96 = _
        rw [am_up_s, en0]
    · intro lw1 x1 σ1 hl1' hx1 f1 f2 hM1
      have J1 := hd_Jm J hM1 (by decide +kernel)
      obtain rfl : w = 1 := by omega
      refine hd_call G (T2 := tX12_behind) rfl hd_d_sentence_109 hd_k_sentence_109 rfl (hd_sh J1.1).1 (as := []) (st := []) rfl (Nat.le_of_ble_eq_true rfl) rfl (Nat.le_of_ble_eq_true rfl) (d1 := 25) (by decide) (post1 := fun r σ2 => ∃ y : Int32, r = some (some (.int y)) ∧ ((y.toInt = 0 ∧ hd_E σe σ2) ∨ (y.toInt = 1 ∧ ∃ c' t' w', hd_J σe σ2 c' t' w' n ∧ ((w' = 0 ∧ t' ≤ t + 1) ∨ (w' = 1 ∧ t' < t))))) (fun _ h => by obtain ⟨y, h, -⟩ := h; cases h) (hd_behind G hct J1 (by simp [lv_args]) (fun r σ' h1 h2 => ⟨r, rfl, Or.inl ⟨h1, h2⟩⟩) (fun r σ' c' t' w' h1 h2 h3 => ⟨r, rfl, Or.inr ⟨h1, c', t', w', h2, h3⟩⟩)) ?_
      intro v σ2 h2
      obtain ⟨y, hv, h2⟩ := h2
      cases hv
      rcases h2 with ⟨hy, E2⟩ | ⟨hy, c2, t2, w2, J2, hd2⟩
      · refine sg_s5_run G hct (sx_M_self E2.1) hl1' hx1 (by omega) (by omega) (fun r σ' hM => k r σ' (E2.m hM (by decide +kernel))) ?_
        intro lw3 x3 σ3 _ _ _ f5
        omega
      · refine sg_s5_run G hct (sx_M_self J2.1) hl1' hx1 (by omega) (by omega) (fun r σ' hM => k r σ' (J2.e.m hM (by decide +kernel))) ?_
        intro lw3 x3 σ3 hl3 hx3 f4 f5 hM3
        have i6 := J2.2.2.2.2.2.1
        exact ih c2 t2 w2 n σ3 lw3 x3 (by rcases hd2 with ⟨rfl, h⟩ | ⟨rfl, h⟩ <;> omega) (hd_Jm J2 hM3 (by decide +kernel)) hl3 hx3 (by omega)
    · intro lw1 x1 σ1 hl1' hx1 f1 f2 hM1
      have J1 := hd_Jm J hM1 (by decide +kernel)
      obtain rfl : w = 0 := by omega
      refine hd_call G (T2 := tX12_operand) rfl hd_d_sentence_119 hd_k_sentence_119 rfl (hd_sh J1.1).1 (as := []) (st := []) rfl (Nat.le_of_ble_eq_true rfl) rfl (Nat.le_of_ble_eq_true rfl) (d1 := 25) (by decide) (post1 := fun r σ2 => ∃ y : Int32, r = some (some (.int y)) ∧ ((y.toInt = 0 ∧ hd_E σe σ2) ∨ (y.toInt = 1 ∧ ∃ c' t' w', hd_J σe σ2 c' t' w' (n + 1) ∧ t' ≤ t + 1))) (fun _ h => by obtain ⟨y, h, -⟩ := h; cases h) (hd_operand G hct J1 (by simp [lv_args]) (fun r σ' h1 h2 => ⟨r, rfl, Or.inl ⟨h1, h2⟩⟩) (fun r σ' c' t' w' h1 h2 h3 => ⟨r, rfl, Or.inr ⟨h1, c', t', w', h2, h3⟩⟩)) ?_
      intro v σ2 h2
      obtain ⟨y, hv, h2⟩ := h2
      cases hv
      rcases h2 with ⟨hy, E2⟩ | ⟨hy, c2, t2, w2, J2, hd2⟩
      · refine sg_s6_run G hct (sx_M_self E2.1) hl1' hx1 (by omega) (by omega) (fun r σ' hM => k r σ' (E2.m hM (by decide +kernel))) ?_
        intro lw3 x3 σ3 _ _ _ f5
        omega
      · refine sg_s6_run G hct (sx_M_self J2.1) hl1' hx1 (by omega) (by omega) (fun r σ' hM => k r σ' (J2.e.m hM (by decide +kernel))) ?_
        intro lw3 x3 σ3 hl3 hx3 f4 f5 hM3
        have i6 := J2.2.2.2.2.2.1
        exact ih c2 t2 w2 (n + 1) σ3 lw3 x3 (by omega) (hd_Jm J2 hM3 (by decide +kernel)) hl3 hx3 (by omega)
theorem hd_sentence (G : sx_G0 g L xs z9 hd_C ex_mt) (hct : ∀ (mi : Nat) (T2 : ex_T) (c' : sx_Ct), ex_mt mi = some T2 → c' ∈ k9 mi → c'.1 < 60 → sx_Holds g z9 hd_C T2 c') {σe : am_S} (h0 : sx_M z9 hd_C σe 0 0 σe) {post : Option (Option Value) → am_S → Prop} (k : ∀ (r : Int32) σ', hd_E σe σ' → post (some (some (.int r))) σ') {lw : List (Nat × Value)} (hl : (0, Value.ref 118) ∈ lw) : am_K g 30 tX12_sentence.1 0 0 0 lw [] σe post := by
  refine sg_s1_run G hct h0 hl ?_
  intro lw1 x σ1 hl1 hx f1 f2 f3 f4 f5 f6 hM1
  refine hd_loop G hct h0 k 30000 0 0 0 0 σ1 lw1 x (by decide) ⟨sx_M_mask (by decide +kernel) hM1, hd_nat (by decide) (by omega), hd_nat (by decide) (by omega), hd_nat (by decide) (by omega), hd_nat (by decide) (by omega), by decide, fun j hj => by omega, trivial, rfl, Int32.toInt_inj.mp (by have : (0 : Int32).toInt = 0 := rfl; omega)⟩ hl1 hx (by omega)
end HY
