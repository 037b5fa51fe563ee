/-! the reader of the reference: a run of letters and digits -/
theorem rd_FL {T : ex_T} {pc i ci k kd p : Nat} (hl : ex_lk ex_mt T pc (.getfield i) [ci, k, kd, p] = true) : am_FL T.1.1.cls i ci k ∧ am_kd (am_ty ci k) = kd := by
  unfold ex_lk at hl
  simp only at hl
  split at hl
  · rename_i C1 U N hc
    simp only [Bool.and_eq_true, decide_eq_true_eq] at hl
    obtain ⟨l1, l2, l3, l4⟩ := hl
    exact ⟨⟨C1, U, N, hc, l1, l2, ex_flk_ok l3⟩, l4⟩
  · cases hl
theorem rd_FP {T : ex_T} {pc i ci k p : Nat} (hl : ex_lk ex_mt T pc (.putfield i) [ci, k, 1, p] = true) : am_FP T.1.1.cls T.1.1.name i ci k ∧ am_ty ci k = .long := by
  unfold ex_lk at hl
  simp only at hl
  split at hl
  · rename_i C1 U N hc
    rw [Bool.and_eq_true, Bool.and_eq_true, Bool.and_eq_true, decide_eq_true_eq, decide_eq_true_eq] at hl
    obtain ⟨l1, l2, l3, l4⟩ := hl
    refine ⟨⟨C1, U, N, hc, l1, l2, ?_⟩, of_decide_eq_true l4⟩
    split at l3
    · rename_i hfin
      exact Or.inl ⟨hfin, ex_flk_ok l3⟩
    · rename_i hfin
      simp only [Bool.and_eq_true, decide_eq_true_eq] at l3
      exact Or.inr ⟨hfin, ex_mem_ok l3.1, l3.2.1, l3.2.2⟩
  · cases hl
theorem rd_lgM {σe σ : am_S} {m : Nat} (hM : sx_M zK hd_T σe m 0 σ) (hb : sx_bit m 900 = true) (f : Nat → Nat → Int64) (h72 : f 72 = σ.2.2.1 72) : sx_M zK hd_T σe m 0 (σ.1, σ.2.1, f, σ.2.2.2) :=
  ⟨hM.1, hM.2.1, hM.2.2.1, hM.2.2.2.1, hM.2.2.2.2.1, hM.2.2.2.2.2.1, fun c hc => absurd hc (List.not_mem_nil), fun h => absurd (hb.symm.trans h) (by decide), fun h => h72.trans (hM.2.2.2.2.2.2.2.2 h)⟩
theorem rd_i64 {r : Int32} {c : Nat} (h : r.toInt = c) (hc : c ≤ 255) : r.toInt64 = Int64.ofNat c := by
  apply Int64.toInt_inj.mp
  rw [Int32.toInt_toInt64, h, Int64.toInt_ofNat_of_lt (by omega)]
theorem rd_nm3 {b : Nat → Nat} {s j : Nat} (hj : j ≤ 3) (h : ∀ k, k < j → 48 ≤ b (s + k) ∧ b (s + k) ≤ 122) : rd_nm b j s 0 ≤ 8214 := by
  have h3 : j = 0 ∨ j = 1 ∨ j = 2 ∨ j = 3 := by omega
  rcases h3 with rfl | rfl | rfl | rfl
  · show 0 ≤ 8214
    omega
  · show 10 * 0 + b s - 48 ≤ 8214
    have := h 0 (by omega)
    rw [Nat.add_zero] at this
    omega
  · show 10 * (10 * 0 + b s - 48) + b (s + 1) - 48 ≤ 8214
    have h0 := h 0 (by omega)
    have h1 := h 1 (by omega)
    rw [Nat.add_zero] at h0
    omega
  · show 10 * (10 * (10 * 0 + b s - 48) + b (s + 1) - 48) + b (s + 1 + 1) - 48 ≤ 8214
    have h0 := h 0 (by omega)
    have h1 := h 1 (by omega)
    have h2 := h 2 (by omega)
    rw [Nat.add_zero] at h0
    rw [show s + 2 = s + 1 + 1 by omega] at h2
    omega
theorem rd_ld {c : Nat} (h : rd_ltr c = true) : rd_dgt c = false := by
  rw [rd_ltr_iff] at h
  rw [Bool.eq_false_iff]
  intro h2
  rw [rd_dgt_iff] at h2
  omega
theorem rd_dl {c : Nat} (h : rd_dgt c = true) : rd_ltr c = false := by
  rw [rd_dgt_iff] at h
  rw [Bool.eq_false_iff]
  intro h2
  rw [rd_ltr_iff] at h2
  omega
theorem rd_all0 {P : Nat → Bool} {b : Nat → Nat} {s j : Nat} (hj : 1 ≤ j) (h : P (b s) = false) : ¬ rd_all P b j s = true := by
  obtain ⟨i, rfl⟩ : ∃ i, j = i + 1 := ⟨j - 1, by omega⟩
  show ¬ (P (b s) && rd_all P b i (s + 1)) = true
  rw [h]
  exact Bool.noConfusion
theorem rd_kl {b : Nat → Nat} {s e : Nat} (h : rd_ltr (b s) = true) (he : s < e) : (rd_tk2 b s e).1 = if rd_all rd_ltr b (e - s) s = true ∧ e - s ≤ 7 then 1 else 4 := by
  show (if rd_all rd_ltr b (e - s) s = true ∧ e - s ≤ 7 then 1 else if rd_all rd_dgt b (e - s) s = true ∧ e - s ≤ 3 then 2 else 4) = _
  rw [if_neg (c := rd_all rd_dgt b (e - s) s = true ∧ e - s ≤ 3) (fun q => rd_all0 (by omega) (rd_ld h) q.1)]
theorem rd_kd {b : Nat → Nat} {s e : Nat} (h : rd_dgt (b s) = true) (he : s < e) : (rd_tk2 b s e).1 = if rd_all rd_dgt b (e - s) s = true ∧ e - s ≤ 3 then 2 else 4 := by
  show (if rd_all rd_ltr b (e - s) s = true ∧ e - s ≤ 7 then 1 else if rd_all rd_dgt b (e - s) s = true ∧ e - s ≤ 3 then 2 else 4) = _
  rw [if_neg (c := rd_all rd_ltr b (e - s) s = true ∧ e - s ≤ 7) (fun q => rd_all0 (by omega) (rd_dl h) q.1)]
theorem rd_tk2_1 {b : Nat → Nat} {s e : Nat} (h : (rd_tk2 b s e).1 = 1) : e - s ≤ 7 := by
  have h' : (if rd_all rd_ltr b (e - s) s = true ∧ e - s ≤ 7 then 1 else if rd_all rd_dgt b (e - s) s = true ∧ e - s ≤ 3 then 2 else 4) = 1 := h
  split at h'
  · rename_i q
    exact q.2
  · split at h' <;> cases h'
theorem rd_tk2_2 {b : Nat → Nat} {s e : Nat} (h : (rd_tk2 b s e).1 = 2 ∨ (rd_tk2 b s e).1 = 3) : e - s ≤ 3 := by
  have h' : (if rd_all rd_ltr b (e - s) s = true ∧ e - s ≤ 7 then 1 else if rd_all rd_dgt b (e - s) s = true ∧ e - s ≤ 3 then 2 else 4) = 2 ∨ (if rd_all rd_ltr b (e - s) s = true ∧ e - s ≤ 7 then 1 else if rd_all rd_dgt b (e - s) s = true ∧ e - s ≤ 3 then 2 else 4) = 3 := h
  split at h'
  · rcases h' with h' | h' <;> cases h'
  · split at h'
    · rename_i q
      exact q.2
    · rcases h' with h' | h' <;> cases h'
/-- j bytes of the run are read -/
def rd_F (σ : am_S) (b : Nat → Nat) (s j jn jw : Nat) : Prop := (σ.2.1 118 4).toInt = ((s + j : Nat) : Int) ∧ (σ.2.1 118 10).toInt = (s : Nat) ∧ (σ.2.1 118 11).toInt = (j : Nat) ∧ (σ.2.1 118 12).toInt = ((rd_nm b (min jn 3) s 0 : Nat) : Int) ∧ σ.2.2.1 118 15 = rd_wd b (min jw 7) s 0
theorem rd_F0 {σ σ' : am_S} {b : Nat → Nat} {s j jn jw : Nat} (F : rd_F σ b s j jn jw) (h : sx_M zK hd_T σ 0 0 σ') : rd_F σ' b s j jn jw := by
  unfold rd_F
  rw [h.2.2.2.2.1 118 4 _ _ 363 rfl (sx_bit0 _), h.2.2.2.2.1 118 10 _ _ 369 rfl (sx_bit0 _), h.2.2.2.2.1 118 11 _ _ 370 rfl (sx_bit0 _), h.2.2.2.2.1 118 12 _ _ 371 rfl (sx_bit0 _), h.2.2.2.2.2.2.2.1 (sx_bit0 _)]
  exact F
section RR
variable {g : am_C} {L : Nat} {xs : Nat → Int32}
theorem rd_run (G : sx_G0 g L xs zK hd_T ex_mt) {σe : am_S} {b : Nat → Nat} {n most s e : Nat} (Xe : rd_X σe b n most) {x2 : Int32} {P : Nat → Bool} (hsn : s < n) (hP : (x2.toInt = 1 ∧ P = rd_ltr ∧ rd_ltr (b s) = true) ∨ (x2.toInt = 0 ∧ P = rd_dgt ∧ rd_dgt (b s) = true)) {post : Option (Option Value) → am_S → Prop}
    (kend : ∀ σ', sx_M zK hd_T σe rd_mN 0 σ' → rd_N σ' b (rd_tk2 b s e) → post (some none) σ') : ∀ (f j : Nat) (σ : am_S) (lw : List (Nat × Value)) (y2 y3 : Int32), n - (s + j) ≤ f → sx_M zK hd_T σe rd_mN 0 σ → rd_F σ b s j j j → y2.toInt = x2.toInt → y3.toInt = (if rd_all P b j s = true then 1 else 0) → (∀ k, k < j → 48 ≤ b (s + k) ∧ b (s + k) ≤ 122) → s + j ≤ n → rd_rn b n (n - (s + j)) (s + j) = e → (0, Value.ref 118) ∈ lw → (2, Value.int y2) ∈ lw → (3, Value.int y3) ∈ lw → am_K g 10 tX12_next.1 0 0 182 lw [.ref 118] σ post := by
  intro f
  induction f using Nat.strongRecOn with
  | ind f ih =>
  intro j σ lw y2 y3 hf hM F hy2 hy3 hall hjn he hl h2 h3
  have hn9 := Xe.2.2.2.1
  have X := rd_Xm Xe hM (by decide +kernel)
  have hx01 : x2.toInt = 0 ∨ x2.toInt = 1 := by rcases hP with h | h <;> omega
  have hy01 : y3.toInt = 0 ∨ y3.toInt = 1 := by rw [hy3]; split <;> omega
  have hld : (rd_ltr (b s) || rd_dgt (b s)) = true := by
    rcases hP with h | h
    · rw [h.2.2]; rfl
    · rw [h.2.2, Bool.or_true]
  refine rd_pkc G (sx_M_self hM) X F.1 rfl rd_d_X12_next_182 rd_k_X12_next_182 (by decide) ?_
  intro r σ1 hM1 hr
  have X1 := rd_Xm X hM1 (by decide +kernel)
  have H1 := hd_tr hM hM1 (by decide +kernel)
  have F1 := rd_F0 F hM1
  have hin := rd_pk_in X1 (s + j)
  -- the run's end
  have fin : ∀ (σ2 : am_S) (lw2 : List (Nat × Value)) (z2 z3 : Int32), sx_M zK hd_T σe rd_mN 0 σ2 → rd_F σ2 b s j j j → (0, Value.ref 118) ∈ lw2 → (2, Value.int z2) ∈ lw2 → (3, Value.int z3) ∈ lw2 → z2.toInt = x2.toInt → z3.toInt = y3.toInt → ¬ (s + j < n ∧ (rd_ltr (b (s + j)) || rd_dgt (b (s + j))) = true) → am_K g 10 tX12_next.1 0 0 298 lw2 [] σ2 post := by
    intro σ2 lw2 z2 z3 H2 F2 q0 q2 q3 e2 e3 hno
    have ee : e = s + j := by rw [← he, rd_rn_at hno]
    have hj : 1 ≤ j := by
      rcases Nat.eq_zero_or_pos j with h | h
      · subst h
        exact absurd ⟨hsn, hld⟩ hno
      · exact h
    have es : e - s = j := by omega
    have fi : ∀ (σ3 : am_S), sx_M zK hd_T σ2 601226901190101306339707032778070279008174732520529886901066488712245510429339761526706943586500787976175353856 0 σ3 → (σ3.2.1 118 9).toInt = (((rd_tk2 b s e).1 : Nat) : Int) → post (some none) σ3 := by
      intro σ3 hM3 hk
      refine kend σ3 (hd_tr H2 hM3 (by decide +kernel)) ⟨hk, ?_, ?_, fun h => ?_, fun h => ?_⟩
      · rw [hM3.2.2.2.2.1 118 10 _ _ 369 rfl (by decide +kernel)]
        exact F2.2.1
      · rw [hM3.2.2.2.2.1 118 4 _ _ 363 rfl (by decide +kernel), F2.1]
        show ((s + j : Nat) : Int) = ((e : Nat) : Int)
        rw [ee]
      · have h7 := rd_tk2_2 h
        rw [hM3.2.2.2.2.1 118 12 _ _ 371 rfl (by decide +kernel), F2.2.2.2.1]
        show ((rd_nm b (min j 3) s 0 : Nat) : Int) = ((rd_nm b (e - s) s 0 : Nat) : Int)
        rw [es, show min j 3 = j by omega]
      · have h7 := rd_tk2_1 h
        rw [hM3.2.2.2.2.2.2.2.1 (by decide +kernel), F2.2.2.2.2]
        show rd_wd b (min j 7) s 0 = rd_wd b (e - s) s 0
        rw [es, show min j 7 = j by omega]
    have hsp := F2.2.2.1
    refine sg_nxd_run G hd_ctK (sx_M_self H2) q0 q2 (by omega) q3 (by omega) ?_ ?_ ?_ ?_ ?_
    · intro σ3 a1 a2 hM3
      refine fi σ3 hM3 ?_
      have hna : ¬ rd_all P b j s = true := by
        intro q
        rw [if_pos q] at hy3
        omega
      rcases hP with h | h
      · rw [rd_kl h.2.2 (by omega), es, if_neg (fun q => hna (by rw [h.2.1]; exact q.1))]
        show _ = ((4 : Nat) : Int)
        omega
      · rw [rd_kd h.2.2 (by omega), es, if_neg (fun q => hna (by rw [h.2.1]; exact q.1))]
        show _ = ((4 : Nat) : Int)
        omega
    · intro σ3 a1 a2 a3 a4 hM3
      refine fi σ3 hM3 ?_
      rcases hP with h | h
      · rw [rd_kl h.2.2 (by omega), es, if_neg (by omega)]
        show _ = ((4 : Nat) : Int)
        omega
      · omega
    · intro σ3 a1 a2 a3 a4 hM3
      refine fi σ3 hM3 ?_
      rcases hP with h | h
      · omega
      · rw [rd_kd h.2.2 (by omega), es, if_neg (by omega)]
        show _ = ((4 : Nat) : Int)
        omega
    · intro σ3 a1 a2 a3 a4 hM3
      refine fi σ3 hM3 ?_
      have hna : rd_all P b j s = true := by
        by_cases q : rd_all P b j s = true
        · exact q
        · rw [if_neg q] at hy3
          omega
      rcases hP with h | h
      · rw [rd_kl h.2.2 (by omega), es, if_pos ⟨by rw [← h.2.1]; exact hna, by omega⟩]
        show _ = ((1 : Nat) : Int)
        omega
      · omega
    · intro σ3 a1 a2 a3 a4 hM3
      refine fi σ3 hM3 ?_
      have hna : rd_all P b j s = true := by
        by_cases q : rd_all P b j s = true
        · exact q
        · rw [if_neg q] at hy3
          omega
      rcases hP with h | h
      · omega
      · rw [rd_kd h.2.2 (by omega), es, if_pos ⟨by rw [← h.2.1]; exact hna, by omega⟩]
        show _ = ((2 : Nat) : Int)
        omega
  -- one byte more
  have go : ∀ (σ2 : am_S) (lw2 : List (Nat × Value)) (z2 z3 : Int32), sx_M zK hd_T σe rd_mN 0 σ2 → rd_F σ2 b s j j j → (0, Value.ref 118) ∈ lw2 → (2, Value.int z2) ∈ lw2 → (3, Value.int z3) ∈ lw2 → z2.toInt = x2.toInt → z3.toInt = (if rd_all P b (j + 1) s = true then 1 else 0) → s + j < n → (rd_ltr (b (s + j)) || rd_dgt (b (s + j))) = true → am_K g 10 tX12_next.1 0 0 222 lw2 [] σ2 post := by
    intro σ2 lw2 z2 z3 H2 F2 q0 q2 q3 e2 e3 hlt hc
    have hz01 : z3.toInt = 0 ∨ z3.toInt = 1 := by rw [e3]; split <;> omega
    have hc2 : 48 ≤ b (s + j) ∧ b (s + j) ≤ 122 := by
      rw [Bool.or_eq_true, rd_ltr_iff, rd_dgt_iff] at hc
      omega
    have hall2 : ∀ k, k < j + 1 → 48 ≤ b (s + k) ∧ b (s + k) ≤ 122 := by
      intro k hk
      rcases Nat.lt_or_eq_of_le (Nat.le_of_lt_succ hk) with h | h
      · exact hall k h
      · rw [h]
        exact hc2
    have hpk : rd_pk b n (s + j) = ((b (s + j) : Nat) : Int) := by unfold rd_pk; rw [if_pos hlt]
    have he2 : rd_rn b n (n - (s + (j + 1))) (s + (j + 1)) = e := by rw [← he, rd_rn_eq hlt hc]; rfl
    -- the ends of a turn
    have at275 : ∀ (σ3 : am_S) (lw3 : List (Nat × Value)) (u2 u3 : Int32), sx_M zK hd_T σe rd_mN 0 σ3 → rd_F σ3 b s j (j + 1) (j + 1) → (0, Value.ref 118) ∈ lw3 → (2, Value.int u2) ∈ lw3 → (3, Value.int u3) ∈ lw3 → u2.toInt = z2.toInt → u3.toInt = z3.toInt → am_K g 10 tX12_next.1 0 0 275 lw3 [] σ3 post := by
      intro σ3 lw3 u2 u3 H3 F3 w0 w2 w3 c2 c3
      have f1 := F3.1
      have f3 := F3.2.2.1
      refine sg_nxc_run G hd_ctK (sx_M_self H3) w0 w2 (by omega) w3 (by omega) (by omega) (by omega) ?_
      intro lw4 v2 v3 σ4 t0 t2 t3 d2 d3 d4 d5 hM4
      refine ih (f - 1) (by omega) (j + 1) σ4 lw4 v2 v3 (by omega) (hd_tr H3 hM4 (by decide +kernel)) ⟨by omega, ?_, by omega, ?_, ?_⟩ (by omega) (by omega) hall2 (by omega) he2 t0 t2 t3
      · rw [hM4.2.2.2.2.1 118 10 _ _ 369 rfl (by decide +kernel)]
        exact F3.2.1
      · rw [hM4.2.2.2.2.1 118 12 _ _ 371 rfl (by decide +kernel)]
        exact F3.2.2.2.1
      · rw [hM4.2.2.2.2.2.2.2.1 (by decide +kernel)]
        exact F3.2.2.2.2
    have at248 : ∀ (σ3 : am_S) (lw3 : List (Nat × Value)) (u2 u3 : Int32), sx_M zK hd_T σe rd_mN 0 σ3 → rd_F σ3 b s j j (j + 1) → (0, Value.ref 118) ∈ lw3 → (2, Value.int u2) ∈ lw3 → (3, Value.int u3) ∈ lw3 → u2.toInt = z2.toInt → u3.toInt = z3.toInt → am_K g 10 tX12_next.1 0 0 248 lw3 [] σ3 post := by
      intro σ3 lw3 u2 u3 H3 F3 w0 w2 w3 c2 c3
      have f3 := F3.2.2.1
      have f4 := F3.2.2.2.1
      have hnm := rd_nm3 (b := b) (s := s) (j := min j 3) (by omega) (fun k hk => hall k (by omega))
      refine sg_nxa_run G hd_ctK (sx_M_self H3) w0 w2 (by omega) w3 (by omega) (by omega) ?_ ?_
      · intro lw4 v2 v3 n4 σ4 t0 t2 t3 d1 d2 d3 d4 hM4
        have H4 := hd_tr H3 hM4 (by decide +kernel)
        have F4 := rd_F0 F3 hM4
        refine rd_pkc G (sx_M_self hM4) (rd_Xm Xe H4 (by decide +kernel)) F4.1 rfl rd_d_X12_next_265 rd_k_X12_next_265 (Nat.le_of_ble_eq_true rfl) ?_
        intro r5 σ5 hM5 hr5
        have H5 := hd_tr H4 hM5 (by decide +kernel)
        have F5 := rd_F0 F4 hM5
        rw [hpk] at hr5
        refine sg_nxb_run G hd_ctK (sx_M_self hM5) t0 t2 (by omega) t3 (by omega) (by omega) (by omega) ?_
        intro lw6 k2 k3 σ6 p0 p2 p3 g1 g2 g3 hM6
        refine at275 σ6 lw6 k2 k3 (hd_tr H5 hM6 (by decide +kernel)) ⟨?_, ?_, ?_, ?_, ?_⟩ p0 p2 p3 (by omega) (by omega)
        · rw [hM6.2.2.2.2.1 118 4 _ _ 363 rfl (by decide +kernel)]
          exact F5.1
        · rw [hM6.2.2.2.2.1 118 10 _ _ 369 rfl (by decide +kernel)]
          exact F5.2.1
        · rw [hM6.2.2.2.2.1 118 11 _ _ 370 rfl (by decide +kernel)]
          exact F5.2.2.1
        · rw [show min (j + 1) 3 = min j 3 + 1 by omega, rd_nm_snoc, show min j 3 = j by omega]
          rw [show min j 3 = j by omega] at f4
          omega
        · rw [hM6.2.2.2.2.2.2.2.1 (by decide +kernel)]
          exact F5.2.2.2.2
      · intro lw4 v2 v3 σ4 t0 t2 t3 d1 d2 d3 hM4
        refine at275 σ4 lw4 v2 v3 (hd_tr H3 hM4 (by decide +kernel)) ?_ t0 t2 t3 (by omega) (by omega)
        have F4 := rd_F0 F3 hM4
        unfold rd_F at F4 ⊢
        rw [show min (j + 1) 3 = min j 3 by omega]
        exact F4
    have f3 := F2.2.2.1
    refine sg_nx9_run G hd_ctK (sx_M_self H2) q0 q2 (by omega) q3 (by omega) ?_ ?_
    · intro lw3 u2 u3 σ3 w0 w2 w3 d1 d2 d3 hM3
      have H3 := hd_tr H2 hM3 (by decide +kernel)
      have F3 := rd_F0 F2 hM3
      obtain ⟨i0, hi0⟩ := List.getElem?_of_mem w0
      refine kr_aload_n i0 rd_d_X12_next_231 hi0 ?_
      refine kr_aload_n i0 rd_d_X12_next_232 hi0 ?_
      refine kr_getf G.1 (rd_FL rd_k_X12_next_233).1 rd_d_X12_next_233 (hM3.1 118 (.inl 12) rfl) (v := .long (σ3.2.2.1 118 15)) (by unfold am_fa; rw [(rd_FL rd_k_X12_next_233).2]; rfl) ?_
      refine kr_bipush rd_d_X12_next_236 (v := 8) (by decide) ?_
      refine kr_lshl rd_d_X12_next_238 ?_
      refine kr_aload_n i0 rd_d_X12_next_239 hi0 ?_
      refine rd_pkc G (sx_M_self hM3) (rd_Xm Xe H3 (by decide +kernel)) F3.1 rfl rd_d_X12_next_240 rd_k_X12_next_240 (Nat.le_of_ble_eq_true rfl) ?_
      intro r4 σ4 hM4 hr4
      have H4 := hd_tr H3 hM4 (by decide +kernel)
      have F4 := rd_F0 F3 hM4
      rw [hpk] at hr4
      refine kr_i2l rd_d_X12_next_243 ?_
      refine kr_lor rd_d_X12_next_244 ?_
      have hty := (rd_FP rd_k_X12_next_245).2
      refine kr_putJ G.1 (rd_FP rd_k_X12_next_245).1 rd_d_X12_next_245 (hM4.1 118 (.inl 12) rfl) (by rw [hty]; rfl) (by rw [hty]; rfl) (by rw [hty]; rfl) ?_
      refine at248 _ lw3 u2 u3 (rd_lgM H4 (by decide +kernel) _ (funext fun _ => am_up_o _ _ (by decide))) ⟨F4.1, F4.2.1, F4.2.2.1, F4.2.2.2.1, ?_⟩ w0 w2 w3 (by omega) (by omega)
      show am_up σ4.2.2.1 118 15 ((σ3.2.2.1 118 15 <<< ((8 : Int32).toInt64 &&& 63)) ||| r4.toInt64) 118 15 = _
      rw [am_up_s, F3.2.2.2.2, rd_i64 hr4 (by omega), show min (j + 1) 7 = j + 1 by omega, show min j 7 = j by omega, rd_wd_snoc]
    · intro lw3 u2 u3 σ3 w0 w2 w3 d1 d2 d3 hM3
      refine at248 σ3 lw3 u2 u3 (hd_tr H2 hM3 (by decide +kernel)) ?_ w0 w2 w3 (by omega) (by omega)
      have F3 := rd_F0 F2 hM3
      unfold rd_F at F3 ⊢
      rw [show min (j + 1) 7 = min j 7 by omega]
      exact F3
  -- what all of one kind becomes
  have al1 : P (b (s + j)) = true → y3.toInt = 1 → (1 : Int) = (if rd_all P b (j + 1) s = true then 1 else 0) := by
    intro q1 q2
    have : rd_all P b j s = true := by
      by_cases q : rd_all P b j s = true
      · exact q
      · rw [if_neg q] at hy3
        omega
    rw [rd_all_snoc, this, q1]
    rfl
  have al0 : P (b (s + j)) = false → (0 : Int) = (if rd_all P b (j + 1) s = true then 1 else 0) := by
    intro q1
    rw [rd_all_snoc, q1, Bool.and_false]
    rfl
  have al2 : y3.toInt = 0 → (0 : Int) = (if rd_all P b (j + 1) s = true then 1 else 0) := by
    intro q2
    have : rd_all P b j s = false := by
      rw [Bool.eq_false_iff]
      intro q
      rw [if_pos q] at hy3
      omega
    rw [rd_all_snoc, this, Bool.false_and]
    rfl
  -- pc 206: of the first byte's kind?
  have at206 : ∀ (σ2 : am_S) (lw2 : List (Nat × Value)) (z2 z3 : Int32), sx_M zK hd_T σe rd_mN 0 σ2 → rd_F σ2 b s j j j → (0, Value.ref 118) ∈ lw2 → (2, Value.int z2) ∈ lw2 → (3, Value.int z3) ∈ lw2 → z2.toInt = x2.toInt → z3.toInt = y3.toInt → y3.toInt = 1 → s + j < n → (rd_ltr (b (s + j)) || rd_dgt (b (s + j))) = true → am_K g 10 tX12_next.1 0 0 206 lw2 [.ref 118] σ2 post := by
    intro σ2 lw2 z2 z3 H2 F2 q0 q2 q3 e2 e3 e4 hlt hc
    refine rd_pkc G (sx_M_self H2) (rd_Xm Xe H2 (by decide +kernel)) F2.1 rfl rd_d_X12_next_206 rd_k_X12_next_206 (by decide) ?_
    intro r3 σ3 hM3 hr3
    have H3 := hd_tr H2 hM3 (by decide +kernel)
    have F3 := rd_F0 F2 hM3
    have hpk : rd_pk b n (s + j) = ((b (s + j) : Nat) : Int) := by unfold rd_pk; rw [if_pos hlt]
    rw [hpk] at hr3
    have hc3 := hc
    rw [Bool.or_eq_true, rd_ltr_iff, rd_dgt_iff] at hc3
    refine sg_nx8_run G hd_ctK (sx_M_self hM3) q0 q2 (by omega) q3 (by omega) (by omega) ?_ ?_ ?_ ?_
    · intro lw4 v2 v3 σ4 t0 t2 t3 d1 d2 d3 d4 hM4
      have hv : v3.toInt = 1 := by omega
      refine go σ4 lw4 v2 v3 (hd_tr H3 hM4 (by decide +kernel)) (rd_F0 F3 hM4) t0 t2 t3 (by omega) (hv.trans (al1 ?_ e4)) hlt hc
      rcases hP with h | h
      · rw [h.2.1]
        exact rd_ltr_iff.mpr (by omega)
      · omega
    · intro lw4 v2 v3 σ4 t0 t2 t3 d1 d2 d3 d4 hM4
      have hv : v3.toInt = 0 := by omega
      refine go σ4 lw4 v2 v3 (hd_tr H3 hM4 (by decide +kernel)) (rd_F0 F3 hM4) t0 t2 t3 (by omega) (hv.trans (al0 ?_)) hlt hc
      rcases hP with h | h
      · omega
      · rw [h.2.1]
        exact rd_ld (rd_ltr_iff.mpr (by omega))
    · intro lw4 v2 v3 σ4 t0 t2 t3 d1 d2 d3 d4 hM4
      have hv : v3.toInt = 0 := by omega
      refine go σ4 lw4 v2 v3 (hd_tr H3 hM4 (by decide +kernel)) (rd_F0 F3 hM4) t0 t2 t3 (by omega) (hv.trans (al0 ?_)) hlt hc
      rcases hP with h | h
      · rw [h.2.1]
        exact rd_dl (rd_dgt_iff.mpr (by omega))
      · omega
    · intro lw4 v2 v3 σ4 t0 t2 t3 d1 d2 d3 d4 hM4
      have hv : v3.toInt = 1 := by omega
      refine go σ4 lw4 v2 v3 (hd_tr H3 hM4 (by decide +kernel)) (rd_F0 F3 hM4) t0 t2 t3 (by omega) (hv.trans (al1 ?_ e4)) hlt hc
      rcases hP with h | h
      · omega
      · rw [h.2.1]
        exact rd_dgt_iff.mpr (by omega)
  -- pc 192: no letter
  have at192 : ∀ (σ2 : am_S) (lw2 : List (Nat × Value)) (z2 z3 : Int32), sx_M zK hd_T σe rd_mN 0 σ2 → rd_F σ2 b s j j j → (0, Value.ref 118) ∈ lw2 → (2, Value.int z2) ∈ lw2 → (3, Value.int z3) ∈ lw2 → z2.toInt = x2.toInt → z3.toInt = y3.toInt → (rd_pk b n (s + j) ≤ 96 ∨ 123 ≤ rd_pk b n (s + j)) → am_K g 10 tX12_next.1 0 0 192 lw2 [.ref 118] σ2 post := by
    intro σ2 lw2 z2 z3 H2 F2 q0 q2 q3 e2 e3 hno
    refine rd_pkc G (sx_M_self H2) (rd_Xm Xe H2 (by decide +kernel)) F2.1 rfl rd_d_X12_next_192 rd_k_X12_next_192 (by decide) ?_
    intro r3 σ3 hM3 hr3
    have H3 := hd_tr H2 hM3 (by decide +kernel)
    have F3 := rd_F0 F2 hM3
    have none : (rd_pk b n (s + j) ≤ 47 ∨ 58 ≤ rd_pk b n (s + j)) → ¬ (s + j < n ∧ (rd_ltr (b (s + j)) || rd_dgt (b (s + j))) = true) := by
      intro h ⟨h4, h5⟩
      have hpk : rd_pk b n (s + j) = ((b (s + j) : Nat) : Int) := by unfold rd_pk; rw [if_pos h4]
      rw [Bool.or_eq_true, rd_ltr_iff, rd_dgt_iff] at h5
      omega
    have some9 : 48 ≤ rd_pk b n (s + j) → rd_pk b n (s + j) ≤ 57 → s + j < n ∧ (rd_ltr (b (s + j)) || rd_dgt (b (s + j))) = true := by
      intro h4 h5
      obtain ⟨h6, h7⟩ := rd_pk_at (b := b) (n := n) (p := s + j) (by omega)
      refine ⟨h6, ?_⟩
      rw [Bool.or_eq_true, rd_ltr_iff, rd_dgt_iff]
      omega
    refine sg_nx7_run G hd_ctK (sx_M_self hM3) q0 q2 (by omega) q3 (by omega) (by omega) ?_ ?_ ?_ ?_
    · intro lw4 v2 v3 σ4 t0 t2 t3 d1 d2 d3 hM4
      exact fin σ4 lw4 v2 v3 (hd_tr H3 hM4 (by decide +kernel)) (rd_F0 F3 hM4) t0 t2 t3 (by omega) (by omega) (none (by omega))
    · intro lw4 v2 v3 σ4 t0 t2 t3 d1 d2 d3 hM4
      exact fin σ4 lw4 v2 v3 (hd_tr H3 hM4 (by decide +kernel)) (rd_F0 F3 hM4) t0 t2 t3 (by omega) (by omega) (none (by omega))
    · intro lw4 v2 v3 σ4 t0 t2 t3 d1 d2 d3 d4 hM4
      have hs := some9 (by omega) (by omega)
      have hv : v3.toInt = 0 := by omega
      exact go σ4 lw4 v2 v3 (hd_tr H3 hM4 (by decide +kernel)) (rd_F0 F3 hM4) t0 t2 t3 (by omega) (hv.trans (al2 (by omega))) hs.1 hs.2
    · intro lw4 v2 v3 σ4 t0 t2 t3 d1 d2 d3 d4 hM4
      have hs := some9 (by omega) (by omega)
      exact at206 σ4 lw4 v2 v3 (hd_tr H3 hM4 (by decide +kernel)) (rd_F0 F3 hM4) t0 t2 t3 (by omega) (by omega) (by omega) hs.1 hs.2
  have someL : 97 ≤ rd_pk b n (s + j) → rd_pk b n (s + j) ≤ 122 → s + j < n ∧ (rd_ltr (b (s + j)) || rd_dgt (b (s + j))) = true := by
    intro h4 h5
    obtain ⟨h6, h7⟩ := rd_pk_at (b := b) (n := n) (p := s + j) (by omega)
    refine ⟨h6, ?_⟩
    rw [Bool.or_eq_true, rd_ltr_iff, rd_dgt_iff]
    omega
  refine sg_nx6_run G hd_ctK (sx_M_self hM1) hl h2 (by omega) h3 (by omega) (by omega) ?_ ?_ ?_ ?_
  · intro lw4 v2 v3 σ4 t0 t2 t3 d1 d2 d3 hM4
    exact at192 σ4 lw4 v2 v3 (hd_tr H1 hM4 (by decide +kernel)) (rd_F0 F1 hM4) t0 t2 t3 (by omega) (by omega) (by omega)
  · intro lw4 v2 v3 σ4 t0 t2 t3 d1 d2 d3 hM4
    exact at192 σ4 lw4 v2 v3 (hd_tr H1 hM4 (by decide +kernel)) (rd_F0 F1 hM4) t0 t2 t3 (by omega) (by omega) (by omega)
  · intro lw4 v2 v3 σ4 t0 t2 t3 d1 d2 d3 d4 hM4
    have hs := someL (by omega) (by omega)
    have hv : v3.toInt = 0 := by omega
    exact go σ4 lw4 v2 v3 (hd_tr H1 hM4 (by decide +kernel)) (rd_F0 F1 hM4) t0 t2 t3 (by omega) (hv.trans (al2 (by omega))) hs.1 hs.2
  · intro lw4 v2 v3 σ4 t0 t2 t3 d1 d2 d3 d4 hM4
    have hs := someL (by omega) (by omega)
    exact at206 σ4 lw4 v2 v3 (hd_tr H1 hM4 (by decide +kernel)) (rd_F0 F1 hM4) t0 t2 t3 (by omega) (by omega) (by omega) hs.1 hs.2
end RR
