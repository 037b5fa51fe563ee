/-! the reader of the reference: over the blanks -/
theorem rd_pk_in {σ : am_S} {b : Nat → Nat} {n most : Nat} (X : rd_X σ b n most) (p : Nat) : -1 ≤ rd_pk b n p ∧ rd_pk b n p ≤ 255 := by
  unfold rd_pk
  by_cases h : p < n
  · rw [if_pos h, ← X.1 p (by have := X.2.2.2.1; omega)]
    have := rd_by_le (σ.2.1 119) p
    omega
  · rw [if_neg h]
    omega
theorem rd_pk_at {b : Nat → Nat} {n p : Nat} (h : 0 ≤ rd_pk b n p) : p < n ∧ ((b p : Nat) : Int) = rd_pk b n p := by
  unfold rd_pk at h ⊢
  by_cases e : p < n
  · rw [if_pos e]
    exact ⟨e, rfl⟩
  · rw [if_neg e] at h
    omega
theorem rd_pk_no {b : Nat → Nat} {n p : Nat} (h1 : rd_pk b n p ≠ 32) (h2 : rd_pk b n p ≠ 10) : ¬ (p < n ∧ rd_blk (b p) = true) := by
  intro ⟨e, h⟩
  unfold rd_pk at h1 h2
  rw [if_pos e] at h1 h2
  unfold rd_blk at h
  rw [Bool.or_eq_true, beq_iff_eq, beq_iff_eq] at h
  omega
theorem rd_f4 {σ σ' : am_S} {m : Nat} (h : sx_M zK hd_T σ m 0 σ') (hb : sx_bit m 363 = false) {p : Nat} (hp : (σ.2.1 118 4).toInt = p) : (σ'.2.1 118 4).toInt = p := by
  rw [h.2.2.2.2.1 118 4 _ _ 363 rfl hb]
  exact hp
section RS
variable {g : am_C} {L : Nat} {xs : Nat → Int32}
theorem rd_skip (G : sx_G0 g L xs zK hd_T ex_mt) {σe : am_S} {b : Nat → Nat} {n most q : Nat} (Xe : rd_X σe b n most) {post : Option (Option Value) → am_S → Prop} (k : ∀ (σ : am_S) (lw : List (Nat × Value)), sx_M zK hd_T σe rd_mN 0 σ → (σ.2.1 118 4).toInt = q → (0, Value.ref 118) ∈ lw → am_K g 10 tX12_next.1 0 0 31 lw [] σ post) : ∀ (f p : Nat) (σ : am_S) (lw : List (Nat × Value)), n - p ≤ f → sx_M zK hd_T σe rd_mN 0 σ → (σ.2.1 118 4).toInt = p → rd_sk b n (n - p) p = q → (0, Value.ref 118) ∈ lw → am_K g 10 tX12_next.1 0 0 0 lw [] σ post := by
  intro f
  induction f with
  | zero =>
    intro p σ lw hf hM hp hq hl
    have X := rd_Xm Xe hM (by decide +kernel)
    have eq : q = p := by rw [← hq, rd_sk_at (by omega)]
    refine sg_nx1_run G hd_ctK (sx_M_self hM) hl ?_
    intro lw1 σ1 hl1 hM1
    have X1 := rd_Xm X hM1 (by decide +kernel)
    have p1 := rd_f4 hM1 (by decide +kernel) hp
    refine rd_pkc G (sx_M_self hM1) X1 p1 rfl rd_d_X12_next_1 rd_k_X12_next_1 (by decide) ?_
    intro r σ2 hM2 hr
    have X2 := rd_Xm X1 hM2 (by decide +kernel)
    have p2 := rd_f4 hM2 (by decide +kernel) p1
    have hr' : r.toInt = -1 := by rw [hr]; unfold rd_pk; rw [if_neg (by omega)]
    refine sg_nx2b_run G hd_ctK (sx_M_self hM2) hl1 (by omega) ?_
    intro lw3 σ3 hl3 hM3
    have X3 := rd_Xm X2 hM3 (by decide +kernel)
    have p3 := rd_f4 hM3 (by decide +kernel) p2
    refine rd_pkc G (sx_M_self hM3) X3 p3 rfl rd_d_X12_next_10 rd_k_X12_next_10 (by decide) ?_
    intro r4 σ4 hM4 hr4
    have p4 := rd_f4 hM4 (by decide +kernel) p3
    refine sg_nx3b_run G hd_ctK (sx_M_self hM4) hl3 (by omega) ?_
    intro lw5 σ5 hl5 hM5
    refine k σ5 lw5 (hd_tr (hd_tr (hd_tr (hd_tr (hd_tr hM hM1 (by decide +kernel)) hM2 (by decide +kernel)) hM3 (by decide +kernel)) hM4 (by decide +kernel)) hM5 (by decide +kernel)) ?_ hl5
    rw [eq]
    exact rd_f4 hM5 (by decide +kernel) p4
  | succ f ih =>
    intro p σ lw hf hM hp hq hl
    have X := rd_Xm Xe hM (by decide +kernel)
    have hn9 := Xe.2.2.2.1
    refine sg_nx1_run G hd_ctK (sx_M_self hM) hl ?_
    intro lw1 σ1 hl1 hM1
    have X1 := rd_Xm X hM1 (by decide +kernel)
    have p1 := rd_f4 hM1 (by decide +kernel) hp
    have H1 := hd_tr hM hM1 (by decide +kernel)
    refine rd_pkc G (sx_M_self hM1) X1 p1 rfl rd_d_X12_next_1 rd_k_X12_next_1 (by decide) ?_
    intro r σ2 hM2 hr
    have X2 := rd_Xm X1 hM2 (by decide +kernel)
    have p2 := rd_f4 hM2 (by decide +kernel) p1
    have H2 := hd_tr H1 hM2 (by decide +kernel)
    have hin := rd_pk_in X2 p
    have go : ∀ (σ3 : am_S) (lw3 : List (Nat × Value)), sx_M zK hd_T σe rd_mN 0 σ3 → (σ3.2.1 118 4).toInt = ((p + 1 : Nat) : Int) → (0, Value.ref 118) ∈ lw3 → p < n → rd_blk (b p) = true → am_K g 10 tX12_next.1 0 0 0 lw3 [] σ3 post := fun σ3 lw3 a1 a2 a3 a4 a5 => ih (p + 1) σ3 lw3 (by omega) a1 a2 (by rw [← hq, rd_sk_eq a4 a5]) a3
    by_cases h32 : r.toInt = 32
    · have hb := rd_pk_at (b := b) (n := n) (p := p) (by omega)
      refine sg_nx2a_run G hd_ctK (sx_M_self hM2) hl1 (by omega) (by omega) ?_
      intro lw3 σ3 hl3 f1 hM3
      refine go σ3 lw3 (hd_tr H2 hM3 (by decide +kernel)) (by omega) hl3 hb.1 ?_
      have : b p = 32 := by omega
      rw [this]
      rfl
    · have go2 : ∀ (σ3 : am_S) (lw3 : List (Nat × Value)), sx_M zK hd_T σ2 0 0 σ3 → (0, Value.ref 118) ∈ lw3 → am_K g 10 tX12_next.1 0 0 10 lw3 [.ref 118] σ3 post := by
        intro σ3 lw3 hM3 hl3
        have X3 := rd_Xm X2 hM3 (by decide +kernel)
        have p3 := rd_f4 hM3 (by decide +kernel) p2
        have H3 := hd_tr H2 hM3 (by decide +kernel)
        refine rd_pkc G (sx_M_self hM3) X3 p3 rfl rd_d_X12_next_10 rd_k_X12_next_10 (by decide) ?_
        intro r4 σ4 hM4 hr4
        have p4 := rd_f4 hM4 (by decide +kernel) p3
        have H4 := hd_tr H3 hM4 (by decide +kernel)
        by_cases h10 : r4.toInt = 10
        · have hb := rd_pk_at (b := b) (n := n) (p := p) (by omega)
          refine sg_nx3a_run G hd_ctK (sx_M_self hM4) hl3 (by omega) (by omega) ?_
          intro lw5 σ5 hl5 f1 hM5
          refine go σ5 lw5 (hd_tr H4 hM5 (by decide +kernel)) (by omega) hl5 hb.1 ?_
          have : b p = 10 := by omega
          rw [this]
          rfl
        · have fin : ∀ (σ5 : am_S) (lw5 : List (Nat × Value)), sx_M zK hd_T σ4 0 0 σ5 → (0, Value.ref 118) ∈ lw5 → am_K g 10 tX12_next.1 0 0 31 lw5 [] σ5 post := by
            intro σ5 lw5 hM5 hl5
            refine k σ5 lw5 (hd_tr H4 hM5 (by decide +kernel)) ?_ hl5
            rw [rd_f4 hM5 (by decide +kernel) p4, ← hq, rd_sk_at (rd_pk_no (by omega) (by omega))]
          rcases Int.lt_or_gt_of_ne h10 with h | h
          · refine sg_nx3b_run G hd_ctK (sx_M_self hM4) hl3 (by omega) ?_
            intro lw5 σ5 hl5 hM5
            exact fin σ5 lw5 hM5 hl5
          · refine sg_nx3c_run G hd_ctK (sx_M_self hM4) hl3 (by omega) ?_
            intro lw5 σ5 hl5 hM5
            exact fin σ5 lw5 hM5 hl5
      rcases Int.lt_or_gt_of_ne h32 with h | h
      · refine sg_nx2b_run G hd_ctK (sx_M_self hM2) hl1 (by omega) ?_
        intro lw3 σ3 hl3 hM3
        exact go2 σ3 lw3 hM3 hl3
      · refine sg_nx2c_run G hd_ctK (sx_M_self hM2) hl1 (by omega) ?_
        intro lw3 σ3 hl3 hM3
        exact go2 σ3 lw3 hM3 hl3
end RS
