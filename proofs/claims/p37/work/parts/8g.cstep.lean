/-! the reader of the class: a token -/
section CS
variable {g : am_C} {L : Nat} {xs : Nat → Int32}
theorem rc_skip (G : sx_G0 g L xs z9 hd_C ex_mt) (hct : rc_ct g) {σe : am_S} {b : Nat → Nat} {n most q : Nat} (Xe : rc_X σe b n most) {post : Option (Option Value) → am_S → Prop} (k : ∀ (σ : am_S) (lw : List (Nat × Value)), sx_M z9 hd_C σe rc_mN 0 σ → (σ.2.1 3 4).toInt = q → (0, Value.ref 3) ∈ lw → am_K g 10 tX6_step.1 0 0 52 lw [] σ post) : ∀ (f s : Nat) (σ : am_S) (lw : List (Nat × Value)), n - s ≤ f → sx_M z9 hd_C σe rc_mN 0 σ → (σ.2.1 3 4).toInt = s → rd_sk b n (n - s) s = q → (0, Value.ref 3) ∈ lw → am_K g 10 tX6_step.1 0 0 8 lw [] σ post := by
  intro f
  induction f using Nat.strongRecOn with
  | ind f ih =>
  intro s σ lw hf hM hs hq hl
  have n9 := Xe.2.2.2.1
  have X := rc_Xm Xe hM (by decide +kernel) (by decide +kernel) (by decide +kernel)
  have x1 := X.2.1
  have same : ∀ {σ' : am_S}, sx_M z9 hd_C σ 0 0 σ' → (σ'.2.1 3 4).toInt = s := by
    intro σ' h
    rw [h.2.2.2.2.1 3 4 _ _ 24 rfl (sx_bit0 _)]
    exact hs
  have fin : ∀ (σ2 : am_S) (lw2 : List (Nat × Value)), sx_M z9 hd_C σ 0 0 σ2 → (0, Value.ref 3) ∈ lw2 → ¬ (s < n ∧ rd_blk (b s) = true) → am_K g 10 tX6_step.1 0 0 52 lw2 [] σ2 post := by
    intro σ2 lw2 hM2 h0 hno
    refine k σ2 lw2 (hd_tr hM hM2 (by decide +kernel)) ?_ h0
    rw [same hM2, ← hq, rd_sk_at hno]
  refine sg_st2_run G hct (sx_M_self hM) hl ?_ ?_
  · intro lw1 n0 σ1 h0 c1 c2 hM1
    have X1 := rc_Xm X hM1 (sx_bit0 _) (sx_bit0 _) (sx_bit0 _)
    have hlt : s < n := by omega
    refine rc_bac G hct (d := 10) (by decide) (sx_M_self hM1) X1 (p := s) (by omega) hlt rfl rd_d_X6_step_30 rd_k_X6_step_30 (by decide) ?_
    intro r σ2 hM2 hr
    have hM12 : sx_M z9 hd_C σ 0 0 σ2 := hd_tr hM1 hM2 rfl
    have s2 := same hM12
    have hb := rc_bX X hlt
    have go : ∀ (σ3 : am_S) (lw3 : List (Nat × Value)) (m : Nat), (Nat.lor m rc_mN).beq rc_mN = true → sx_M z9 hd_C σ2 m 0 σ3 → (σ3.2.1 3 4).toInt = ((s + 1 : Nat) : Int) → (0, Value.ref 3) ∈ lw3 → rd_blk (b s) = true → am_K g 10 tX6_step.1 0 0 8 lw3 [] σ3 post := fun σ3 lw3 m hm a1 a2 a3 a4 => ih (f - 1) (by omega) (s + 1) σ3 lw3 (by omega) (hd_tr (hd_tr hM hM12 (by decide +kernel)) a1 hm) a2 (by rw [← hq, rd_sk_eq hlt a4]) a3
    have nb : b s ≠ 32 → b s ≠ 10 → ¬ (s < n ∧ rd_blk (b s) = true) := by
      intro h1 h2 ⟨_, h3⟩
      unfold rd_blk at h3
      rw [Bool.or_eq_true, beq_iff_eq, beq_iff_eq] at h3
      omega
    by_cases i1 : b s ≤ 9
    · refine sg_st3c_run G hct (sx_M_self hM2) h0 (by omega) ?_
      intro lw3 σ3 h3 hM3
      exact fin σ3 lw3 (hd_tr hM12 hM3 rfl) h3 (nb (by omega) (by omega))
    by_cases i2 : b s = 10
    · refine sg_st3b_run G hct (sx_M_self hM2) h0 (by omega) (by omega) ?_
      intro lw3 σ3 h3 c3 hM3
      exact go σ3 lw3 _ (by decide +kernel) hM3 (by omega) h3 (by rw [i2]; rfl)
    by_cases i3 : b s ≤ 31
    · refine sg_st3d_run G hct (sx_M_self hM2) h0 (by omega) ?_
      intro lw3 σ3 h3 hM3
      exact fin σ3 lw3 (hd_tr hM12 hM3 rfl) h3 (nb (by omega) (by omega))
    by_cases i4 : b s = 32
    · refine sg_st3a_run G hct (sx_M_self hM2) h0 (by omega) (by omega) ?_
      intro lw3 σ3 h3 c3 hM3
      exact go σ3 lw3 _ (by decide +kernel) hM3 (by omega) h3 (by rw [i4]; rfl)
    · refine sg_st3e_run G hct (sx_M_self hM2) h0 (by omega) ?_
      intro lw3 σ3 h3 hM3
      exact fin σ3 lw3 (hd_tr hM12 hM3 rfl) h3 (nb (by omega) (by omega))
  · intro lw1 σ1 h0 c1 hM1
    exact fin σ1 lw1 hM1 h0 (fun h => by omega)
theorem rc_tail (G : sx_G0 g L xs z9 hd_C ex_mt) (hct : rc_ct g) {σe σ : am_S} {b : Nat → Nat} {n most s : Nat} (Xe : rc_X σe b n most) (hM : sx_M z9 hd_C σe rc_mN 0 σ) (hs : (σ.2.1 3 4).toInt = s) {lw : List (Nat × Value)} (hl : (0, Value.ref 3) ∈ lw) {post : Option (Option Value) → am_S → Prop} (kend : ∀ σ', sx_M z9 hd_C σe rc_mN 0 σ' → rc_N σ' (rd_tk1 b n most s) → post (some none) σ') : am_K g 10 tX6_step.1 0 0 52 lw [] σ post := by
  have X := rc_Xm Xe hM (by decide +kernel) (by decide +kernel) (by decide +kernel)
  have n9 := X.2.2.2.1
  have x1 := X.2.1
  have x2 := X.2.2.1
  -- at the end of the text
  have atend : ∀ (σ1 : am_S), sx_M z9 hd_C σ (Nat.shiftLeft 5 23) 0 σ1 → (σ1.2.1 3 3).toInt = 0 → n ≤ s → ¬ (most < n ∧ most ≤ s) → post (some none) σ1 := by
    intro σ1 hM1 h1 h2 h3
    refine kend σ1 (hd_tr hM hM1 (by decide +kernel)) ?_
    have et : rd_tk1 b n most s = (0, s, 0, s, 0) := by
      unfold rd_tk1
      rw [if_neg h3, if_pos h2]
    rw [et]
    refine ⟨h1, ?_, fun h => (by rcases h with h | h | h <;> cases h), fun h => (by cases h), fun h => (by cases h)⟩
    rw [hM1.2.2.2.2.1 3 4 _ _ 24 rfl (by decide +kernel)]
    exact hs
  -- from the first byte on
  have go : ∀ (σ1 : am_S) (lw1 : List (Nat × Value)) (m : Nat) (n0 : Int32), (Nat.lor m (Nat.shiftLeft 1 25)).beq (Nat.shiftLeft 1 25) = true → sx_M z9 hd_C σ m 0 σ1 → (0, Value.ref 3) ∈ lw1 → n0.toInt = s → s < n → ¬ (most < n ∧ most ≤ s) → am_K g 10 tX6_step.1 0 0 128 lw1 [.int n0, .ref 1] σ1 post := by
    intro σ1 lw1 m n0 hm hM1' h0 en hlt hno
    have hM1 : sx_M z9 hd_C σ (Nat.shiftLeft 1 25) 0 σ1 := sx_M_mask hm hM1'
    have H1 := hd_tr hM hM1 (by decide +kernel)
    have X1 := rc_Xm X hM1 (by decide +kernel) (by decide +kernel) (by decide +kernel)
    have s1 : (σ1.2.1 3 4).toInt = s := by
      rw [hM1.2.2.2.2.1 3 4 _ _ 24 rfl (by decide +kernel)]
      exact hs
    have same : ∀ {σ' : am_S}, sx_M z9 hd_C σ1 0 0 σ' → (σ'.2.1 3 4).toInt = s := by
      intro σ' h
      rw [h.2.2.2.2.1 3 4 _ _ 24 rfl (sx_bit0 _)]
      exact s1
    have hb := rc_bX X hlt
    -- a run
    have run : ∀ (σ2 : am_S) (lw2 : List (Nat × Value)), sx_M z9 hd_C σ1 0 0 σ2 → (0, Value.ref 3) ∈ lw2 → (rd_ltr (b s) || rd_dgt (b s)) = true → am_K g 10 tX6_step.1 0 0 155 lw2 [.ref 3] σ2 post := by
      intro σ2 lw2 hM2 h2 hld
      have H2 := hd_tr H1 hM2 (by decide +kernel)
      have X2 := rc_Xm X1 hM2 (sx_bit0 _) (sx_bit0 _) (sx_bit0 _)
      have s2 := same hM2
      refine rd_call G (T2 := tX6_readRun) rfl rd_d_X6_step_155 rd_k_X6_step_155 rfl (hM2.1 3 (.inl 6) rfl) (as := []) (st := []) rfl (Nat.le_of_ble_eq_true rfl) rfl (by decide) (d1 := 8) (by decide) (post1 := fun r σ' => r = some none ∧ sx_M z9 hd_C σ2 rc_mN 0 σ' ∧ rc_N σ' (rd_tk2 b s (rd_rn b n (n - s) s))) (fun _ h => by cases h.1) ?_ ?_
      · refine sg_rr1_run G hct (sx_M_self hM2) (by simp [lv_args, Value.category]) ?_
        intro lw3 y1 y2 σ3 p0 p1 p2 c1 c2 c3 c4 hM3
        refine rc_run G hct X2 hlt hld (e := rd_rn b n (n - s) s) (fun σ' a1 a2 => ⟨rfl, a1, a2⟩) n 0 0 0 σ3 lw3 y1 y2 (by omega) (sx_M_mask (by decide +kernel) hM3) ⟨by omega, ?_, rfl, ⟨⟨fun _ => rfl, fun _ => rfl⟩, ⟨fun _ => rfl, fun _ => rfl⟩⟩, fun _ => ?_, by omega, by show _ ≤ (1 : Int); omega⟩ (by omega) (by omega) (by omega) rfl p0 p1 p2
        · rw [hM3.2.2.2.2.1 3 4 _ _ 24 rfl (by decide +kernel)]
          exact s2
        · show (σ3.2.1 3 6).toInt = ((0 : Nat) : Int)
          omega
      · intro v σ3 ⟨hv, a1, a2⟩
        cases hv
        refine sg_st8_run G hct (sx_M_self a1) h2 ?_
        intro σ4 hM4
        refine kend σ4 (hd_tr (hd_tr H2 a1 (by decide +kernel)) hM4 (by decide +kernel)) ?_
        have et : rd_tk1 b n most s = rd_tk2 b s (rd_rn b n (n - s) s) := by
          unfold rd_tk1
          rw [if_neg hno, if_neg (by omega), if_pos hld]
        rw [et]
        unfold rc_N at a2 ⊢
        rw [hM4.2.2.2.2.1 3 3 _ _ 23 rfl (sx_bit0 _), hM4.2.2.2.2.1 3 4 _ _ 24 rfl (sx_bit0 _), hM4.2.2.2.2.1 3 2 _ _ 22 rfl (sx_bit0 _), hM4.2.2.2.2.1 3 5 _ _ 25 rfl (sx_bit0 _), hM4.2.2.2.2.1 3 6 _ _ 26 rfl (sx_bit0 _)]
        exact a2
    -- one byte
    have one : ∀ (σ2 : am_S) (lw2 : List (Nat × Value)) (n2 : Int32), sx_M z9 hd_C σ1 0 0 σ2 → (0, Value.ref 3) ∈ lw2 → n2.toInt = s → ¬ (97 ≤ b s ∧ b s ≤ 122) → ¬ (48 ≤ b s ∧ b s ≤ 57) → am_K g 10 tX6_step.1 0 0 170 lw2 [.int n2, .ref 1, .ref 3] σ2 post := by
      intro σ2 lw2 n2 hM2 h2 e2 nl nd
      have H2 := hd_tr H1 hM2 (by decide +kernel)
      have X2 := rc_Xm X1 hM2 (sx_bit0 _) (sx_bit0 _) (sx_bit0 _)
      have nld : ¬ (rd_ltr (b s) || rd_dgt (b s)) = true := by
        rw [Bool.or_eq_true, rd_ltr_iff, rd_dgt_iff]
        omega
      refine rc_bac G hct (d := 10) (by decide) (sx_M_self hM2) X2 (p := s) e2 hlt rfl rd_d_X6_step_170 rd_k_X6_step_170 (by decide) ?_
      intro r σ3 hM3 hr
      have hM13 : sx_M z9 hd_C σ1 0 0 σ3 := hd_tr hM2 hM3 rfl
      have H3 := hd_tr H2 hM3 (by decide +kernel)
      have s3 := same hM13
      have et : rd_tk1 b n most s = (if rd_sgn (b s) = true then 3 else 4, s, 0, s + 1, b s) := by
        unfold rd_tk1
        rw [if_neg hno, if_neg (by omega), if_neg nld]
      have bad : ∀ σ4, (1 ≤ 1 * (σ4.2.1 3 3).toInt + 0 ∧ 1 * (σ4.2.1 3 3).toInt + 0 ≤ 1) → sx_M z9 hd_C σ3 (Nat.shiftLeft 3 22) 0 σ4 → ¬ (b s = 59 ∨ b s = 40 ∨ b s = 41 ∨ (60 ≤ b s ∧ b s ≤ 62)) → post (some none) σ4 := by
        intro σ4 c1 hM4 hn
        refine kend σ4 (hd_tr H3 hM4 (by decide +kernel)) ?_
        rw [et, if_neg (fun q => hn (rd_sgn_iff.mp q))]
        refine ⟨by show _ = (1 : Int); omega, ?_, fun h => (by rcases h with h | h | h <;> cases h), fun h => (by cases h), fun h => (by cases h)⟩
        rw [hM4.2.2.2.2.1 3 4 _ _ 24 rfl (by decide +kernel)]
        exact s3
      have good : ∀ σ4, (4 ≤ 1 * (σ4.2.1 3 3).toInt + 0 ∧ 1 * (σ4.2.1 3 3).toInt + 0 ≤ 4) → (-1 ≤ 1 * (σ3.2.1 3 4).toInt + ((-1) * (σ4.2.1 3 2).toInt + 0) ∧ 1 * (σ3.2.1 3 4).toInt + ((-1) * (σ4.2.1 3 2).toInt + 0) ≤ -1) → sx_M z9 hd_C σ3 (Nat.shiftLeft 3 22) 0 σ4 → (b s = 59 ∨ b s = 40 ∨ b s = 41 ∨ (60 ≤ b s ∧ b s ≤ 62)) → post (some none) σ4 := by
        intro σ4 c1 c2 hM4 hn
        refine kend σ4 (hd_tr H3 hM4 (by decide +kernel)) ?_
        rw [et, if_pos (rd_sgn_iff.mpr hn)]
        refine ⟨by show _ = (4 : Int); omega, ?_, fun _ => (by show _ = ((s + 1 : Nat) : Int); omega), fun h => (by cases h), fun h => (by cases h)⟩
        rw [hM4.2.2.2.2.1 3 4 _ _ 24 rfl (by decide +kernel)]
        exact s3
      by_cases i1 : b s ≤ 39
      · refine sg_st7a_run G hct (sx_M_self hM3) h2 (by omega) (by omega) ?_
        intro σ4 c1 c2 hM4
        exact bad σ4 c1 hM4 (by omega)
      by_cases i2 : b s = 40
      · refine sg_st7b_run G hct (sx_M_self hM3) h2 (by omega) (by omega) ?_
        intro σ4 c1 c2 hM4
        exact good σ4 c1 c2 hM4 (by omega)
      by_cases i3 : b s = 41
      · refine sg_st7c_run G hct (sx_M_self hM3) h2 (by omega) (by omega) ?_
        intro σ4 c1 c2 hM4
        exact good σ4 c1 c2 hM4 (by omega)
      by_cases i4 : b s ≤ 47
      · refine sg_st7d_run G hct (sx_M_self hM3) h2 (by omega) (by omega) ?_
        intro σ4 c1 c2 hM4
        exact bad σ4 c1 hM4 (by omega)
      by_cases i5 : b s = 58
      · refine sg_st7f_run G hct (sx_M_self hM3) h2 (by omega) (by omega) ?_
        intro σ4 c1 c2 hM4
        exact bad σ4 c1 hM4 (by omega)
      by_cases i6 : b s = 59
      · refine sg_st7g_run G hct (sx_M_self hM3) h2 (by omega) (by omega) ?_
        intro σ4 c1 c2 hM4
        exact good σ4 c1 c2 hM4 (by omega)
      by_cases i7 : b s = 60
      · refine sg_st7h_run G hct (sx_M_self hM3) h2 (by omega) (by omega) ?_
        intro σ4 c1 c2 hM4
        exact good σ4 c1 c2 hM4 (by omega)
      by_cases i8 : b s = 61
      · refine sg_st7i_run G hct (sx_M_self hM3) h2 (by omega) (by omega) ?_
        intro σ4 c1 c2 hM4
        exact good σ4 c1 c2 hM4 (by omega)
      by_cases i9 : b s = 62
      · refine sg_st7j_run G hct (sx_M_self hM3) h2 (by omega) (by omega) ?_
        intro σ4 c1 c2 hM4
        exact good σ4 c1 c2 hM4 (by omega)
      by_cases ia : b s ≤ 96
      · refine sg_st7k_run G hct (sx_M_self hM3) h2 (by omega) (by omega) ?_
        intro σ4 c1 c2 hM4
        exact bad σ4 c1 hM4 (by omega)
      · refine sg_st7l_run G hct (sx_M_self hM3) h2 (by omega) (by omega) ?_
        intro σ4 c1 c2 hM4
        exact bad σ4 c1 hM4 (by omega)
    -- no letter: a digit?
    have at145 : ∀ (σ2 : am_S) (lw2 : List (Nat × Value)) (n2 : Int32), sx_M z9 hd_C σ1 0 0 σ2 → (0, Value.ref 3) ∈ lw2 → n2.toInt = s → ¬ (97 ≤ b s ∧ b s ≤ 122) → am_K g 10 tX6_step.1 0 0 145 lw2 [.int n2, .ref 1] σ2 post := by
      intro σ2 lw2 n2 hM2 h2 e2 nl
      have X2 := rc_Xm X1 hM2 (sx_bit0 _) (sx_bit0 _) (sx_bit0 _)
      refine rc_bac G hct (d := 10) (by decide) (sx_M_self hM2) X2 (p := s) e2 hlt rfl rd_d_X6_step_145 rd_k_X6_step_145 (by decide) ?_
      intro r σ3 hM3 hr
      have hM13 : sx_M z9 hd_C σ1 0 0 σ3 := hd_tr hM2 hM3 rfl
      have s3 := same hM13
      refine sg_st6_run G hct (sx_M_self hM3) h2 (by omega) ?_ ?_ ?_
      · intro lw4 σ4 h4 c1 hM4
        exact run σ4 lw4 (hd_tr hM13 hM4 rfl) h4 (by rw [rd_dgt_iff.mpr (by omega), Bool.or_true])
      · intro lw4 n4 σ4 h4 c1 c2 hM4
        exact one σ4 lw4 n4 (hd_tr hM13 hM4 rfl) h4 (by omega) nl (by omega)
      · intro lw4 n4 σ4 h4 c1 c2 hM4
        exact one σ4 lw4 n4 (hd_tr hM13 hM4 rfl) h4 (by omega) nl (by omega)
    refine rc_bac G hct (d := 10) (by decide) (sx_M_self hM1) X1 (p := s) en hlt rfl rd_d_X6_step_128 rd_k_X6_step_128 (by decide) ?_
    intro r σ2 hM2 hr
    have s2 := same hM2
    refine sg_st5_run G hct (sx_M_self hM2) h0 (by omega) ?_ ?_ ?_
    · intro lw4 σ4 h4 c1 hM4
      exact run σ4 lw4 (hd_tr hM2 hM4 rfl) h4 (by rw [rd_ltr_iff.mpr (by omega)]; rfl)
    · intro lw4 n4 σ4 h4 c1 c2 hM4
      exact at145 σ4 lw4 n4 (hd_tr hM2 hM4 rfl) h4 (by omega) (by omega)
    · intro lw4 n4 σ4 h4 c1 c2 hM4
      exact at145 σ4 lw4 n4 (hd_tr hM2 hM4 rfl) h4 (by omega) (by omega)
  refine sg_st4_run G hct (sx_M_self hM) hl ?_ ?_ ?_ ?_ ?_
  · intro σ1 c1 c2 c3 c4 c5 hM1
    refine kend σ1 (hd_tr hM hM1 (by decide +kernel)) ?_
    have et : rd_tk1 b n most s = (4, most, 0, s, 0) := by
      unfold rd_tk1
      rw [if_pos (by omega)]
    rw [et]
    exact ⟨by show _ = (1 : Int); omega, by show _ = ((most : Nat) : Int); omega, fun h => (by rcases h with h | h | h <;> cases h), fun h => (by cases h), fun h => (by cases h)⟩
  · intro σ1 c1 c2 c3 c4 hM1
    exact atend σ1 (sx_M_mask (by decide +kernel) hM1) (by omega) (by omega) (by omega)
  · intro σ1 c1 c2 c3 c4 hM1
    exact atend σ1 (sx_M_mask (by decide +kernel) hM1) (by omega) (by omega) (by omega)
  · intro lw1 n0 σ1 h0 c1 c2 c3 c4 hM1
    exact go σ1 lw1 _ n0 (by decide +kernel) hM1 h0 (by omega) (by omega) (by omega)
  · intro lw1 n0 σ1 h0 c1 c2 c3 c4 hM1
    exact go σ1 lw1 _ n0 (by decide +kernel) hM1 h0 (by omega) (by omega) (by omega)
theorem rc_step (G : sx_G0 g L xs z9 hd_C ex_mt) (hct : rc_ct g) {σ : am_S} (hM : sx_M z9 hd_C σ 0 0 σ) {b : Nat → Nat} {n most p : Nat} (X : rc_X σ b n most) (hp : (σ.2.1 3 2).toInt = p) {lw : List (Nat × Value)} (hl : (0, Value.ref 3) ∈ lw) {post : Option (Option Value) → am_S → Prop} (k : ∀ σ', sx_M z9 hd_C σ rc_mN 0 σ' → rc_N σ' (rd_tok b n most p) → post (some none) σ') : am_K g 10 tX6_step.1 0 0 0 lw [] σ post := by
  refine sg_st1_run G hct hM hl ?_
  intro lw1 σ1 h0 c1 hM1
  refine rc_skip G hct X (q := rd_sk b n (n - p) p) ?_ (n - p) p σ1 lw1 (Nat.le_refl _) (sx_M_mask (by decide +kernel) hM1) (by omega) rfl h0
  intro σ2 lw2 H2 s2 h2
  exact rc_tail G hct X H2 s2 h2 k
/-- step, called -/
theorem rc_stc (G : sx_G0 g L xs z9 hd_C ex_mt) (hct : rc_ct g) {T : ex_T} {d : Nat} (hdp : 11 ≤ d) {σ : am_S} (hM : sx_M z9 hd_C σ 0 0 σ) {b : Nat → Nat} {n most p : Nat} (X : rc_X σ b n most) (hp : (σ.2.1 3 2).toInt = p) {lw : List (Nat × Value)} {pc i mi q : Nat} (hT : ex_mt mi = some tX6_step) (hd : decode T.1.2.1 pc = .ok (.invokevirtual i, 3)) (hl : ex_lk ex_mt T pc (.invokevirtual i) [0, mi, q] = true) {st : List Value} (hroom : (st.map fun v => v.category).sum ≤ 8) {post : Option (Option Value) → am_S → Prop} (kk : ∀ σ', sx_M z9 hd_C σ rc_mN 0 σ' → rc_N σ' (rd_tok b n most p) → am_K g d T.1 0 0 (pc + 3) lw st σ' post) : am_K g d T.1 0 0 pc lw (.ref 3 :: st) σ post := by
  refine rd_call G (T2 := tX6_step) hT hd hl rfl (hM.1 3 (.inl 6) rfl) (as := []) (st := st) rfl (Nat.le_of_ble_eq_true rfl) rfl hroom (d1 := 10) hdp (post1 := fun r σ' => r = some none ∧ sx_M z9 hd_C σ rc_mN 0 σ' ∧ rc_N σ' (rd_tok b n most p)) (fun _ h => by cases h.1) (rc_step G hct hM X hp (by simp [lv_args, Value.category]) (fun σ' h1 h2 => ⟨rfl, h1, h2⟩)) ?_
  intro v σ' ⟨hv, h1, h2⟩
  cases hv
  exact kk σ' h1 h2
end CS
