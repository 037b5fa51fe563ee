/-! the reader of the class: settings; a line -/
theorem rc_cl12 : ∀ c ∈ z9.2.2.2.2.1, c.2.1 ≠ 12 := by decide +kernel
theorem rc_cu12 : ∀ c ∈ z9.2.2.2.2.2.1, c.2.1 ≠ 12 := by decide +kernel
theorem rc_lgT : ∀ k, k < 8 → (am_least k).toInt = ((rd_least k : Nat) : Int) ∧ (am_great k).toInt = ((rd_most k : Nat) : Int) := by decide +kernel
theorem rd_eqs_at {b c : Nat → Nat} : ∀ {m s t : Nat}, rd_eqs b c m s t = true → ∀ i, i < m → b (s + i) = c (t + i)
  | 0, _, _, _, i, hi => absurd hi (Nat.not_lt_zero _)
  | m + 1, s, t, h, i, hi => by
    have h' : (b s == c t && rd_eqs b c m (s + 1) (t + 1)) = true := h
    rw [Bool.and_eq_true, beq_iff_eq] at h'
    cases i with
    | zero => exact h'.1
    | succ i =>
      have := rd_eqs_at h'.2 i (by omega)
      rw [show s + 1 + i = s + (i + 1) by omega, show t + 1 + i = t + (i + 1) by omega] at this
      exact this
theorem rd_wdis : ∀ j, j < 10 → ∀ k, k < 10 → j ≠ k → (rd_ws j).length ≠ (rd_ws k).length ∨ ∃ i, i < (rd_ws j).length ∧ rd_wl j i ≠ rd_wl k i := by
  have h : ∀ j, j < 10 → ∀ k, k < 10 → j ≠ k → ((rd_ws j).length ≠ (rd_ws k).length) ∨ ((List.range (rd_ws j).length).any (fun i => decide (rd_wl j i ≠ rd_wl k i)) = true) := by decide +kernel
  intro j hj k hk hjk
  rcases h j hj k hk hjk with h | h
  · exact Or.inl h
  · obtain ⟨i, h1, h2⟩ := List.any_eq_true.mp h
    exact Or.inr ⟨i, List.mem_range.mp h1, of_decide_eq_true h2⟩
theorem rd_isk1 {b : Nat → Nat} {t : rd_K} {j k : Nat} (hj : j < 10) (hk : k < 10) (h1 : rd_isk b j t = true) (h2 : rd_isk b k t = true) : j = k := by
  apply Decidable.byContradiction
  intro hjk
  unfold rd_isk rd_isw at h1 h2
  rw [Bool.and_eq_true, Bool.and_eq_true, beq_iff_eq, beq_iff_eq] at h1 h2
  rcases rd_wdis j hj k hk hjk with h | ⟨i, hi, h⟩
  · exact h (h1.2.1.symm.trans h2.2.1)
  · have e1 := rd_eqs_at h1.2.2 i hi
    have e2 := rd_eqs_at h2.2.2 i (by rw [← h2.2.1, h1.2.1]; exact hi)
    rw [Nat.zero_add] at e1 e2
    exact h (e1.symm.trans e2)
theorem rc_wh_rd {b : Nat → Nat} {t : rd_K} : rc_wh b t = if rd_isk b 8 t = true then 8 else if rd_isk b 9 t = true then 9 else rd_wh b t := by
  by_cases h8 : rd_isk b 8 t = true
  · have n : ∀ k, k < 8 → ¬ rd_isk b k t = true := fun k hk h => by have := rd_isk1 (by omega) (by decide) h h8; omega
    unfold rc_wh
    rw [if_pos h8, if_neg (n 0 (by decide)), if_neg (n 1 (by decide)), if_neg (n 2 (by decide)), if_neg (n 3 (by decide)), if_neg (n 4 (by decide)), if_neg (n 5 (by decide)), if_neg (n 6 (by decide)), if_neg (n 7 (by decide)), if_pos h8]
  · rw [if_neg h8]
    by_cases h9 : rd_isk b 9 t = true
    · have n : ∀ k, k < 9 → ¬ rd_isk b k t = true := fun k hk h => by have := rd_isk1 (by omega) (by decide) h h9; omega
      unfold rc_wh
      rw [if_pos h9, if_neg (n 0 (by decide)), if_neg (n 1 (by decide)), if_neg (n 2 (by decide)), if_neg (n 3 (by decide)), if_neg (n 4 (by decide)), if_neg (n 5 (by decide)), if_neg (n 6 (by decide)), if_neg (n 7 (by decide)), if_neg h8, if_pos h9]
    · rw [if_neg h9]
      unfold rc_wh rd_wh
      rw [if_neg h8, if_neg h9]
theorem rd_isk_1 {b : Nat → Nat} {t : rd_K} {k : Nat} (h : rd_isk b k t = true) : t.1 = 1 := by
  unfold rd_isk rd_isw at h
  rw [Bool.and_eq_true, beq_iff_eq] at h
  exact h.1
theorem rd_wh_1 {b : Nat → Nat} {t : rd_K} (h : rd_wh b t ≠ -1) : t.1 = 1 := by
  apply Decidable.byContradiction
  intro h1
  apply h
  unfold rd_wh
  have n : ∀ k, ¬ rd_isk b k t = true := fun k q => h1 (rd_isk_1 q)
  rw [if_neg (n 0), if_neg (n 1), if_neg (n 2), if_neg (n 3), if_neg (n 4), if_neg (n 5), if_neg (n 6), if_neg (n 7)]
section CM
variable {g : am_C} {L : Nat} {xs : Nat → Int32}
theorem rc_Mup10 (G : sx_G0 g L xs z9 hd_C ex_mt) {σe σ : am_S} (hM : sx_M z9 hd_C σe rc_mK 0 σ) (x : Int32) : sx_M z9 hd_C σe rc_mK 0 (σ.1, am_up σ.2.1 12 10 x, σ.2.2.1, σ.2.2.2) := by
  refine sx_M_up G.2.2.2.2.2.1 hM (fun lo hi' u e => ?_) ⟨fun h => absurd (rfl : (z9.2.1 12).1 = 0) h, fun h => absurd (rfl : (z9.2.1 12).2.1 = 0) h⟩ (fun _ h => h) (fun _ h => h) (fun c hc ho => absurd ho (rc_cl12 c hc)) (fun c hc ho => absurd ho (rc_cu12 c hc))
  have e2 : sx_atl (z9.1 12) 10 = some (.negSucc 2147483647, .ofNat 2147483647, 57) := by decide +kernel
  rw [e2] at e
  cases e
  have a1 := Int32.le_toInt x
  have a2 := Int32.toInt_lt x
  exact ⟨by show (-2147483648 : Int) ≤ _; omega, by show _ ≤ (2147483647 : Int); omega, by decide +kernel⟩
theorem rc_E10 {σ : am_S} {b : Nat → Nat} {n most : Nat} {q : rd_Q} {c : Nat → Nat} (E : rc_E σ b n most q c) (x : Int32) : rc_E (σ.1, am_up σ.2.1 12 10 x, σ.2.2.1, σ.2.2.2) b n most (q.1, q.2.1, x) c := by
  have ne : ∀ o j, o ≠ 12 → am_up σ.2.1 12 10 x o j = σ.2.1 o j := fun o j ho => am_up_n _ _ (fun h => ho h.1)
  have ne2 : ∀ j, j ≠ 10 → am_up σ.2.1 12 10 x 12 j = σ.2.1 12 j := fun j hj => am_up_n _ _ (fun h => hj h.2)
  refine ⟨⟨fun j hj => ?_, ?_, ?_, E.1.2.2.2⟩, ?_, ⟨?_, ?_, ?_, fun r' hr' => ⟨(E.2.2.1.2.2.2 r' hr').1, fun k' hk' => ?_⟩⟩, E.2.2.2⟩
  · rw [← E.1.1 j hj]
    unfold rd_by
    show (am_up σ.2.1 12 10 x 2 j &&& 255).toInt.toNat = _
    rw [ne 2 j (by decide)]
  · show (am_up σ.2.1 12 10 x 1 1).toInt = _
    rw [ne 1 1 (by decide)]; exact E.1.2.1
  · show (am_up σ.2.1 12 10 x 3 1).toInt = _
    rw [ne 3 1 (by decide)]; exact E.1.2.2.1
  · have N := E.2.1
    unfold rc_N at N ⊢
    show (am_up σ.2.1 12 10 x 3 3).toInt = _ ∧ (am_up σ.2.1 12 10 x 3 4).toInt = _ ∧ (_ → (am_up σ.2.1 12 10 x 3 2).toInt = _) ∧ (_ → (am_up σ.2.1 12 10 x 3 5).toInt = _) ∧ (_ → (am_up σ.2.1 12 10 x 3 6).toInt = _)
    rw [ne 3 3 (by decide), ne 3 4 (by decide), ne 3 2 (by decide), ne 3 5 (by decide), ne 3 6 (by decide)]
    exact N
  · show (am_up σ.2.1 12 10 x 12 7).toInt = _
    rw [ne2 7 (by decide)]; exact E.2.2.1.1
  · show (am_up σ.2.1 12 10 x 12 8).toInt = _
    rw [ne2 8 (by decide)]; exact E.2.2.1.2.1
  · show am_up σ.2.1 12 10 x 12 10 = x
    exact am_up_s _ _ _ _
  · show am_up σ.2.1 12 10 x (13 + r') k' = _
    rw [ne (13 + r') k' (by omega)]
    exact (E.2.2.1.2.2.2 r' hr').2 k' hk'
theorem rc_setting (G : sx_G0 g L xs z9 hd_C ex_mt) (hct : rc_ct g) {σ : am_S} (hM : sx_M z9 hd_C σ 0 0 σ) {b : Nat → Nat} {n most : Nat} {q : rd_Q} (E : rc_E2 σ b n most q) (t1 : q.1.1 = 1) {k : Nat} (hk : k ≤ 7) {lw : List (Nat × Value)} (hl : (0, Value.ref 12) ∈ lw) (hl1 : (1, Value.ref 3) ∈ lw) {m2 : Int32} (hl2 : (2, Value.int m2) ∈ lw) (h2 : m2.toInt = k) {post : Option (Option Value) → am_S → Prop} (R : rc_R2 (fun r σ' => post (some (some (.int r))) σ') σ b n most (rd_lineS b n most q k)) : am_K g 30 tX9_readSetting.1 0 0 0 lw [] σ post := by
  have n2 := E.2.1.2.1
  have k0 : (0 : Int) ≤ (σ.2.1 12 7).toInt ∧ (σ.2.1 12 7).toInt ≤ (10 : Int) := hM.2.2.1 12 7 _ _ 54 rfl
  have k1 : (0 : Int) ≤ (σ.2.1 12 8).toInt ∧ (σ.2.1 12 8).toInt ≤ (6 : Int) := hM.2.2.1 12 8 _ _ 55 rfl
  have e0 := E.2.2.1.1
  have e1 := E.2.2.1.2.1
  obtain ⟨w, hw⟩ : ∃ w : Nat, (q.2.1 0).toInt = w := ⟨(q.2.1 0).toInt.toNat, by omega⟩
  obtain ⟨s, hs⟩ : ∃ s : Nat, (q.2.1 1).toInt = s := ⟨(q.2.1 1).toInt.toNat, by omega⟩
  unfold rc_E2 at E
  rw [hw, hs, Int.toNat_natCast, Int.toNat_natCast] at E
  refine sg_rt1_run G hct hM hl hl1 hl2 ?_
  intro lw1 y1 c1 c2 σ1 p0 p1 p2 f1 f2 f3 hM1
  have E1 := rc_E0 E hM1
  have H1 : sx_M z9 hd_C σ rc_mK 0 σ1 := sx_M_mask (by decide +kernel) hM1
  obtain rfl : c1 = Int32.ofNat k := rd_ofNat (by omega)
  obtain rfl : c2 = q.2.2 := by rw [← E.2.2.1.2.2.1]; exact Int32.toInt_inj.mp (by omega)
  refine kr_ishr rd_d_X9_readSetting_5 ?_
  refine sg_rt2_run G hct (sx_M_self hM1) p0 p1 p2 ?_
  intro lw2 y2 c3 c4 σ2 u0 u1 u2 f4 f5 f6 hM2
  have E2 := rc_E0 E1 hM2
  have H2 := hd_tr H1 hM2 (by decide +kernel)
  obtain rfl : c3 = 1 := Int32.toInt_inj.mp (by have : (1 : Int32).toInt = 1 := rfl; omega)
  obtain rfl : c4 = q.2.2 >>> (Int32.ofNat k &&& 31) := Int32.toInt_inj.mp (by omega)
  refine kr_iand rd_d_X9_readSetting_7 ?_
  have ha := ex_and_le (q.2.2 >>> (Int32.ofNat k &&& 31)) (c := 1) (by decide)
  have ea : (q.2.2 >>> (Int32.ofNat k &&& 31) &&& Int32.ofInt (.ofNat 1)) = (q.2.2 >>> (Int32.ofNat k &&& 31) &&& 1) := rfl
  rw [ea] at ha
  have n10 := E2.2.1.2.1
  have one : (1 : Int32).toInt = 1 := rfl
  by_cases hb2 : (q.2.2 >>> (Int32.ofNat k &&& 31) &&& 1) = 1
  · have hbit : rd_bit q.2.2 (Int32.ofNat k) = true := by unfold rd_bit; rw [decide_eq_true_eq]; exact hb2
    refine sg_rt3a_run G hct (sx_M_self hM2) u0 u1 (by rw [hb2, one]; decide) ?_
    intro r3 σ3 f7 f8 f9 hM3
    exact R.1 r3 σ3 3 _ (by unfold rd_lineS; rw [if_pos hbit]) (by omega) (hd_tr (rc_KL H2) hM3 (by decide +kernel)) (by show _ = (3 : Int); omega) (by omega)
  · have hbit : ¬ rd_bit q.2.2 (Int32.ofNat k) = true := by unfold rd_bit; rw [decide_eq_true_eq]; exact hb2
    have hb3 : ¬ (q.2.2 >>> (Int32.ofNat k &&& 31) &&& 1).toInt = 1 := fun h => hb2 (Int32.toInt_inj.mp (h.trans one.symm))
    refine sg_rt3b_run G hct (sx_M_self hM2) u0 u1 u2 (by omega) ?_
    intro lw3 y3 c5 c6 c7 σ3 v0 v1 v2 f7 f8 f9 fa hM3
    have E3 := rc_E0 E2 hM3
    have H3 := hd_tr H2 hM3 (by decide +kernel)
    obtain rfl : c5 = Int32.ofNat k := rd_ofNat (by omega)
    obtain rfl : c6 = 1 := Int32.toInt_inj.mp (by have : (1 : Int32).toInt = 1 := rfl; omega)
    obtain rfl : c7 = q.2.2 := by rw [← E2.2.2.1.2.2.1]; exact Int32.toInt_inj.mp (by omega)
    refine kr_ishl rd_d_X9_readSetting_25 ?_
    refine kr_ior rd_d_X9_readSetting_26 ?_
    have hty := (rd_FPi rd_k_X9_readSetting_27).2
    refine kr_putI G.1 (rd_FPi rd_k_X9_readSetting_27).1 rd_d_X9_readSetting_27 (hM3.1 12 (.inl 9) rfl) (by rw [hty]; rfl) (by rw [hty]; rfl) (by rw [hty]; rfl) ?_
    have H4 := rc_Mup10 G H3 (q.2.2 ||| ((1 : Int32) <<< (Int32.ofNat k &&& 31)))
    have E4 := rc_E10 E3 (q.2.2 ||| ((1 : Int32) <<< (Int32.ofNat k &&& 31)))
    refine sg_rt4_run G hct (sx_M_self H4) v0 v1 v2 ?_
    intro lw5 y5 σ5 w0 w1 w2 fb hM5
    have E5 := rc_E0 E4 hM5
    have H5 := hd_tr H4 hM5 (by decide +kernel)
    refine rc_stc G hct (d := 30) (by decide) (sx_M_self hM5) E5.1 (E5.2.1.2.2.1 (Or.inl t1)) rfl rd_d_X9_readSetting_31 rd_k_X9_readSetting_31 (by decide) ?_
    intro σ6 hM6 N6
    have E6 : rc_E σ6 b n most (rd_tok b n most q.1.2.2.2.1, q.2.1, q.2.2 ||| ((1 : Int32) <<< (Int32.ofNat k &&& 31))) (rc_c w s) := rc_En E5 hM6 N6
    have H6 := hd_tr H5 hM6 (by decide +kernel)
    refine sg_rt5_run G hct (sx_M_self hM6) w0 w1 w2 ?_
    intro lw7 y7 c8 c9 σ7 x0 x1 x2 fc fd fe hM7
    have E7 := rc_E0 E6 hM7
    have H7 := hd_tr H6 hM7 (by decide +kernel)
    have hlg := rc_lgT k (by omega)
    refine rc_entx G (d := 30) (by decide) (x := 2) (len := 8) (f := am_least) rfl (by decide) (k := k) (by omega) (by omega) rfl rd_d_X9_readSetting_44 rd_k_X9_readSetting_44 (Nat.le_of_ble_eq_true rfl) ?_
    refine sg_rt5b_run G hct (sx_M_self hM7) x0 x1 x2 ?_
    intro lw8 ca cb cc σ8 z0 z1 ff fg fh hM8
    have E8 := rc_E0 E7 hM8
    have H8 := hd_tr H7 hM8 (by decide +kernel)
    refine rc_entx G (d := 30) (by decide) (x := 3) (len := 8) (f := am_great) rfl (by decide) (k := k) (by omega) (by omega) rfl rd_d_X9_readSetting_51 rd_k_X9_readSetting_51 (Nat.le_of_ble_eq_true rfl) ?_
    refine rc_intoc19 G hct (d := 30) (by decide) (sx_M_self hM8) E8 (k := k) (lo := rd_least k) (hi := rd_most k) (by omega) (by show k ≤ 8; omega) (rc_fit (rc_fit19 k (by omega))) (by omega) (by omega) (by omega) rfl rd_d_X9_readSetting_54 rd_k_X9_readSetting_54 ⟨?_, ?_⟩
    · intro r σ9 kd at' a1 a2 a3 a4 a5
      refine sg_rt6_run G hct (sx_M_self a3) z0 z1 (by omega) ?_
      intro r10 σ10 fi hM10
      have f78 := rc_F78 hM10
      exact R.1 r10 σ10 kd at' (by unfold rd_lineS; rw [if_neg hbit]; exact a1) (by omega) (hd_tr (hd_tr (rc_KL H8) a3 (by decide +kernel)) hM10 (by decide +kernel)) (by rw [f78.1]; exact a4) (by rw [f78.2]; exact a5)
    · intro r σ9 q9 a1 a2 a3 E9
      refine sg_rt6_run G hct (sx_M_self a3) z0 z1 (by omega) ?_
      intro r10 σ10 fi hM10
      refine R.2 r10 σ10 q9 (by unfold rd_lineS; rw [if_neg hbit]; exact a1) (by omega) (hd_tr (hd_tr H8 a3 (by decide +kernel)) hM10 (by decide +kernel)) ?_
      have z2 : q9.2.1 0 = q.2.1 0 := by rw [rd_put1_h a1 (by omega)]
      have z3 : q9.2.1 1 = q.2.1 1 := by rw [rd_put1_h a1 (by omega)]
      unfold rc_E2
      rw [z2, z3, hw, hs, Int.toNat_natCast, Int.toNat_natCast]
      refine rc_Ec (rc_E0 E9 hM10) (fun r hr => ?_)
      have r7 : r = 0 ∨ r = 1 ∨ r = 2 ∨ r = 3 ∨ r = 4 ∨ r = 5 ∨ r = 6 := by omega
      rcases r7 with rfl | rfl | rfl | rfl | rfl | rfl | rfl
      · rfl
      · rfl
      · rfl
      · rfl
      · rfl
      · rfl
      · show 8 = max 8 (k + 1)
        omega
/-- a line -/
theorem rc_lineK (G : sx_G0 g L xs z9 hd_C ex_mt) (hct : rc_ct g) {σ : am_S} (hM : sx_M z9 hd_C σ 0 0 σ) {b : Nat → Nat} {n most : Nat} {q : rd_Q} (E : rc_E2 σ b n most q) {lw : List (Nat × Value)} (hl : (0, Value.ref 12) ∈ lw) (hl1 : (1, Value.ref 3) ∈ lw) {post : Option (Option Value) → am_S → Prop} (R : rc_R2 (fun r σ' => post (some (some (.int r))) σ') σ b n most (rd_line b n most q)) : am_K g 40 tX9_readLine.1 0 0 0 lw [] σ post := by
  have n2 := E.2.1.2.1
  refine sg_rl1_run G hct hM hl hl1 ?_
  intro lw1 σ1 p0 p1 hM1
  have E1 : rc_E2 σ1 b n most q := rc_E0 E hM1
  have H1 : sx_M z9 hd_C σ rc_mK 0 σ1 := sx_M_mask (by decide +kernel) hM1
  refine rd_call G (T2 := tX6_wordOf) rfl rd_d_X9_readLine_3 rd_k_X9_readLine_3 rfl (hM1.1 3 (.inl 6) rfl) (as := [.retAddr 18087]) (st := []) rfl (Nat.le_of_ble_eq_true rfl) rfl (by decide) (d1 := 15) (by decide) (post1 := fun r σ' => ∃ y : Int32, r = some (some (.int y)) ∧ sx_M z9 hd_C σ1 0 0 σ' ∧ y.toInt = rc_wh b q.1) (fun _ h => by obtain ⟨y, h, -⟩ := h; cases h) (rc_wordOf G hct (sx_M_self hM1) E1.1 E1.2.1 (rd_gd_s E1.2.2.2).2 (by simp [lv_args, Value.category]) (by simp [lv_args, Value.category]) (fun r σ' a1 a2 => ⟨r, rfl, a1, a2⟩)) ?_
  intro v σ2 ⟨y, hv, hM2, hy⟩
  cases hv
  have E2 : rc_E2 σ2 b n most q := rc_E0 E1 hM2
  have H2 := hd_tr H1 hM2 (by decide +kernel)
  have n10 := E2.2.1.2.1
  rw [rc_wh_rd] at hy
  unfold rd_line at R
  by_cases w8 : rd_isk b 8 q.1 = true
  · rw [if_pos w8] at R hy
    refine sg_rl2a_run G hct (sx_M_self hM2) p0 p1 (by omega) ?_
    intro lw3 σ3 q0 q1 hM3
    have H3 := hd_tr H2 hM3 (by decide +kernel)
    have R3 := rc_R2m R H3
    refine rd_call G (T2 := tX9_readWindow) rfl rd_d_X9_readLine_15 rd_k_X9_readLine_15 rfl (hM3.1 12 (.inl 9) rfl) (as := [.ref 3]) (st := []) rfl (Nat.le_of_ble_eq_true rfl) rfl (by decide) (d1 := 30) (by decide) (post1 := fun r σ' => ∃ y : Int32, r = some (some (.int y)) ∧ am_K g 40 tX9_readLine.1 0 0 18 lw3 [.int y] σ' post) (fun _ h => by obtain ⟨y, h, -⟩ := h; cases h)
      (rc_window G hct (sx_M_self hM3) (rc_E0 E2 hM3) (rd_isk_1 w8) (by simp [lv_args, Value.category]) (by simp [lv_args, Value.category]) ⟨fun r σ' kd at' a1 a2 a3 a4 a5 => ⟨r, rfl, ?_⟩, fun r σ' q' a1 a2 a3 a4 => ⟨r, rfl, ?_⟩⟩) ?_
    · refine sg_rl3_run G hct (sx_M_self a3) q0 q1 (by omega) ?_
      intro r5 σ5 f1 hM5
      have f78 := rc_F78 hM5
      exact R3.1 r5 σ5 kd at' a1 (by omega) (hd_tr a3 hM5 (by decide +kernel)) (by rw [f78.1]; exact a4) (by rw [f78.2]; exact a5)
    · refine sg_rl3_run G hct (sx_M_self a3) q0 q1 (by omega) ?_
      intro r5 σ5 f1 hM5
      exact R3.2 r5 σ5 q' a1 (by omega) (hd_tr a3 hM5 (by decide +kernel)) (rc_E0 a4 hM5)
    · intro v4 σ4 ⟨y4, hv4, hh⟩
      cases hv4
      exact hh
  · rw [if_neg w8] at R hy
    by_cases w9 : rd_isk b 9 q.1 = true
    · rw [if_pos w9] at R hy
      refine sg_rl2b_run G hct (sx_M_self hM2) p0 p1 (by omega) ?_
      intro lw3 σ3 q0 q1 hM3
      have H3 := hd_tr H2 hM3 (by decide +kernel)
      have R3 := rc_R2m R H3
      refine rd_call G (T2 := tX9_readStands) rfl rd_d_X9_readLine_27 rd_k_X9_readLine_27 rfl (hM3.1 12 (.inl 9) rfl) (as := [.ref 3]) (st := []) rfl (Nat.le_of_ble_eq_true rfl) rfl (by decide) (d1 := 30) (by decide) (post1 := fun r σ' => ∃ y : Int32, r = some (some (.int y)) ∧ am_K g 40 tX9_readLine.1 0 0 30 lw3 [.int y] σ' post) (fun _ h => by obtain ⟨y, h, -⟩ := h; cases h)
        (rc_stands G hct (sx_M_self hM3) (rc_E0 E2 hM3) (rd_isk_1 w9) (by simp [lv_args, Value.category]) (by simp [lv_args, Value.category]) ⟨fun r σ' kd at' a1 a2 a3 a4 a5 => ⟨r, rfl, ?_⟩, fun r σ' q' a1 a2 a3 a4 => ⟨r, rfl, ?_⟩⟩) ?_
      · refine sg_rl4_run G hct (sx_M_self a3) q0 q1 (by omega) ?_
        intro r5 σ5 f1 hM5
        have f78 := rc_F78 hM5
        exact R3.1 r5 σ5 kd at' a1 (by omega) (hd_tr a3 hM5 (by decide +kernel)) (by rw [f78.1]; exact a4) (by rw [f78.2]; exact a5)
      · refine sg_rl4_run G hct (sx_M_self a3) q0 q1 (by omega) ?_
        intro r5 σ5 f1 hM5
        exact R3.2 r5 σ5 q' a1 (by omega) (hd_tr a3 hM5 (by decide +kernel)) (rc_E0 a4 hM5)
      · intro v4 σ4 ⟨y4, hv4, hh⟩
        cases hv4
        exact hh
    · rw [if_neg w9] at R hy
      rcases rd_wh_in b q.1 with hw | hw
      · rw [if_pos hw] at R
        refine sg_rl2c_run G hct (sx_M_self hM2) p0 p1 (by omega) ?_
        intro r3 σ3 f1 f2 f3 hM3
        exact R.1 r3 σ3 1 _ rfl (by omega) (hd_tr (rc_KL H2) hM3 (by decide +kernel)) (by show _ = (1 : Int); omega) (by omega)
      · have hw1 : rd_wh b q.1 ≠ -1 := by omega
        rw [if_neg hw1] at R
        obtain ⟨k, hk⟩ : ∃ k : Nat, rd_wh b q.1 = k := ⟨(rd_wh b q.1).toNat, by omega⟩
        rw [hk, Int.toNat_natCast] at R
        refine sg_rl2d_run G hct (sx_M_self hM2) p0 p1 (by omega) ?_
        intro lw3 c1 σ3 q0 q1 f1 hM3
        have H3 := hd_tr H2 hM3 (by decide +kernel)
        have R3 := rc_R2m R H3
        refine rd_call G (T2 := tX9_readSetting) rfl rd_d_X9_readLine_47 rd_k_X9_readLine_47 rfl (hM3.1 12 (.inl 9) rfl) (as := [.ref 3, .int c1]) (st := []) rfl (Nat.le_of_ble_eq_true rfl) rfl (by decide) (d1 := 30) (by decide) (post1 := fun r σ' => ∃ y : Int32, r = some (some (.int y)) ∧ am_K g 40 tX9_readLine.1 0 0 50 lw3 [.int y] σ' post) (fun _ h => by obtain ⟨y, h, -⟩ := h; cases h)
          (rc_setting G hct (sx_M_self hM3) (rc_E0 E2 hM3) (rd_wh_1 hw1) (k := k) (by omega) (by simp [lv_args, Value.category]) (by simp [lv_args, Value.category]) (m2 := c1) (by simp [lv_args, Value.category]) (by omega) ⟨fun r σ' kd at' a1 a2 a3 a4 a5 => ⟨r, rfl, ?_⟩, fun r σ' q' a1 a2 a3 a4 => ⟨r, rfl, ?_⟩⟩) ?_
        · refine sg_rl5_run G hct (sx_M_self a3) q0 q1 (by omega) ?_
          intro r5 σ5 f2 hM5
          have f78 := rc_F78 hM5
          exact R3.1 r5 σ5 kd at' a1 (by omega) (hd_tr a3 hM5 (by decide +kernel)) (by rw [f78.1]; exact a4) (by rw [f78.2]; exact a5)
        · refine sg_rl5_run G hct (sx_M_self a3) q0 q1 (by omega) ?_
          intro r5 σ5 f2 hM5
          exact R3.2 r5 σ5 q' a1 (by omega) (hd_tr a3 hM5 (by decide +kernel)) (rc_E0 a4 hM5)
        · intro v4 σ4 ⟨y4, hv4, hh⟩
          cases hv4
          exact hh
end CM
