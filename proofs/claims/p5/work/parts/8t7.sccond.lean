/-! the class's SENTENCE: conditions, all -/
section SCB
variable {g : am_C} {L : Nat} {xs : Nat → Int32}
theorem sc_a1 {e : Int32} {k : Nat} (h0 : 0 ≤ e.toInt) (h : e.toInt + 1 ≤ (k : Int)) (hk : k ≤ 20) : (e + 1).toInt = e.toInt + 1 := by
  have e1 : (1 : Int32).toInt = 1 := rfl
  rw [Int32.toInt_add, e1, Int.bmod_def]
  split <;> omega
abbrev sc_lv (e a D : Int32) : List (Nat × Value) := [(4, .int e), (3, .int a), (0, .ref 65), (1, .ref 3), (2, .int D)]
/-- from the inner loop's head on -/
theorem sc_loop (G : sx_G0 g L xs z9 hd_C ex_mt) (hct : rc_ct g) {b : Nat → Nat} {n m : Nat} (H1 : sc_One g b n m) {σ : am_S} {F : List Bool} {o : Nat} {t : rd_K} {D : Int32} (hFn : ∀ F', F ≠ true :: F') (hF : F.length + m = 8) (hD : D.toInt = ((F.length + 1 : Nat) : Int)) : ∀ (k : Nat) (σ1 : am_S) (o1 : Nat) (t1 : rd_K) (a e : Int32), 20 - o1 < k → sx_M z9 hd_C σ sc_m 0 σ1 → sc_E σ1 b n o1 t1 → sn_go b n (.inr (false, F, o, t)) (.inr (true, F, o1, t1)) → o < o1 → 0 ≤ a.toInt → a.toInt + 1 ≤ (o1 : Int) → 0 ≤ e.toInt → e.toInt + 1 ≤ (o1 : Int) → am_K g (31 + 2 * m) tX8_readCond.1 0 0 22 (sc_lv e a D) [] σ1 (sc_P σ b n F o t true) := by
  intro k
  induction k with
  | zero => intro σ1 o1 t1 a e hk; omega
  | succ k ih =>
    intro σ1 o1 t1 a e hk h1 E1 hgo ho a0 a1 e0 e1
    have i20 : (20 : Int32).toInt = 20 := rfl
    have o20 := E1.2.2.2.2.1
    -- 65: behind all of 'and'
    have k65 : ∀ σ2 : am_S, sx_M z9 hd_C σ1 0 0 σ2 → ¬ sn_isk b 8 t1 = true → am_K g (31 + 2 * m) tX8_readCond.1 0 0 65 (sc_lv e a D) [] σ2 (sc_P σ b n F o t true) := by
      intro σ2 hM2 n8
      have E2 := sc_E0 E1 hM2 (by decide +kernel)
      have H2 := hd_tr h1 hM2 (by decide +kernel)
      -- 75: 'or'
      have k75 : ∀ σ3 : am_S, sx_M z9 hd_C σ2 sc_mQ 0 σ3 → am_K g (31 + 2 * m) tX8_readCond.1 0 0 75 (sc_lv e a D) [] σ3 (sc_P σ b n F o t true) := by
        intro σ3 hM3
        have E3 := sc_E0 E2 hM3 (by decide +kernel)
        have H3 := hd_tr H2 hM3 (by decide +kernel)
        refine kr_aload_n 3 rd_d_X8_readCond_75 rfl ?_
        refine sc_ldcS G rd_d_X8_readCond_76 rd_k_X8_readCond_76 ?_
        refine sc_wrc G hct (by omega) (sx_M_self hM3) E3 rfl rd_d_X8_readCond_78 rd_k_X8_readCond_78 (by decide) ?_
        intro r4 σ4 hM4 e4
        have E4 := sc_E0 E3 hM4 (by decide +kernel)
        have H4 := hd_tr H3 hM4 (by decide +kernel)
        by_cases h9 : sn_isk b 9 t1 = true
        · rw [if_pos h9] at e4
          refine kr_if_eq (tgt := 86) rd_d_X8_readCond_81 rfl (fun _ => ?_) (fun h => absurd (sc_b0 e4) h)
          refine kr_aload_n 3 rd_d_X8_readCond_86 rfl ?_
          refine sc_stc G hct (by omega) (sx_M_self hM4) E4 (Or.inl (sc_isk1 h9)) rfl rd_d_X8_readCond_87 rd_k_X8_readCond_87 (by decide) ?_
          intro σ5 hM5 E5
          have H5 := hd_tr H4 hM5 (by decide +kernel)
          have ea := sc_a1 a0 a1 o20
          refine kr_iinc (v := a + 1) (lv' := [(3, .int (a + 1)), (4, .int e), (0, .ref 65), (1, .ref 3), (2, .int D)]) 1 rd_d_X8_readCond_90 rfl rfl (by decide) rfl ?_
          refine kr_goto (tgt := 2) rd_d_X8_readCond_93 rfl ?_
          refine kr_iload_n 0 rd_d_X8_readCond_2 rfl ?_
          refine kr_bipush (v := 20) rd_d_X8_readCond_3 rfl ?_
          refine kr_icmp_gt (tgt := 96) rd_d_X8_readCond_5 rfl (fun h => absurd (Int32.lt_iff_toInt_lt.mp h) (by omega)) (fun _ => ?_)
          refine kr_aload_n 2 rd_d_X8_readCond_8 rfl ?_
          refine kr_aload_n 3 rd_d_X8_readCond_9 rfl ?_
          refine kr_iload_n 4 rd_d_X8_readCond_10 rfl ?_
          have g1 := sn_go_t hgo (so_ba (n := n) (o := o1) hFn (Or.inr h9))
          refine rd_call G (T2 := tX8_readOne) rfl rd_d_X8_readCond_11 rd_k_X8_readCond_11 rfl (hM5.1 65 (.inl 8) rfl) (as := [.ref 3, .int D]) (st := []) rfl (Nat.le_of_ble_eq_true rfl) rfl (by decide) (d1 := 30 + 2 * m) (by omega) sc_Pn (H1 σ5 F o1 (sn_nx b n t1) D (sx_M_self hM5) E5 hF hD) ?_
          intro v σ6 ⟨y, hv, hM6, hy⟩
          cases hv
          have H6 := hd_tr H5 hM6 (by decide +kernel)
          rcases hy with ⟨kd, at', b1, b2, b3, b4⟩ | ⟨o2, t2, b1, b2, b3, E6, -⟩
          · refine kr_if_ne (tgt := 19) rd_d_X8_readCond_14 rfl (fun h => absurd (sc_b0 b2) h) (fun _ => ?_)
            refine kr_iconst (v := 0) rd_d_X8_readCond_17 rfl ?_
            exact kr_ireturn rd_d_X8_readCond_18 (ty := .boolean) rfl rfl ⟨0, rfl, H6, Or.inl ⟨kd, at', sn_go_t g1 b1, rfl, b3, b4⟩⟩
          · have o26 := E6.2.2.2.2.1
            refine kr_if_ne (tgt := 19) rd_d_X8_readCond_14 rfl (fun _ => ?_) (fun h => absurd h (sc_b1 (by omega)))
            refine kr_iconst (v := 0) rd_d_X8_readCond_19 rfl ?_
            refine kr_istore (lv' := sc_lv 0 (a + 1) D) rd_d_X8_readCond_20 (by decide) rfl ?_
            have z0 : (0 : Int32).toInt = 0 := rfl
            exact ih σ6 o2 t2 (a + 1) 0 (by omega) H6 E6 (sn_go_t g1 b1) (by omega) (by omega) (by omega) (by rw [z0]; omega) (by rw [z0]; omega)
        · rw [if_neg h9] at e4
          refine kr_if_eq (tgt := 86) rd_d_X8_readCond_81 rfl (fun h => absurd h (sc_b1 (by omega))) (fun _ => ?_)
          refine kr_iconst (v := 1) rd_d_X8_readCond_84 rfl ?_
          exact kr_ireturn rd_d_X8_readCond_85 (ty := .boolean) rfl rfl ⟨1, rfl, H4, Or.inr ⟨o1, t1, hgo, ho, rfl, E4, fun _ q => by
            rcases q with q | q
            · exact n8 q
            · exact h9 q⟩⟩
      refine kr_iload_n 1 rd_d_X8_readCond_65 rfl ?_
      refine kr_if_le (tgt := 75) rd_d_X8_readCond_66 rfl (fun _ => k75 σ2 (sx_M_mask (by decide +kernel) (sx_M_self hM2))) (fun _ => ?_)
      refine kr_aload_n 2 rd_d_X8_readCond_69 rfl ?_
      refine kr_bipush (v := 8) rd_d_X8_readCond_70 rfl ?_
      refine sc_emc G hct (by omega) (sx_M_self hM2) rfl rd_d_X8_readCond_72 rd_k_X8_readCond_72 (by decide) ?_
      intro σ3 hM3
      exact k75 σ3 hM3
    refine kr_iload 0 rd_d_X8_readCond_22 rfl ?_
    refine kr_bipush (v := 20) rd_d_X8_readCond_24 rfl ?_
    refine kr_icmp_gt (tgt := 65) rd_d_X8_readCond_26 rfl (fun h => absurd (Int32.lt_iff_toInt_lt.mp h) (by omega)) (fun _ => ?_)
    refine kr_aload_n 3 rd_d_X8_readCond_29 rfl ?_
    refine sc_ldcS G rd_d_X8_readCond_30 rd_k_X8_readCond_30 ?_
    refine sc_wac G hct (by omega) (sx_M_self h1) E1 rfl rd_d_X8_readCond_32 rd_k_X8_readCond_32 (by decide) ?_
    intro r2 σ2 hM2 e2
    by_cases h8 : sn_isk b 8 t1 = true
    · rw [if_pos h8] at e2
      have E2 := sc_E0 E1 hM2 (by decide +kernel)
      have H2 := hd_tr h1 hM2 (by decide +kernel)
      refine kr_if_ne (tgt := 65) rd_d_X8_readCond_35 rfl (fun h => absurd (sc_b0 e2) h) (fun _ => ?_)
      refine kr_aload_n 3 rd_d_X8_readCond_38 rfl ?_
      refine sc_stc G hct (by omega) (sx_M_self hM2) E2 (Or.inl (sc_isk1 h8)) rfl rd_d_X8_readCond_39 rd_k_X8_readCond_39 (by decide) ?_
      intro σ3 hM3 E3
      have H3 := hd_tr H2 hM3 (by decide +kernel)
      refine kr_aload_n 2 rd_d_X8_readCond_42 rfl ?_
      refine kr_aload_n 3 rd_d_X8_readCond_43 rfl ?_
      refine kr_iload_n 4 rd_d_X8_readCond_44 rfl ?_
      have g1 := sn_go_t hgo (so_ba (n := n) (o := o1) hFn (Or.inl h8))
      refine rd_call G (T2 := tX8_readOne) rfl rd_d_X8_readCond_45 rd_k_X8_readCond_45 rfl (hM3.1 65 (.inl 8) rfl) (as := [.ref 3, .int D]) (st := []) rfl (Nat.le_of_ble_eq_true rfl) rfl (by decide) (d1 := 30 + 2 * m) (by omega) sc_Pn (H1 σ3 F o1 (sn_nx b n t1) D (sx_M_self hM3) E3 hF hD) ?_
      intro v σ4 ⟨y, hv, hM4, hy⟩
      cases hv
      have H4 := hd_tr H3 hM4 (by decide +kernel)
      rcases hy with ⟨kd, at', b1, b2, b3, b4⟩ | ⟨o2, t2, b1, b2, b3, E4, -⟩
      · refine kr_if_ne (tgt := 53) rd_d_X8_readCond_48 rfl (fun h => absurd (sc_b0 b2) h) (fun _ => ?_)
        refine kr_iconst (v := 0) rd_d_X8_readCond_51 rfl ?_
        exact kr_ireturn rd_d_X8_readCond_52 (ty := .boolean) rfl rfl ⟨0, rfl, H4, Or.inl ⟨kd, at', sn_go_t g1 b1, rfl, b3, b4⟩⟩
      · have o24 := E4.2.2.2.2.1
        refine kr_if_ne (tgt := 53) rd_d_X8_readCond_48 rfl (fun _ => ?_) (fun h => absurd h (sc_b1 (by omega)))
        refine kr_aload_n 2 rd_d_X8_readCond_53 rfl ?_
        refine kr_bipush (v := 9) rd_d_X8_readCond_54 rfl ?_
        refine sc_emc G hct (by omega) (sx_M_self hM4) rfl rd_d_X8_readCond_56 rd_k_X8_readCond_56 (by decide) ?_
        intro σ5 hM5
        have ee := sc_a1 e0 e1 o20
        refine kr_iinc (v := e + 1) (lv' := sc_lv (e + 1) a D) 0 rd_d_X8_readCond_59 rfl rfl (by decide) rfl ?_
        refine kr_goto (tgt := 22) rd_d_X8_readCond_62 rfl ?_
        exact ih σ5 o2 t2 a (e + 1) (by omega) (hd_tr H4 hM5 (by decide +kernel)) (sc_E0 E4 hM5 (by decide +kernel)) (sn_go_t g1 b1) (by omega) a0 (by omega) (by omega) (by omega)
    · rw [if_neg h8] at e2
      exact kr_if_ne (tgt := 65) rd_d_X8_readCond_35 rfl (fun _ => k65 σ2 hM2 h8) (fun h => absurd h (sc_b1 (by omega)))
theorem sc_readCond (G : sx_G0 g L xs z9 hd_C ex_mt) (hct : rc_ct g) {b : Nat → Nat} {n m : Nat} (H1 : sc_One g b n m) : sc_Cond g b n m := by
  intro σ F o t D hM E hFn hF hD
  have i20 : (20 : Int32).toInt = 20 := rfl
  have z0 : (0 : Int32).toInt = 0 := rfl
  refine kr_iconst (v := 0) rd_d_X8_readCond_0 rfl ?_
  refine kr_istore_n (lv' := [(3, .int 0), (0, .ref 65), (1, .ref 3), (2, .int D)]) rd_d_X8_readCond_1 (by decide) rfl ?_
  refine kr_iload_n 0 rd_d_X8_readCond_2 rfl ?_
  refine kr_bipush (v := 20) rd_d_X8_readCond_3 rfl ?_
  refine kr_icmp_gt (tgt := 96) rd_d_X8_readCond_5 rfl (fun h => absurd h (by decide)) (fun _ => ?_)
  refine kr_aload_n 1 rd_d_X8_readCond_8 rfl ?_
  refine kr_aload_n 2 rd_d_X8_readCond_9 rfl ?_
  refine kr_iload_n 3 rd_d_X8_readCond_10 rfl ?_
  refine rd_call G (T2 := tX8_readOne) rfl rd_d_X8_readCond_11 rd_k_X8_readCond_11 rfl (hM.1 65 (.inl 8) rfl) (as := [.ref 3, .int D]) (st := []) rfl (Nat.le_of_ble_eq_true rfl) rfl (by decide) (d1 := 30 + 2 * m) (by omega) sc_Pn (H1 σ F o t D hM E hF hD) ?_
  intro v σ1 ⟨y, hv, hM1, hy⟩
  cases hv
  rcases hy with ⟨kd, at', b1, b2, b3, b4⟩ | ⟨o1, t1, b1, b2, b3, E1, -⟩
  · refine kr_if_ne (tgt := 19) rd_d_X8_readCond_14 rfl (fun h => absurd (sc_b0 b2) h) (fun _ => ?_)
    refine kr_iconst (v := 0) rd_d_X8_readCond_17 rfl ?_
    exact kr_ireturn rd_d_X8_readCond_18 (ty := .boolean) rfl rfl ⟨0, rfl, hM1, Or.inl ⟨kd, at', b1, rfl, b3, b4⟩⟩
  · refine kr_if_ne (tgt := 19) rd_d_X8_readCond_14 rfl (fun _ => ?_) (fun h => absurd h (sc_b1 (by omega)))
    refine kr_iconst (v := 0) rd_d_X8_readCond_19 rfl ?_
    refine kr_istore (lv' := sc_lv 0 0 D) rd_d_X8_readCond_20 (by decide) rfl ?_
    exact sc_loop G hct H1 hFn hF hD 21 σ1 o1 t1 0 0 (by omega) hM1 E1 b1 b2 (by rw [z0]; omega) (by rw [z0]; omega) (by rw [z0]; omega) (by rw [z0]; omega)
theorem sc_all (G : sx_G0 g L xs z9 hd_C ex_mt) (hct : rc_ct g) {b : Nat → Nat} {n : Nat} : ∀ m, sc_One g b n m ∧ sc_Cond g b n m := by
  intro m
  induction m with
  | zero =>
    have h : sc_One g b n 0 := sc_readOne G hct (fun m' h => by omega)
    exact ⟨h, sc_readCond G hct h⟩
  | succ m ih =>
    have h : sc_One g b n (m + 1) := sc_readOne G hct (fun m' h => by obtain rfl : m' = m := (by omega); exact ih)
    exact ⟨h, sc_readCond G hct h⟩
abbrev sn_s0 (b : Nat → Nat) (n : Nat) : sn_X := .inr (false, [], 0, rd_tok b n 200 0)
theorem sc_readFrom (G : sx_G0 g L xs z9 hd_C ex_mt) (hct : rc_ct g) {σ : am_S} (hM : sx_M z9 hd_C σ 0 0 σ) {b : Nat → Nat} {n : Nat} (X : rc_X σ b n 200) (N : rc_N σ (rd_tok b n 200 0)) (h7 : (σ.2.1 3 7).toInt = 0) {lw : List (Nat × Value)} (hl : (0, Value.ref 65) ∈ lw) (hl1 : (1, Value.ref 3) ∈ lw) {post : Option (Option Value) → am_S → Prop}
    (kf : ∀ (r : Int32) (σ' : am_S) (kd at' : Nat), sn_go b n (sn_s0 b n) (.inl (.inl (kd, at'))) → r.toInt = 0 → sx_M z9 hd_C σ sc_m 0 σ' → (σ'.2.1 3 7).toInt = kd → (σ'.2.1 3 8).toInt = at' → post (some (some (.int r))) σ')
    (kt : ∀ (r : Int32) (σ' : am_S) (o' : Nat), sn_go b n (sn_s0 b n) (.inl (.inr o')) → r.toInt = 1 → sx_M z9 hd_C σ sc_m 0 σ' → (σ'.2.1 65 3).toInt = o' → (σ'.2.1 3 7).toInt = 0 → post (some (some (.int r))) σ') : am_K g 55 tX8_readFrom.1 0 0 0 lw [] σ post := by
  refine sg_rF1_run G hct hM hl hl1 ?_
  intro lw1 c1 σ1 p0 p1 f1 f2 hM1
  have E1 : sc_E σ1 b n 0 (rd_tok b n 200 0) := by
    refine ⟨rc_Xm X hM1 (by decide +kernel) (by decide +kernel) (by decide +kernel), rc_N0 N hM1 (by decide +kernel) (by decide +kernel) (by decide +kernel) (by decide +kernel) (by decide +kernel), ⟨0, Nat.zero_le _, rfl⟩, ?_, Nat.zero_le _, ?_⟩
    · show _ = (0 : Int); omega
    · rw [hM1.2.2.2.2.1 3 7 _ _ 27 rfl (by decide +kernel)]; exact h7
  have H1 : sx_M z9 hd_C σ sc_m 0 σ1 := sx_M_mask (by decide +kernel) hM1
  refine rd_call G (T2 := tX8_readCond) rfl rd_d_X8_readFrom_7 rd_k_X8_readFrom_7 rfl (hM1.1 65 (.inl 8) rfl) (as := [.ref 3, .int c1]) (st := []) rfl (Nat.le_of_ble_eq_true rfl) rfl (by decide) (d1 := 31 + 2 * 8) (by decide) sc_Pn ((sc_all G hct 8).2 σ1 [] 0 _ c1 (sx_M_self hM1) E1 (fun F' h => by cases h) rfl (by show _ = (1 : Int); omega)) ?_
  intro v σ2 ⟨y, hv, hM2, hy⟩
  cases hv
  have H2 := hd_tr H1 hM2 (by decide +kernel)
  rcases hy with ⟨kd, at', b1, b2, b3, b4⟩ | ⟨o2, t2, b1, b2, b3, E2, b5⟩
  · refine sg_rF2n_run G hct (sx_M_self hM2) p0 p1 (by omega) ?_
    intro r σ3 f3 hM3
    have f78 := rc_F78 hM3
    exact kf r σ3 kd at' b1 (by omega) (hd_tr H2 hM3 (by decide +kernel)) (by rw [f78.1]; exact b3) (by rw [f78.2]; exact b4)
  · have g2 := so_be (n := n) (o := o2) (b5 rfl)
    have n1 := E2.2.1.1
    have n2 := E2.2.1.2.1
    have k5 := rc_kd5 (rd_gd_4 E2.2.2.1)
    by_cases t0 : t2.1 = 0
    · have kd0 := k5.2.2.2.1.mpr t0
      rw [if_pos t0] at g2
      refine sg_rF2e_run G hct (sx_M_self hM2) p0 p1 (by omega) (by omega) ?_
      intro r σ3 f3 hM3
      have E3 := sc_E0 E2 hM3 (by decide +kernel)
      exact kt r σ3 o2 (sn_go_t b1 g2) (by omega) (hd_tr H2 hM3 (by decide +kernel)) E3.2.2.2.1 E3.2.2.2.2.2
    · have kd0 : rc_kd t2.1 ≠ 0 := fun h => t0 (k5.2.2.2.1.mp h)
      have kd4 := k5.1
      rw [if_neg t0] at g2
      refine sg_rF2m_run G hct (sx_M_self hM2) p0 p1 (by omega) (by omega) ?_
      intro r σ3 f3 f4 f5 hM3
      exact kf r σ3 1 t2.2.1 (sn_go_t b1 g2) (by omega) (hd_tr H2 hM3 (by decide +kernel)) (by omega) (by omega)
/-- what the class's sentence writes -/
def sc_mS : Nat := Nat.lor sc_m (Nat.lor rc_mO (Nat.lor (Nat.shiftLeft 1 16) (Nat.lor (Nat.shiftLeft 1 18) (Nat.shiftLeft 7 210))))
theorem sc_sentence (G : sx_G0 g L xs z9 hd_C ex_mt) (hct : rc_ct g) {σ : am_S} (hM : sx_M z9 hd_C σ 0 0 σ) {b : Nat → Nat} (hbX : ∀ k, k < 940 → rd_by (σ.2.1 2) k = b k) {n : Nat} (hn : (σ.2.1 1 1).toInt = n) {lw : List (Nat × Value)} (hl : (0, Value.ref 0) ∈ lw) {post : Option (Option Value) → am_S → Prop}
    (kf : ∀ (r : Int32) (σ' : am_S) (kd at' : Nat), sn_go b n (sn_s0 b n) (.inl (.inl (kd, at'))) → r.toInt = -1 - (at' : Int) → sx_M z9 hd_C σ sc_mS 0 σ' → (σ'.2.1 0 16).toInt = kd → (σ'.2.1 1 1).toInt = 0 → post (some (some (.int r))) σ')
    (kt : ∀ (r : Int32) (σ' : am_S) (o' : Nat), sn_go b n (sn_s0 b n) (.inl (.inr o')) → r.toInt = o' → sx_M z9 hd_C σ sc_mS 0 σ' → (σ'.2.1 0 16).toInt = 0 → (σ'.2.1 1 1).toInt = 0 → post (some (some (.int r))) σ') : am_K g 60 tX11_sentence.1 0 0 0 lw [] σ post := by
  have k0 : (0 : Int) ≤ (σ.2.1 1 1).toInt ∧ (σ.2.1 1 1).toInt ≤ (940 : Int) := hM.2.2.1 1 1 _ _ 18 rfl
  refine sg_sS1_run G hct hM hl ?_
  intro lw1 a1 σ1 p0 f1 hM1
  refine rd_call G (T2 := tX6_open) rfl rd_d_X11_sentence_7 rd_k_X11_sentence_7 rfl (hM1.1 3 (.inl 6) rfl) (as := [.int a1]) (st := []) rfl (Nat.le_of_ble_eq_true rfl) rfl (by decide) (d1 := 15) (by decide) (post1 := fun r σ' => r = some none ∧ sx_M z9 hd_C σ1 rc_mO 0 σ' ∧ rc_X σ' b n 200 ∧ rc_N σ' (rd_tok b n 200 0) ∧ (σ'.2.1 3 7).toInt = 0) (fun _ h => by cases h.1) ?_ ?_
  · refine sg_op1_run G hct (sx_M_self hM1) (by simp [lv_args, Value.category]) (m1 := a1) (by simp [lv_args, Value.category]) ?_
    intro lw2 σ2 q0 g1 g2 g3 g4 hM2
    have X2 : rc_X σ2 b n 200 := by
      refine ⟨fun k hk => ?_, ?_, ?_, by omega, by decide⟩
      · rw [← hbX k hk]
        unfold rd_by
        rw [hM2.2.2.2.2.1 2 k _ _ 19 (rc_a2 hk) (by decide +kernel), hM1.2.2.2.2.1 2 k _ _ 19 (rc_a2 hk) (sx_bit0 _)]
      · rw [hM2.2.2.2.2.1 1 1 _ _ 18 rfl (by decide +kernel), hM1.2.2.2.2.1 1 1 _ _ 18 rfl (sx_bit0 _)]
        exact hn
      · show _ = (200 : Int)
        omega
    refine rc_stc G hct (d := 15) (by decide) (sx_M_self hM2) X2 (p := 0) (by show _ = (0 : Int); omega) rfl rd_d_X6_open_21 rd_k_X6_open_21 (by decide) ?_
    intro σ3 hM3 N3
    refine sg_op2_run G hct (sx_M_self hM3) q0 ?_
    intro σ4 hM4
    refine ⟨rfl, hd_tr (hd_tr (sx_M_mask (by decide +kernel) hM2) hM3 (by decide +kernel)) hM4 (by decide +kernel), rc_Xm (rc_Xm X2 hM3 (by decide +kernel) (by decide +kernel) (by decide +kernel)) hM4 (sx_bit0 _) (sx_bit0 _) (sx_bit0 _), rc_N0 N3 hM4 (sx_bit0 _) (sx_bit0 _) (sx_bit0 _) (sx_bit0 _) (sx_bit0 _), ?_⟩
    rw [hM4.2.2.2.2.1 3 7 _ _ 27 rfl (sx_bit0 _), hM3.2.2.2.2.1 3 7 _ _ 27 rfl (by decide +kernel)]
    omega
  · intro v σ2 ⟨hv, a2, X2, N2, z2⟩
    cases hv
    have n9 : n ≤ 940 := X2.2.2.2.1
    have H2 : sx_M z9 hd_C σ sc_mS 0 σ2 := hd_tr (sx_M_mask (by decide +kernel) hM1) a2 (by decide +kernel)
    refine sg_sS2_run G hct (sx_M_self a2) p0 ?_
    intro lw3 σ3 q0 hM3
    have H3 := hd_tr H2 hM3 (by decide +kernel)
    have X3 := rc_Xm X2 hM3 (sx_bit0 _) (sx_bit0 _) (sx_bit0 _)
    have N3 := rc_N0 N2 hM3 (sx_bit0 _) (sx_bit0 _) (sx_bit0 _) (sx_bit0 _) (sx_bit0 _)
    have z3 : (σ3.2.1 3 7).toInt = 0 := by rw [hM3.2.2.2.2.1 3 7 _ _ 27 rfl (sx_bit0 _)]; exact z2
    refine rd_call G (T2 := tX8_readFrom) rfl rd_d_X11_sentence_18 rd_k_X11_sentence_18 rfl (hM3.1 65 (.inl 8) rfl) (as := [.ref 3]) (st := []) rfl (Nat.le_of_ble_eq_true rfl) rfl (by decide) (d1 := 55) (by decide) (post1 := fun r σ' => ∃ y : Int32, r = some (some (.int y)) ∧ sx_M z9 hd_C σ3 sc_m 0 σ' ∧ ((∃ kd at' : Nat, sn_go b n (sn_s0 b n) (.inl (.inl (kd, at'))) ∧ y.toInt = 0 ∧ (σ'.2.1 3 7).toInt = kd ∧ (σ'.2.1 3 8).toInt = at') ∨ (∃ o' : Nat, sn_go b n (sn_s0 b n) (.inl (.inr o')) ∧ y.toInt = 1 ∧ (σ'.2.1 65 3).toInt = o' ∧ (σ'.2.1 3 7).toInt = 0))) (fun _ h => by obtain ⟨y, h, -⟩ := h; cases h)
      (sc_readFrom G hct (sx_M_self hM3) X3 N3 z3 (by simp [lv_args, Value.category]) (by simp [lv_args, Value.category]) (fun r σ' kd at' c1 c2 c3 c4 c5 => ⟨r, rfl, c3, Or.inl ⟨kd, at', c1, c2, c4, c5⟩⟩) (fun r σ' o' c1 c2 c3 c4 c5 => ⟨r, rfl, c3, Or.inr ⟨o', c1, c2, c4, c5⟩⟩)) ?_
    intro v4 σ4 ⟨y, hv4, hM4, hh⟩
    cases hv4
    have H4 := hd_tr H3 hM4 (by decide +kernel)
    rcases hh with ⟨kd, at', c1, c2, c3, c4⟩ | ⟨o', c1, c2, c3, c4⟩
    · have h9 : at' ≤ 940 := sn_go_in n9 c1 ⟨0, Nat.zero_le _, rfl⟩
      refine sg_sS3n_run G hct (sx_M_self hM4) q0 (by omega) (by omega) ?_
      intro r σ5 g1 g2 g3 hM5
      exact kf r σ5 kd at' c1 (by omega) (hd_tr H4 hM5 (by decide +kernel)) (by omega) (by omega)
    · refine sg_sS3y_run G hct (sx_M_self hM4) q0 (by omega) ?_
      intro lw5 σ5 u0 g1 g2 hM5
      have H5 := hd_tr H4 hM5 (by decide +kernel)
      refine rd_call G (T2 := tX8_copyFrom) rfl rd_d_X11_sentence_63 rd_k_X11_sentence_63 rfl (hM5.1 62 (.inl 8) rfl) (as := [.ref 65]) (st := []) rfl (Nat.le_of_ble_eq_true rfl) rfl (by decide) (d1 := 30) (by decide) (post1 := fun r σ' => r = some none ∧ sx_M z9 hd_C σ5 (Nat.shiftLeft 7 210) 0 σ' ∧ (σ'.2.1 62 3).toInt = (σ5.2.1 65 3).toInt) (fun _ h => by cases h.1) (sg_cF_run G hct (sx_M_self hM5) (by simp [lv_args, Value.category]) (by simp [lv_args, Value.category]) (fun σ' d1 d2 => ⟨rfl, sx_M_mask (by decide +kernel) d2, by omega⟩)) ?_
      intro v6 σ6 ⟨hv6, hM6, e6⟩
      cases hv6
      have H6 := hd_tr H5 hM6 (by decide +kernel)
      refine sg_sS4_run G hct (sx_M_self hM6) u0 ?_
      intro r σ7 g3 hM7
      have w65 : σ5.2.1 65 3 = σ4.2.1 65 3 := hM5.2.2.2.2.1 65 3 _ _ 217 rfl (by decide +kernel)
      rw [w65] at e6
      refine kt r σ7 o' c1 (by omega) (hd_tr H6 hM7 (by decide +kernel)) ?_ ?_
      · rw [hM7.2.2.2.2.1 0 16 _ _ 16 rfl (sx_bit0 _), hM6.2.2.2.2.1 0 16 _ _ 16 rfl (by decide +kernel)]
        omega
      · rw [hM7.2.2.2.2.1 1 1 _ _ 18 rfl (sx_bit0 _), hM6.2.2.2.2.1 1 1 _ _ 18 rfl (by decide +kernel)]
        omega
end SCB
