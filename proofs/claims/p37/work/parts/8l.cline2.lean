/-! the reader of the class: entry, stands, settings -/
section CL
variable {g : am_C} {L : Nat} {xs : Nat → Int32}
/-- entry, called on a row of the heap -/
theorem rc_entc (G : sx_G0 g L xs z9 hd_C ex_mt) {T : ex_T} {d : Nat} (hdp : 2 ≤ d) {σ : am_S} {o len : Nat} (ho : σ.1[o]? = some (.inr (.int, len))) (hlen : len < 2 ^ 31) {k : Nat} (hk : k < len) {m1 : Int32} (e1 : m1.toInt = k) {lw : List (Nat × Value)} {pc i mi q : Nat} (hT : ex_mt mi = some tX11_entry) (hd : decode T.1.2.1 pc = .ok (.invokestatic i, 3)) (hl : ex_lk ex_mt T pc (.invokestatic i) [0, mi, q] = true) {st : List Value} (hroom : (st.map fun v => v.category).sum ≤ 8) {post : Option (Option Value) → am_S → Prop} (kk : am_K g d T.1 0 0 (pc + 3) lw (.int (σ.2.1 o k) :: st) σ post) : am_K g d T.1 0 0 pc lw (.int m1 :: .ref o :: st) σ post := by
  have z0 : (0 : Int32).toInt = 0 := rfl
  have zn : (nI len).toInt = len := Int32.toInt_ofNat_of_lt hlen
  refine rd_callS G (T2 := tX11_entry) hT hd hl rfl rfl (as := [.ref o, .int m1]) (st := st) rfl (Nat.le_of_ble_eq_true rfl) rfl hroom (d1 := 1) hdp (post1 := fun r σ' => r = some (some (.int (σ.2.1 o k))) ∧ σ' = σ) (fun _ h => by cases h.1) ?_ ?_
  · refine kr_iload_n 1 rd_d_X11_entry_0 rfl ?_
    refine kr_if_lt (tgt := 16) rd_d_X11_entry_1 rfl (fun h => by have := Int32.lt_iff_toInt_lt.mp h; omega) (fun _ => ?_)
    refine kr_iload_n 1 rd_d_X11_entry_4 rfl ?_
    refine kr_aload_n 0 rd_d_X11_entry_5 rfl ?_
    refine kr_alenI G.1 rd_d_X11_entry_6 ho ?_
    refine kr_icmp_ge (tgt := 16) rd_d_X11_entry_7 rfl (fun h => by have := Int32.le_iff_toInt_le.mp h; omega) (fun _ => ?_)
    refine kr_aload_n 0 rd_d_X11_entry_10 rfl ?_
    refine kr_iload_n 1 rd_d_X11_entry_11 rfl ?_
    refine kr_iald G.1 rd_d_X11_entry_12 ho (hd_in e1 hk) ?_
    rw [hd_clamp e1]
    refine kr_goto (tgt := 17) rd_d_X11_entry_13 rfl ?_
    exact kr_ireturn rd_d_X11_entry_17 (ty := .int) rfl rfl ⟨rfl, rfl⟩
  · intro v σ' ⟨hv, hs⟩
    cases hv
    subst hs
    exact kk
/-- entry, called on a row of the class itself -/
theorem rc_entx (G : sx_G0 g L xs z9 hd_C ex_mt) {T : ex_T} {d : Nat} (hdp : 2 ≤ d) {σ : am_S} {x len : Nat} {f : Nat → Int32} (hX : am_X L xs x = some (len, f)) (hlen : len < 2 ^ 31) {k : Nat} (hk : k < len) {m1 : Int32} (e1 : m1.toInt = k) {lw : List (Nat × Value)} {pc i mi q : Nat} (hT : ex_mt mi = some tX11_entry) (hd : decode T.1.2.1 pc = .ok (.invokestatic i, 3)) (hl : ex_lk ex_mt T pc (.invokestatic i) [0, mi, q] = true) {st : List Value} (hroom : (st.map fun v => v.category).sum ≤ 8) {post : Option (Option Value) → am_S → Prop} (kk : am_K g d T.1 0 0 (pc + 3) lw (.int (f k) :: st) σ post) : am_K g d T.1 0 0 pc lw (.int m1 :: .retAddr x :: st) σ post := by
  have z0 : (0 : Int32).toInt = 0 := rfl
  have zn : (nI len).toInt = len := Int32.toInt_ofNat_of_lt hlen
  have hX' : g.2.2.2.2.2.2 x = some (len, f) := by rw [G.2.1]; exact hX
  refine rd_callS G (T2 := tX11_entry) hT hd hl rfl rfl (as := [.retAddr x, .int m1]) (st := st) rfl (Nat.le_of_ble_eq_true rfl) rfl hroom (d1 := 1) hdp (post1 := fun r σ' => r = some (some (.int (f k))) ∧ σ' = σ) (fun _ h => by cases h.1) ?_ ?_
  · refine kr_iload_n 1 rd_d_X11_entry_0 rfl ?_
    refine kr_if_lt (tgt := 16) rd_d_X11_entry_1 rfl (fun h => by have := Int32.lt_iff_toInt_lt.mp h; omega) (fun _ => ?_)
    refine kr_iload_n 1 rd_d_X11_entry_4 rfl ?_
    refine kr_aXload_n 0 rd_d_X11_entry_5 rfl ?_
    refine kr_alenX G.1 rd_d_X11_entry_6 hX' ?_
    refine kr_icmp_ge (tgt := 16) rd_d_X11_entry_7 rfl (fun h => by have := Int32.le_iff_toInt_le.mp h; omega) (fun _ => ?_)
    refine kr_aXload_n 0 rd_d_X11_entry_10 rfl ?_
    refine kr_iload_n 1 rd_d_X11_entry_11 rfl ?_
    refine kr_ialdX G.1 rd_d_X11_entry_12 hX' (hd_in e1 hk) ?_
    rw [hd_clamp e1]
    refine kr_goto (tgt := 17) rd_d_X11_entry_13 rfl ?_
    exact kr_ireturn rd_d_X11_entry_17 (ty := .int) rfl rfl ⟨rfl, rfl⟩
  · intro v σ' ⟨hv, hs⟩
    cases hv
    subst hs
    exact kk
/-- secondsOf of the draft, called -/
theorem rc_soc (G : sx_G0 g L xs z9 hd_C ex_mt) {T : ex_T} {d : Nat} (hdp : 4 ≤ d) {σ : am_S} (hM : sx_M z9 hd_C σ 0 0 σ) {k : Nat} (hk : k < 6) {m1 : Int32} (e1 : m1.toInt = k) {lw : List (Nat × Value)} {pc i mi q : Nat} (hT : ex_mt mi = some tX9_secondsOf) (hd : decode T.1.2.1 pc = .ok (.invokevirtual i, 3)) (hl : ex_lk ex_mt T pc (.invokevirtual i) [0, mi, q] = true) {st : List Value} (hroom : (st.map fun v => v.category).sum ≤ 8) {post : Option (Option Value) → am_S → Prop} (kk : am_K g d T.1 0 0 (pc + 3) lw (.int (σ.2.1 17 k) :: st) σ post) : am_K g d T.1 0 0 pc lw (.int m1 :: .ref 12 :: st) σ post := by
  refine rd_call G (T2 := tX9_secondsOf) hT hd hl rfl (hM.1 12 (.inl 9) rfl) (as := [.int m1]) (st := st) rfl (Nat.le_of_ble_eq_true rfl) rfl hroom (d1 := 3) hdp (post1 := fun r σ' => r = some (some (.int (σ.2.1 17 k))) ∧ σ' = σ) (fun _ h => by cases h.1) ?_ ?_
  · refine kr_aload_n 0 rd_d_X9_secondsOf_0 rfl ?_
    refine kr_getf G.1 (rd_FL rd_k_X9_secondsOf_1).1 rd_d_X9_secondsOf_1 (hM.1 12 (.inl 9) rfl) (v := .ref 17) (by unfold am_fa; rw [(rd_FL rd_k_X9_secondsOf_1).2]; exact hM.2.1 12 4 17 rfl) ?_
    refine kr_iload_n 1 rd_d_X9_secondsOf_4 rfl ?_
    refine rc_entc G (d := 3) (by decide) (hM.1 17 (.inr (.int, 6)) rfl) (by decide) hk e1 rfl rd_d_X9_secondsOf_5 rd_k_X9_secondsOf_5 (by decide) ?_
    exact kr_ireturn rd_d_X9_secondsOf_8 (ty := .int) rfl rfl ⟨rfl, rfl⟩
  · intro v σ' ⟨hv, hs⟩
    cases hv
    subst hs
    exact kk
theorem rc_stands2 (G : sx_G0 g L xs z9 hd_C ex_mt) (hct : rc_ct g) {σ : am_S} {b : Nat → Nat} {n most : Nat} {q : rd_Q} {w k : Nat} (hk : k ≤ 5) (hw9 : w ≤ 10) (t2 : q.1.1 = 2) (hr : 1 ≤ q.1.2.2.2.2 ∧ q.1.2.2.2.2 ≤ 60) (hw : (q.2.1 0).toInt = w) (hh : (q.2.1 1).toInt = k) {post : Option (Option Value) → am_S → Prop} (R : rc_R2 (fun r σ' => post (some (some (.int r))) σ') σ b n most (rd_lineT b n most q k)) : ∀ (m j : Nat) (σ1 : am_S) (lw : List (Nat × Value)) (m2 : Int32), m + j = k → sx_M z9 hd_C σ rc_mK 0 σ1 → rc_E σ1 b n most q (rc_c w k) → rd_fnd q.2.1 (Int32.ofNat q.1.2.2.2.2) k 0 = rd_fnd q.2.1 (Int32.ofNat q.1.2.2.2.2) m j → (0, Value.ref 12) ∈ lw → (1, Value.ref 3) ∈ lw → (2, Value.int m2) ∈ lw → m2.toInt = j → am_K g 30 tX9_readStands.1 0 0 33 lw [] σ1 post := by
  have tk0 : rd_tkf q.1 1 60 = 0 := by unfold rd_tkf; rw [if_pos t2, if_pos hr]
  intro m
  induction m with
  | zero =>
    intro j σ1 lw m2 hm H1 E1 hf hl hl1 hl2 e2
    have s1 : (σ1.2.1 12 8).toInt = k := E1.2.2.1.2.1.trans hh
    have nf : ¬ rd_fnd q.2.1 (Int32.ofNat q.1.2.2.2.2) k 0 = true := by rw [hf]; exact Bool.noConfusion
    refine sg_rs3_run G hct (sx_M_self H1) hl hl1 hl2 (by omega) ?_ ?_
    · intro lw2 y2 c0 σ2 p0 p1 p2 f1 f2 f3 hM2
      omega
    · intro lw2 σ2 p0 p1 f1 hM2
      have E2 := rc_E0 E1 hM2
      have H2 := hd_tr H1 hM2 (by decide +kernel)
      have n6 := E2.2.1.2.2.2.2 t2
      have s2 : (σ2.2.1 12 8).toInt = k := E2.2.2.1.2.1.trans hh
      refine sg_rs5_run G hct (sx_M_self hM2) p0 p1 ?_
      intro lw3 x c1 σ3 q0 q1 f2 f3 hM3
      have E3 := rc_E0 E2 hM3
      have H3 := hd_tr H2 hM3 (by decide +kernel)
      have ex : x.toInt = (q.1.2.2.2.2 : Nat) := by omega
      refine rc_putc G (d := 30) (by decide) (hM3.1 17 (.inr (.int, 6)) rfl) (by decide) (k := k) (by omega) (by omega) rfl rd_d_X9_readStands_77 rd_k_X9_readStands_77 (by decide) ?_
      have H4 := rc_Mup G H3 (r := 4) (k := k) (x := x) (by decide) (by show k < 6; omega) (fun lo' hi' u e => by have := rc_fit (rc_fit17 k (by omega)) lo' hi' u e; omega)
      have E4 := rc_Eput E3 (r := 4) (k := k) (by decide) (by show k < 6; omega) (Nat.le_refl _) x
      rw [rd_ofNat ex] at E4 H4 ⊢
      refine sg_rs6_run G hct (sx_M_self H4) q0 q1 ?_
      intro lw5 σ5 u0 u1 hM5
      have E5 := rc_E0 E4 hM5
      have H5 := hd_tr H4 hM5 (by decide +kernel)
      refine rc_stc G hct (d := 30) (by decide) (sx_M_self hM5) E5.1 (E5.2.1.2.2.1 (Or.inr (Or.inl t2))) rfl rd_d_X9_readStands_81 rd_k_X9_readStands_81 (by decide) ?_
      intro σ6 hM6 N6
      have E6 : rc_E σ6 b n most (rd_tok b n most q.1.2.2.2.1, rd_up q.2.1 (42 + k) (Int32.ofNat q.1.2.2.2.2), q.2.2) (rc_cu (rc_c w k) 4 (max (rc_c w k 4) (k + 1))) := rc_En E5 hM6 N6
      have H6 := hd_tr H5 hM6 (by decide +kernel)
      have hh6 : (rd_up q.2.1 (42 + k) (Int32.ofNat q.1.2.2.2.2) 1).toInt = k := by rw [rd_up_n _ _ (by omega)]; exact hh
      have s6 : (σ6.2.1 12 8).toInt = k := E6.2.2.1.2.1.trans hh6
      refine sg_rs7_run G hct (sx_M_self hM6) u0 u1 ?_
      intro lw7 c3 c4 c5 σ7 v0 v1 f4 f5 f6 hM7
      have E7 := rc_E0 E6 hM7
      have H7 := hd_tr H6 hM7 (by decide +kernel)
      refine rc_intoc18 G hct (d := 30) (by decide) (sx_M_self hM7) E7 (k := k) (lo := 1) (hi := 9) (by omega) (Nat.le_refl _) (rc_fit (rc_fit18 k (by omega))) (by omega) (by omega) (by omega) rfl rd_d_X9_readStands_96 rd_k_X9_readStands_96 ⟨?_, ?_⟩
      · intro r σ8 kd at' a1 a2 a3 a4 a5
        refine sg_rs8z_run G hct (sx_M_self a3) v0 v1 (by omega) ?_
        intro r9 σ9 f7 hM9
        have f78 := rc_F78 hM9
        exact R.1 r9 σ9 kd at' (by unfold rd_lineT; rw [if_pos tk0, if_neg nf]; show rd_bd (rd_put1 b n most (rd_tok b n most q.1.2.2.2.1, rd_up q.2.1 (42 + k) (Int32.ofNat q.1.2.2.2.2), q.2.2) (48 + k) 1 9) _ = _; rw [a1]; rfl) (by omega) (hd_tr (hd_tr (rc_KL H7) a3 (by decide +kernel)) hM9 (by decide +kernel)) (by rw [f78.1]; exact a4) (by rw [f78.2]; exact a5)
      · intro r8 σ8 q8 a1 a2 a3 E8
        have H8 := hd_tr H7 a3 (by decide +kernel)
        have hh8 : (q8.2.1 1).toInt = k := by rw [rd_put1_h a1 (by omega)]; exact hh6
        have hw8 : (q8.2.1 0).toInt = w := by
          rw [rd_put1_h a1 (by omega)]
          show (rd_up q.2.1 (42 + k) (Int32.ofNat q.1.2.2.2.2) 0).toInt = w
          rw [rd_up_n _ _ (by omega)]
          exact hw
        have s8 : (σ8.2.1 12 8).toInt = k := E8.2.2.1.2.1.trans hh8
        refine sg_rs8_run G hct (sx_M_self a3) v0 v1 (by omega) (by omega) ?_
        intro r9 σ9 f7 f8 hM9
        refine R.2 r9 σ9 (q8.1, rd_up q8.2.1 1 (Int32.ofNat (k + 1)), q8.2.2) (by unfold rd_lineT; rw [if_pos tk0, if_neg nf]; show rd_bd (rd_put1 b n most (rd_tok b n most q.1.2.2.2.1, rd_up q.2.1 (42 + k) (Int32.ofNat q.1.2.2.2.2), q.2.2) (48 + k) 1 9) _ = _; rw [a1]; rfl) (by omega) (hd_tr H8 hM9 (by decide +kernel)) ?_
        have E9 := rc_Ecnt E8 hM9 (Or.inr ⟨rfl, rfl⟩) (v := k + 1) (by show (σ9.2.1 12 8).toInt = _; omega) (by omega)
        unfold rc_E2
        refine rc_Ec E9 (fun r hr => ?_)
        have z1 : ((rd_up q8.2.1 1 (Int32.ofNat (k + 1)) 0).toInt.toNat) = w := by rw [rd_up_n _ _ (by decide), hw8, Int.toNat_natCast]
        have z2 : ((rd_up q8.2.1 1 (Int32.ofNat (k + 1)) 1).toInt.toNat) = k + 1 := by rw [rd_up_s, hd_ti (by omega), Int.toNat_natCast]
        show rc_c ((rd_up q8.2.1 1 (Int32.ofNat (k + 1)) 0).toInt.toNat) ((rd_up q8.2.1 1 (Int32.ofNat (k + 1)) 1).toInt.toNat) r = _
        rw [z1, z2]
        have r7 : r = 0 ∨ r = 1 ∨ r = 2 ∨ r = 3 ∨ r = 4 ∨ r = 5 ∨ r = 6 := by omega
        rcases r7 with rfl | rfl | rfl | rfl | rfl | rfl | rfl
        · rfl
        · rfl
        · rfl
        · rfl
        · show k + 1 = max k (k + 1)
          omega
        · show k + 1 = max k (k + 1)
          omega
        · rfl
  | succ m ih =>
    intro j σ1 lw m2 hm H1 E1 hf hl hl1 hl2 e2
    have s1 : (σ1.2.1 12 8).toInt = k := E1.2.2.1.2.1.trans hh
    refine sg_rs3_run G hct (sx_M_self H1) hl hl1 hl2 (by omega) ?_ ?_
    · intro lw2 y2 c0 σ2 p0 p1 p2 f1 f2 f3 hM2
      have E2 := rc_E0 E1 hM2
      have H2 := hd_tr H1 hM2 (by decide +kernel)
      have n6 := E2.2.1.2.2.2.2 t2
      have n4 := E2.2.1.2.1
      refine rc_soc G (d := 30) (by decide) (sx_M_self hM2) (k := j) (by omega) (by omega) rfl rd_d_X9_readStands_43 rd_k_X9_readStands_43 (by decide) ?_
      have ev : σ2.2.1 17 j = q.2.1 (42 + j) := (E2.2.2.1.2.2.2 4 (by decide)).2 j (by show j < k; omega)
      rw [ev]
      have fe : rd_fnd q.2.1 (Int32.ofNat q.1.2.2.2.2) (m + 1) j = (q.2.1 (42 + j) == Int32.ofNat q.1.2.2.2.2 || rd_fnd q.2.1 (Int32.ofNat q.1.2.2.2.2) m (j + 1)) := rfl
      have hne : (q.2.1 (42 + j)).toInt ≠ (q.1.2.2.2.2 : Nat) → rd_fnd q.2.1 (Int32.ofNat q.1.2.2.2.2) k 0 = rd_fnd q.2.1 (Int32.ofNat q.1.2.2.2.2) m (j + 1) := by
        intro h
        rw [hf, fe]
        have : (q.2.1 (42 + j) == Int32.ofNat q.1.2.2.2.2) = false := by
          rw [beq_eq_false_iff_ne]
          intro h2
          apply h
          rw [h2]
          exact hd_ti (by omega)
        rw [this, Bool.false_or]
      have lo1 := Int32.le_toInt (q.2.1 (42 + j))
      have hi1 := Int32.toInt_lt (q.2.1 (42 + j))
      rcases Int.lt_trichotomy (q.2.1 (42 + j)).toInt (q.1.2.2.2.2 : Nat) with h | h | h
      · refine sg_rs4b_run G hct (sx_M_self hM2) p0 p1 p2 (by omega) (by omega) ?_
        intro lw3 y3 σ3 q0 q1 q2 f5 hM3
        exact ih (j + 1) σ3 lw3 y3 (by omega) (hd_tr H2 hM3 (by decide +kernel)) (rc_E0 E2 hM3) (hne (by omega)) q0 q1 q2 (by omega)
      · refine sg_rs4a_run G hct (sx_M_self hM2) p0 p1 (by omega) ?_
        intro r3 σ3 f5 f6 f7 hM3
        have fy : rd_fnd q.2.1 (Int32.ofNat q.1.2.2.2.2) k 0 = true := by
          rw [hf, fe, rd_ofNat h]
          simp
        exact R.1 r3 σ3 3 q.1.2.1 (by unfold rd_lineT; rw [if_pos tk0, if_pos fy]) (by omega) (hd_tr (rc_KL H2) hM3 (by decide +kernel)) (by show _ = (3 : Int); omega) (by omega)
      · refine sg_rs4c_run G hct (sx_M_self hM2) p0 p1 p2 (by omega) (by omega) ?_
        intro lw3 y3 σ3 q0 q1 q2 f5 hM3
        exact ih (j + 1) σ3 lw3 y3 (by omega) (hd_tr H2 hM3 (by decide +kernel)) (rc_E0 E2 hM3) (hne (by omega)) q0 q1 q2 (by omega)
    · intro lw2 σ2 p0 p1 f1 hM2
      omega
theorem rc_stands (G : sx_G0 g L xs z9 hd_C ex_mt) (hct : rc_ct g) {σ : am_S} (hM : sx_M z9 hd_C σ 0 0 σ) {b : Nat → Nat} {n most : Nat} {q : rd_Q} (E : rc_E2 σ b n most q) (t1 : q.1.1 = 1) {lw : List (Nat × Value)} (hl : (0, Value.ref 12) ∈ lw) (hl1 : (1, Value.ref 3) ∈ lw) {post : Option (Option Value) → am_S → Prop} (R : rc_R2 (fun r σ' => post (some (some (.int r))) σ') σ b n most (if (q.2.1 1).toInt = 6 then .inl (4, q.1.2.1) else rd_lineT b n most (rd_nx b n most q) (q.2.1 1).toInt.toNat)) : am_K g 30 tX9_readStands.1 0 0 0 lw [] σ post := by
  have k0 : (0 : Int) ≤ (σ.2.1 12 7).toInt ∧ (σ.2.1 12 7).toInt ≤ (10 : Int) := hM.2.2.1 12 7 _ _ 54 rfl
  have k1 : (0 : Int) ≤ (σ.2.1 12 8).toInt ∧ (σ.2.1 12 8).toInt ≤ (6 : Int) := hM.2.2.1 12 8 _ _ 55 rfl
  have e0 := E.2.2.1.1
  have e1 := E.2.2.1.2.1
  have n2 := E.2.1.2.1
  by_cases h10 : (q.2.1 1).toInt = 6
  · rw [if_pos h10] at R
    refine sg_rs1a_run G hct hM hl hl1 (by omega) ?_
    intro r σ' f1 f2 f3 hM'
    exact R.1 r σ' 4 q.1.2.1 rfl (by omega) (sx_M_mask (by decide +kernel) hM') (by show _ = (4 : Int); omega) (by omega)
  · rw [if_neg h10] at R
    obtain ⟨w, hw⟩ : ∃ w : Nat, (q.2.1 0).toInt = w := ⟨(q.2.1 0).toInt.toNat, by omega⟩
    obtain ⟨s, hs⟩ : ∃ s : Nat, (q.2.1 1).toInt = s := ⟨(q.2.1 1).toInt.toNat, by omega⟩
    unfold rc_E2 at E
    rw [hw, hs, Int.toNat_natCast, Int.toNat_natCast] at E
    rw [hs, Int.toNat_natCast] at R
    refine sg_rs1b_run G hct hM hl hl1 (by omega) ?_
    intro lw1 σ1 p0 p1 hM1
    have E1 := rc_E0 E hM1
    have H1 : sx_M z9 hd_C σ rc_mK 0 σ1 := sx_M_mask (by decide +kernel) hM1
    refine rc_stc G hct (d := 30) (by decide) (sx_M_self hM1) E1.1 (E1.2.1.2.2.1 (Or.inl t1)) rfl rd_d_X9_readStands_16 rd_k_X9_readStands_16 (by decide) ?_
    intro σ2 hM2 N2
    have E2 : rc_E σ2 b n most (rd_nx b n most q) (rc_c w s) := rc_En E1 hM2 N2
    have H2 := hd_tr H1 hM2 (by decide +kernel)
    have m1 := E2.2.1.1
    have m2 := E2.2.1.2.1
    have k5 := rc_kd5 (rd_gd_4 E2.2.2.2)
    by_cases t2 : (rd_nx b n most q).1.1 = 2
    · have kd3 := k5.2.2.1.mpr t2
      have m6 := E2.2.1.2.2.2.2 t2
      have bad : ¬ (1 ≤ (rd_nx b n most q).1.2.2.2.2 ∧ (rd_nx b n most q).1.2.2.2.2 ≤ 60) → rd_lineT b n most (rd_nx b n most q) s = .inl (2, (rd_nx b n most q).1.2.1) := by
        intro h
        have e : rd_tkf (rd_nx b n most q).1 1 60 = 2 := by unfold rd_tkf; rw [if_pos t2, if_neg h]
        unfold rd_lineT
        rw [e]
        rfl
      refine sg_rs2_run G hct (sx_M_self hM2) p0 p1 (by omega) ?_ ?_ ?_
      · intro r σ3 f2 f3 f4 f5 hM3
        exact R.1 r σ3 2 _ (bad (by omega)) (by omega) (hd_tr (rc_KL H2) hM3 (by decide +kernel)) (by show _ = (2 : Int); omega) (by omega)
      · intro r σ3 f2 f3 f4 f5 hM3
        exact R.1 r σ3 2 _ (bad (by omega)) (by omega) (hd_tr (rc_KL H2) hM3 (by decide +kernel)) (by show _ = (2 : Int); omega) (by omega)
      · intro lw3 y3 σ3 i0 i1 i2 f2 f3 hM3
        exact rc_stands2 G hct (σ := σ) (q := rd_nx b n most q) (w := w) (k := s) (by omega) (by omega) t2 (by omega) hw hs R s 0 σ3 lw3 y3 (by omega) (hd_tr H2 hM3 (by decide +kernel)) (rc_E0 E2 hM3) rfl i0 i1 i2 (by omega)
    · have ne : rc_kd (rd_nx b n most q).1.1 ≠ 3 := fun h => t2 (k5.2.2.1.mp h)
      have kd4 := k5.1
      have bad : rd_lineT b n most (rd_nx b n most q) s = .inl (1, (rd_nx b n most q).1.2.1) := by
        have e : rd_tkf (rd_nx b n most q).1 1 60 = 1 := by unfold rd_tkf; rw [if_neg t2]
        unfold rd_lineT
        rw [e]
        rfl
      by_cases t3 : rc_kd (rd_nx b n most q).1.1 ≤ 2
      · refine sg_rs2a_run G hct (sx_M_self hM2) p0 p1 (by omega) ?_
        intro r σ3 f2 f3 f4 hM3
        exact R.1 r σ3 1 _ bad (by omega) (hd_tr (rc_KL H2) hM3 (by decide +kernel)) (by show _ = (1 : Int); omega) (by omega)
      · refine sg_rs2b_run G hct (sx_M_self hM2) p0 p1 (by omega) ?_
        intro r σ3 f2 f3 f4 hM3
        exact R.1 r σ3 1 _ bad (by omega) (hd_tr (rc_KL H2) hM3 (by decide +kernel)) (by show _ = (1 : Int); omega) (by omega)
end CL
