/-! the class's SENTENCE against the same machine: tools -/
theorem sc_b0 {x : Int32} (h : x.toInt = 0) : x = 0 := Int32.toInt_inj.mp (h.trans rfl)
theorem sc_b1 {x : Int32} (h : x.toInt ≠ 0) : ¬ x = 0 := fun e => h (by rw [e]; rfl)
theorem sc_bI {x : Int32} (h : x.toInt = 1) : x = 1 := Int32.toInt_inj.mp (h.trans rfl)
theorem sc_ldcS {g : am_C} {L : Nat} {xs : Nat → Int32} {Z : sx_Z} {C : Nat → am_S → Prop} (G : sx_G0 g L xs Z C ex_mt) {T : ex_T} {pc i k p z : Nat} (hd : decode T.1.2.1 pc = .ok (.ldc i, 2)) (hl : ex_lk ex_mt T pc (.ldc i) [k, p, z] = true) {d mc ms : Nat} {lv : List (Nat × Value)} {st : List Value} {σ : am_S} {post : Option (Option Value) → am_S → Prop} (kk : am_K g d T.1 mc ms (pc + 2) lv (.retAddr k :: st) σ post) : am_K g d T.1 mc ms pc lv st σ post := by
  have hl' : (decide (am_sx T.1.1.cls i = k) && (match lw_at p with
    | some (.stringRef o j _) => decide (o = T.1.1.cls) && decide (j = i)
    | _ => false)) = true := hl
  rw [Bool.and_eq_true, decide_eq_true_eq] at hl'
  obtain ⟨l1, l2⟩ := hl'
  split at l2
  · rename_i o j tx hq
    simp only [Bool.and_eq_true, decide_eq_true_eq] at l2
    rw [l2.1, l2.2] at hq
    exact kr_ldcS G.1 hd (lw_at_mem hq) l1 kk
  · cases l2
/-- what emit writes -/
def sc_mQ : Nat := Nat.lor (Nat.shiftLeft 1 216) (Nat.shiftLeft 1 218)
/-- what reading a SENTENCE writes: reader, draft -/
def sc_m : Nat := Nat.lor rc_mN (Nat.lor rc_m78 (Nat.lor (Nat.shiftLeft 3 216) (Nat.shiftLeft 1 218)))
def sc_E (σ : am_S) (b : Nat → Nat) (n o : Nat) (t : rd_K) : Prop := rc_X σ b n 200 ∧ rc_N σ t ∧ rd_gd b n 200 t ∧ (σ.2.1 65 3).toInt = (o : Nat) ∧ o ≤ 20 ∧ (σ.2.1 3 7).toInt = 0
theorem sc_E0 {σ σ' : am_S} {m : Nat} {b : Nat → Nat} {n o : Nat} {t : rd_K} (E : sc_E σ b n o t) (h : sx_M z9 hd_C σ m 0 σ') (hm : (Nat.lor m sc_mQ).beq sc_mQ = true) : sc_E σ' b n o t := by
  have fr : ∀ u, sx_bit sc_mQ u = false → sx_bit m u = false := fun u q => sx_lor_sub hm q
  refine ⟨rc_Xm E.1 h (fr 18 (by decide +kernel)) (fr 19 (by decide +kernel)) (fr 21 (by decide +kernel)), rc_N0 E.2.1 h (fr 22 (by decide +kernel)) (fr 23 (by decide +kernel)) (fr 24 (by decide +kernel)) (fr 25 (by decide +kernel)) (fr 26 (by decide +kernel)), E.2.2.1, ?_, E.2.2.2.2.1, ?_⟩
  · rw [h.2.2.2.2.1 65 3 _ _ 217 rfl (fr 217 (by decide +kernel))]; exact E.2.2.2.1
  · rw [h.2.2.2.2.1 3 7 _ _ 27 rfl (fr 27 (by decide +kernel))]; exact E.2.2.2.2.2
theorem sc_En {σ σ' : am_S} {b : Nat → Nat} {n o : Nat} {t : rd_K} (E : sc_E σ b n o t) (h : sx_M z9 hd_C σ rc_mN 0 σ') (N : rc_N σ' (sn_nx b n t)) : sc_E σ' b n o (sn_nx b n t) := by
  refine ⟨rc_Xm E.1 h (by decide +kernel) (by decide +kernel) (by decide +kernel), N, (rd_gd_x E.2.2.1).1, ?_, E.2.2.2.2.1, ?_⟩
  · rw [h.2.2.2.2.1 65 3 _ _ 217 rfl (by decide +kernel)]; exact E.2.2.2.1
  · rw [h.2.2.2.2.1 3 7 _ _ 27 rfl (by decide +kernel)]; exact E.2.2.2.2.2
theorem sc_E1 {σ σ' : am_S} {b : Nat → Nat} {n o o' : Nat} {t : rd_K} (E : sc_E σ b n o t) (h : sx_M z9 hd_C σ (Nat.shiftLeft 1 217) 0 σ') (e : (σ'.2.1 65 3).toInt = (o' : Nat)) (ho : o' ≤ 20) : sc_E σ' b n o' t := by
  refine ⟨rc_Xm E.1 h (by decide +kernel) (by decide +kernel) (by decide +kernel), rc_N0 E.2.1 h (by decide +kernel) (by decide +kernel) (by decide +kernel) (by decide +kernel) (by decide +kernel), E.2.2.1, e, ho, ?_⟩
  rw [h.2.2.2.2.1 3 7 _ _ 27 rfl (by decide +kernel)]; exact E.2.2.2.2.2
/-! a number has three digits at most -/
theorem sc_nm {b : Nat → Nat} : ∀ (j s v : Nat), rd_all rd_dgt b j s = true → rd_nm b j s v + 1 ≤ 10 ^ j * (v + 1)
  | 0, s, v, _ => by show v + 1 ≤ 1 * (v + 1); omega
  | j + 1, s, v, h => by
    have h' : (rd_dgt (b s) && rd_all rd_dgt b j (s + 1)) = true := h
    rw [Bool.and_eq_true] at h'
    have hd : (Nat.ble 48 (b s) && Nat.ble (b s) 57) = true := h'.1
    rw [Bool.and_eq_true] at hd
    have h57 := Nat.le_of_ble_eq_true hd.2
    have ih := sc_nm j (s + 1) (10 * v + b s - 48) h'.2
    show rd_nm b j (s + 1) (10 * v + b s - 48) + 1 ≤ 10 ^ (j + 1) * (v + 1)
    refine Nat.le_trans ih ?_
    rw [Nat.pow_succ, Nat.mul_assoc]
    exact Nat.mul_le_mul_left _ (by omega)
theorem sc_999t {b : Nat → Nat} {n most s : Nat} (h : (rd_tk1 b n most s).1 = 2) : (rd_tk1 b n most s).2.2.2.2 ≤ 999 := by
  unfold rd_tk1 at h ⊢
  split
  · rename_i h1
    rw [if_pos h1] at h
    cases h
  · rename_i h1
    rw [if_neg h1] at h
    split
    · rename_i h2
      rw [if_pos h2] at h
      cases h
    · rename_i h2
      rw [if_neg h2] at h
      split
      · rename_i h3
        rw [if_pos h3] at h
        unfold rd_tk2 at h ⊢
        generalize hL : rd_rn b n (n - s) s - s = j at h ⊢
        have h' : (if rd_all rd_ltr b j s = true ∧ j ≤ 7 then 1 else if rd_all rd_dgt b j s = true ∧ j ≤ 3 then 2 else 4) = 2 := h
        have hj : rd_all rd_dgt b j s = true ∧ j ≤ 3 := by
          split at h'
          · cases h'
          · split at h'
            · rename_i q; exact q
            · cases h'
        show rd_nm b j s 0 ≤ 999
        have h9 := sc_nm j s 0 hj.1
        have j4 : j = 0 ∨ j = 1 ∨ j = 2 ∨ j = 3 := by omega
        rcases j4 with rfl | rfl | rfl | rfl <;> omega
      · rename_i h3
        rw [if_neg h3] at h
        have h' : (if rd_sgn (b s) = true then 3 else 4 : Nat) = 2 := h
        split at h' <;> cases h'
theorem sc_999 {b : Nat → Nat} {n most : Nat} {t : rd_K} (h : rd_gd b n most t) (t2 : t.1 = 2) : t.2.2.2.2 ≤ 999 := by
  obtain ⟨p, hp, rfl⟩ := h
  exact sc_999t (s := rd_sk b n (n - p) p) t2
/-! which word -/
theorem sc_isk1 {b : Nat → Nat} {k : Nat} {t : rd_K} (h : sn_isk b k t = true) : t.1 = 1 := by
  unfold sn_isk rd_isw at h
  rw [Bool.and_eq_true, beq_iff_eq] at h
  exact h.1
theorem sc_lf1 {b : Nat → Nat} {t : rd_K} (h : 0 ≤ sn_lf b t) : t.1 = 1 := by
  unfold sn_lf at h
  by_cases h1 : sn_isk b 1 t = true
  · exact sc_isk1 h1
  rw [if_neg h1] at h
  by_cases h2 : sn_isk b 2 t = true
  · exact sc_isk1 h2
  rw [if_neg h2] at h
  by_cases h3 : sn_isk b 3 t = true
  · exact sc_isk1 h3
  rw [if_neg h3] at h
  by_cases h4 : sn_isk b 4 t = true
  · exact sc_isk1 h4
  rw [if_neg h4] at h
  by_cases h5 : sn_isk b 5 t = true
  · exact sc_isk1 h5
  rw [if_neg h5] at h
  by_cases h6 : sn_isk b 6 t = true
  · exact sc_isk1 h6
  rw [if_neg h6] at h
  by_cases h7 : sn_isk b 7 t = true
  · exact sc_isk1 h7
  rw [if_neg h7] at h
  omega
theorem sc_lf6 {b : Nat → Nat} {t : rd_K} : -1 ≤ sn_lf b t ∧ sn_lf b t ≤ 6 := by
  unfold sn_lf
  repeat' split
  all_goals omega
theorem sc_wh0 {b : Nat → Nat} {t : rd_K} (h : sn_isk b 0 t = true) : sn_wh b t = 0 := by
  unfold sn_wh
  rw [if_pos h]
theorem sc_wh1 {b : Nat → Nat} {t : rd_K} (h : ¬ sn_isk b 0 t = true) : sn_wh b t = (if 0 ≤ sn_lf b t then sn_lf b t + 1 else -1) := by
  unfold sn_wh sn_lf
  rw [if_neg h]
  by_cases h1 : sn_isk b 1 t = true
  · simp only [if_pos h1]; rfl
  simp only [if_neg h1]
  by_cases h2 : sn_isk b 2 t = true
  · simp only [if_pos h2]; rfl
  simp only [if_neg h2]
  by_cases h3 : sn_isk b 3 t = true
  · simp only [if_pos h3]; rfl
  simp only [if_neg h3]
  by_cases h4 : sn_isk b 4 t = true
  · simp only [if_pos h4]; rfl
  simp only [if_neg h4]
  by_cases h5 : sn_isk b 5 t = true
  · simp only [if_pos h5]; rfl
  simp only [if_neg h5]
  by_cases h6 : sn_isk b 6 t = true
  · simp only [if_pos h6]; rfl
  simp only [if_neg h6]
  by_cases h7 : sn_isk b 7 t = true
  · simp only [if_pos h7]; rfl
  simp only [if_neg h7]
  rfl
theorem sc_sg3 {t : rd_K} {c : Nat} (h : rd_sgf t c = 0) : t.1 = 3 := by
  unfold rd_sgf at h
  split at h
  · rename_i q; exact q.1
  · cases h
/-! the machine's steps -/
theorem so_1 {b : Nat → Nat} {n : Nat} {F : List Bool} {o : Nat} {t : rd_K} {y : sn_X} (h : sn_one b n F o t = y) : sn_go b n (.inr (false, F, o, t)) y := sn_go_1 h
theorem so_f1 {b : Nat → Nat} {n : Nat} {F : List Bool} {o : Nat} {t : rd_K} (h : ¬ (sn_isk b 0 t = true ∨ rd_sgf t 40 = 0 ∨ 0 ≤ sn_lf b t)) : sn_one b n F o t = .inl (.inl (1, t.2.1)) := by unfold sn_one; rw [if_neg h]
theorem so_f4 {b : Nat → Nat} {n : Nat} {F : List Bool} {o : Nat} {t : rd_K} (h : sn_isk b 0 t = true ∨ rd_sgf t 40 = 0 ∨ 0 ≤ sn_lf b t) (h4 : o = 20 ∨ 8 < F.length + 1) : sn_one b n F o t = .inl (.inl (4, t.2.1)) := by unfold sn_one; rw [if_pos h, if_pos h4]
theorem so_nt {b : Nat → Nat} {n : Nat} {F : List Bool} {o : Nat} {t : rd_K} (h : sn_isk b 0 t = true) (h4 : ¬ (o = 20 ∨ 8 < F.length + 1)) : sn_one b n F o t = .inr (false, true :: F, o + 1, sn_nx b n t) := by unfold sn_one; rw [if_pos (Or.inl h), if_neg h4, if_pos h]
theorem so_br {b : Nat → Nat} {n : Nat} {F : List Bool} {o : Nat} {t : rd_K} (h : rd_sgf t 40 = 0) (h4 : ¬ (o = 20 ∨ 8 < F.length + 1)) : sn_one b n F o t = .inr (false, false :: F, o + 1, sn_nx b n t) := by
  have h0 : ¬ sn_isk b 0 t = true := fun q => by have := sc_isk1 q; have := sc_sg3 h; omega
  unfold sn_one; rw [if_pos (Or.inr (Or.inl h)), if_neg h4, if_neg h0, if_pos h]
theorem so_lf {b : Nat → Nat} {n : Nat} {F : List Bool} {o : Nat} {t : rd_K} (h0 : ¬ sn_isk b 0 t = true) (h : 0 ≤ sn_lf b t) (h4 : ¬ (o = 20 ∨ 8 < F.length + 1)) : sn_one b n F o t = (if sn_lf b t < 3 then .inr (true, F, o + 1, sn_nx b n t)
    else if (sn_nx b n t).1 = 3 ∧ 60 ≤ (sn_nx b n t).2.2.2.2 ∧ (sn_nx b n t).2.2.2.2 ≤ 62 then
      (if (sn_nx b n (sn_nx b n t)).1 = 2 then .inr (true, F, o + 1, sn_nx b n (sn_nx b n (sn_nx b n t))) else .inl (.inl (1, (sn_nx b n (sn_nx b n t)).2.1)))
    else .inl (.inl (1, (sn_nx b n t).2.1))) := by
  have hb : ¬ rd_sgf t 40 = 0 := fun q => by have := sc_lf1 h; have := sc_sg3 q; omega
  unfold sn_one; rw [if_pos (Or.inr (Or.inr h)), if_neg h4, if_neg h0, if_neg hb]
theorem so_bt {b : Nat → Nat} {n : Nat} {F : List Bool} {o : Nat} {t : rd_K} : sn_go b n (.inr (true, true :: F, o, t)) (.inr (true, F, o, t)) := sn_go_1 rfl
theorem so_ba {b : Nat → Nat} {n : Nat} {F : List Bool} {o : Nat} {t : rd_K} (hF : ∀ F', F ≠ true :: F') (h : sn_isk b 8 t = true ∨ sn_isk b 9 t = true) : sn_go b n (.inr (true, F, o, t)) (.inr (false, F, o, sn_nx b n t)) := by
  refine sn_go_1 ?_
  show sn_beh b n F o t = _
  match F, hF with
  | [], _ => rw [sn_beh_n, if_pos h]
  | true :: F', hF => exact absurd rfl (hF F')
  | false :: F', _ => rw [sn_beh_f, if_pos h]
theorem so_bc {b : Nat → Nat} {n : Nat} {F : List Bool} {o : Nat} {t : rd_K} (h : ¬ (sn_isk b 8 t = true ∨ sn_isk b 9 t = true)) : sn_go b n (.inr (true, false :: F, o, t)) (if rd_sgf t 41 = 0 then .inr (true, F, o, sn_nx b n t) else .inl (.inl (1, t.2.1))) := by
  refine sn_go_1 ?_
  show sn_beh b n (false :: F) o t = _
  rw [sn_beh_f, if_neg h]
theorem so_be {b : Nat → Nat} {n : Nat} {o : Nat} {t : rd_K} (h : ¬ (sn_isk b 8 t = true ∨ sn_isk b 9 t = true)) : sn_go b n (.inr (true, [], o, t)) (if t.1 = 0 then .inl (.inr o) else .inl (.inl (1, t.2.1))) := by
  refine sn_go_1 ?_
  show sn_beh b n [] o t = _
  rw [sn_beh_n, if_neg h]
theorem sn_st_in {b : Nat → Nat} {n : Nat} (hn : n ≤ 940) : ∀ x : sn_X, sn_in b n x → sn_in b n (sn_st b n x)
  | .inl _, h => h
  | .inr (true, F, _, _), h => sn_beh_in hn h F
  | .inr (false, _, _, _), h => sn_one_in hn h
theorem sn_it_in {b : Nat → Nat} {n : Nat} (hn : n ≤ 940) : ∀ (k : Nat) (x : sn_X), sn_in b n x → sn_in b n (sn_it b n k x)
  | 0, _, h => h
  | k + 1, x, h => sn_it_in hn k (sn_st b n x) (sn_st_in hn x h)
theorem sn_go_in {b : Nat → Nat} {n : Nat} (hn : n ≤ 940) {x y : sn_X} (h : sn_go b n x y) (hx : sn_in b n x) : sn_in b n y := by
  obtain ⟨k, rfl⟩ := h
  exact sn_it_in hn k x hx
section SCT
variable {g : am_C} {L : Nat} {xs : Nat → Int32}
theorem sc_isAtc (G : sx_G0 g L xs z9 hd_C ex_mt) (hct : rc_ct g) {T : ex_T} {d : Nat} (hdp : 7 ≤ d) {σ : am_S} (hM : sx_M z9 hd_C σ 0 0 σ) {b : Nat → Nat} {n o : Nat} {t : rd_K} (E : sc_E σ b n o t) {c : Nat} {m1 : Int32} (h1 : m1.toInt = c) {lw : List (Nat × Value)} {pc i mi q : Nat} (hT : ex_mt mi = some tX6_isAt) (hd : decode T.1.2.1 pc = .ok (.invokevirtual i, 3)) (hl : ex_lk ex_mt T pc (.invokevirtual i) [0, mi, q] = true) {st : List Value} (hroom : (st.map fun v => v.category).sum ≤ 8) {post : Option (Option Value) → am_S → Prop} (kk : ∀ (r : Int32) σ', sx_M z9 hd_C σ 0 0 σ' → r.toInt = (if rd_sgf t c = 0 then 1 else 0) → am_K g d T.1 0 0 (pc + 3) lw (.int r :: st) σ' post) : am_K g d T.1 0 0 pc lw (.int m1 :: .ref 3 :: st) σ post := by
  refine rd_call G (T2 := tX6_isAt) hT hd hl rfl (hM.1 3 (.inl 6) rfl) (as := [.int m1]) (st := st) rfl (Nat.le_of_ble_eq_true rfl) rfl hroom (d1 := 6) hdp (post1 := fun r σ' => ∃ y : Int32, r = some (some (.int y)) ∧ sx_M z9 hd_C σ 0 0 σ' ∧ y.toInt = (if rd_sgf t c = 0 then 1 else 0)) (fun _ h => by obtain ⟨y, h, -⟩ := h; cases h) (rc_isAt G hct hM E.1 E.2.1 E.2.2.1 (c := c) (by simp [lv_args, Value.category]) (m1 := m1) (by simp [lv_args, Value.category]) h1 (fun r σ' a1 a2 => ⟨r, rfl, a1, a2⟩)) ?_
  intro v σ' ⟨y, hv, a1, a2⟩
  cases hv
  exact kk y σ' a1 a2
theorem sc_wnc (G : sx_G0 g L xs z9 hd_C ex_mt) (hct : rc_ct g) {T : ex_T} {d : Nat} (hdp : 16 ≤ d) {σ : am_S} (hM : sx_M z9 hd_C σ 0 0 σ) {b : Nat → Nat} {n o : Nat} {t : rd_K} (E : sc_E σ b n o t) {lw : List (Nat × Value)} {pc i mi q : Nat} (hT : ex_mt mi = some tX6_wordOf) (hd : decode T.1.2.1 pc = .ok (.invokevirtual i, 3)) (hl : ex_lk ex_mt T pc (.invokevirtual i) [0, mi, q] = true) {st : List Value} (hroom : (st.map fun v => v.category).sum ≤ 8) {post : Option (Option Value) → am_S → Prop} (kk : ∀ (r : Int32) σ', sx_M z9 hd_C σ 0 0 σ' → r.toInt = sn_wh b t → am_K g d T.1 0 0 (pc + 3) lw (.int r :: st) σ' post) : am_K g d T.1 0 0 pc lw (.retAddr 19078 :: .ref 3 :: st) σ post := by
  refine rd_call G (T2 := tX6_wordOf) hT hd hl rfl (hM.1 3 (.inl 6) rfl) (as := [.retAddr 19078]) (st := st) rfl (Nat.le_of_ble_eq_true rfl) rfl hroom (d1 := 15) hdp (post1 := fun r σ' => ∃ y : Int32, r = some (some (.int y)) ∧ sx_M z9 hd_C σ 0 0 σ' ∧ y.toInt = sn_wh b t) (fun _ h => by obtain ⟨y, h, -⟩ := h; cases h) (sn_wordOf G hct hM E.1 E.2.1 (rd_gd_s E.2.2.1).2 (by simp [lv_args, Value.category]) (by simp [lv_args, Value.category]) (fun r σ' a1 a2 => ⟨r, rfl, a1, a2⟩)) ?_
  intro v σ' ⟨y, hv, a1, a2⟩
  cases hv
  exact kk y σ' a1 a2
theorem sc_wac (G : sx_G0 g L xs z9 hd_C ex_mt) (hct : rc_ct g) {T : ex_T} {d : Nat} (hdp : 16 ≤ d) {σ : am_S} (hM : sx_M z9 hd_C σ 0 0 σ) {b : Nat → Nat} {n o : Nat} {t : rd_K} (E : sc_E σ b n o t) {lw : List (Nat × Value)} {pc i mi q : Nat} (hT : ex_mt mi = some tX6_wordOf) (hd : decode T.1.2.1 pc = .ok (.invokevirtual i, 3)) (hl : ex_lk ex_mt T pc (.invokevirtual i) [0, mi, q] = true) {st : List Value} (hroom : (st.map fun v => v.category).sum ≤ 8) {post : Option (Option Value) → am_S → Prop} (kk : ∀ (r : Int32) σ', sx_M z9 hd_C σ 0 0 σ' → r.toInt = (if sn_isk b 8 t = true then 0 else -1) → am_K g d T.1 0 0 (pc + 3) lw (.int r :: st) σ' post) : am_K g d T.1 0 0 pc lw (.retAddr 19059 :: .ref 3 :: st) σ post := by
  refine rd_call G (T2 := tX6_wordOf) hT hd hl rfl (hM.1 3 (.inl 6) rfl) (as := [.retAddr 19059]) (st := st) rfl (Nat.le_of_ble_eq_true rfl) rfl hroom (d1 := 15) hdp (post1 := fun r σ' => ∃ y : Int32, r = some (some (.int y)) ∧ sx_M z9 hd_C σ 0 0 σ' ∧ y.toInt = sa_wh b t) (fun _ h => by obtain ⟨y, h, -⟩ := h; cases h) (sa_wordOf G hct hM E.1 E.2.1 (rd_gd_s E.2.2.1).2 (by simp [lv_args, Value.category]) (by simp [lv_args, Value.category]) (fun r σ' a1 a2 => ⟨r, rfl, a1, a2⟩)) ?_
  intro v σ' ⟨y, hv, a1, a2⟩
  cases hv
  exact kk y σ' a1 a2
theorem sc_wrc (G : sx_G0 g L xs z9 hd_C ex_mt) (hct : rc_ct g) {T : ex_T} {d : Nat} (hdp : 16 ≤ d) {σ : am_S} (hM : sx_M z9 hd_C σ 0 0 σ) {b : Nat → Nat} {n o : Nat} {t : rd_K} (E : sc_E σ b n o t) {lw : List (Nat × Value)} {pc i mi q : Nat} (hT : ex_mt mi = some tX6_wordOf) (hd : decode T.1.2.1 pc = .ok (.invokevirtual i, 3)) (hl : ex_lk ex_mt T pc (.invokevirtual i) [0, mi, q] = true) {st : List Value} (hroom : (st.map fun v => v.category).sum ≤ 8) {post : Option (Option Value) → am_S → Prop} (kk : ∀ (r : Int32) σ', sx_M z9 hd_C σ 0 0 σ' → r.toInt = (if sn_isk b 9 t = true then 0 else -1) → am_K g d T.1 0 0 (pc + 3) lw (.int r :: st) σ' post) : am_K g d T.1 0 0 pc lw (.retAddr 19072 :: .ref 3 :: st) σ post := by
  refine rd_call G (T2 := tX6_wordOf) hT hd hl rfl (hM.1 3 (.inl 6) rfl) (as := [.retAddr 19072]) (st := st) rfl (Nat.le_of_ble_eq_true rfl) rfl hroom (d1 := 15) hdp (post1 := fun r σ' => ∃ y : Int32, r = some (some (.int y)) ∧ sx_M z9 hd_C σ 0 0 σ' ∧ y.toInt = sr_wh b t) (fun _ h => by obtain ⟨y, h, -⟩ := h; cases h) (sr_wordOf G hct hM E.1 E.2.1 (rd_gd_s E.2.2.1).2 (by simp [lv_args, Value.category]) (by simp [lv_args, Value.category]) (fun r σ' a1 a2 => ⟨r, rfl, a1, a2⟩)) ?_
  intro v σ' ⟨y, hv, a1, a2⟩
  cases hv
  exact kk y σ' a1 a2
theorem sc_refc (G : sx_G0 g L xs z9 hd_C ex_mt) (hct : rc_ct g) {T : ex_T} {d : Nat} (hdp : 4 ≤ d) {σ : am_S} (hM : sx_M z9 hd_C σ 0 0 σ) {b : Nat → Nat} {n o : Nat} {t : rd_K} (E : sc_E σ b n o t) {c : Nat} {m1 : Int32} (h1 : m1.toInt = c) {lw : List (Nat × Value)} {pc i mi q : Nat} (hT : ex_mt mi = some tX6_refuse) (hd : decode T.1.2.1 pc = .ok (.invokevirtual i, 3)) (hl : ex_lk ex_mt T pc (.invokevirtual i) [0, mi, q] = true) {st : List Value} (hroom : (st.map fun v => v.category).sum ≤ 8) {post : Option (Option Value) → am_S → Prop} (kk : ∀ σ', sx_M z9 hd_C σ rc_m78 0 σ' → (σ'.2.1 3 7).toInt = (c : Nat) → (σ'.2.1 3 8).toInt = (t.2.1 : Nat) → am_K g d T.1 0 0 (pc + 3) lw (.int 0 :: st) σ' post) : am_K g d T.1 0 0 pc lw (.int m1 :: .ref 3 :: st) σ post := by
  have n2 := E.2.1.2.1
  refine rd_call G (T2 := tX6_refuse) hT hd hl rfl (hM.1 3 (.inl 6) rfl) (as := [.int m1]) (st := st) rfl (Nat.le_of_ble_eq_true rfl) rfl hroom (d1 := 3) hdp (post1 := fun r σ' => ∃ y : Int32, r = some (some (.int y)) ∧ y.toInt = 0 ∧ sx_M z9 hd_C σ rc_m78 0 σ' ∧ (σ'.2.1 3 7).toInt = (c : Nat) ∧ (σ'.2.1 3 8).toInt = (t.2.1 : Nat)) (fun _ h => by obtain ⟨y, h, -⟩ := h; cases h) (sg_rfu_run G hct hM (by simp [lv_args, Value.category]) (m1 := m1) (by simp [lv_args, Value.category]) (fun r σ' a1 a2 a3 a4 => ⟨r, rfl, by omega, sx_M_mask (by decide +kernel) a4, by omega, by omega⟩)) ?_
  intro v σ' ⟨y, hv, a1, a2, a3, a4⟩
  cases hv
  rw [sc_b0 a1]
  exact kk σ' a2 a3 a4
theorem sc_stc (G : sx_G0 g L xs z9 hd_C ex_mt) (hct : rc_ct g) {T : ex_T} {d : Nat} (hdp : 11 ≤ d) {σ : am_S} (hM : sx_M z9 hd_C σ 0 0 σ) {b : Nat → Nat} {n o : Nat} {t : rd_K} (E : sc_E σ b n o t) (ht : t.1 = 1 ∨ t.1 = 2 ∨ t.1 = 3) {lw : List (Nat × Value)} {pc i mi q : Nat} (hT : ex_mt mi = some tX6_step) (hd : decode T.1.2.1 pc = .ok (.invokevirtual i, 3)) (hl : ex_lk ex_mt T pc (.invokevirtual i) [0, mi, q] = true) {st : List Value} (hroom : (st.map fun v => v.category).sum ≤ 8) {post : Option (Option Value) → am_S → Prop} (kk : ∀ σ', sx_M z9 hd_C σ rc_mN 0 σ' → sc_E σ' b n o (sn_nx b n t) → am_K g d T.1 0 0 (pc + 3) lw st σ' post) : am_K g d T.1 0 0 pc lw (.ref 3 :: st) σ post :=
  rc_stc G hct hdp hM E.1 (E.2.1.2.2.1 ht) hT hd hl hroom (fun σ' h N => kk σ' h (sc_En E h N))
theorem sc_emc (G : sx_G0 g L xs z9 hd_C ex_mt) (hct : rc_ct g) {T : ex_T} {d : Nat} (hdp : 13 ≤ d) {σ : am_S} (hM : sx_M z9 hd_C σ 0 0 σ) {m1 : Int32} {lw : List (Nat × Value)} {pc i mi q : Nat} (hT : ex_mt mi = some tX8_emit) (hd : decode T.1.2.1 pc = .ok (.invokevirtual i, 3)) (hl : ex_lk ex_mt T pc (.invokevirtual i) [0, mi, q] = true) {st : List Value} (hroom : (st.map fun v => v.category).sum ≤ 8) {post : Option (Option Value) → am_S → Prop} (kk : ∀ σ', sx_M z9 hd_C σ sc_mQ 0 σ' → am_K g d T.1 0 0 (pc + 3) lw st σ' post) : am_K g d T.1 0 0 pc lw (.int m1 :: .ref 65 :: st) σ post := by
  refine rd_call G (T2 := tX8_emit) hT hd hl rfl (hM.1 65 (.inl 8) rfl) (as := [.int m1]) (st := st) rfl (Nat.le_of_ble_eq_true rfl) rfl hroom (d1 := 12) hdp (post1 := fun r σ' => r = some none ∧ sx_M z9 hd_C σ sc_mQ 0 σ') (fun _ h => by cases h.1) (sg_em_run G hct hM (by simp [lv_args, Value.category]) (m1 := m1) (by simp [lv_args, Value.category]) (fun σ' a => ⟨rfl, sx_M_mask (by decide +kernel) a⟩)) ?_
  intro v σ' ⟨hv, a⟩
  cases hv
  exact kk σ' a
theorem sc_tsc (G : sx_G0 g L xs z9 hd_C ex_mt) (hct : rc_ct g) {T : ex_T} {d : Nat} (hdp : 21 ≤ d) {σ : am_S} (hM : sx_M z9 hd_C σ 0 0 σ) {b : Nat → Nat} {n o : Nat} {t : rd_K} (E : sc_E σ b n o t) {c : Nat} {m1 : Int32} (h1 : m1.toInt = c) {lw : List (Nat × Value)} {pc i mi q : Nat} (hT : ex_mt mi = some tX6_takesSign) (hd : decode T.1.2.1 pc = .ok (.invokevirtual i, 3)) (hl : ex_lk ex_mt T pc (.invokevirtual i) [0, mi, q] = true) {st : List Value} (hroom : (st.map fun v => v.category).sum ≤ 8) {post : Option (Option Value) → am_S → Prop}
    (kf : ∀ (r : Int32) σ', rd_sgf t c ≠ 0 → r.toInt = 0 → sx_M z9 hd_C σ rc_m78 0 σ' → (σ'.2.1 3 7).toInt = 1 → (σ'.2.1 3 8).toInt = (t.2.1 : Nat) → am_K g d T.1 0 0 (pc + 3) lw (.int r :: st) σ' post)
    (kt : ∀ (r : Int32) σ', rd_sgf t c = 0 → r.toInt = 1 → sx_M z9 hd_C σ rc_mN 0 σ' → sc_E σ' b n o (sn_nx b n t) → am_K g d T.1 0 0 (pc + 3) lw (.int r :: st) σ' post) : am_K g d T.1 0 0 pc lw (.int m1 :: .ref 3 :: st) σ post := by
  refine rd_call G (T2 := tX6_takesSign) hT hd hl rfl (hM.1 3 (.inl 6) rfl) (as := [.int m1]) (st := st) rfl (Nat.le_of_ble_eq_true rfl) rfl hroom (d1 := 20) hdp (post1 := fun r σ' => ∃ y : Int32, r = some (some (.int y)) ∧ ((rd_sgf t c ≠ 0 ∧ y.toInt = 0 ∧ sx_M z9 hd_C σ rc_m78 0 σ' ∧ (σ'.2.1 3 7).toInt = 1 ∧ (σ'.2.1 3 8).toInt = (t.2.1 : Nat)) ∨ (rd_sgf t c = 0 ∧ y.toInt = 1 ∧ sx_M z9 hd_C σ rc_mN 0 σ' ∧ rc_N σ' (sn_nx b n t)))) (fun _ h => by obtain ⟨y, h, -⟩ := h; cases h) (rc_takesSign G hct hM E.1 E.2.1 E.2.2.1 (c := c) (by simp [lv_args, Value.category]) (m1 := m1) (by simp [lv_args, Value.category]) h1 (fun r σ' a1 a2 a3 a4 a5 => ⟨r, rfl, Or.inl ⟨a1, a2, a3, a4, a5⟩⟩) (fun r σ' a1 a2 a3 a4 => ⟨r, rfl, Or.inr ⟨a1, a2, a3, a4⟩⟩)) ?_
  intro v σ' ⟨y, hv, h⟩
  cases hv
  rcases h with ⟨a1, a2, a3, a4, a5⟩ | ⟨a1, a2, a3, a4⟩
  · exact kf y σ' a1 a2 a3 a4 a5
  · exact kt y σ' a1 a2 a3 (sc_En E a3 a4)
end SCT
