/-! SENTENCE, the reference: one -/
def sn_mA : Nat := Nat.lor rd_mN (Nat.lor (Nat.shiftLeft 1 372) (Nat.lor (Nat.shiftLeft 1 373) (Nat.lor (Nat.shiftLeft 1 398) (Nat.lor (Nat.shiftLeft 1 399) (Nat.lor (Nat.shiftLeft 1 400) (Nat.lor (Nat.shiftLeft 1 401) (Nat.lor (Nat.shiftLeft 1 402) (Nat.lor (Nat.shiftLeft 1 446) (Nat.shiftLeft 1 484)))))))))
/-- what reading well writes -/
def sn_mV : Nat := Nat.lor rd_mN (Nat.lor (Nat.shiftLeft 1 398) (Nat.lor (Nat.shiftLeft 1 399) (Nat.lor (Nat.shiftLeft 1 400) (Nat.lor (Nat.shiftLeft 1 401) (Nat.lor (Nat.shiftLeft 1 402) (Nat.lor (Nat.shiftLeft 1 446) (Nat.shiftLeft 1 484)))))))
/-- what a number on the stack may write -/
def sn_mP : Nat := Nat.lor rd_mN (Nat.lor (Nat.shiftLeft 1 399) (Nat.lor (Nat.shiftLeft 1 400) (Nat.lor (Nat.shiftLeft 1 401) (Nat.shiftLeft 1 484))))
/-- what a plain one may write -/
def sn_mW : Nat := Nat.lor rd_mN (Nat.lor (Nat.shiftLeft 1 398) (Nat.lor (Nat.shiftLeft 1 399) (Nat.lor (Nat.shiftLeft 1 402) (Nat.shiftLeft 1 446))))
theorem sn_isk1 {b : Nat → Nat} {k : Nat} {t : rd_K} (h : sn_isk b k t = true) : t.1 = 1 ∧ t.2.2.1 = (sn_ws k).length := by
  unfold sn_isk rd_isw at h
  rw [Bool.and_eq_true, Bool.and_eq_true, beq_iff_eq, beq_iff_eq] at h
  exact ⟨h.1, h.2.1⟩
theorem sn_lfn {b : Nat → Nat} {t : rd_K} (h : t.1 = 1 → t.2.2.1 = 3) : sn_lf b t = -1 := by
  have n : ∀ k, 4 ≤ (sn_ws k).length → ¬ sn_isk b k t = true := fun k hk e => by
    have e1 := sn_isk1 e
    have e2 := h e1.1
    omega
  unfold sn_lf
  rw [if_neg (n 1 (by decide)), if_neg (n 2 (by decide)), if_neg (n 3 (by decide)), if_neg (n 4 (by decide)), if_neg (n 5 (by decide)), if_neg (n 6 (by decide)), if_neg (n 7 (by decide))]
theorem sn_sg {t : rd_K} {c : Nat} : rd_sgf t c = 0 ↔ t.1 = 3 ∧ t.2.2.2.2 = c := by
  unfold rd_sgf
  constructor
  · intro h
    split at h
    · assumption
    · cases h
  · intro h
    rw [if_pos h]
theorem sn_Jp {σ σ' : am_S} {c t o : Nat} {x : Int32} {u : Bool} (J : sn_J σ c t 0 o) (ho : o ≤ 19) (hx : (x = 20 ∧ u = true) ∨ (x = 23 ∧ u = false)) (e39 : σ'.2.1 118 39 = σ.2.1 118 39) (e43 : σ'.2.1 118 43 = σ.2.1 118 43) (e40 : (σ'.2.1 118 40).toInt = ((o + 1 : Nat) : Int)) (e41 : (σ'.2.1 118 41).toInt = ((t + 1 : Nat) : Int)) (e42 : (σ'.2.1 118 42).toInt = (σ.2.1 118 42).toInt + 1) (ef : ∀ j, j < t → σ'.2.1 134 j = σ.2.1 134 j) (et : σ'.2.1 134 t = x) : sn_J σ' c (t + 1) 0 (o + 1) ∧ sn_sk (σ'.2.1 134) (t + 1) = u :: sn_sk (σ.2.1 134) t := by
  obtain ⟨j1, j2, j3, j4, j5, j6, j7⟩ := J
  have hs : sn_sk (σ'.2.1 134) t = sn_sk (σ.2.1 134) t := sn_sk_c t ef
  have hsk : sn_sk (σ'.2.1 134) (t + 1) = if σ'.2.1 134 t = 20 then true :: sn_sk (σ'.2.1 134) t else if σ'.2.1 134 t = 23 then false :: sn_sk (σ'.2.1 134) t else sn_sk (σ'.2.1 134) t := rfl
  have he : sn_sk (σ'.2.1 134) (t + 1) = u :: sn_sk (σ.2.1 134) t := by
    rw [hsk, et, hs]
    rcases hx with ⟨h, g⟩ | ⟨h, g⟩
    · rw [h, g]; rfl
    · rw [h, g]; rfl
  refine ⟨⟨by rw [e39]; exact j1, e41, by rw [e43]; exact j3, e40, by omega, ?_, ?_, ?_⟩, he⟩
  · rw [e42, he, j6]
    show _ = (((sn_sk (σ.2.1 134) t).length + 1 + 1 : Nat) : Int)
    omega
  · intro j hj
    by_cases q : j = t
    · rw [q, et]
      rcases hx with ⟨h, -⟩ | ⟨h, -⟩
      · exact Or.inl h
      · exact Or.inr (Or.inr (Or.inr h))
    · rw [ef j (by omega)]
      exact j7.1 j (by omega)
  · intro j hj hv
    by_cases q : j + 1 = t
    · rw [q, et] at hv
      rcases hx with ⟨h, -⟩ | ⟨h, -⟩
      · rw [h] at hv; rcases hv with z | z <;> exact absurd z (by decide)
      · rw [h] at hv; rcases hv with z | z <;> exact absurd z (by decide)
    · rw [ef (j + 1) (by omega)] at hv
      rw [ef j (by omega)]
      exact j7.2 j (by omega) hv
theorem sn_Jl {σ σ' : am_S} {c t o : Nat} (J : sn_J σ c t 0 o) (ho : o ≤ 19) (hM : sx_M zK hd_T σ sn_mW 0 σ') (e39 : (σ'.2.1 118 39).toInt = ((c + 1 : Nat) : Int)) (e43 : (σ'.2.1 118 43).toInt = 1) (e40 : (σ'.2.1 118 40).toInt = ((o + 1 : Nat) : Int)) : sn_J σ' (c + 1) t 1 (o + 1) ∧ sn_sk (σ'.2.1 134) t = sn_sk (σ.2.1 134) t := by
  obtain ⟨j1, j2, j3, j4, j5, j6, j7⟩ := J
  have ef : ∀ j, j < t → σ'.2.1 134 j = σ.2.1 134 j := fun j hj => sn_fr hM (by decide +kernel) (by omega)
  have hs : sn_sk (σ'.2.1 134) t = sn_sk (σ.2.1 134) t := sn_sk_c t ef
  refine ⟨⟨e39, ?_, e43, e40, by omega, ?_, sn_Zc j7 (Nat.le_refl _) ef⟩, hs⟩
  · rw [hM.2.2.2.2.1 118 41 _ _ 400 rfl (by decide +kernel)]; exact j2
  · rw [hM.2.2.2.2.1 118 42 _ _ 401 rfl (by decide +kernel), hs]; exact j6
section SR4
variable {g : am_C} {L : Nat} {xs : Nat → Int32}
theorem sn_oper (G : sx_G0 g L xs zK hd_T ex_mt) {σ : am_S} (hM : sx_M zK hd_T σ 0 0 σ) {b : Nat → Nat} {n : Nat} (hb : ∀ k, b k ≤ 255) (X : rd_X σ b n 200) {t : rd_K} (N : rd_N σ b t) (ht : rd_wok b t) {c tt o : Nat} (J : sn_J σ c tt 0 o) {F : List Bool} (hF : sn_sk (σ.2.1 134) tt = F) {lw : List (Nat × Value)} (hl : (0, Value.ref 118) ∈ lw) {post : Option (Option Value) → am_S → Prop}
    (kf : ∀ (r : Int32) (σ' : am_S) (kd at' : Nat), sn_one b n F o t = .inl (.inl (kd, at')) → r.toInt = 0 → sx_M zK hd_T σ sn_mA 0 σ' → (σ'.2.1 118 13).toInt = kd → (σ'.2.1 118 14).toInt = at' → post (some (some (.int r))) σ')
    (kk : ∀ (r : Int32) (σ' : am_S) (w : Bool) (F' : List Bool) (t' : rd_K) (c' tt' : Nat), sn_one b n F o t = .inr (w, F', o + 1, t') → r.toInt = 1 → sx_M zK hd_T σ sn_mV 0 σ' → rd_X σ' b n 200 → rd_N σ' b t' → rd_wok b t' → sn_J σ' c' tt' (if w = true then 1 else 0) (o + 1) → sn_sk (σ'.2.1 134) tt' = F' → post (some (some (.int r))) σ') : am_K g 20 tX12_operand.1 0 0 0 lw [] σ post := by
  obtain ⟨i0, hi0⟩ := List.getElem?_of_mem hl
  have k9 : (0 : Int) ≤ (σ.2.1 118 9).toInt ∧ (σ.2.1 118 9).toInt ≤ (4 : Int) := hM.2.2.1 118 9 _ _ 368 rfl
  have n1 := N.1
  have hlf := sn_lf_b b t
  have j5 := J.2.2.2.2.1
  have oF : (sn_sk (σ.2.1 134) tt).length = F.length := by rw [hF]
  refine kr_aload_n i0 rd_d_X12_operand_0 hi0 ?_
  refine kr_ldc2 G.1 rd_d_X12_operand_1 (rd_c2 rd_k_X12_operand_1) ?_
  refine sn_iwc G (by decide) hM hb N ht 0 (by decide +kernel) (by decide +kernel) rfl rd_d_X12_operand_4 rd_k_X12_operand_4 (Nat.le_of_ble_eq_true rfl) ?_
  intro r0 e0
  have b0 : 0 ≤ r0.toInt ∧ r0.toInt ≤ 1 := by rw [e0]; split <;> exact ⟨by decide, by decide⟩
  -- behind the three looks; ones is counted up
  have B : ∀ (lw2 : List (Nat × Value)) (x1 x2 x3 : Int32) (σ2 : am_S), (0, Value.ref 118) ∈ lw2 → (1, Value.int x1) ∈ lw2 → (2, Value.int x2) ∈ lw2 → (3, Value.int x3) ∈ lw2 → x1.toInt = (if sn_isk b 0 t = true then 1 else 0) → x2.toInt = (if rd_sgf t 40 = 0 then 1 else 0) → x3.toInt = sn_lf b t → (sn_isk b 0 t = true ∨ rd_sgf t 40 = 0 ∨ 0 ≤ sn_lf b t) → ¬ (o = 20 ∨ 8 < F.length + 1) → (σ2.2.1 118 40).toInt = ((o + 1 : Nat) : Int) → sx_M zK hd_T σ (Nat.shiftLeft 1 399) 0 σ2 → am_K g 20 tX12_operand.1 0 0 73 lw2 [.ref 118] σ2 post := by
    intro lw2 x1 x2 x3 σ2 q0 q1 q2 q3 v1 v2 v3 P ho e40 hM2
    have N2 := rd_N0 N hM2 (by decide +kernel) (by decide +kernel) (by decide +kernel) (by decide +kernel) (by decide +kernel)
    have X2 := sn_Xm X hM2 (by decide +kernel)
    refine rd_nxc G (d := 20) (by decide) (sx_M_self hM2) X2 N2.2.2.1 rfl rd_d_X12_operand_73 rd_k_X12_operand_73 (by decide) ?_
    intro σ3 hM3 N3
    have X3 := sn_Xm X2 hM3 (by decide +kernel)
    have W3 : rd_wok b (sn_nx b n t) := rd_tok_ok
    have N3 : rd_N σ3 b (sn_nx b n t) := N3
    have H3 : sx_M zK hd_T σ (Nat.lor rd_mN (Nat.shiftLeft 1 399)) 0 σ3 := hd_tr (sx_M_mask (by decide +kernel) hM2) hM3 (by decide +kernel)
    have f40 : (σ3.2.1 118 40).toInt = ((o + 1 : Nat) : Int) := by rw [hM3.2.2.2.2.1 118 40 _ _ 399 rfl (by decide +kernel)]; exact e40
    have f41 : (σ3.2.1 118 41).toInt = (tt : Int) := by rw [H3.2.2.2.2.1 118 41 _ _ 400 rfl (by decide +kernel)]; exact J.2.1
    have f42 : σ3.2.1 118 42 = σ.2.1 118 42 := H3.2.2.2.2.1 118 42 _ _ 401 rfl (by decide +kernel)
    have f39 : (σ3.2.1 118 39).toInt = (c : Int) := by rw [H3.2.2.2.2.1 118 39 _ _ 398 rfl (by decide +kernel)]; exact J.1
    have d42 : (σ.2.1 118 42).toInt = ((F.length + 1 : Nat) : Int) := by rw [J.2.2.2.2.2.1, oF]
    have k39 : (0 : Int) ≤ (σ3.2.1 118 9).toInt ∧ (σ3.2.1 118 9).toInt ≤ (4 : Int) := H3.2.2.1 118 9 _ _ 368 rfl
    have m1 := N3.1
    have m2 := N3.2.1
    by_cases h0 : sn_isk b 0 t = true
    · rw [if_pos h0] at v1
      refine sg_op4n_run G hd_ctK (sx_M_self H3) q0 q1 (by omega) q2 ?_
      intro lw4 x4 y4 σ4 w0 u1 u2 hM4
      have H4 : sx_M zK hd_T σ (Nat.lor rd_mN (Nat.shiftLeft 1 399)) 0 σ4 := hd_tr H3 hM4 (by decide +kernel)
      have ex : x4 = 20 := Int32.toInt_inj.mp (by show x4.toInt = 20; omega)
      have ey : y4.toInt = (tt : Int) := by omega
      refine kr_iast G.1 rd_d_X12_operand_103 (H4.1 134 (.inr (.int, 45)) rfl) (hd_in ey (by omega)) ?_
      rw [hd_clamp ey]
      have H5 : sx_M zK hd_T σ sn_mP 0 (σ4.1, am_up σ4.2.1 134 tt x4, σ4.2.2.1, σ4.2.2.2) := hd_up hd_CsK (sx_M_mask (by decide +kernel) H4) (hd_a134 (by omega)) (Int32.le_toInt x4) (Int32.toInt_le x4) (by decide +kernel) ⟨rfl, rfl⟩ (fun c hc => by cases hc) (fun c hc => by cases hc)
      have g41 : (am_up σ4.2.1 134 tt x4 118 41).toInt = (tt : Int) := by rw [am_up_o _ _ (by decide), hM4.2.2.2.2.1 118 41 _ _ 400 rfl (sx_bit0 _)]; exact f41
      have g42 : (am_up σ4.2.1 134 tt x4 118 42).toInt = ((F.length + 1 : Nat) : Int) := by rw [am_up_o _ _ (by decide), hM4.2.2.2.2.1 118 42 _ _ 401 rfl (sx_bit0 _), f42]; exact d42
      refine sg_op5_run G hd_ctK (sx_M_self H5) w0 (by show 0 ≤ (am_up σ4.2.1 134 tt x4 118 41).toInt ∧ (am_up σ4.2.1 134 tt x4 118 41).toInt ≤ 39; omega) (by show 0 ≤ (am_up σ4.2.1 134 tt x4 118 42).toInt ∧ (am_up σ4.2.1 134 tt x4 118 42).toInt ≤ 1000; omega) ?_
      intro r σ6 z1 z2 z3 hM6
      simp only at z2 z3
      have H6 : sx_M zK hd_T σ sn_mP 0 σ6 := hd_tr H5 hM6 (by decide +kernel)
      have hs : ∀ k, k < 45 → ¬ k = tt → σ6.2.1 134 k = σ.2.1 134 k := fun k hk hne => (sn_fr hM6 (by decide +kernel) hk).trans ((am_up_n _ _ (fun q => hne q.2)).trans (sn_fr H4 (by decide +kernel) hk))
      have H35p : sx_M zK hd_T σ3 (Nat.lor (Nat.shiftLeft 1 400) (Nat.lor (Nat.shiftLeft 1 401) (Nat.shiftLeft 1 484))) 0 (σ4.1, am_up σ4.2.1 134 tt x4, σ4.2.2.1, σ4.2.2.2) := hd_up hd_CsK (sx_M_mask (by decide +kernel) hM4) (hd_a134 (by omega)) (Int32.le_toInt x4) (Int32.toInt_le x4) (by decide +kernel) ⟨rfl, rfl⟩ (fun c hc => by cases hc) (fun c hc => by cases hc)
      have H36p : sx_M zK hd_T σ3 (Nat.lor (Nat.shiftLeft 1 400) (Nat.lor (Nat.shiftLeft 1 401) (Nat.shiftLeft 1 484))) 0 σ6 := hd_tr H35p hM6 (by decide +kernel)
      have hN6 : rd_N σ6 b (sn_nx b n t) := rd_N0 N3 H36p (by decide +kernel) (by decide +kernel) (by decide +kernel) (by decide +kernel) (by decide +kernel)
      have e640 : (σ6.2.1 118 40).toInt = ((o + 1 : Nat) : Int) := by rw [H36p.2.2.2.2.1 118 40 _ _ 399 rfl (by decide +kernel)]; exact f40
      have e6t : σ6.2.1 134 tt = x4 := (sn_fr hM6 (by decide +kernel) (by omega)).trans (am_up_s _ _ _ _)
      have p := sn_Jp (σ' := σ6) (x := 20) (u := true) J (by omega) (Or.inl ⟨rfl, rfl⟩) (H6.2.2.2.2.1 118 39 _ _ 398 rfl (by decide +kernel)) (H6.2.2.2.2.1 118 43 _ _ 402 rfl (by decide +kernel)) e640 (by omega) (by omega) (fun j hj => hs j (by omega) (by omega)) (e6t.trans ex)
      exact kk r σ6 false (true :: F) (sn_nx b n t) c (tt + 1) (by unfold sn_one; rw [if_pos P, if_neg ho, if_pos h0]) (by omega) (sx_M_mask (by decide +kernel) H6) (sn_Xm X H6 (by decide +kernel)) hN6 W3 p.1 (by rw [p.2, hF])
    rw [if_neg h0] at v1
    by_cases h1 : rd_sgf t 40 = 0
    · rw [if_pos h1] at v2
      refine sg_op4o_run G hd_ctK (sx_M_self H3) q0 q1 (by omega) q2 (by omega) ?_
      intro lw4 x4 y4 σ4 w0 u1 u2 hM4
      have H4 : sx_M zK hd_T σ (Nat.lor rd_mN (Nat.shiftLeft 1 399)) 0 σ4 := hd_tr H3 hM4 (by decide +kernel)
      have ex : x4 = 23 := Int32.toInt_inj.mp (by show x4.toInt = 23; omega)
      have ey : y4.toInt = (tt : Int) := by omega
      refine kr_iast G.1 rd_d_X12_operand_103 (H4.1 134 (.inr (.int, 45)) rfl) (hd_in ey (by omega)) ?_
      rw [hd_clamp ey]
      have H5 : sx_M zK hd_T σ sn_mP 0 (σ4.1, am_up σ4.2.1 134 tt x4, σ4.2.2.1, σ4.2.2.2) := hd_up hd_CsK (sx_M_mask (by decide +kernel) H4) (hd_a134 (by omega)) (Int32.le_toInt x4) (Int32.toInt_le x4) (by decide +kernel) ⟨rfl, rfl⟩ (fun c hc => by cases hc) (fun c hc => by cases hc)
      have g41 : (am_up σ4.2.1 134 tt x4 118 41).toInt = (tt : Int) := by rw [am_up_o _ _ (by decide), hM4.2.2.2.2.1 118 41 _ _ 400 rfl (sx_bit0 _)]; exact f41
      have g42 : (am_up σ4.2.1 134 tt x4 118 42).toInt = ((F.length + 1 : Nat) : Int) := by rw [am_up_o _ _ (by decide), hM4.2.2.2.2.1 118 42 _ _ 401 rfl (sx_bit0 _), f42]; exact d42
      refine sg_op5_run G hd_ctK (sx_M_self H5) w0 (by show 0 ≤ (am_up σ4.2.1 134 tt x4 118 41).toInt ∧ (am_up σ4.2.1 134 tt x4 118 41).toInt ≤ 39; omega) (by show 0 ≤ (am_up σ4.2.1 134 tt x4 118 42).toInt ∧ (am_up σ4.2.1 134 tt x4 118 42).toInt ≤ 1000; omega) ?_
      intro r σ6 z1 z2 z3 hM6
      simp only at z2 z3
      have H6 : sx_M zK hd_T σ sn_mP 0 σ6 := hd_tr H5 hM6 (by decide +kernel)
      have hs : ∀ k, k < 45 → ¬ k = tt → σ6.2.1 134 k = σ.2.1 134 k := fun k hk hne => (sn_fr hM6 (by decide +kernel) hk).trans ((am_up_n _ _ (fun q => hne q.2)).trans (sn_fr H4 (by decide +kernel) hk))
      have H35p : sx_M zK hd_T σ3 (Nat.lor (Nat.shiftLeft 1 400) (Nat.lor (Nat.shiftLeft 1 401) (Nat.shiftLeft 1 484))) 0 (σ4.1, am_up σ4.2.1 134 tt x4, σ4.2.2.1, σ4.2.2.2) := hd_up hd_CsK (sx_M_mask (by decide +kernel) hM4) (hd_a134 (by omega)) (Int32.le_toInt x4) (Int32.toInt_le x4) (by decide +kernel) ⟨rfl, rfl⟩ (fun c hc => by cases hc) (fun c hc => by cases hc)
      have H36p : sx_M zK hd_T σ3 (Nat.lor (Nat.shiftLeft 1 400) (Nat.lor (Nat.shiftLeft 1 401) (Nat.shiftLeft 1 484))) 0 σ6 := hd_tr H35p hM6 (by decide +kernel)
      have hN6 : rd_N σ6 b (sn_nx b n t) := rd_N0 N3 H36p (by decide +kernel) (by decide +kernel) (by decide +kernel) (by decide +kernel) (by decide +kernel)
      have e640 : (σ6.2.1 118 40).toInt = ((o + 1 : Nat) : Int) := by rw [H36p.2.2.2.2.1 118 40 _ _ 399 rfl (by decide +kernel)]; exact f40
      have e6t : σ6.2.1 134 tt = x4 := (sn_fr hM6 (by decide +kernel) (by omega)).trans (am_up_s _ _ _ _)
      have p := sn_Jp (σ' := σ6) (x := 23) (u := false) J (by omega) (Or.inr ⟨rfl, rfl⟩) (H6.2.2.2.2.1 118 39 _ _ 398 rfl (by decide +kernel)) (H6.2.2.2.2.1 118 43 _ _ 402 rfl (by decide +kernel)) e640 (by omega) (by omega) (fun j hj => hs j (by omega) (by omega)) (e6t.trans ex)
      exact kk r σ6 false (false :: F) (sn_nx b n t) c (tt + 1) (by unfold sn_one; rw [if_pos P, if_neg ho, if_neg h0, if_pos h1]) (by omega) (sx_M_mask (by decide +kernel) H6) (sn_Xm X H6 (by decide +kernel)) hN6 W3 p.1 (by rw [p.2, hF])
    rw [if_neg h1] at v2
    have h2 : 0 ≤ sn_lf b t := by
      rcases P with h | h | h
      · exact absurd h h0
      · exact absurd h h1
      · exact h
    by_cases h3 : sn_lf b t < 3
    · refine sg_op4l_run G hd_ctK (sx_M_self H3) q0 q1 (by omega) q2 (by omega) q3 (by omega) ?_
      intro lw4 y0 y1 y2 σ4 w0 u1 u2 u3 u4 hM4
      have H4 : sx_M zK hd_T σ sn_mW 0 σ4 := hd_tr (sx_M_mask (by decide +kernel) H3) hM4 (by decide +kernel)
      have c4 : (σ4.2.1 118 39).toInt = (c : Int) := by rw [hM4.2.2.2.2.1 118 39 _ _ 398 rfl (by decide +kernel)]; exact f39
      refine sn_codec G (sx_M_self H4) c4 (by omega) rfl rd_d_X12_operand_140 rd_k_X12_operand_140 ?_
      intro σ5 hM5 c5
      have H5 := hd_tr H4 hM5 (by decide +kernel)
      refine sg_op6_run G hd_ctK (sx_M_self H5) w0 ?_
      intro r σ6 z1 hM6
      have H6 := hd_tr H5 hM6 (by decide +kernel)
      have H36 : sx_M zK hd_T σ3 (Nat.lor sn_mC (Nat.shiftLeft 1 402)) 0 σ6 := hd_tr (hd_tr (sx_M_mask (by decide +kernel) hM4) hM5 (by decide +kernel)) hM6 (by decide +kernel)
      have p := sn_Jl J (by omega) H6 (by rw [hM6.2.2.2.2.1 118 39 _ _ 398 rfl (sx_bit0 _)]; exact c5) (by rw [hM6.2.2.2.2.1 118 43 _ _ 402 rfl (sx_bit0 _), hM5.2.2.2.2.1 118 43 _ _ 402 rfl (by decide +kernel)]; omega) (by rw [H36.2.2.2.2.1 118 40 _ _ 399 rfl (by decide +kernel)]; exact f40)
      exact kk r σ6 true F (sn_nx b n t) (c + 1) tt (by unfold sn_one; rw [if_pos P, if_neg ho, if_neg h0, if_neg h1, if_pos h3]) (by omega) (sx_M_mask (by decide +kernel) H6) (sn_Xm X H6 (by decide +kernel)) (rd_N0 N3 H36 (by decide +kernel) (by decide +kernel) (by decide +kernel) (by decide +kernel) (by decide +kernel)) W3 p.1 (by rw [p.2, hF])
    -- a comparison
    have bad : ∀ (r : Int32) (σ4 : am_S), ¬ ((sn_nx b n t).1 = 3 ∧ 60 ≤ (sn_nx b n t).2.2.2.2 ∧ (sn_nx b n t).2.2.2.2 ≤ 62) → r.toInt = 0 → (σ4.2.1 118 13).toInt = 1 → (σ3.2.1 118 10).toInt = (σ4.2.1 118 14).toInt → sx_M zK hd_T σ sn_mA 0 σ4 → post (some (some (.int r))) σ4 := by
      intro r σ4 hn z1 z2 z3 hM4
      exact kf r σ4 1 (sn_nx b n t).2.1 (by unfold sn_one; rw [if_pos P, if_neg ho, if_neg h0, if_neg h1, if_neg h3, if_neg hn]) z1 hM4 z2 (by omega)
    by_cases t3 : (sn_nx b n t).1 = 3
    rotate_left
    · by_cases tle : (sn_nx b n t).1 ≤ 2
      · refine sg_op7a_run G hd_ctK (sx_M_self H3) q0 q1 (by omega) q2 (by omega) q3 (by omega) (by omega) ?_
        intro r σ4 z1 z2 z3 hM4
        exact bad r σ4 (fun q => t3 q.1) (by omega) (by omega) (by omega) (hd_tr (sx_M_mask (by decide +kernel) H3) hM4 (by decide +kernel))
      · refine sg_op7b_run G hd_ctK (sx_M_self H3) q0 q1 (by omega) q2 (by omega) q3 (by omega) (by omega) ?_
        intro r σ4 z1 z2 z3 hM4
        exact bad r σ4 (fun q => t3 q.1) (by omega) (by omega) (by omega) (hd_tr (sx_M_mask (by decide +kernel) H3) hM4 (by decide +kernel))
    have m12 := N3.2.2.2.1 (Or.inr t3)
    by_cases l60 : (sn_nx b n t).2.2.2.2 < 60
    · have k12 : (σ3.2.1 118 12).toInt ≤ 59 := by omega
      refine sg_op7c_run G hd_ctK (sx_M_self H3) q0 q1 (by omega) q2 (by omega) q3 (by omega) (by omega) ⟨Int32.le_toInt _, k12⟩ ?_
      intro r σ4 z1 z2 z3 hM4
      exact bad r σ4 (fun q => by omega) (by omega) (by omega) (by omega) (hd_tr (sx_M_mask (by decide +kernel) H3) hM4 (by decide +kernel))
    by_cases g62 : 62 < (sn_nx b n t).2.2.2.2
    · have k12 : 63 ≤ (σ3.2.1 118 12).toInt := by omega
      refine sg_op7d_run G hd_ctK (sx_M_self H3) q0 q1 (by omega) q2 (by omega) q3 (by omega) (by omega) ⟨k12, Int32.toInt_le _⟩ ?_
      intro r σ4 z1 z2 z3 hM4
      exact bad r σ4 (fun q => by omega) (by omega) (by omega) (by omega) (hd_tr (sx_M_mask (by decide +kernel) H3) hM4 (by decide +kernel))
    have hc : (sn_nx b n t).1 = 3 ∧ 60 ≤ (sn_nx b n t).2.2.2.2 ∧ (sn_nx b n t).2.2.2.2 ≤ 62 := ⟨t3, by omega, by omega⟩
    refine sg_op7e_run G hd_ctK (sx_M_self H3) q0 q1 (by omega) q2 (by omega) q3 (by omega) (by omega) (by omega) ?_
    intro lw4 y3 y4 σ4 w0 w3 w4 u1 u2 u3 hM4
    have H4 : sx_M zK hd_T σ sn_mW 0 σ4 := hd_tr (sx_M_mask (by decide +kernel) H3) hM4 (by decide +kernel)
    have N4 := rd_N0 N3 hM4 (by decide +kernel) (by decide +kernel) (by decide +kernel) (by decide +kernel) (by decide +kernel)
    have X4 := sn_Xm X3 hM4 (by decide +kernel)
    refine rd_nxc G (d := 20) (by decide) (sx_M_self H4) X4 N4.2.2.1 rfl rd_d_X12_operand_184 rd_k_X12_operand_184 (by decide) ?_
    intro σ5 hM5 N5
    have H5 := hd_tr H4 hM5 (by decide +kernel)
    have N5 : rd_N σ5 b (sn_nx b n (sn_nx b n t)) := N5
    have X5 := sn_Xm X4 hM5 (by decide +kernel)
    have k59 : (0 : Int) ≤ (σ5.2.1 118 9).toInt ∧ (σ5.2.1 118 9).toInt ≤ (4 : Int) := H5.2.2.1 118 9 _ _ 368 rfl
    have p1 := N5.1
    have p2 := N5.2.1
    have bad2 : ∀ (r : Int32) (σ6 : am_S), ¬ (sn_nx b n (sn_nx b n t)).1 = 2 → r.toInt = 0 → (σ6.2.1 118 13).toInt = 1 → (σ5.2.1 118 10).toInt = (σ6.2.1 118 14).toInt → sx_M zK hd_T σ sn_mA 0 σ6 → post (some (some (.int r))) σ6 := by
      intro r σ6 hn z1 z2 z3 hM6
      exact kf r σ6 1 (sn_nx b n (sn_nx b n t)).2.1 (by unfold sn_one; rw [if_pos P, if_neg ho, if_neg h0, if_neg h1, if_neg h3, if_pos hc, if_neg hn]) z1 hM6 z2 (by omega)
    by_cases t2 : (sn_nx b n (sn_nx b n t)).1 = 2
    rotate_left
    · by_cases tle : (sn_nx b n (sn_nx b n t)).1 ≤ 1
      · refine sg_op8a_run G hd_ctK (sx_M_self H5) w0 (by omega) ?_
        intro r σ6 z1 z2 z3 hM6
        exact bad2 r σ6 t2 (by omega) (by omega) (by omega) (hd_tr (sx_M_mask (by decide +kernel) H5) hM6 (by decide +kernel))
      · refine sg_op8b_run G hd_ctK (sx_M_self H5) w0 (by omega) ?_
        intro r σ6 z1 z2 z3 hM6
        exact bad2 r σ6 t2 (by omega) (by omega) (by omega) (hd_tr (sx_M_mask (by decide +kernel) H5) hM6 (by decide +kernel))
    refine sg_op8_run G hd_ctK (sx_M_self H5) w0 w3 w4 (by omega) ?_
    intro lw6 a0 a1 a2 σ6 s0 z1 z2 z3 hM6
    have H6 := hd_tr H5 hM6 (by decide +kernel)
    have c6 : (σ6.2.1 118 39).toInt = (c : Int) := by rw [hM6.2.2.2.2.1 118 39 _ _ 398 rfl (sx_bit0 _), hM5.2.2.2.2.1 118 39 _ _ 398 rfl (by decide +kernel), hM4.2.2.2.2.1 118 39 _ _ 398 rfl (by decide +kernel)]; exact f39
    refine sn_codec G (sx_M_self H6) c6 (by omega) rfl rd_d_X12_operand_209 rd_k_X12_operand_209 ?_
    intro σ7 hM7 c7
    have H7 := hd_tr H6 hM7 (by decide +kernel)
    refine sg_op9_run G hd_ctK (sx_M_self H7) s0 ?_
    intro lw8 σ8 y0 hM8
    have H8 := hd_tr H7 hM8 (by decide +kernel)
    have H58 : sx_M zK hd_T σ5 sn_mC 0 σ8 := hd_tr (hd_tr (sx_M_mask (by decide +kernel) hM6) hM7 (by decide +kernel)) hM8 (by decide +kernel)
    have N8 := rd_N0 N5 H58 (by decide +kernel) (by decide +kernel) (by decide +kernel) (by decide +kernel) (by decide +kernel)
    have X8 := sn_Xm X5 H58 (by decide +kernel)
    refine rd_nxc G (d := 20) (by decide) (sx_M_self H8) X8 N8.2.2.1 rfl rd_d_X12_operand_213 rd_k_X12_operand_213 (by decide) ?_
    intro σ9 hM9 N9
    have H9 := hd_tr H8 hM9 (by decide +kernel)
    have N9 : rd_N σ9 b (sn_nx b n (sn_nx b n (sn_nx b n t))) := N9
    refine sg_opz_run G hd_ctK (sx_M_self H9) y0 ?_
    intro r σa z9 hMa
    have Ha := hd_tr H9 hMa (by decide +kernel)
    have H9a := hd_tr hM9 hMa (by decide +kernel)
    have p := sn_Jl J (by omega) Ha (by rw [H9a.2.2.2.2.1 118 39 _ _ 398 rfl (by decide +kernel), hM8.2.2.2.2.1 118 39 _ _ 398 rfl (sx_bit0 _)]; exact c7) (by rw [H9a.2.2.2.2.1 118 43 _ _ 402 rfl (by decide +kernel), H58.2.2.2.2.1 118 43 _ _ 402 rfl (by decide +kernel), hM5.2.2.2.2.1 118 43 _ _ 402 rfl (by decide +kernel)]; omega) (by rw [H9a.2.2.2.2.1 118 40 _ _ 399 rfl (by decide +kernel), H58.2.2.2.2.1 118 40 _ _ 399 rfl (by decide +kernel), hM5.2.2.2.2.1 118 40 _ _ 399 rfl (by decide +kernel), hM4.2.2.2.2.1 118 40 _ _ 399 rfl (by decide +kernel)]; exact f40)
    exact kk r σa true F _ (c + 1) tt (by unfold sn_one; rw [if_pos P, if_neg ho, if_neg h0, if_neg h1, if_neg h3, if_pos hc, if_pos t2]) (by omega) (sx_M_mask (by decide +kernel) Ha) (sn_Xm X Ha (by decide +kernel)) (rd_N0 N9 hMa (sx_bit0 _) (sx_bit0 _) (sx_bit0 _) (sx_bit0 _) (sx_bit0 _)) rd_tok_ok p.1 (by rw [p.2, hF])
  -- the three looks
  have A : ∀ (lw1 : List (Nat × Value)) (x1 x2 : Int32) (σ1 : am_S), (0, Value.ref 118) ∈ lw1 → (1, Value.int x1) ∈ lw1 → (2, Value.int x2) ∈ lw1 → x1.toInt = (if sn_isk b 0 t = true then 1 else 0) → x2.toInt = (if rd_sgf t 40 = 0 then 1 else 0) → sx_M zK hd_T σ 0 0 σ1 → am_K g 20 tX12_operand.1 0 0 16 lw1 [.ref 118] σ1 post := by
    intro lw1 x1 x2 σ1 q0 q1 q2 v1 v2 hM1
    have N1 := rd_N0 N hM1 (sx_bit0 _) (sx_bit0 _) (sx_bit0 _) (sx_bit0 _) (sx_bit0 _)
    have J1 := sn_Jm J hM1 (by decide +kernel)
    have m2 := N1.2.1
    have g40 := J1.2.2.2.1
    have g42 : (σ1.2.1 118 42).toInt = ((F.length + 1 : Nat) : Int) := by rw [hM1.2.2.2.2.1 118 42 _ _ 401 rfl (sx_bit0 _), J.2.2.2.2.2.1, oF]
    have b1 : 0 ≤ x1.toInt ∧ x1.toInt ≤ 1 := by rw [v1]; split <;> exact ⟨by decide, by decide⟩
    have b2 : 0 ≤ x2.toInt ∧ x2.toInt ≤ 1 := by rw [v2]; split <;> exact ⟨by decide, by decide⟩
    refine sn_leafc G (by decide) (sx_M_self hM1) hb N1 ht rfl rd_d_X12_operand_16 rd_k_X12_operand_16 (Nat.le_of_ble_eq_true rfl) ?_
    intro x3 v3
    by_cases P : sn_isk b 0 t = true ∨ rd_sgf t 40 = 0 ∨ 0 ≤ sn_lf b t
    rotate_left
    · rw [if_neg (fun h => P (Or.inl h))] at v1
      rw [if_neg (fun h => P (Or.inr (Or.inl h)))] at v2
      have h3 : ¬ 0 ≤ sn_lf b t := fun h => P (Or.inr (Or.inr h))
      refine sg_op2z_run G hd_ctK (sx_M_self hM1) q0 q1 (by omega) q2 (by omega) (by omega) ?_
      intro r σ2 z1 z2 z3 hM2
      exact kf r σ2 1 t.2.1 (by unfold sn_one; rw [if_neg P]) (by omega) (hd_tr (sx_M_mask (by decide +kernel) hM1) hM2 (by decide +kernel)) (by omega) (by omega)
    have full : ∀ (r : Int32) (σ2 : am_S), (o = 20 ∨ 8 < F.length + 1) → r.toInt = 0 → (σ2.2.1 118 13).toInt = 4 → (σ1.2.1 118 10).toInt = (σ2.2.1 118 14).toInt → sx_M zK hd_T σ sn_mA 0 σ2 → post (some (some (.int r))) σ2 := fun r σ2 hn z1 z2 z3 hM2 => kf r σ2 4 t.2.1 (by unfold sn_one; rw [if_pos P, if_pos hn]) z1 hM2 z2 (by omega)
    have w1 := v1
    have w2 := v2
    have fF : F.length ≤ tt := by rw [← oF]; exact sn_sk_le _ _
    by_cases h0 : sn_isk b 0 t = true
    · rw [if_pos h0] at v1
      have l1 : sn_lf b t = -1 := sn_lfn (fun _ => (sn_isk1 h0).2)
      by_cases o20 : o = 20
      · refine sg_op3a4_run G hd_ctK (sx_M_self hM1) q0 q1 (by omega) q2 (by omega) (by omega) (by omega) ?_
        intro r σ2 z1 z2 z3 hM2
        exact full r σ2 (Or.inl o20) (by omega) (by omega) (by omega) (hd_tr (sx_M_mask (by decide +kernel) hM1) hM2 (by decide +kernel))
      by_cases d8 : 8 < F.length + 1
      · refine sg_op3a5_run G hd_ctK (sx_M_self hM1) q0 q1 (by omega) q2 (by omega) (by omega) (by omega) (by omega) ?_
        intro r σ2 z1 z2 z3 hM2
        exact full r σ2 (Or.inr d8) (by omega) (by omega) (by omega) (hd_tr (sx_M_mask (by decide +kernel) hM1) hM2 (by decide +kernel))
      refine sg_op3a_run G hd_ctK (sx_M_self hM1) q0 q1 (by omega) q2 (by omega) (by omega) (by omega) (by omega) ?_
      intro lw2 y1 y2 y3 σ2 p0 p1 p2 p3 u1 u2 u3 u4 hM2
      exact B lw2 y1 y2 y3 σ2 p0 p1 p2 p3 (by rw [← w1]; omega) (by rw [← w2]; omega) (by omega) P (fun h => by rcases h with h | h <;> omega) (by omega) (hd_tr (sx_M_mask (by decide +kernel) hM1) hM2 (by decide +kernel))
    rw [if_neg h0] at v1
    by_cases h1 : rd_sgf t 40 = 0
    · rw [if_pos h1] at v2
      have l1 : sn_lf b t = -1 := sn_lfn (fun q => by have := (sn_sg.mp h1).1; omega)
      by_cases o20 : o = 20
      · refine sg_op3b4_run G hd_ctK (sx_M_self hM1) q0 q1 (by omega) q2 (by omega) (by omega) (by omega) ?_
        intro r σ2 z1 z2 z3 hM2
        exact full r σ2 (Or.inl o20) (by omega) (by omega) (by omega) (hd_tr (sx_M_mask (by decide +kernel) hM1) hM2 (by decide +kernel))
      by_cases d8 : 8 < F.length + 1
      · refine sg_op3b5_run G hd_ctK (sx_M_self hM1) q0 q1 (by omega) q2 (by omega) (by omega) (by omega) (by omega) ?_
        intro r σ2 z1 z2 z3 hM2
        exact full r σ2 (Or.inr d8) (by omega) (by omega) (by omega) (hd_tr (sx_M_mask (by decide +kernel) hM1) hM2 (by decide +kernel))
      refine sg_op3b_run G hd_ctK (sx_M_self hM1) q0 q1 (by omega) q2 (by omega) (by omega) (by omega) (by omega) ?_
      intro lw2 y1 y2 y3 σ2 p0 p1 p2 p3 u1 u2 u3 u4 hM2
      exact B lw2 y1 y2 y3 σ2 p0 p1 p2 p3 (by rw [← w1]; omega) (by rw [← w2]; omega) (by omega) P (fun h => by rcases h with h | h <;> omega) (by omega) (hd_tr (sx_M_mask (by decide +kernel) hM1) hM2 (by decide +kernel))
    rw [if_neg h1] at v2
    have h2 : 0 ≤ sn_lf b t := by
      rcases P with h | h | h
      · exact absurd h h0
      · exact absurd h h1
      · exact h
    by_cases o20 : o = 20
    · refine sg_op3c4_run G hd_ctK (sx_M_self hM1) q0 q1 (by omega) q2 (by omega) (by omega) (by omega) ?_
      intro r σ2 z1 z2 z3 hM2
      exact full r σ2 (Or.inl o20) (by omega) (by omega) (by omega) (hd_tr (sx_M_mask (by decide +kernel) hM1) hM2 (by decide +kernel))
    by_cases d8 : 8 < F.length + 1
    · refine sg_op3c5_run G hd_ctK (sx_M_self hM1) q0 q1 (by omega) q2 (by omega) (by omega) (by omega) (by omega) ?_
      intro r σ2 z1 z2 z3 hM2
      exact full r σ2 (Or.inr d8) (by omega) (by omega) (by omega) (hd_tr (sx_M_mask (by decide +kernel) hM1) hM2 (by decide +kernel))
    refine sg_op3c_run G hd_ctK (sx_M_self hM1) q0 q1 (by omega) q2 (by omega) (by omega) (by omega) (by omega) ?_
    intro lw2 y1 y2 y3 σ2 p0 p1 p2 p3 u1 u2 u3 u4 hM2
    exact B lw2 y1 y2 y3 σ2 p0 p1 p2 p3 (by rw [← w1]; omega) (by rw [← w2]; omega) (by omega) P (fun h => by rcases h with h | h <;> omega) (by omega) (hd_tr (sx_M_mask (by decide +kernel) hM1) hM2 (by decide +kernel))
  by_cases e3 : t.1 = 3
  · have n12 := N.2.2.2.1 (Or.inr e3)
    by_cases e40 : t.2.2.2.2 = 40
    · refine sg_op1a_run G hd_ctK hM hl (by omega) (by omega) b0 ?_
      intro lw1 x1 x2 σ1 q0 q1 q2 f1 f2 hM1
      exact A lw1 x1 x2 σ1 q0 q1 q2 (by rw [← e0]; omega) (by rw [if_pos (sn_sg.mpr ⟨e3, e40⟩)]; omega) hM1
    · have sn : ¬ rd_sgf t 40 = 0 := fun h => e40 (sn_sg.mp h).2
      by_cases l40 : t.2.2.2.2 < 40
      · refine sg_op1b_run G hd_ctK hM hl (by omega) ⟨Int32.le_toInt _, by omega⟩ b0 ?_
        intro lw1 x1 x2 σ1 q0 q1 q2 f1 f2 hM1
        exact A lw1 x1 x2 σ1 q0 q1 q2 (by rw [← e0]; omega) (by rw [if_neg sn]; omega) hM1
      · refine sg_op1c_run G hd_ctK hM hl (by omega) ⟨by omega, Int32.toInt_le _⟩ b0 ?_
        intro lw1 x1 x2 σ1 q0 q1 q2 f1 f2 hM1
        exact A lw1 x1 x2 σ1 q0 q1 q2 (by rw [← e0]; omega) (by rw [if_neg sn]; omega) hM1
  · have sn : ¬ rd_sgf t 40 = 0 := fun h => e3 (sn_sg.mp h).1
    by_cases l3 : t.1 ≤ 2
    · refine sg_op1d_run G hd_ctK hM hl (by omega) b0 ?_
      intro lw1 x1 x2 σ1 q0 q1 q2 f1 f2 hM1
      exact A lw1 x1 x2 σ1 q0 q1 q2 (by rw [← e0]; omega) (by rw [if_neg sn]; omega) hM1
    · refine sg_op1e_run G hd_ctK hM hl (by omega) b0 ?_
      intro lw1 x1 x2 σ1 q0 q1 q2 f1 f2 hM1
      exact A lw1 x1 x2 σ1 q0 q1 q2 (by rw [← e0]; omega) (by rw [if_neg sn]; omega) hM1
end SR4
