/-! the draft of the class: rows -/
def rc_bs (r : Nat) : Nat := [2, 12, 22, 32, 42, 48, 54].getD r 0
def rc_ln (r : Nat) : Nat := [10, 10, 10, 10, 6, 6, 8].getD r 0
/-- what the reading of a line writes: the token, the draft; and, if it fails, the fault -/
def rc_mA : Nat := Nat.lor rc_mN rc_m78
def rc_mK : Nat := Nat.lor rc_mN (Nat.lor (Nat.shiftLeft 3 54) (Nat.shiftLeft 255 57))
def rc_mL : Nat := Nat.lor rc_mK rc_m78
theorem rc_KL {σe σ : am_S} (h : sx_M z9 hd_C σe rc_mK 0 σ) : sx_M z9 hd_C σe rc_mL 0 σ := sx_M_mask (by decide +kernel) h
theorem rc_bs_in : ∀ r, r < 7 → 2 ≤ rc_bs r ∧ rc_ln r ≤ 10 ∧ ∀ k, k < rc_ln r → rc_bs r + k < 62 := by decide +kernel
theorem rc_dis : ∀ r, r < 7 → ∀ r', r' < 7 → r ≠ r' → ∀ k, k < rc_ln r → ∀ k', k' < rc_ln r' → rc_bs r + k ≠ rc_bs r' + k' := by decide +kernel
theorem rc_a13 : ∀ r, r < 7 → ∀ k, k < rc_ln r → (match sx_atl (z9.1 (13 + r)) k with | some (_, _, u) => u == 58 + r | none => false) = true := by decide +kernel
theorem rc_u13 {r k : Nat} (hr : r < 7) (hk : k < rc_ln r) : ∃ lo hi, sx_atl (z9.1 (13 + r)) k = some (lo, hi, 58 + r) := by
  have h := rc_a13 r hr k hk
  split at h
  · rename_i lo hi u e
    rw [beq_iff_eq] at h
    rw [h] at e
    exact ⟨lo, hi, e⟩
  · cases h
theorem rc_mo13 : ∀ r, r < 7 → (z9.2.1 (13 + r)).1 = 0 ∧ (z9.2.1 (13 + r)).2.1 = 0 := by decide +kernel
theorem rc_cl13 : ∀ c ∈ z9.2.2.2.2.1, ∀ r, r < 7 → c.2.1 ≠ 13 + r := by decide +kernel
theorem rc_cu13 : ∀ c ∈ z9.2.2.2.2.2.1, ∀ r, r < 7 → c.2.1 ≠ 13 + r := by decide +kernel
theorem rc_mK13 : ∀ r, r < 7 → sx_bit rc_mK (58 + r) = true ∧ sx_bit rc_mA (58 + r) = false := by decide +kernel
/-- the draft: counts, what is told, and the rows as far as c says -/
def rc_H (σ : am_S) (q : rd_Q) (c : Nat → Nat) : Prop := (σ.2.1 12 7).toInt = (q.2.1 0).toInt ∧ (σ.2.1 12 8).toInt = (q.2.1 1).toInt ∧ σ.2.1 12 10 = q.2.2 ∧ ∀ r, r < 7 → c r ≤ rc_ln r ∧ ∀ k, k < c r → σ.2.1 (13 + r) k = q.2.1 (rc_bs r + k)
def rc_E (σ : am_S) (b : Nat → Nat) (n most : Nat) (q : rd_Q) (c : Nat → Nat) : Prop := rc_X σ b n most ∧ rc_N σ q.1 ∧ rc_H σ q c ∧ rd_gd b n most q.1
theorem rc_Hm {σ σ' : am_S} {q : rd_Q} {c : Nat → Nat} {m : Nat} (H : rc_H σ q c) (h : sx_M z9 hd_C σ m 0 σ') (hm : (Nat.lor m rc_mA).beq rc_mA = true) : rc_H σ' q c := by
  have fr : ∀ u, sx_bit rc_mA u = false → sx_bit m u = false := fun u h => sx_lor_sub hm h
  refine ⟨?_, ?_, ?_, fun r hr => ⟨(H.2.2.2 r hr).1, fun k hk => ?_⟩⟩
  · rw [h.2.2.2.2.1 12 7 _ _ 54 rfl (fr _ (by decide +kernel))]; exact H.1
  · rw [h.2.2.2.2.1 12 8 _ _ 55 rfl (fr _ (by decide +kernel))]; exact H.2.1
  · rw [h.2.2.2.2.1 12 10 _ _ 57 rfl (fr _ (by decide +kernel))]; exact H.2.2.1
  · obtain ⟨lo, hi, e⟩ := rc_u13 hr (Nat.lt_of_lt_of_le hk (H.2.2.2 r hr).1)
    rw [h.2.2.2.2.1 (13 + r) k lo hi _ e (fr _ (rc_mK13 r hr).2)]
    exact (H.2.2.2 r hr).2 k hk
theorem rc_E0 {σ σ' : am_S} {b : Nat → Nat} {n most : Nat} {q : rd_Q} {c : Nat → Nat} (E : rc_E σ b n most q c) (h : sx_M z9 hd_C σ 0 0 σ') : rc_E σ' b n most q c :=
  ⟨rc_Xm E.1 h (sx_bit0 _) (sx_bit0 _) (sx_bit0 _), rc_N0 E.2.1 h (sx_bit0 _) (sx_bit0 _) (sx_bit0 _) (sx_bit0 _) (sx_bit0 _), rc_Hm E.2.2.1 h (by decide +kernel), E.2.2.2⟩
/-- a new token -/
theorem rc_En {σ σ' : am_S} {b : Nat → Nat} {n most : Nat} {q : rd_Q} {c : Nat → Nat} (E : rc_E σ b n most q c) (h : sx_M z9 hd_C σ rc_mN 0 σ') (N : rc_N σ' (rd_tok b n most q.1.2.2.2.1)) : rc_E σ' b n most (rd_tok b n most q.1.2.2.2.1, q.2) c :=
  ⟨rc_Xm E.1 h (by decide +kernel) (by decide +kernel) (by decide +kernel), N, rc_Hm E.2.2.1 h (by decide +kernel), (rd_gd_x E.2.2.2).1⟩
def rc_cu (c : Nat → Nat) (r v : Nat) : Nat → Nat := fun r' => if r' = r then v else c r'
theorem rc_Eput {σ : am_S} {b : Nat → Nat} {n most : Nat} {q : rd_Q} {c : Nat → Nat} (E : rc_E σ b n most q c) {r k : Nat} (hr : r < 7) (hk : k < rc_ln r) (hkc : k ≤ c r) (x : Int32) : rc_E (σ.1, am_up σ.2.1 (13 + r) k x, σ.2.2.1, σ.2.2.2) b n most (q.1, rd_up q.2.1 (rc_bs r + k) x, q.2.2) (rc_cu c r (max (c r) (k + 1))) := by
  have ne : ∀ o j, o < 13 → am_up σ.2.1 (13 + r) k x o j = σ.2.1 o j := fun o j ho => am_up_n _ _ (fun h => by omega)
  have b2 := (rc_bs_in r hr).1
  refine ⟨⟨fun j hj => ?_, ?_, ?_, E.1.2.2.2⟩, ?_, ⟨?_, ?_, ?_, fun r' hr' => ⟨?_, fun k' hk' => ?_⟩⟩, E.2.2.2⟩
  · rw [← E.1.1 j hj]
    unfold rd_by
    show (am_up σ.2.1 (13 + r) k x 2 j &&& 255).toInt.toNat = _
    rw [ne 2 j (by decide)]
  · show (am_up σ.2.1 (13 + r) k x 1 1).toInt = _
    rw [ne 1 1 (by decide)]; exact E.1.2.1
  · show (am_up σ.2.1 (13 + r) k x 3 1).toInt = _
    rw [ne 3 1 (by decide)]; exact E.1.2.2.1
  · have N := E.2.1
    unfold rc_N at N ⊢
    show (am_up σ.2.1 (13 + r) k x 3 3).toInt = _ ∧ (am_up σ.2.1 (13 + r) k x 3 4).toInt = _ ∧ (_ → (am_up σ.2.1 (13 + r) k x 3 2).toInt = _) ∧ (_ → (am_up σ.2.1 (13 + r) k x 3 5).toInt = _) ∧ (_ → (am_up σ.2.1 (13 + r) k x 3 6).toInt = _)
    rw [ne 3 3 (by decide), ne 3 4 (by decide), ne 3 2 (by decide), ne 3 5 (by decide), ne 3 6 (by decide)]
    exact N
  · show (am_up σ.2.1 (13 + r) k x 12 7).toInt = (rd_up q.2.1 (rc_bs r + k) x 0).toInt
    rw [ne 12 7 (by decide), rd_up_n _ _ (by omega)]; exact E.2.2.1.1
  · show (am_up σ.2.1 (13 + r) k x 12 8).toInt = (rd_up q.2.1 (rc_bs r + k) x 1).toInt
    rw [ne 12 8 (by decide), rd_up_n _ _ (by omega)]; exact E.2.2.1.2.1
  · show am_up σ.2.1 (13 + r) k x 12 10 = q.2.2
    rw [ne 12 10 (by decide)]; exact E.2.2.1.2.2.1
  · unfold rc_cu
    split
    · rename_i e; subst e
      have := (E.2.2.1.2.2.2 r' hr').1
      omega
    · exact (E.2.2.1.2.2.2 r' hr').1
  · show am_up σ.2.1 (13 + r) k x (13 + r') k' = rd_up q.2.1 (rc_bs r + k) x (rc_bs r' + k')
    have hc := E.2.2.1.2.2.2 r' hr'
    by_cases er : r' = r
    · subst er
      have hk2 : k' < max (c r') (k + 1) := by
        unfold rc_cu at hk'
        rw [if_pos rfl] at hk'
        exact hk'
      by_cases ek : k' = k
      · subst ek
        rw [am_up_s, rd_up_s]
      · rw [am_up_n _ _ (fun h => ek h.2), rd_up_n _ _ (by omega)]
        exact hc.2 k' (by omega)
    · have hk2 : k' < c r' := by
        unfold rc_cu at hk'
        rw [if_neg er] at hk'
        exact hk'
      rw [am_up_n _ _ (fun h => er (by omega)), rd_up_n _ _ (rc_dis r' hr' r hr er k' (Nat.lt_of_lt_of_le hk2 hc.1) k hk)]
      exact hc.2 k' hk2
/-- what is owed at the end of a reading -/
def rc_R (K : Int32 → am_S → Prop) (σ : am_S) (b : Nat → Nat) (n most : Nat) (x : (Nat × Nat) ⊕ rd_Q) (c : Nat → Nat) : Prop :=
  (∀ (r : Int32) (σ' : am_S) (kd at' : Nat), x = .inl (kd, at') → r.toInt = 0 → sx_M z9 hd_C σ rc_mL 0 σ' → (σ'.2.1 3 7).toInt = kd → (σ'.2.1 3 8).toInt = at' → K r σ') ∧
  (∀ (r : Int32) (σ' : am_S) (q' : rd_Q), x = .inr q' → r.toInt = 1 → sx_M z9 hd_C σ rc_mK 0 σ' → rc_E σ' b n most q' c → K r σ')
theorem rc_Rm {K : Int32 → am_S → Prop} {σ σ1 : am_S} {b : Nat → Nat} {n most : Nat} {x : (Nat × Nat) ⊕ rd_Q} {c : Nat → Nat} (R : rc_R K σ b n most x c) (h : sx_M z9 hd_C σ rc_mK 0 σ1) : rc_R K σ1 b n most x c :=
  ⟨fun r σ' kd at' a1 a2 a3 a4 a5 => R.1 r σ' kd at' a1 a2 (hd_tr (rc_KL h) a3 (by decide +kernel)) a4 a5, fun r σ' q' a1 a2 a3 a4 => R.2 r σ' q' a1 a2 (hd_tr h a3 (by decide +kernel)) a4⟩
/-- the fault's places stay -/
theorem rc_F78 {σ σ' : am_S} (h : sx_M z9 hd_C σ 0 0 σ') : σ'.2.1 3 7 = σ.2.1 3 7 ∧ σ'.2.1 3 8 = σ.2.1 3 8 := ⟨h.2.2.2.2.1 3 7 _ _ 27 rfl (sx_bit0 _), h.2.2.2.2.1 3 8 _ _ 28 rfl (sx_bit0 _)⟩
section CJ
variable {g : am_C} {L : Nat} {xs : Nat → Int32}
theorem rc_Mup (G : sx_G0 g L xs z9 hd_C ex_mt) {σe σ : am_S} (hM : sx_M z9 hd_C σe rc_mK 0 σ) {r k : Nat} {x : Int32} (hr : r < 7) (hk : k < rc_ln r) (hx : ∀ lo hi u, sx_atl (z9.1 (13 + r)) k = some (lo, hi, u) → lo ≤ x.toInt ∧ x.toInt ≤ hi) : sx_M z9 hd_C σe rc_mK 0 (σ.1, am_up σ.2.1 (13 + r) k x, σ.2.2.1, σ.2.2.2) := by
  refine sx_M_up G.2.2.2.2.2.1 hM (fun lo hi' u e => ?_) ⟨fun h => absurd (rc_mo13 r hr).1 h, fun h => absurd (rc_mo13 r hr).2 h⟩ (fun _ h => h) (fun _ h => h) (fun c hc ho => absurd ho (rc_cl13 c hc r hr)) (fun c hc ho => absurd ho (rc_cu13 c hc r hr))
  have h := hx lo hi' u e
  obtain ⟨lo2, hi2, e2⟩ := rc_u13 hr hk
  rw [e2] at e
  cases e
  exact ⟨h.1, h.2, (rc_mK13 r hr).1⟩
/-- put, called -/
theorem rc_putc (G : sx_G0 g L xs z9 hd_C ex_mt) {T : ex_T} {d : Nat} (hdp : 2 ≤ d) {σ : am_S} {o len : Nat} (ho : σ.1[o]? = some (.inr (.int, len))) (hlen : len < 2 ^ 31) {k : Nat} (hk : k < len) {m1 x : Int32} (e1 : m1.toInt = k) {lw : List (Nat × Value)} {pc i mi q : Nat} (hT : ex_mt mi = some tX11_put) (hd : decode T.1.2.1 pc = .ok (.invokestatic i, 3)) (hl : ex_lk ex_mt T pc (.invokestatic i) [0, mi, q] = true) {st : List Value} (hroom : (st.map fun v => v.category).sum ≤ 8) {post : Option (Option Value) → am_S → Prop} (kk : am_K g d T.1 0 0 (pc + 3) lw st (σ.1, am_up σ.2.1 o k x, σ.2.2.1, σ.2.2.2) post) : am_K g d T.1 0 0 pc lw (.int x :: .int m1 :: .ref o :: st) σ post := by
  have z0 : (0 : Int32).toInt = 0 := rfl
  have zn : (nI len).toInt = len := Int32.toInt_ofNat_of_lt hlen
  refine rd_callS G (T2 := tX11_put) hT hd hl rfl rfl (as := [.ref o, .int m1, .int x]) (st := st) rfl (Nat.le_of_ble_eq_true rfl) rfl hroom (d1 := 1) hdp (post1 := fun r σ' => r = some none ∧ σ' = (σ.1, am_up σ.2.1 o k x, σ.2.2.1, σ.2.2.2)) (fun _ h => by cases h.1) ?_ ?_
  · refine kr_iload_n 1 rd_d_X11_put_0 rfl ?_
    refine kr_if_lt (tgt := 14) rd_d_X11_put_1 rfl (fun h => by have := Int32.lt_iff_toInt_lt.mp h; omega) (fun _ => ?_)
    refine kr_iload_n 1 rd_d_X11_put_4 rfl ?_
    refine kr_aload_n 0 rd_d_X11_put_5 rfl ?_
    refine kr_alenI G.1 rd_d_X11_put_6 ho ?_
    refine kr_icmp_ge (tgt := 14) rd_d_X11_put_7 rfl (fun h => by have := Int32.le_iff_toInt_le.mp h; omega) (fun _ => ?_)
    refine kr_aload_n 0 rd_d_X11_put_10 rfl ?_
    refine kr_iload_n 1 rd_d_X11_put_11 rfl ?_
    refine kr_iload_n 2 rd_d_X11_put_12 rfl ?_
    refine kr_iast G.1 rd_d_X11_put_13 ho (hd_in e1 hk) ?_
    rw [hd_clamp e1]
    exact kr_return rd_d_X11_put_14 rfl ⟨rfl, rfl⟩
  · intro v σ' ⟨hv, hs⟩
    cases hv
    subst hs
    exact kk
theorem rc_into13 (G : sx_G0 g L xs z9 hd_C ex_mt) (hct : rc_ct g) {σ : am_S} (hM : sx_M z9 hd_C σ 0 0 σ) {b : Nat → Nat} {n most : Nat} {q : rd_Q} {c : Nat → Nat} (E : rc_E σ b n most q c) {k lo hi : Nat} (hk : k < 10) (hkc : k ≤ c 0) (hfit : ∀ lo' hi' u, sx_atl (z9.1 13) k = some (lo', hi', u) → lo' ≤ (lo : Int) ∧ (hi : Int) ≤ hi') {lw : List (Nat × Value)} (hl : (0, Value.ref 13) ∈ lw) (hl2 : (2, Value.ref 3) ∈ lw) {m1 m3 m4 : Int32} (hl1 : (1, Value.int m1) ∈ lw) (hl3 : (3, Value.int m3) ∈ lw) (hl4 : (4, Value.int m4) ∈ lw) (h1 : m1.toInt = k) (h3 : m3.toInt = lo) (h4 : m4.toInt = hi) {post : Option (Option Value) → am_S → Prop} (R : rc_R (fun r σ' => post (some (some (.int r))) σ') σ b n most (rd_put1 b n most q (2 + k) lo hi) (rc_cu c 0 (max (c 0) (k + 1)))) : am_K g 25 tX9_readInto.1 0 0 0 lw [] σ post := by
  refine sg_ri1_13_run G hct hM hl hl2 hl1 hl3 hl4 ?_
  intro lw1 y1 a4 a3 σ1 p0 p2 p1 c1 c2 c3 hM1
  have E1 := rc_E0 E hM1
  have H1 : sx_M z9 hd_C σ rc_mK 0 σ1 := sx_M_mask (by decide +kernel) hM1
  refine rd_call G (T2 := tX6_seesNumber) rfl rd_d_X9_readInto_4 rd_k_X9_readInto_4 rfl (hM1.1 3 (.inl 6) rfl) (as := [.int a3, .int a4]) (st := []) rfl (Nat.le_of_ble_eq_true rfl) rfl (by decide) (d1 := 6) (by decide)
    (post1 := fun r σ' => ∃ y : Int32, r = some (some (.int y)) ∧ ((rd_tkf q.1 lo hi ≠ 0 ∧ y.toInt = 0 ∧ sx_M z9 hd_C σ1 rc_m78 0 σ' ∧ (σ'.2.1 3 7).toInt = (rd_tkf q.1 lo hi : Nat) ∧ (σ'.2.1 3 8).toInt = (q.1.2.1 : Nat)) ∨ (rd_tkf q.1 lo hi = 0 ∧ y.toInt = 1 ∧ sx_M z9 hd_C σ1 0 0 σ'))) (fun _ h => by obtain ⟨y, h, -⟩ := h; cases h)
    (rc_sees G hct (sx_M_self hM1) E1.2.1 E1.2.2.2 (lo := lo) (hi := hi) (by simp [lv_args, Value.category]) (m1 := a3) (m2 := a4) (by simp [lv_args, Value.category]) (by simp [lv_args, Value.category]) (by omega) (by omega) (fun r σ' d1 d2 d3 d4 d5 => ⟨r, rfl, Or.inl ⟨d1, d2, d3, d4, d5⟩⟩) (fun r σ' d1 d2 d3 => ⟨r, rfl, Or.inr ⟨d1, d2, d3⟩⟩)) ?_
  intro v σ2 ⟨y, hv, hh⟩
  cases hv
  rcases hh with ⟨d1, d2, d3, d4, d5⟩ | ⟨d1, d2, d3⟩
  · refine sg_ri2a_13_run G hct (sx_M_self d3) p0 p2 (by omega) ?_
    intro r σ3 c4 hM3
    have f78 := rc_F78 hM3
    exact R.1 r σ3 (rd_tkf q.1 lo hi) q.1.2.1 (by unfold rd_put1; exact if_neg d1) (by omega) (hd_tr (hd_tr (rc_KL H1) d3 (by decide +kernel)) hM3 (by decide +kernel)) (by rw [f78.1]; exact d4) (by rw [f78.2]; exact d5)
  · have E2 := rc_E0 E1 d3
    have H2 := hd_tr H1 d3 (by decide +kernel)
    have t2 : q.1.1 = 2 := by
      unfold rd_tkf at d1
      split at d1
      · rename_i e; exact e
      · cases d1
    have hr : lo ≤ q.1.2.2.2.2 ∧ q.1.2.2.2.2 ≤ hi := by
      unfold rd_tkf at d1
      rw [if_pos t2] at d1
      split at d1
      · rename_i h; exact h
      · cases d1
    refine sg_ri2b_13_run G hct (sx_M_self d3) p0 p2 p1 (by omega) ?_
    intro lw3 x n1 σ3 q0 q2 c4 c5 hM3
    have E3 := rc_E0 E2 hM3
    have H3 := hd_tr H2 hM3 (by decide +kernel)
    have n6 := E2.2.1.2.2.2.2 t2
    have ex : x.toInt = (q.1.2.2.2.2 : Nat) := by omega
    refine rc_putc G (d := 25) (by decide) (hM3.1 13 (.inr (.int, 10)) rfl) (by decide) hk (by omega) rfl rd_d_X9_readInto_18 rd_k_X9_readInto_18 (by decide) ?_
    have H4 := rc_Mup G H3 (r := 0) (k := k) (x := x) (by decide) hk (fun lo' hi' u e => by have := hfit lo' hi' u e; omega)
    have E4 := rc_Eput E3 (r := 0) (k := k) (by decide) hk hkc x
    rw [rd_ofNat ex] at E4 H4 ⊢
    refine sg_ri3_13_run G hct (sx_M_self H4) q0 q2 ?_
    intro lw5 σ5 u0 u2 hM5
    have E5 := rc_E0 E4 hM5
    have H5 := hd_tr H4 hM5 (by decide +kernel)
    refine rc_stc G hct (d := 25) (by decide) (sx_M_self hM5) E5.1 (E5.2.1.2.2.1 (Or.inr (Or.inl t2))) rfl rd_d_X9_readInto_22 rd_k_X9_readInto_22 (by decide) ?_
    intro σ6 hM6 N6
    have E6 := rc_En E5 hM6 N6
    refine sg_ri4_13_run G hct (sx_M_self hM6) u0 u2 ?_
    intro r7 σ7 c7 hM7
    exact R.2 r7 σ7 _ (by unfold rd_put1; exact if_pos d1) (by omega) (hd_tr (hd_tr H5 hM6 (by decide +kernel)) hM7 (by decide +kernel)) (rc_E0 E6 hM7)
/-- readInto, called -/
theorem rc_intoc13 (G : sx_G0 g L xs z9 hd_C ex_mt) (hct : rc_ct g) {T : ex_T} {d : Nat} (hdp : 26 ≤ d) {σ : am_S} (hM : sx_M z9 hd_C σ 0 0 σ) {b : Nat → Nat} {n most : Nat} {q : rd_Q} {c : Nat → Nat} (E : rc_E σ b n most q c) {k lo hi : Nat} (hk : k < 10) (hkc : k ≤ c 0) (hfit : ∀ lo' hi' u, sx_atl (z9.1 13) k = some (lo', hi', u) → lo' ≤ (lo : Int) ∧ (hi : Int) ≤ hi') {m1 m3 m4 : Int32} (h1 : m1.toInt = k) (h3 : m3.toInt = lo) (h4 : m4.toInt = hi) {lw : List (Nat × Value)} {pc i mi z : Nat} (hT : ex_mt mi = some tX9_readInto) (hd : decode T.1.2.1 pc = .ok (.invokestatic i, 3)) (hl : ex_lk ex_mt T pc (.invokestatic i) [0, mi, z] = true) {post : Option (Option Value) → am_S → Prop} (R : rc_R (fun r σ' => am_K g d T.1 0 0 (pc + 3) lw [.int r] σ' post) σ b n most (rd_put1 b n most q (2 + k) lo hi) (rc_cu c 0 (max (c 0) (k + 1)))) : am_K g d T.1 0 0 pc lw [.int m4, .int m3, .ref 3, .int m1, .ref 13] σ post := by
  refine rd_callS G (T2 := tX9_readInto) hT hd hl rfl rfl (as := [.ref 13, .int m1, .ref 3, .int m3, .int m4]) (st := []) rfl (Nat.le_of_ble_eq_true rfl) rfl (by decide) (d1 := 25) hdp
    (post1 := fun r σ' => ∃ y : Int32, r = some (some (.int y)) ∧ am_K g d T.1 0 0 (pc + 3) lw [.int y] σ' post) (fun _ h => by obtain ⟨y, h, -⟩ := h; cases h)
    (rc_into13 G hct hM E hk hkc hfit (by simp [lv_args, Value.category]) (by simp [lv_args, Value.category]) (m1 := m1) (m3 := m3) (m4 := m4) (by simp [lv_args, Value.category]) (by simp [lv_args, Value.category]) (by simp [lv_args, Value.category]) h1 h3 h4 ⟨fun r σ' kd at' a1 a2 a3 a4 a5 => ⟨r, rfl, R.1 r σ' kd at' a1 a2 a3 a4 a5⟩, fun r σ' q' a1 a2 a3 a4 => ⟨r, rfl, R.2 r σ' q' a1 a2 a3 a4⟩⟩) ?_
  intro v σ' ⟨y, hv, hh⟩
  cases hv
  exact hh
theorem rc_into14 (G : sx_G0 g L xs z9 hd_C ex_mt) (hct : rc_ct g) {σ : am_S} (hM : sx_M z9 hd_C σ 0 0 σ) {b : Nat → Nat} {n most : Nat} {q : rd_Q} {c : Nat → Nat} (E : rc_E σ b n most q c) {k lo hi : Nat} (hk : k < 10) (hkc : k ≤ c 1) (hfit : ∀ lo' hi' u, sx_atl (z9.1 14) k = some (lo', hi', u) → lo' ≤ (lo : Int) ∧ (hi : Int) ≤ hi') {lw : List (Nat × Value)} (hl : (0, Value.ref 14) ∈ lw) (hl2 : (2, Value.ref 3) ∈ lw) {m1 m3 m4 : Int32} (hl1 : (1, Value.int m1) ∈ lw) (hl3 : (3, Value.int m3) ∈ lw) (hl4 : (4, Value.int m4) ∈ lw) (h1 : m1.toInt = k) (h3 : m3.toInt = lo) (h4 : m4.toInt = hi) {post : Option (Option Value) → am_S → Prop} (R : rc_R (fun r σ' => post (some (some (.int r))) σ') σ b n most (rd_put1 b n most q (12 + k) lo hi) (rc_cu c 1 (max (c 1) (k + 1)))) : am_K g 25 tX9_readInto.1 0 0 0 lw [] σ post := by
  refine sg_ri1_14_run G hct hM hl hl2 hl1 hl3 hl4 ?_
  intro lw1 y1 a4 a3 σ1 p0 p2 p1 c1 c2 c3 hM1
  have E1 := rc_E0 E hM1
  have H1 : sx_M z9 hd_C σ rc_mK 0 σ1 := sx_M_mask (by decide +kernel) hM1
  refine rd_call G (T2 := tX6_seesNumber) rfl rd_d_X9_readInto_4 rd_k_X9_readInto_4 rfl (hM1.1 3 (.inl 6) rfl) (as := [.int a3, .int a4]) (st := []) rfl (Nat.le_of_ble_eq_true rfl) rfl (by decide) (d1 := 6) (by decide)
    (post1 := fun r σ' => ∃ y : Int32, r = some (some (.int y)) ∧ ((rd_tkf q.1 lo hi ≠ 0 ∧ y.toInt = 0 ∧ sx_M z9 hd_C σ1 rc_m78 0 σ' ∧ (σ'.2.1 3 7).toInt = (rd_tkf q.1 lo hi : Nat) ∧ (σ'.2.1 3 8).toInt = (q.1.2.1 : Nat)) ∨ (rd_tkf q.1 lo hi = 0 ∧ y.toInt = 1 ∧ sx_M z9 hd_C σ1 0 0 σ'))) (fun _ h => by obtain ⟨y, h, -⟩ := h; cases h)
    (rc_sees G hct (sx_M_self hM1) E1.2.1 E1.2.2.2 (lo := lo) (hi := hi) (by simp [lv_args, Value.category]) (m1 := a3) (m2 := a4) (by simp [lv_args, Value.category]) (by simp [lv_args, Value.category]) (by omega) (by omega) (fun r σ' d1 d2 d3 d4 d5 => ⟨r, rfl, Or.inl ⟨d1, d2, d3, d4, d5⟩⟩) (fun r σ' d1 d2 d3 => ⟨r, rfl, Or.inr ⟨d1, d2, d3⟩⟩)) ?_
  intro v σ2 ⟨y, hv, hh⟩
  cases hv
  rcases hh with ⟨d1, d2, d3, d4, d5⟩ | ⟨d1, d2, d3⟩
  · refine sg_ri2a_14_run G hct (sx_M_self d3) p0 p2 (by omega) ?_
    intro r σ3 c4 hM3
    have f78 := rc_F78 hM3
    exact R.1 r σ3 (rd_tkf q.1 lo hi) q.1.2.1 (by unfold rd_put1; exact if_neg d1) (by omega) (hd_tr (hd_tr (rc_KL H1) d3 (by decide +kernel)) hM3 (by decide +kernel)) (by rw [f78.1]; exact d4) (by rw [f78.2]; exact d5)
  · have E2 := rc_E0 E1 d3
    have H2 := hd_tr H1 d3 (by decide +kernel)
    have t2 : q.1.1 = 2 := by
      unfold rd_tkf at d1
      split at d1
      · rename_i e; exact e
      · cases d1
    have hr : lo ≤ q.1.2.2.2.2 ∧ q.1.2.2.2.2 ≤ hi := by
      unfold rd_tkf at d1
      rw [if_pos t2] at d1
      split at d1
      · rename_i h; exact h
      · cases d1
    refine sg_ri2b_14_run G hct (sx_M_self d3) p0 p2 p1 (by omega) ?_
    intro lw3 x n1 σ3 q0 q2 c4 c5 hM3
    have E3 := rc_E0 E2 hM3
    have H3 := hd_tr H2 hM3 (by decide +kernel)
    have n6 := E2.2.1.2.2.2.2 t2
    have ex : x.toInt = (q.1.2.2.2.2 : Nat) := by omega
    refine rc_putc G (d := 25) (by decide) (hM3.1 14 (.inr (.int, 10)) rfl) (by decide) hk (by omega) rfl rd_d_X9_readInto_18 rd_k_X9_readInto_18 (by decide) ?_
    have H4 := rc_Mup G H3 (r := 1) (k := k) (x := x) (by decide) hk (fun lo' hi' u e => by have := hfit lo' hi' u e; omega)
    have E4 := rc_Eput E3 (r := 1) (k := k) (by decide) hk hkc x
    rw [rd_ofNat ex] at E4 H4 ⊢
    refine sg_ri3_14_run G hct (sx_M_self H4) q0 q2 ?_
    intro lw5 σ5 u0 u2 hM5
    have E5 := rc_E0 E4 hM5
    have H5 := hd_tr H4 hM5 (by decide +kernel)
    refine rc_stc G hct (d := 25) (by decide) (sx_M_self hM5) E5.1 (E5.2.1.2.2.1 (Or.inr (Or.inl t2))) rfl rd_d_X9_readInto_22 rd_k_X9_readInto_22 (by decide) ?_
    intro σ6 hM6 N6
    have E6 := rc_En E5 hM6 N6
    refine sg_ri4_14_run G hct (sx_M_self hM6) u0 u2 ?_
    intro r7 σ7 c7 hM7
    exact R.2 r7 σ7 _ (by unfold rd_put1; exact if_pos d1) (by omega) (hd_tr (hd_tr H5 hM6 (by decide +kernel)) hM7 (by decide +kernel)) (rc_E0 E6 hM7)
/-- readInto, called -/
theorem rc_intoc14 (G : sx_G0 g L xs z9 hd_C ex_mt) (hct : rc_ct g) {T : ex_T} {d : Nat} (hdp : 26 ≤ d) {σ : am_S} (hM : sx_M z9 hd_C σ 0 0 σ) {b : Nat → Nat} {n most : Nat} {q : rd_Q} {c : Nat → Nat} (E : rc_E σ b n most q c) {k lo hi : Nat} (hk : k < 10) (hkc : k ≤ c 1) (hfit : ∀ lo' hi' u, sx_atl (z9.1 14) k = some (lo', hi', u) → lo' ≤ (lo : Int) ∧ (hi : Int) ≤ hi') {m1 m3 m4 : Int32} (h1 : m1.toInt = k) (h3 : m3.toInt = lo) (h4 : m4.toInt = hi) {lw : List (Nat × Value)} {pc i mi z : Nat} (hT : ex_mt mi = some tX9_readInto) (hd : decode T.1.2.1 pc = .ok (.invokestatic i, 3)) (hl : ex_lk ex_mt T pc (.invokestatic i) [0, mi, z] = true) {post : Option (Option Value) → am_S → Prop} (R : rc_R (fun r σ' => am_K g d T.1 0 0 (pc + 3) lw [.int r] σ' post) σ b n most (rd_put1 b n most q (12 + k) lo hi) (rc_cu c 1 (max (c 1) (k + 1)))) : am_K g d T.1 0 0 pc lw [.int m4, .int m3, .ref 3, .int m1, .ref 14] σ post := by
  refine rd_callS G (T2 := tX9_readInto) hT hd hl rfl rfl (as := [.ref 14, .int m1, .ref 3, .int m3, .int m4]) (st := []) rfl (Nat.le_of_ble_eq_true rfl) rfl (by decide) (d1 := 25) hdp
    (post1 := fun r σ' => ∃ y : Int32, r = some (some (.int y)) ∧ am_K g d T.1 0 0 (pc + 3) lw [.int y] σ' post) (fun _ h => by obtain ⟨y, h, -⟩ := h; cases h)
    (rc_into14 G hct hM E hk hkc hfit (by simp [lv_args, Value.category]) (by simp [lv_args, Value.category]) (m1 := m1) (m3 := m3) (m4 := m4) (by simp [lv_args, Value.category]) (by simp [lv_args, Value.category]) (by simp [lv_args, Value.category]) h1 h3 h4 ⟨fun r σ' kd at' a1 a2 a3 a4 a5 => ⟨r, rfl, R.1 r σ' kd at' a1 a2 a3 a4 a5⟩, fun r σ' q' a1 a2 a3 a4 => ⟨r, rfl, R.2 r σ' q' a1 a2 a3 a4⟩⟩) ?_
  intro v σ' ⟨y, hv, hh⟩
  cases hv
  exact hh
theorem rc_into15 (G : sx_G0 g L xs z9 hd_C ex_mt) (hct : rc_ct g) {σ : am_S} (hM : sx_M z9 hd_C σ 0 0 σ) {b : Nat → Nat} {n most : Nat} {q : rd_Q} {c : Nat → Nat} (E : rc_E σ b n most q c) {k lo hi : Nat} (hk : k < 10) (hkc : k ≤ c 2) (hfit : ∀ lo' hi' u, sx_atl (z9.1 15) k = some (lo', hi', u) → lo' ≤ (lo : Int) ∧ (hi : Int) ≤ hi') {lw : List (Nat × Value)} (hl : (0, Value.ref 15) ∈ lw) (hl2 : (2, Value.ref 3) ∈ lw) {m1 m3 m4 : Int32} (hl1 : (1, Value.int m1) ∈ lw) (hl3 : (3, Value.int m3) ∈ lw) (hl4 : (4, Value.int m4) ∈ lw) (h1 : m1.toInt = k) (h3 : m3.toInt = lo) (h4 : m4.toInt = hi) {post : Option (Option Value) → am_S → Prop} (R : rc_R (fun r σ' => post (some (some (.int r))) σ') σ b n most (rd_put1 b n most q (22 + k) lo hi) (rc_cu c 2 (max (c 2) (k + 1)))) : am_K g 25 tX9_readInto.1 0 0 0 lw [] σ post := by
  refine sg_ri1_15_run G hct hM hl hl2 hl1 hl3 hl4 ?_
  intro lw1 y1 a4 a3 σ1 p0 p2 p1 c1 c2 c3 hM1
  have E1 := rc_E0 E hM1
  have H1 : sx_M z9 hd_C σ rc_mK 0 σ1 := sx_M_mask (by decide +kernel) hM1
  refine rd_call G (T2 := tX6_seesNumber) rfl rd_d_X9_readInto_4 rd_k_X9_readInto_4 rfl (hM1.1 3 (.inl 6) rfl) (as := [.int a3, .int a4]) (st := []) rfl (Nat.le_of_ble_eq_true rfl) rfl (by decide) (d1 := 6) (by decide)
    (post1 := fun r σ' => ∃ y : Int32, r = some (some (.int y)) ∧ ((rd_tkf q.1 lo hi ≠ 0 ∧ y.toInt = 0 ∧ sx_M z9 hd_C σ1 rc_m78 0 σ' ∧ (σ'.2.1 3 7).toInt = (rd_tkf q.1 lo hi : Nat) ∧ (σ'.2.1 3 8).toInt = (q.1.2.1 : Nat)) ∨ (rd_tkf q.1 lo hi = 0 ∧ y.toInt = 1 ∧ sx_M z9 hd_C σ1 0 0 σ'))) (fun _ h => by obtain ⟨y, h, -⟩ := h; cases h)
    (rc_sees G hct (sx_M_self hM1) E1.2.1 E1.2.2.2 (lo := lo) (hi := hi) (by simp [lv_args, Value.category]) (m1 := a3) (m2 := a4) (by simp [lv_args, Value.category]) (by simp [lv_args, Value.category]) (by omega) (by omega) (fun r σ' d1 d2 d3 d4 d5 => ⟨r, rfl, Or.inl ⟨d1, d2, d3, d4, d5⟩⟩) (fun r σ' d1 d2 d3 => ⟨r, rfl, Or.inr ⟨d1, d2, d3⟩⟩)) ?_
  intro v σ2 ⟨y, hv, hh⟩
  cases hv
  rcases hh with ⟨d1, d2, d3, d4, d5⟩ | ⟨d1, d2, d3⟩
  · refine sg_ri2a_15_run G hct (sx_M_self d3) p0 p2 (by omega) ?_
    intro r σ3 c4 hM3
    have f78 := rc_F78 hM3
    exact R.1 r σ3 (rd_tkf q.1 lo hi) q.1.2.1 (by unfold rd_put1; exact if_neg d1) (by omega) (hd_tr (hd_tr (rc_KL H1) d3 (by decide +kernel)) hM3 (by decide +kernel)) (by rw [f78.1]; exact d4) (by rw [f78.2]; exact d5)
  · have E2 := rc_E0 E1 d3
    have H2 := hd_tr H1 d3 (by decide +kernel)
    have t2 : q.1.1 = 2 := by
      unfold rd_tkf at d1
      split at d1
      · rename_i e; exact e
      · cases d1
    have hr : lo ≤ q.1.2.2.2.2 ∧ q.1.2.2.2.2 ≤ hi := by
      unfold rd_tkf at d1
      rw [if_pos t2] at d1
      split at d1
      · rename_i h; exact h
      · cases d1
    refine sg_ri2b_15_run G hct (sx_M_self d3) p0 p2 p1 (by omega) ?_
    intro lw3 x n1 σ3 q0 q2 c4 c5 hM3
    have E3 := rc_E0 E2 hM3
    have H3 := hd_tr H2 hM3 (by decide +kernel)
    have n6 := E2.2.1.2.2.2.2 t2
    have ex : x.toInt = (q.1.2.2.2.2 : Nat) := by omega
    refine rc_putc G (d := 25) (by decide) (hM3.1 15 (.inr (.int, 10)) rfl) (by decide) hk (by omega) rfl rd_d_X9_readInto_18 rd_k_X9_readInto_18 (by decide) ?_
    have H4 := rc_Mup G H3 (r := 2) (k := k) (x := x) (by decide) hk (fun lo' hi' u e => by have := hfit lo' hi' u e; omega)
    have E4 := rc_Eput E3 (r := 2) (k := k) (by decide) hk hkc x
    rw [rd_ofNat ex] at E4 H4 ⊢
    refine sg_ri3_15_run G hct (sx_M_self H4) q0 q2 ?_
    intro lw5 σ5 u0 u2 hM5
    have E5 := rc_E0 E4 hM5
    have H5 := hd_tr H4 hM5 (by decide +kernel)
    refine rc_stc G hct (d := 25) (by decide) (sx_M_self hM5) E5.1 (E5.2.1.2.2.1 (Or.inr (Or.inl t2))) rfl rd_d_X9_readInto_22 rd_k_X9_readInto_22 (by decide) ?_
    intro σ6 hM6 N6
    have E6 := rc_En E5 hM6 N6
    refine sg_ri4_15_run G hct (sx_M_self hM6) u0 u2 ?_
    intro r7 σ7 c7 hM7
    exact R.2 r7 σ7 _ (by unfold rd_put1; exact if_pos d1) (by omega) (hd_tr (hd_tr H5 hM6 (by decide +kernel)) hM7 (by decide +kernel)) (rc_E0 E6 hM7)
/-- readInto, called -/
theorem rc_intoc15 (G : sx_G0 g L xs z9 hd_C ex_mt) (hct : rc_ct g) {T : ex_T} {d : Nat} (hdp : 26 ≤ d) {σ : am_S} (hM : sx_M z9 hd_C σ 0 0 σ) {b : Nat → Nat} {n most : Nat} {q : rd_Q} {c : Nat → Nat} (E : rc_E σ b n most q c) {k lo hi : Nat} (hk : k < 10) (hkc : k ≤ c 2) (hfit : ∀ lo' hi' u, sx_atl (z9.1 15) k = some (lo', hi', u) → lo' ≤ (lo : Int) ∧ (hi : Int) ≤ hi') {m1 m3 m4 : Int32} (h1 : m1.toInt = k) (h3 : m3.toInt = lo) (h4 : m4.toInt = hi) {lw : List (Nat × Value)} {pc i mi z : Nat} (hT : ex_mt mi = some tX9_readInto) (hd : decode T.1.2.1 pc = .ok (.invokestatic i, 3)) (hl : ex_lk ex_mt T pc (.invokestatic i) [0, mi, z] = true) {post : Option (Option Value) → am_S → Prop} (R : rc_R (fun r σ' => am_K g d T.1 0 0 (pc + 3) lw [.int r] σ' post) σ b n most (rd_put1 b n most q (22 + k) lo hi) (rc_cu c 2 (max (c 2) (k + 1)))) : am_K g d T.1 0 0 pc lw [.int m4, .int m3, .ref 3, .int m1, .ref 15] σ post := by
  refine rd_callS G (T2 := tX9_readInto) hT hd hl rfl rfl (as := [.ref 15, .int m1, .ref 3, .int m3, .int m4]) (st := []) rfl (Nat.le_of_ble_eq_true rfl) rfl (by decide) (d1 := 25) hdp
    (post1 := fun r σ' => ∃ y : Int32, r = some (some (.int y)) ∧ am_K g d T.1 0 0 (pc + 3) lw [.int y] σ' post) (fun _ h => by obtain ⟨y, h, -⟩ := h; cases h)
    (rc_into15 G hct hM E hk hkc hfit (by simp [lv_args, Value.category]) (by simp [lv_args, Value.category]) (m1 := m1) (m3 := m3) (m4 := m4) (by simp [lv_args, Value.category]) (by simp [lv_args, Value.category]) (by simp [lv_args, Value.category]) h1 h3 h4 ⟨fun r σ' kd at' a1 a2 a3 a4 a5 => ⟨r, rfl, R.1 r σ' kd at' a1 a2 a3 a4 a5⟩, fun r σ' q' a1 a2 a3 a4 => ⟨r, rfl, R.2 r σ' q' a1 a2 a3 a4⟩⟩) ?_
  intro v σ' ⟨y, hv, hh⟩
  cases hv
  exact hh
theorem rc_into16 (G : sx_G0 g L xs z9 hd_C ex_mt) (hct : rc_ct g) {σ : am_S} (hM : sx_M z9 hd_C σ 0 0 σ) {b : Nat → Nat} {n most : Nat} {q : rd_Q} {c : Nat → Nat} (E : rc_E σ b n most q c) {k lo hi : Nat} (hk : k < 10) (hkc : k ≤ c 3) (hfit : ∀ lo' hi' u, sx_atl (z9.1 16) k = some (lo', hi', u) → lo' ≤ (lo : Int) ∧ (hi : Int) ≤ hi') {lw : List (Nat × Value)} (hl : (0, Value.ref 16) ∈ lw) (hl2 : (2, Value.ref 3) ∈ lw) {m1 m3 m4 : Int32} (hl1 : (1, Value.int m1) ∈ lw) (hl3 : (3, Value.int m3) ∈ lw) (hl4 : (4, Value.int m4) ∈ lw) (h1 : m1.toInt = k) (h3 : m3.toInt = lo) (h4 : m4.toInt = hi) {post : Option (Option Value) → am_S → Prop} (R : rc_R (fun r σ' => post (some (some (.int r))) σ') σ b n most (rd_put1 b n most q (32 + k) lo hi) (rc_cu c 3 (max (c 3) (k + 1)))) : am_K g 25 tX9_readInto.1 0 0 0 lw [] σ post := by
  refine sg_ri1_16_run G hct hM hl hl2 hl1 hl3 hl4 ?_
  intro lw1 y1 a4 a3 σ1 p0 p2 p1 c1 c2 c3 hM1
  have E1 := rc_E0 E hM1
  have H1 : sx_M z9 hd_C σ rc_mK 0 σ1 := sx_M_mask (by decide +kernel) hM1
  refine rd_call G (T2 := tX6_seesNumber) rfl rd_d_X9_readInto_4 rd_k_X9_readInto_4 rfl (hM1.1 3 (.inl 6) rfl) (as := [.int a3, .int a4]) (st := []) rfl (Nat.le_of_ble_eq_true rfl) rfl (by decide) (d1 := 6) (by decide)
    (post1 := fun r σ' => ∃ y : Int32, r = some (some (.int y)) ∧ ((rd_tkf q.1 lo hi ≠ 0 ∧ y.toInt = 0 ∧ sx_M z9 hd_C σ1 rc_m78 0 σ' ∧ (σ'.2.1 3 7).toInt = (rd_tkf q.1 lo hi : Nat) ∧ (σ'.2.1 3 8).toInt = (q.1.2.1 : Nat)) ∨ (rd_tkf q.1 lo hi = 0 ∧ y.toInt = 1 ∧ sx_M z9 hd_C σ1 0 0 σ'))) (fun _ h => by obtain ⟨y, h, -⟩ := h; cases h)
    (rc_sees G hct (sx_M_self hM1) E1.2.1 E1.2.2.2 (lo := lo) (hi := hi) (by simp [lv_args, Value.category]) (m1 := a3) (m2 := a4) (by simp [lv_args, Value.category]) (by simp [lv_args, Value.category]) (by omega) (by omega) (fun r σ' d1 d2 d3 d4 d5 => ⟨r, rfl, Or.inl ⟨d1, d2, d3, d4, d5⟩⟩) (fun r σ' d1 d2 d3 => ⟨r, rfl, Or.inr ⟨d1, d2, d3⟩⟩)) ?_
  intro v σ2 ⟨y, hv, hh⟩
  cases hv
  rcases hh with ⟨d1, d2, d3, d4, d5⟩ | ⟨d1, d2, d3⟩
  · refine sg_ri2a_16_run G hct (sx_M_self d3) p0 p2 (by omega) ?_
    intro r σ3 c4 hM3
    have f78 := rc_F78 hM3
    exact R.1 r σ3 (rd_tkf q.1 lo hi) q.1.2.1 (by unfold rd_put1; exact if_neg d1) (by omega) (hd_tr (hd_tr (rc_KL H1) d3 (by decide +kernel)) hM3 (by decide +kernel)) (by rw [f78.1]; exact d4) (by rw [f78.2]; exact d5)
  · have E2 := rc_E0 E1 d3
    have H2 := hd_tr H1 d3 (by decide +kernel)
    have t2 : q.1.1 = 2 := by
      unfold rd_tkf at d1
      split at d1
      · rename_i e; exact e
      · cases d1
    have hr : lo ≤ q.1.2.2.2.2 ∧ q.1.2.2.2.2 ≤ hi := by
      unfold rd_tkf at d1
      rw [if_pos t2] at d1
      split at d1
      · rename_i h; exact h
      · cases d1
    refine sg_ri2b_16_run G hct (sx_M_self d3) p0 p2 p1 (by omega) ?_
    intro lw3 x n1 σ3 q0 q2 c4 c5 hM3
    have E3 := rc_E0 E2 hM3
    have H3 := hd_tr H2 hM3 (by decide +kernel)
    have n6 := E2.2.1.2.2.2.2 t2
    have ex : x.toInt = (q.1.2.2.2.2 : Nat) := by omega
    refine rc_putc G (d := 25) (by decide) (hM3.1 16 (.inr (.int, 10)) rfl) (by decide) hk (by omega) rfl rd_d_X9_readInto_18 rd_k_X9_readInto_18 (by decide) ?_
    have H4 := rc_Mup G H3 (r := 3) (k := k) (x := x) (by decide) hk (fun lo' hi' u e => by have := hfit lo' hi' u e; omega)
    have E4 := rc_Eput E3 (r := 3) (k := k) (by decide) hk hkc x
    rw [rd_ofNat ex] at E4 H4 ⊢
    refine sg_ri3_16_run G hct (sx_M_self H4) q0 q2 ?_
    intro lw5 σ5 u0 u2 hM5
    have E5 := rc_E0 E4 hM5
    have H5 := hd_tr H4 hM5 (by decide +kernel)
    refine rc_stc G hct (d := 25) (by decide) (sx_M_self hM5) E5.1 (E5.2.1.2.2.1 (Or.inr (Or.inl t2))) rfl rd_d_X9_readInto_22 rd_k_X9_readInto_22 (by decide) ?_
    intro σ6 hM6 N6
    have E6 := rc_En E5 hM6 N6
    refine sg_ri4_16_run G hct (sx_M_self hM6) u0 u2 ?_
    intro r7 σ7 c7 hM7
    exact R.2 r7 σ7 _ (by unfold rd_put1; exact if_pos d1) (by omega) (hd_tr (hd_tr H5 hM6 (by decide +kernel)) hM7 (by decide +kernel)) (rc_E0 E6 hM7)
/-- readInto, called -/
theorem rc_intoc16 (G : sx_G0 g L xs z9 hd_C ex_mt) (hct : rc_ct g) {T : ex_T} {d : Nat} (hdp : 26 ≤ d) {σ : am_S} (hM : sx_M z9 hd_C σ 0 0 σ) {b : Nat → Nat} {n most : Nat} {q : rd_Q} {c : Nat → Nat} (E : rc_E σ b n most q c) {k lo hi : Nat} (hk : k < 10) (hkc : k ≤ c 3) (hfit : ∀ lo' hi' u, sx_atl (z9.1 16) k = some (lo', hi', u) → lo' ≤ (lo : Int) ∧ (hi : Int) ≤ hi') {m1 m3 m4 : Int32} (h1 : m1.toInt = k) (h3 : m3.toInt = lo) (h4 : m4.toInt = hi) {lw : List (Nat × Value)} {pc i mi z : Nat} (hT : ex_mt mi = some tX9_readInto) (hd : decode T.1.2.1 pc = .ok (.invokestatic i, 3)) (hl : ex_lk ex_mt T pc (.invokestatic i) [0, mi, z] = true) {post : Option (Option Value) → am_S → Prop} (R : rc_R (fun r σ' => am_K g d T.1 0 0 (pc + 3) lw [.int r] σ' post) σ b n most (rd_put1 b n most q (32 + k) lo hi) (rc_cu c 3 (max (c 3) (k + 1)))) : am_K g d T.1 0 0 pc lw [.int m4, .int m3, .ref 3, .int m1, .ref 16] σ post := by
  refine rd_callS G (T2 := tX9_readInto) hT hd hl rfl rfl (as := [.ref 16, .int m1, .ref 3, .int m3, .int m4]) (st := []) rfl (Nat.le_of_ble_eq_true rfl) rfl (by decide) (d1 := 25) hdp
    (post1 := fun r σ' => ∃ y : Int32, r = some (some (.int y)) ∧ am_K g d T.1 0 0 (pc + 3) lw [.int y] σ' post) (fun _ h => by obtain ⟨y, h, -⟩ := h; cases h)
    (rc_into16 G hct hM E hk hkc hfit (by simp [lv_args, Value.category]) (by simp [lv_args, Value.category]) (m1 := m1) (m3 := m3) (m4 := m4) (by simp [lv_args, Value.category]) (by simp [lv_args, Value.category]) (by simp [lv_args, Value.category]) h1 h3 h4 ⟨fun r σ' kd at' a1 a2 a3 a4 a5 => ⟨r, rfl, R.1 r σ' kd at' a1 a2 a3 a4 a5⟩, fun r σ' q' a1 a2 a3 a4 => ⟨r, rfl, R.2 r σ' q' a1 a2 a3 a4⟩⟩) ?_
  intro v σ' ⟨y, hv, hh⟩
  cases hv
  exact hh
theorem rc_into18 (G : sx_G0 g L xs z9 hd_C ex_mt) (hct : rc_ct g) {σ : am_S} (hM : sx_M z9 hd_C σ 0 0 σ) {b : Nat → Nat} {n most : Nat} {q : rd_Q} {c : Nat → Nat} (E : rc_E σ b n most q c) {k lo hi : Nat} (hk : k < 6) (hkc : k ≤ c 5) (hfit : ∀ lo' hi' u, sx_atl (z9.1 18) k = some (lo', hi', u) → lo' ≤ (lo : Int) ∧ (hi : Int) ≤ hi') {lw : List (Nat × Value)} (hl : (0, Value.ref 18) ∈ lw) (hl2 : (2, Value.ref 3) ∈ lw) {m1 m3 m4 : Int32} (hl1 : (1, Value.int m1) ∈ lw) (hl3 : (3, Value.int m3) ∈ lw) (hl4 : (4, Value.int m4) ∈ lw) (h1 : m1.toInt = k) (h3 : m3.toInt = lo) (h4 : m4.toInt = hi) {post : Option (Option Value) → am_S → Prop} (R : rc_R (fun r σ' => post (some (some (.int r))) σ') σ b n most (rd_put1 b n most q (48 + k) lo hi) (rc_cu c 5 (max (c 5) (k + 1)))) : am_K g 25 tX9_readInto.1 0 0 0 lw [] σ post := by
  refine sg_ri1_18_run G hct hM hl hl2 hl1 hl3 hl4 ?_
  intro lw1 y1 a4 a3 σ1 p0 p2 p1 c1 c2 c3 hM1
  have E1 := rc_E0 E hM1
  have H1 : sx_M z9 hd_C σ rc_mK 0 σ1 := sx_M_mask (by decide +kernel) hM1
  refine rd_call G (T2 := tX6_seesNumber) rfl rd_d_X9_readInto_4 rd_k_X9_readInto_4 rfl (hM1.1 3 (.inl 6) rfl) (as := [.int a3, .int a4]) (st := []) rfl (Nat.le_of_ble_eq_true rfl) rfl (by decide) (d1 := 6) (by decide)
    (post1 := fun r σ' => ∃ y : Int32, r = some (some (.int y)) ∧ ((rd_tkf q.1 lo hi ≠ 0 ∧ y.toInt = 0 ∧ sx_M z9 hd_C σ1 rc_m78 0 σ' ∧ (σ'.2.1 3 7).toInt = (rd_tkf q.1 lo hi : Nat) ∧ (σ'.2.1 3 8).toInt = (q.1.2.1 : Nat)) ∨ (rd_tkf q.1 lo hi = 0 ∧ y.toInt = 1 ∧ sx_M z9 hd_C σ1 0 0 σ'))) (fun _ h => by obtain ⟨y, h, -⟩ := h; cases h)
    (rc_sees G hct (sx_M_self hM1) E1.2.1 E1.2.2.2 (lo := lo) (hi := hi) (by simp [lv_args, Value.category]) (m1 := a3) (m2 := a4) (by simp [lv_args, Value.category]) (by simp [lv_args, Value.category]) (by omega) (by omega) (fun r σ' d1 d2 d3 d4 d5 => ⟨r, rfl, Or.inl ⟨d1, d2, d3, d4, d5⟩⟩) (fun r σ' d1 d2 d3 => ⟨r, rfl, Or.inr ⟨d1, d2, d3⟩⟩)) ?_
  intro v σ2 ⟨y, hv, hh⟩
  cases hv
  rcases hh with ⟨d1, d2, d3, d4, d5⟩ | ⟨d1, d2, d3⟩
  · refine sg_ri2a_18_run G hct (sx_M_self d3) p0 p2 (by omega) ?_
    intro r σ3 c4 hM3
    have f78 := rc_F78 hM3
    exact R.1 r σ3 (rd_tkf q.1 lo hi) q.1.2.1 (by unfold rd_put1; exact if_neg d1) (by omega) (hd_tr (hd_tr (rc_KL H1) d3 (by decide +kernel)) hM3 (by decide +kernel)) (by rw [f78.1]; exact d4) (by rw [f78.2]; exact d5)
  · have E2 := rc_E0 E1 d3
    have H2 := hd_tr H1 d3 (by decide +kernel)
    have t2 : q.1.1 = 2 := by
      unfold rd_tkf at d1
      split at d1
      · rename_i e; exact e
      · cases d1
    have hr : lo ≤ q.1.2.2.2.2 ∧ q.1.2.2.2.2 ≤ hi := by
      unfold rd_tkf at d1
      rw [if_pos t2] at d1
      split at d1
      · rename_i h; exact h
      · cases d1
    refine sg_ri2b_18_run G hct (sx_M_self d3) p0 p2 p1 (by omega) ?_
    intro lw3 x n1 σ3 q0 q2 c4 c5 hM3
    have E3 := rc_E0 E2 hM3
    have H3 := hd_tr H2 hM3 (by decide +kernel)
    have n6 := E2.2.1.2.2.2.2 t2
    have ex : x.toInt = (q.1.2.2.2.2 : Nat) := by omega
    refine rc_putc G (d := 25) (by decide) (hM3.1 18 (.inr (.int, 6)) rfl) (by decide) hk (by omega) rfl rd_d_X9_readInto_18 rd_k_X9_readInto_18 (by decide) ?_
    have H4 := rc_Mup G H3 (r := 5) (k := k) (x := x) (by decide) hk (fun lo' hi' u e => by have := hfit lo' hi' u e; omega)
    have E4 := rc_Eput E3 (r := 5) (k := k) (by decide) hk hkc x
    rw [rd_ofNat ex] at E4 H4 ⊢
    refine sg_ri3_18_run G hct (sx_M_self H4) q0 q2 ?_
    intro lw5 σ5 u0 u2 hM5
    have E5 := rc_E0 E4 hM5
    have H5 := hd_tr H4 hM5 (by decide +kernel)
    refine rc_stc G hct (d := 25) (by decide) (sx_M_self hM5) E5.1 (E5.2.1.2.2.1 (Or.inr (Or.inl t2))) rfl rd_d_X9_readInto_22 rd_k_X9_readInto_22 (by decide) ?_
    intro σ6 hM6 N6
    have E6 := rc_En E5 hM6 N6
    refine sg_ri4_18_run G hct (sx_M_self hM6) u0 u2 ?_
    intro r7 σ7 c7 hM7
    exact R.2 r7 σ7 _ (by unfold rd_put1; exact if_pos d1) (by omega) (hd_tr (hd_tr H5 hM6 (by decide +kernel)) hM7 (by decide +kernel)) (rc_E0 E6 hM7)
/-- readInto, called -/
theorem rc_intoc18 (G : sx_G0 g L xs z9 hd_C ex_mt) (hct : rc_ct g) {T : ex_T} {d : Nat} (hdp : 26 ≤ d) {σ : am_S} (hM : sx_M z9 hd_C σ 0 0 σ) {b : Nat → Nat} {n most : Nat} {q : rd_Q} {c : Nat → Nat} (E : rc_E σ b n most q c) {k lo hi : Nat} (hk : k < 6) (hkc : k ≤ c 5) (hfit : ∀ lo' hi' u, sx_atl (z9.1 18) k = some (lo', hi', u) → lo' ≤ (lo : Int) ∧ (hi : Int) ≤ hi') {m1 m3 m4 : Int32} (h1 : m1.toInt = k) (h3 : m3.toInt = lo) (h4 : m4.toInt = hi) {lw : List (Nat × Value)} {pc i mi z : Nat} (hT : ex_mt mi = some tX9_readInto) (hd : decode T.1.2.1 pc = .ok (.invokestatic i, 3)) (hl : ex_lk ex_mt T pc (.invokestatic i) [0, mi, z] = true) {post : Option (Option Value) → am_S → Prop} (R : rc_R (fun r σ' => am_K g d T.1 0 0 (pc + 3) lw [.int r] σ' post) σ b n most (rd_put1 b n most q (48 + k) lo hi) (rc_cu c 5 (max (c 5) (k + 1)))) : am_K g d T.1 0 0 pc lw [.int m4, .int m3, .ref 3, .int m1, .ref 18] σ post := by
  refine rd_callS G (T2 := tX9_readInto) hT hd hl rfl rfl (as := [.ref 18, .int m1, .ref 3, .int m3, .int m4]) (st := []) rfl (Nat.le_of_ble_eq_true rfl) rfl (by decide) (d1 := 25) hdp
    (post1 := fun r σ' => ∃ y : Int32, r = some (some (.int y)) ∧ am_K g d T.1 0 0 (pc + 3) lw [.int y] σ' post) (fun _ h => by obtain ⟨y, h, -⟩ := h; cases h)
    (rc_into18 G hct hM E hk hkc hfit (by simp [lv_args, Value.category]) (by simp [lv_args, Value.category]) (m1 := m1) (m3 := m3) (m4 := m4) (by simp [lv_args, Value.category]) (by simp [lv_args, Value.category]) (by simp [lv_args, Value.category]) h1 h3 h4 ⟨fun r σ' kd at' a1 a2 a3 a4 a5 => ⟨r, rfl, R.1 r σ' kd at' a1 a2 a3 a4 a5⟩, fun r σ' q' a1 a2 a3 a4 => ⟨r, rfl, R.2 r σ' q' a1 a2 a3 a4⟩⟩) ?_
  intro v σ' ⟨y, hv, hh⟩
  cases hv
  exact hh
theorem rc_into19 (G : sx_G0 g L xs z9 hd_C ex_mt) (hct : rc_ct g) {σ : am_S} (hM : sx_M z9 hd_C σ 0 0 σ) {b : Nat → Nat} {n most : Nat} {q : rd_Q} {c : Nat → Nat} (E : rc_E σ b n most q c) {k lo hi : Nat} (hk : k < 8) (hkc : k ≤ c 6) (hfit : ∀ lo' hi' u, sx_atl (z9.1 19) k = some (lo', hi', u) → lo' ≤ (lo : Int) ∧ (hi : Int) ≤ hi') {lw : List (Nat × Value)} (hl : (0, Value.ref 19) ∈ lw) (hl2 : (2, Value.ref 3) ∈ lw) {m1 m3 m4 : Int32} (hl1 : (1, Value.int m1) ∈ lw) (hl3 : (3, Value.int m3) ∈ lw) (hl4 : (4, Value.int m4) ∈ lw) (h1 : m1.toInt = k) (h3 : m3.toInt = lo) (h4 : m4.toInt = hi) {post : Option (Option Value) → am_S → Prop} (R : rc_R (fun r σ' => post (some (some (.int r))) σ') σ b n most (rd_put1 b n most q (54 + k) lo hi) (rc_cu c 6 (max (c 6) (k + 1)))) : am_K g 25 tX9_readInto.1 0 0 0 lw [] σ post := by
  refine sg_ri1_19_run G hct hM hl hl2 hl1 hl3 hl4 ?_
  intro lw1 y1 a4 a3 σ1 p0 p2 p1 c1 c2 c3 hM1
  have E1 := rc_E0 E hM1
  have H1 : sx_M z9 hd_C σ rc_mK 0 σ1 := sx_M_mask (by decide +kernel) hM1
  refine rd_call G (T2 := tX6_seesNumber) rfl rd_d_X9_readInto_4 rd_k_X9_readInto_4 rfl (hM1.1 3 (.inl 6) rfl) (as := [.int a3, .int a4]) (st := []) rfl (Nat.le_of_ble_eq_true rfl) rfl (by decide) (d1 := 6) (by decide)
    (post1 := fun r σ' => ∃ y : Int32, r = some (some (.int y)) ∧ ((rd_tkf q.1 lo hi ≠ 0 ∧ y.toInt = 0 ∧ sx_M z9 hd_C σ1 rc_m78 0 σ' ∧ (σ'.2.1 3 7).toInt = (rd_tkf q.1 lo hi : Nat) ∧ (σ'.2.1 3 8).toInt = (q.1.2.1 : Nat)) ∨ (rd_tkf q.1 lo hi = 0 ∧ y.toInt = 1 ∧ sx_M z9 hd_C σ1 0 0 σ'))) (fun _ h => by obtain ⟨y, h, -⟩ := h; cases h)
    (rc_sees G hct (sx_M_self hM1) E1.2.1 E1.2.2.2 (lo := lo) (hi := hi) (by simp [lv_args, Value.category]) (m1 := a3) (m2 := a4) (by simp [lv_args, Value.category]) (by simp [lv_args, Value.category]) (by omega) (by omega) (fun r σ' d1 d2 d3 d4 d5 => ⟨r, rfl, Or.inl ⟨d1, d2, d3, d4, d5⟩⟩) (fun r σ' d1 d2 d3 => ⟨r, rfl, Or.inr ⟨d1, d2, d3⟩⟩)) ?_
  intro v σ2 ⟨y, hv, hh⟩
  cases hv
  rcases hh with ⟨d1, d2, d3, d4, d5⟩ | ⟨d1, d2, d3⟩
  · refine sg_ri2a_19_run G hct (sx_M_self d3) p0 p2 (by omega) ?_
    intro r σ3 c4 hM3
    have f78 := rc_F78 hM3
    exact R.1 r σ3 (rd_tkf q.1 lo hi) q.1.2.1 (by unfold rd_put1; exact if_neg d1) (by omega) (hd_tr (hd_tr (rc_KL H1) d3 (by decide +kernel)) hM3 (by decide +kernel)) (by rw [f78.1]; exact d4) (by rw [f78.2]; exact d5)
  · have E2 := rc_E0 E1 d3
    have H2 := hd_tr H1 d3 (by decide +kernel)
    have t2 : q.1.1 = 2 := by
      unfold rd_tkf at d1
      split at d1
      · rename_i e; exact e
      · cases d1
    have hr : lo ≤ q.1.2.2.2.2 ∧ q.1.2.2.2.2 ≤ hi := by
      unfold rd_tkf at d1
      rw [if_pos t2] at d1
      split at d1
      · rename_i h; exact h
      · cases d1
    refine sg_ri2b_19_run G hct (sx_M_self d3) p0 p2 p1 (by omega) ?_
    intro lw3 x n1 σ3 q0 q2 c4 c5 hM3
    have E3 := rc_E0 E2 hM3
    have H3 := hd_tr H2 hM3 (by decide +kernel)
    have n6 := E2.2.1.2.2.2.2 t2
    have ex : x.toInt = (q.1.2.2.2.2 : Nat) := by omega
    refine rc_putc G (d := 25) (by decide) (hM3.1 19 (.inr (.int, 8)) rfl) (by decide) hk (by omega) rfl rd_d_X9_readInto_18 rd_k_X9_readInto_18 (by decide) ?_
    have H4 := rc_Mup G H3 (r := 6) (k := k) (x := x) (by decide) hk (fun lo' hi' u e => by have := hfit lo' hi' u e; omega)
    have E4 := rc_Eput E3 (r := 6) (k := k) (by decide) hk hkc x
    rw [rd_ofNat ex] at E4 H4 ⊢
    refine sg_ri3_19_run G hct (sx_M_self H4) q0 q2 ?_
    intro lw5 σ5 u0 u2 hM5
    have E5 := rc_E0 E4 hM5
    have H5 := hd_tr H4 hM5 (by decide +kernel)
    refine rc_stc G hct (d := 25) (by decide) (sx_M_self hM5) E5.1 (E5.2.1.2.2.1 (Or.inr (Or.inl t2))) rfl rd_d_X9_readInto_22 rd_k_X9_readInto_22 (by decide) ?_
    intro σ6 hM6 N6
    have E6 := rc_En E5 hM6 N6
    refine sg_ri4_19_run G hct (sx_M_self hM6) u0 u2 ?_
    intro r7 σ7 c7 hM7
    exact R.2 r7 σ7 _ (by unfold rd_put1; exact if_pos d1) (by omega) (hd_tr (hd_tr H5 hM6 (by decide +kernel)) hM7 (by decide +kernel)) (rc_E0 E6 hM7)
/-- readInto, called -/
theorem rc_intoc19 (G : sx_G0 g L xs z9 hd_C ex_mt) (hct : rc_ct g) {T : ex_T} {d : Nat} (hdp : 26 ≤ d) {σ : am_S} (hM : sx_M z9 hd_C σ 0 0 σ) {b : Nat → Nat} {n most : Nat} {q : rd_Q} {c : Nat → Nat} (E : rc_E σ b n most q c) {k lo hi : Nat} (hk : k < 8) (hkc : k ≤ c 6) (hfit : ∀ lo' hi' u, sx_atl (z9.1 19) k = some (lo', hi', u) → lo' ≤ (lo : Int) ∧ (hi : Int) ≤ hi') {m1 m3 m4 : Int32} (h1 : m1.toInt = k) (h3 : m3.toInt = lo) (h4 : m4.toInt = hi) {lw : List (Nat × Value)} {pc i mi z : Nat} (hT : ex_mt mi = some tX9_readInto) (hd : decode T.1.2.1 pc = .ok (.invokestatic i, 3)) (hl : ex_lk ex_mt T pc (.invokestatic i) [0, mi, z] = true) {post : Option (Option Value) → am_S → Prop} (R : rc_R (fun r σ' => am_K g d T.1 0 0 (pc + 3) lw [.int r] σ' post) σ b n most (rd_put1 b n most q (54 + k) lo hi) (rc_cu c 6 (max (c 6) (k + 1)))) : am_K g d T.1 0 0 pc lw [.int m4, .int m3, .ref 3, .int m1, .ref 19] σ post := by
  refine rd_callS G (T2 := tX9_readInto) hT hd hl rfl rfl (as := [.ref 19, .int m1, .ref 3, .int m3, .int m4]) (st := []) rfl (Nat.le_of_ble_eq_true rfl) rfl (by decide) (d1 := 25) hdp
    (post1 := fun r σ' => ∃ y : Int32, r = some (some (.int y)) ∧ am_K g d T.1 0 0 (pc + 3) lw [.int y] σ' post) (fun _ h => by obtain ⟨y, h, -⟩ := h; cases h)
    (rc_into19 G hct hM E hk hkc hfit (by simp [lv_args, Value.category]) (by simp [lv_args, Value.category]) (m1 := m1) (m3 := m3) (m4 := m4) (by simp [lv_args, Value.category]) (by simp [lv_args, Value.category]) (by simp [lv_args, Value.category]) h1 h3 h4 ⟨fun r σ' kd at' a1 a2 a3 a4 a5 => ⟨r, rfl, R.1 r σ' kd at' a1 a2 a3 a4 a5⟩, fun r σ' q' a1 a2 a3 a4 => ⟨r, rfl, R.2 r σ' q' a1 a2 a3 a4⟩⟩) ?_
  intro v σ' ⟨y, hv, hh⟩
  cases hv
  exact hh
end CJ
