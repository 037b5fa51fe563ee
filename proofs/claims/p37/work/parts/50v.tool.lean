/-! the hand methods: tools -/
theorem hd_tr {Z : sx_Z} {C : Nat → am_S → Prop} {σe σ σ' : am_S} {m mS : Nat} (h1 : sx_M Z C σe mS 0 σ) (h2 : sx_M Z C σ m 0 σ') (hs : (Nat.lor m mS).beq mS = true) : sx_M Z C σe mS 0 σ' := ⟨h2.1, h2.2.1, h2.2.2.1, h2.2.2.2.1, fun o k lo hi u a b => (h2.2.2.2.2.1 o k lo hi u a (sx_lor_sub hs b)).trans (h1.2.2.2.2.1 o k lo hi u a b), h2.2.2.2.2.2.1, h2.2.2.2.2.2.2.1, fun b => (h2.2.2.2.2.2.2.2.1 (sx_lor_sub hs b)).trans (h1.2.2.2.2.2.2.2.1 b), fun b => (h2.2.2.2.2.2.2.2.2 (sx_lor_sub hs b)).trans (h1.2.2.2.2.2.2.2.2 b)⟩
theorem hd_up {Z : sx_Z} {C : Nat → am_S → Prop} {σe σ : am_S} {m : Nat} (hC : sx_CsOk Z C) (h : sx_M Z C σe m 0 σ) {o k : Nat} {lo hi : Int} {u : Nat} {v : Int32} (ha : sx_atl (Z.1 o) k = some (lo, hi, u)) (h1 : lo ≤ v.toInt) (h2 : v.toInt ≤ hi) (hb : sx_bit m u = true) (hz : (Z.2.1 o).1 = 0 ∧ (Z.2.1 o).2.1 = 0) (hcl : ∀ c ∈ Z.2.2.2.2.1, c.2.1 = o → (c.2.2.1 ≠ k ∧ ∀ j, j < c.2.2.2.2 → c.2.2.2.1 + j ≠ k)) (hcu : ∀ c ∈ Z.2.2.2.2.2.1, c.2.1 = o → ¬ (c.2.2.1 ≤ k ∧ k < c.2.2.2)) : sx_M Z C σe m 0 (σ.1, am_up σ.2.1 o k v, σ.2.2.1, σ.2.2.2) := by
  have at9 : ∀ o' k', (o' = o ∧ k' = k) ∨ am_up σ.2.1 o k v o' k' = σ.2.1 o' k' := by
    intro o' k'
    by_cases e : o' = o ∧ k' = k
    · exact Or.inl e
    · exact Or.inr (am_up_n _ _ e)
  refine ⟨h.1, h.2.1, fun o' k' lo' hi' u' a => ?_, fun o' k' lo' hi' u' a => ?_, fun o' k' lo' hi' u' a b => ?_, fun c hc hx => ?_, fun c hc hx => ?_, h.2.2.2.2.2.2.2⟩
  · rcases at9 o' k' with ⟨rfl, rfl⟩ | e
    · cases ha.symm.trans a
      show lo ≤ (am_up σ.2.1 o' k' v o' k').toInt ∧ (am_up σ.2.1 o' k' v o' k').toInt ≤ hi
      rw [am_up_s]
      exact ⟨h1, h2⟩
    · show lo' ≤ (am_up σ.2.1 o k v o' k').toInt ∧ (am_up σ.2.1 o k v o' k').toInt ≤ hi'
      rw [e]
      exact h.2.2.1 o' k' lo' hi' u' a
  · rcases at9 o' k' with ⟨rfl, rfl⟩ | e
    · exact ⟨fun q => absurd hz.1 q, fun q => absurd hz.2 q⟩
    · show ((Z.2.1 o').1 ≠ 0 → (am_up σ.2.1 o k v o' k').toInt ≤ _) ∧ ((Z.2.1 o').2.1 ≠ 0 → (am_up σ.2.1 o k v o' k').toInt + _ ≤ _)
      rw [e]
      exact h.2.2.2.1 o' k' lo' hi' u' a
  · rcases at9 o' k' with ⟨rfl, rfl⟩ | e
    · cases ha.symm.trans a
      rw [hb] at b
      cases b
    · show am_up σ.2.1 o k v o' k' = _
      rw [e]
      exact h.2.2.2.2.1 o' k' lo' hi' u' a b
  · intro j hj hlt
    have q := h.2.2.2.2.2.1 c hc hx j hj
    by_cases ho : c.2.1 = o
    · obtain ⟨n1, n2⟩ := hcl c hc ho
      have e1 : am_up σ.2.1 o k v c.2.1 c.2.2.1 = σ.2.1 c.2.1 c.2.2.1 := am_up_n _ _ (fun z => n1 z.2)
      have e2 : am_up σ.2.1 o k v c.2.1 (c.2.2.2.1 + j) = σ.2.1 c.2.1 (c.2.2.2.1 + j) := am_up_n _ _ (fun z => n2 j hj z.2)
      have hlt' : (j : Int) < (am_up σ.2.1 o k v c.2.1 c.2.2.1).toInt := hlt
      rw [e1] at hlt'
      show 1 ≤ (am_up σ.2.1 o k v c.2.1 (c.2.2.2.1 + j)).toInt
      rw [e2]
      exact q hlt'
    · have hlt' : (j : Int) < (am_up σ.2.1 o k v c.2.1 c.2.2.1).toInt := hlt
      rw [am_up_o _ _ ho] at hlt'
      show 1 ≤ (am_up σ.2.1 o k v c.2.1 (c.2.2.2.1 + j)).toInt
      rw [am_up_o _ _ ho]
      exact q hlt'
  · refine hC c hc σ _ (fun k' a b => ?_) (h.2.2.2.2.2.2.1 c hc hx)
    show am_up σ.2.1 o k v c.2.1 k' = _
    refine am_up_n _ _ (fun z => ?_)
    exact hcu c hc z.1 (by rw [← z.2]; exact ⟨a, b⟩)
theorem hd_call {g : am_C} {L : Nat} {xs : Nat → Int32} (G : sx_G0 g L xs z9 hd_C ex_mt) {mi2 : Nat} {T T2 : ex_T} (hT2 : ex_mt mi2 = some T2) {pc i p n bc bs ci p1 p2 p3 p4 : Nat} (hd : decode T.1.2.1 pc = .ok (.invokevirtual i, 3)) (hl : ex_lk ex_mt T pc (.invokevirtual i) [0, mi2, p] = true) (hm : T2.2.1 = [1, n, bc, bs, ci, p1, p2, p3, p4]) {o : Nat} {σ : am_S} (ho : σ.1[o]? = some (.inl ci)) {as st stk : List Value} (hn : as.length = n) (hlen : (lg_sl (.ref o :: as)).length ≤ T2.1.2.2.1) (hst : stk = as.reverse ++ .ref o :: st) (hroom : (st.map fun v => v.category).sum ≤ 8) {d d1 : Nat} (hd1 : d1 + 1 ≤ d) {lv : List (Nat × Value)} {post post1 : Option (Option Value) → am_S → Prop} (hnt : ∀ σ', ¬ post1 none σ') (k1 : am_K g d1 T2.1 0 0 0 (lv_args 0 (.ref o :: as)) [] σ post1) (kk : ∀ v σ', post1 (some v) σ' → am_K g d T.1 0 0 (pc + 3) lv (v.toList ++ st) σ' post) : am_K g d T.1 0 0 pc lv stk σ post := by
  unfold ex_lk at hl
  simp only [hT2] at hl
  rw [Bool.and_eq_true, decide_eq_true_eq] at hl
  obtain ⟨m1, m2, m3, U, N, m4⟩ := ex_mok_V (G.2.2.2.1 mi2 T2 hT2) hm
  exact kr_callV (mc := 0) (ms := 0) (mc1 := 0) (ms1 := 0) G.1 m4 ho m1 m2 m3 (ex_mlk_ok hl.2) hd hn hlen hst hroom hd1 hnt k1 kk
theorem hd_a122 {k : Nat} (h : k < 135) : sx_atl (z9.1 122) k = some (sx_lo, sx_up, 446) := by
  show sx_atl [(135, sx_lo, sx_up, 446)] k = _
  unfold sx_atl
  rw [if_pos h]
theorem hd_a134 {k : Nat} (h : k < 45) : sx_atl (z9.1 134) k = some (sx_lo, sx_up, 484) := by
  show sx_atl [(45, sx_lo, sx_up, 484)] k = _
  unfold sx_atl
  rw [if_pos h]
theorem hd_no {o : Nat} (h : o ≠ 120 ∧ o ≠ 121 ∧ o ≠ 136) {k : Nat} : (∀ c ∈ z9.2.2.2.2.1, c.2.1 = o → (c.2.2.1 ≠ k ∧ ∀ j, j < c.2.2.2.2 → c.2.2.2.1 + j ≠ k)) ∧ ∀ c ∈ z9.2.2.2.2.2.1, c.2.1 = o → ¬ (c.2.2.1 ≤ k ∧ k < c.2.2.2) :=
  ⟨hd_c8 (fun e => absurd e.symm h.1) (fun e => absurd e.symm h.1) (fun e => absurd e.symm h.2.1) (fun e => absurd e.symm h.2.1) (fun e => absurd e.symm h.2.2) (fun e => absurd e.symm h.2.2) (fun e => absurd e.symm h.2.2) (fun e => absurd e.symm h.2.2), hd_u3 (fun e => absurd e.symm h.1) (fun e => absurd e.symm h.2.2) (fun e => absurd e.symm h.2.2)⟩
theorem hd_up122 {σe σ : am_S} {m k : Nat} {v : Int32} (h : sx_M z9 hd_C σe m 0 σ) (hk : k < 135) (hb : sx_bit m 446 = true) : sx_M z9 hd_C σe m 0 (σ.1, am_up σ.2.1 122 k v, σ.2.2.1, σ.2.2.2) := hd_up hd_CsOk h (hd_a122 hk) (Int32.le_toInt v) (Int32.toInt_le v) hb ⟨rfl, rfl⟩ (hd_no (by decide)).1 (hd_no (by decide)).2
theorem hd_up134 {σe σ : am_S} {m k : Nat} {v : Int32} (h : sx_M z9 hd_C σe m 0 σ) (hk : k < 45) (hb : sx_bit m 484 = true) : sx_M z9 hd_C σe m 0 (σ.1, am_up σ.2.1 134 k v, σ.2.2.1, σ.2.2.2) := hd_up hd_CsOk h (hd_a134 hk) (Int32.le_toInt v) (Int32.toInt_le v) hb ⟨rfl, rfl⟩ (hd_no (by decide)).1 (hd_no (by decide)).2
theorem hd_sh {σe σ : am_S} {m : Nat} (h : sx_M z9 hd_C σe m 0 σ) : σ.1[118]? = some (.inl 12) ∧ σ.1[122]? = some (.inr (.int, 135)) ∧ σ.1[134]? = some (.inr (.int, 45)) := ⟨h.1 118 _ rfl, h.1 122 _ rfl, h.1 134 _ rfl⟩
theorem hd_nat {v : Int32} {n : Nat} (hn : n < 2 ^ 31) (h : v.toInt = n) : v = Int32.ofNat n := Int32.toInt_inj.mp (by rw [h, Int32.toInt_ofNat_of_lt hn])
theorem hd_clamp {v : Int32} {n : Nat} (h : v.toInt = n) : v.toNatClampNeg = n := by
  show v.toInt.toNat = n
  rw [h]
  rfl
theorem hd_in {v : Int32} {n N : Nat} (h : v.toInt = n) (hn : n < N) : vp_in v N := by
  intro q
  rcases q with q | q
  · have q1 := Int32.lt_iff_toInt_lt.mp q
    rw [h] at q1
    have : (0 : Int32).toInt = 0 := rfl
    omega
  · rw [hd_clamp h] at q
    omega
/-- the reader of the SENTENCE between two of its steps: codes, stack, whole or not, ones -/
def hd_J (σe σ : am_S) (c t w n : Nat) : Prop := sx_M z9 hd_C σe hd_mS 0 σ ∧ σ.2.1 118 39 = Int32.ofNat c ∧ σ.2.1 118 41 = Int32.ofNat t ∧ σ.2.1 118 43 = Int32.ofNat w ∧ σ.2.1 118 40 = Int32.ofNat n ∧ (w ≤ 1 ∧ n ≤ 20 ∧ c + t + w ≤ 2 * n) ∧ (∀ j, j < t → 20 ≤ (σ.2.1 134 j).toInt ∧ (σ.2.1 134 j).toInt ≤ 23) ∧ hd_ok (σ.2.1 122) c ∧ hd_dp (σ.2.1 122) c = hd_bn (σ.2.1 134) t + w ∧ σ.2.1 118 2 = 0
/-- units that a step leaves -/
def hd_kp (m : Nat) : Bool := (Nat.lor m hd_mS).beq hd_mS && !(sx_bit m 398 || sx_bit m 399 || sx_bit m 400 || sx_bit m 402 || sx_bit m 361 || sx_bit m 446 || sx_bit m 484)
theorem hd_fr122 {σ σ' : am_S} {m : Nat} (h : sx_M z9 hd_C σ m 0 σ') (hb : sx_bit m 446 = false) {k : Nat} (hk : k < 135) : σ'.2.1 122 k = σ.2.1 122 k := h.2.2.2.2.1 122 k _ _ _ (hd_a122 hk) hb
theorem hd_fr134 {σ σ' : am_S} {m : Nat} (h : sx_M z9 hd_C σ m 0 σ') (hb : sx_bit m 484 = false) {k : Nat} (hk : k < 45) : σ'.2.1 134 k = σ.2.1 134 k := h.2.2.2.2.1 134 k _ _ _ (hd_a134 hk) hb
theorem hd_f39 {σ σ' : am_S} {m : Nat} (h : sx_M z9 hd_C σ m 0 σ') (hb : sx_bit m 398 = false) : σ'.2.1 118 39 = σ.2.1 118 39 := h.2.2.2.2.1 118 39 _ _ 398 rfl hb
theorem hd_f40 {σ σ' : am_S} {m : Nat} (h : sx_M z9 hd_C σ m 0 σ') (hb : sx_bit m 399 = false) : σ'.2.1 118 40 = σ.2.1 118 40 := h.2.2.2.2.1 118 40 _ _ 399 rfl hb
theorem hd_f41 {σ σ' : am_S} {m : Nat} (h : sx_M z9 hd_C σ m 0 σ') (hb : sx_bit m 400 = false) : σ'.2.1 118 41 = σ.2.1 118 41 := h.2.2.2.2.1 118 41 _ _ 400 rfl hb
theorem hd_f43 {σ σ' : am_S} {m : Nat} (h : sx_M z9 hd_C σ m 0 σ') (hb : sx_bit m 402 = false) : σ'.2.1 118 43 = σ.2.1 118 43 := h.2.2.2.2.1 118 43 _ _ 402 rfl hb
theorem hd_f2 {σ σ' : am_S} {m : Nat} (h : sx_M z9 hd_C σ m 0 σ') (hb : sx_bit m 361 = false) : σ'.2.1 118 2 = σ.2.1 118 2 := h.2.2.2.2.1 118 2 _ _ 361 rfl hb
theorem hd_Jm {σe σ σ' : am_S} {c t w n m : Nat} (J : hd_J σe σ c t w n) (hM : sx_M z9 hd_C σ m 0 σ') (hk : hd_kp m = true) : hd_J σe σ' c t w n := by
  obtain ⟨j1, j2, j3, j4, j5, j6, j7, j8, j9, j10⟩ := J
  unfold hd_kp at hk
  simp only [Bool.and_eq_true, Bool.not_eq_true', Bool.or_eq_false_iff] at hk
  obtain ⟨k0, ⟨⟨⟨⟨⟨k1, k2⟩, k3⟩, k4⟩, k5⟩, k6⟩, k7⟩ := hk
  have e1 : ∀ k, k < 3 * c → σ'.2.1 122 k = σ.2.1 122 k := fun k hk => hd_fr122 hM k6 (by omega)
  have e2 : ∀ k, k < t → σ'.2.1 134 k = σ.2.1 134 k := fun k hk => hd_fr134 hM k7 (by omega)
  refine ⟨hd_tr j1 hM k0, (hd_f39 hM k1).trans j2, (hd_f41 hM k3).trans j3, (hd_f43 hM k4).trans j4, (hd_f40 hM k2).trans j5, j6, fun j hj => ?_, hd_ok_congr e1 j8, ?_, (hd_f2 hM k5).trans j10⟩
  · rw [e2 j hj]; exact j7 j hj
  · rw [hd_dp_congr e1, hd_bn_congr e2]; exact j9
theorem hd_ti {n : Nat} (h : n < 2 ^ 31) : (Int32.ofNat n).toInt = n := Int32.toInt_ofNat_of_lt h
section HV
variable {g : am_C} {L : Nat} {xs : Nat → Int32}
/-- one code more -/
theorem hd_code (G : sx_G0 g L xs z9 hd_C ex_mt) (hct : ∀ (mi : Nat) (T2 : ex_T) (c' : sx_Ct), ex_mt mi = some T2 → c' ∈ k9 mi → c'.1 < 60 → sx_Holds g z9 hd_C T2 c') {σ : am_S} (hM : sx_M z9 hd_C σ 0 0 σ) {c : Nat} (hc : σ.2.1 118 39 = Int32.ofNat c) (hc9 : c ≤ 39) (w s n : Int32) {post : Option (Option Value) → am_S → Prop} (k : ∀ σ', sx_M z9 hd_C σ hd_mC 0 σ' → σ'.2.1 118 39 = Int32.ofNat (c + 1) → σ'.2.1 122 (3 * c) = w → (∀ j, j < 3 * c → σ'.2.1 122 j = σ.2.1 122 j) → post (some none) σ') : am_K g 5 tX12_code.1 0 0 0 [(0, .ref 118), (1, .int w), (2, .int s), (3, .int n)] [] σ post := by
  have hc' : (σ.2.1 118 39).toInt = c := by rw [hc]; exact hd_ti (by omega)
  refine sg_c1_run G hct hM (by simp) (m1 := w) (by simp) (m2 := s) (by simp) (m3 := n) (by simp) ?_
  intro lw1 a1 a2 a3 x1 y1 σ1 hl1 hA1 hA2 hA3 f1 f2 f3 f4 f5 hM1
  have H1 : sx_M z9 hd_C σ hd_mC 0 σ1 := sx_M_mask (by decide +kernel) hM1
  have e39 : σ1.2.1 118 39 = Int32.ofNat c := (hd_f39 hM1 (by decide +kernel)).trans hc
  have ex1 : x1 = w := Int32.toInt_inj.mp (by omega)
  have ey1 : y1.toInt = ((3 * c : Nat) : Int) := by omega
  have ea2 : a2 = s := Int32.toInt_inj.mp (by omega)
  have ea3 : a3 = n := Int32.toInt_inj.mp (by omega)
  have ea1 : a1 = w := Int32.toInt_inj.mp (by omega)
  subst ex1 ea2 ea3
  refine kr_iast G.1 hd_d_code_11 (hd_sh H1).2.1 (hd_in ey1 (by omega)) ?_
  rw [hd_clamp ey1]
  have H2 := hd_up122 (k := 3 * c) (v := x1) H1 (by omega) (by decide +kernel)
  refine sg_c2_run G hct (sx_M_self H2) hl1 hA1 hA2 hA3 ?_
  intro lw2 b1 b2 b3 x2 y2 σ2 hl2 hB1 hB2 hB3 g1 g2 g3 g4 g5 hM2
  have H3 := hd_tr H2 hM2 (by decide +kernel)
  have e39b : σ2.2.1 118 39 = Int32.ofNat c := (hd_f39 hM2 (by decide +kernel)).trans e39
  have ey2 : y2.toInt = ((3 * c + 1 : Nat) : Int) := by
    have e : ((am_up σ1.2.1 122 (3 * c) x1) 118 39).toInt = c := by
      rw [am_up_o _ _ (by decide), e39]; exact hd_ti (by omega)
    simp only at g2
    omega
  have eb3 : b3 = a3 := Int32.toInt_inj.mp (by omega)
  subst eb3
  refine kr_iast G.1 hd_d_code_25 (hd_sh H3).2.1 (hd_in ey2 (by omega)) ?_
  rw [hd_clamp ey2]
  have H4 := hd_up122 (k := 3 * c + 1) (v := x2) H3 (by omega) (by decide +kernel)
  refine sg_c3_run G hct (sx_M_self H4) hl2 hB1 hB2 hB3 ?_
  intro lw3 c1 c2 c3 x3 y3 σ3 hl3 hD1 hD2 hD3 p1 p2 hM3
  have H5 := hd_tr H4 hM3 (by decide +kernel)
  have e39c : σ3.2.1 118 39 = Int32.ofNat c := (hd_f39 hM3 (by decide +kernel)).trans e39b
  have ey3 : y3.toInt = ((3 * c + 2 : Nat) : Int) := by
    have e : ((am_up σ2.2.1 122 (3 * c + 1) x2) 118 39).toInt = c := by
      rw [am_up_o _ _ (by decide), e39b]; exact hd_ti (by omega)
    simp only at p2
    omega
  refine kr_iast G.1 hd_d_code_39 (hd_sh H5).2.1 (hd_in ey3 (by omega)) ?_
  rw [hd_clamp ey3]
  have H6 := hd_up122 (k := 3 * c + 2) (v := x3) H5 (by omega) (by decide +kernel)
  have e39d : (am_up σ3.2.1 122 (3 * c + 2) x3) 118 39 = Int32.ofNat c := (am_up_o _ _ (by decide)).trans e39c
  refine sg_c4_run G hct (sx_M_self H6) hl3 (by show 0 ≤ ((am_up σ3.2.1 122 (3 * c + 2) x3) 118 39).toInt ∧ ((am_up σ3.2.1 122 (3 * c + 2) x3) 118 39).toInt ≤ 39; rw [e39d, hd_ti (by omega)]; omega) ?_
  intro σ4 q1 hM4
  have H7 := hd_tr H6 hM4 (by decide +kernel)
  have at4 : ∀ j, j < 135 → σ4.2.1 122 j = (am_up σ3.2.1 122 (3 * c + 2) x3) 122 j := fun j hj => hd_fr122 hM4 (by decide +kernel) hj
  have at3 : ∀ j, j < 135 → σ3.2.1 122 j = (am_up σ2.2.1 122 (3 * c + 1) x2) 122 j := fun j hj => hd_fr122 hM3 (by decide +kernel) hj
  have at2 : ∀ j, j < 135 → σ2.2.1 122 j = (am_up σ1.2.1 122 (3 * c) x1) 122 j := fun j hj => hd_fr122 hM2 (by decide +kernel) hj
  have at1 : ∀ j, j < 135 → σ1.2.1 122 j = σ.2.1 122 j := fun j hj => hd_fr122 hM1 (by decide +kernel) hj
  refine k σ4 H7 ?_ ?_ ?_
  · refine hd_nat (by omega) ?_
    simp only at q1
    rw [e39d, hd_ti (by omega)] at q1
    omega
  · rw [at4 _ (by omega), am_up_n _ _ (by omega), at3 _ (by omega), am_up_n _ _ (by omega), at2 _ (by omega), am_up_s]
  · intro j hj
    rw [at4 _ (by omega), am_up_n _ _ (by omega), at3 _ (by omega), am_up_n _ _ (by omega), at2 _ (by omega), am_up_n _ _ (by omega), at1 _ (by omega)]
end HV
