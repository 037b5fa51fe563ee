/-! bits, division -/
section SB
variable {Z : sx_Z} {Cs : Nat → am_S → Prop} {σe σ : am_S} {env : List Int} {me : sx_Me}
theorem sx_shr_le : ∀ c : Fin 32, ((Int32.ofInt (.ofNat c.val)).toUInt32 &&& Int32.toUInt32 31).toNat = c.val := by decide
theorem sx_u2i {u : UInt32} (h : u.toNat < 2147483648) : u.toInt32.toInt = (u.toNat : Int) := by
  show u.toBitVec.toInt = _
  rw [BitVec.toInt_eq_toNat_of_lt]
  · rfl
  · show 2 * u.toNat < 2 ^ 32
    omega
theorem sx_ushr {x : Int32} {c : Int} (h1 : 1 ≤ c) (h2 : c ≤ 31) : 0 ≤ (ex_bin 8 x (Int32.ofInt c)).toInt ∧ (ex_bin 8 x (Int32.ofInt c)).toInt ≤ .ofNat (Nat.shiftLeft 1 (32 - c.toNat) - 1) := by
  obtain ⟨k, rfl⟩ : ∃ k : Nat, c = (k : Int) := ⟨c.toNat, by omega⟩
  have hk : k < 32 := by omega
  have e1 := sx_shr_le ⟨k, hk⟩
  simp only at e1
  have e2 : (x.toUInt32 >>> ((Int32.ofInt (k : Int)).toUInt32 &&& Int32.toUInt32 31)).toNat = x.toUInt32.toNat / 2 ^ k := by
    rw [UInt32.toNat_shiftRight]
    have e3 : ((Int32.ofInt (k : Int)).toUInt32 &&& Int32.toUInt32 31).toNat = k := e1
    rw [e3, Nat.mod_eq_of_lt hk, Nat.shiftRight_eq_div_pow]
  have hx : x.toUInt32.toNat < 2 ^ 32 := x.toUInt32.toNat_lt
  have e4 : 2 ^ 32 = 2 ^ k * 2 ^ (32 - k) := by rw [← Nat.pow_add]; congr 1; omega
  have e5 : x.toUInt32.toNat / 2 ^ k < 2 ^ (32 - k) := by
    rw [Nat.div_lt_iff_lt_mul (Nat.two_pow_pos k), Nat.mul_comm, ← e4]
    exact hx
  have e6 : 2 ^ (32 - k) ≤ 2 ^ 31 := Nat.pow_le_pow_right (by decide) (by omega)
  have e7 := sx_u2i (u := x.toUInt32 >>> ((Int32.ofInt (k : Int)).toUInt32 &&& Int32.toUInt32 31)) (by rw [e2]; omega)
  have e8 : (ex_bin 8 x (Int32.ofInt (k : Int))).toInt = ((x.toUInt32.toNat / 2 ^ k : Nat) : Int) := by
    rw [← e2]
    exact e7
  rw [e8]
  refine ⟨by omega, ?_⟩
  show ((x.toUInt32.toNat / 2 ^ k : Nat) : Int) ≤ ((1 <<< (32 - (k : Int).toNat) - 1 : Nat) : Int)
  rw [Nat.shiftLeft_eq, Nat.one_mul, show (k : Int).toNat = k by omega]
  omega
theorem sx_i2b (x y : Int32) : -128 ≤ (ex_bin 11 x y).toInt ∧ (ex_bin 11 x y).toInt ≤ 127 := by
  have h1 := Int8.le_toInt x.toInt8
  have h2 := Int8.toInt_lt x.toInt8
  show -128 ≤ x.toInt8.toInt32.toInt ∧ x.toInt8.toInt32.toInt ≤ 127
  rw [Int8.toInt_toInt32]
  omega
theorem sx_bits_ok (hr : sx_R Z Cs σe env me σ) {o : Nat} {ex ey : sx_e} {x y : Int32} (hx : sx_ev env ex = some x.toInt) (hy : sx_ev env ey = some y.toInt) {K : sx_Me → sx_e → Bool} (h : sx_bits o me ex ey K = true) : sx_ex Z Cs σe env σ (ex_bin o x y).toInt K := by
  unfold sx_bits at h
  split at h
  · rename_i c
    have hc : y.toInt = c := Option.some.inj (hy.symm.trans sx_const)
    have hyc : y = Int32.ofInt c := by rw [← hc, Int32.ofInt_toInt]
    split at h
    · rename_i d
      have hd : x.toInt = d := Option.some.inj (hx.symm.trans sx_const)
      have hxd : x = Int32.ofInt d := by rw [← hd, Int32.ofInt_toInt]
      rw [ex_fI_eq, ← hyc, ← hxd] at h
      exact sx_ex_here hr sx_const h
    · split at h
      · cases hb : (sx_ile 0 c && sx_ile c sx_up) with
        | false => rw [hb] at h; exact sx_new_full hr _ h
        | true =>
          rw [hb] at h
          rw [Bool.and_eq_true] at hb
          have b1 := sx_ile_iff.mp hb.1
          have b2 := sx_ile_iff.mp hb.2
          obtain ⟨k, rfl⟩ : ∃ k : Nat, c = (k : Int) := ⟨c.toNat, by omega⟩
          have e2 : sx_up = 2147483647 := rfl
          have := ex_and_le x (c := k) (by omega)
          rw [hyc]
          exact sx_new_ex hr this.1 this.2 h
      · cases hb : (sx_ile 1 c && sx_ile c 31) with
        | false => rw [hb] at h; exact sx_new_full hr _ h
        | true =>
          rw [hb, cond_true, ex_fI_eq] at h
          rw [Bool.and_eq_true] at hb
          have := sx_ushr (x := x) (sx_ile_iff.mp hb.1) (sx_ile_iff.mp hb.2)
          rw [hyc]
          exact sx_new_ex hr this.1 this.2 h
      · have := sx_i2b x y
        exact sx_new_ex hr this.1 this.2 h
      · exact sx_new_full hr _ h
  · exact sx_new_full hr _ h
theorem sx_divI {x y : Int32} (h1 : 0 ≤ x.toInt) (h2 : 1 ≤ y.toInt) : (x / y).toInt = x.toInt / y.toInt := by
  have hx := sx_i32 x
  have e1 : sx_lo = -2147483648 := rfl
  have e2 : sx_up = 2147483647 := rfl
  have e3 : x.toInt / y.toInt ≤ x.toInt := Int.ediv_le_self _ h1
  have e4 : 0 ≤ x.toInt / y.toInt := Int.ediv_nonneg h1 (by omega)
  rw [Int32.toInt_div, Int.tdiv_eq_ediv_of_nonneg h1]
  exact Int.bmod_eq_of_le (by omega) (by omega)
theorem sx_remI {x y : Int32} (h1 : 0 ≤ x.toInt) (h2 : 1 ≤ y.toInt) : (x - x / y * y).toInt = x.toInt % y.toInt := by
  have hx := sx_i32 x
  have e1 : sx_lo = -2147483648 := rfl
  have e2 : sx_up = 2147483647 := rfl
  have d := sx_divI h1 h2
  have e5 := Int.emod_add_ediv_mul x.toInt y.toInt
  have e6 : 0 ≤ x.toInt % y.toInt := Int.emod_nonneg _ (by omega)
  have e7 : 0 ≤ x.toInt / y.toInt * y.toInt := Int.mul_nonneg (Int.ediv_nonneg h1 (by omega)) (by omega)
  have m := sx_mulI (x / y) y (by rw [d]; omega) (by rw [d]; omega)
  rw [d] at m
  rw [sx_subI x (x / y * y) (by rw [m]; omega) (by rw [m]; omega), m]
  omega
theorem sx_remN1 {x y : Int32} (h1 : x.toInt ≤ 0) (h2 : 1 ≤ y.toInt) : (x - x / y * y).toInt = -((-x.toInt) % y.toInt) := by
  have hx := sx_i32 x
  have e1 : sx_lo = -2147483648 := rfl
  have e2 : sx_up = 2147483647 := rfl
  have q1 : 0 ≤ (-x.toInt) / y.toInt := Int.ediv_nonneg (by omega) (by omega)
  have q2 : (-x.toInt) / y.toInt ≤ -x.toInt := Int.ediv_le_self _ (by omega)
  have q3 := Int.emod_add_ediv_mul (-x.toInt) y.toInt
  have q4 : 0 ≤ (-x.toInt) % y.toInt := Int.emod_nonneg _ (by omega)
  have q5 : 0 ≤ (-x.toInt) / y.toInt * y.toInt := Int.mul_nonneg q1 (by omega)
  have d : (x / y).toInt = -((-x.toInt) / y.toInt) := by
    rw [Int32.toInt_div, show x.toInt.tdiv y.toInt = -((-x.toInt) / y.toInt) by
      rw [← Int.tdiv_eq_ediv_of_nonneg (show 0 ≤ -x.toInt by omega), Int.neg_tdiv, Int.neg_neg]]
    exact Int.bmod_eq_of_le (by omega) (by omega)
  have m := sx_mulI (x / y) y (by rw [d, Int.neg_mul]; omega) (by rw [d, Int.neg_mul]; omega)
  rw [d, Int.neg_mul] at m
  rw [sx_subI x (x / y * y) (by rw [m]; omega) (by rw [m]; omega), m]
  omega
theorem sx_remN2 {x y : Int32} (h1 : 0 ≤ x.toInt) (h2 : y.toInt ≤ -1) : (x - x / y * y).toInt = x.toInt % (-y.toInt) := by
  have hx := sx_i32 x
  have e1 : sx_lo = -2147483648 := rfl
  have e2 : sx_up = 2147483647 := rfl
  have q1 : 0 ≤ x.toInt / (-y.toInt) := Int.ediv_nonneg (by omega) (by omega)
  have q2 : x.toInt / (-y.toInt) ≤ x.toInt := Int.ediv_le_self _ (by omega)
  have q3 := Int.emod_add_ediv_mul x.toInt (-y.toInt)
  have q4 : 0 ≤ x.toInt % (-y.toInt) := Int.emod_nonneg _ (by omega)
  have q5 : 0 ≤ x.toInt / (-y.toInt) * (-y.toInt) := Int.mul_nonneg q1 (by omega)
  have d : (x / y).toInt = -(x.toInt / (-y.toInt)) := by
    rw [Int32.toInt_div, show x.toInt.tdiv y.toInt = -(x.toInt / (-y.toInt)) by
      rw [← Int.tdiv_eq_ediv_of_nonneg h1, Int.tdiv_neg, Int.neg_neg]]
    exact Int.bmod_eq_of_le (by omega) (by omega)
  have e3 : -(x.toInt / (-y.toInt)) * y.toInt = x.toInt / (-y.toInt) * (-y.toInt) := by rw [Int.neg_mul, Int.mul_neg]
  have m := sx_mulI (x / y) y (by rw [d, e3]; omega) (by rw [d, e3]; omega)
  rw [d, e3] at m
  rw [sx_subI x (x / y * y) (by rw [m]; omega) (by rw [m]; omega), m]
  omega
theorem sx_remf_ok (hr : sx_R Z Cs σe env me σ) {ey : sx_e} {yv : Int} (hy : sx_ev env ey = some yv) {lo hi k flo fhi v : Int} (h1 : lo ≤ v) (h2 : v ≤ hi) (h3 : flo ≤ k * (yv - ey.1) + v) (h4 : k * (yv - ey.1) + v ≤ fhi) {K : sx_Me → sx_e → Bool} (h : sx_remf me lo hi k ey flo fhi K = true) : sx_ex Z Cs σe env σ v K := by
  unfold sx_remf at h
  obtain ⟨c1, c2, c3⟩ := sx_new_ok hr h1 h2 h
  simp only at c3
  obtain ⟨l', g1, g2⟩ := sx_axpy_ok c3
  rw [ex_fI_eq, ex_fI_eq] at g1
  have g3 := g2 _ _ _ (sx_ea_app [v] (sx_ev_to hy)) (sx_ev_to c2)
  have e5 : (sx_w me.1).1 = 0 := rfl
  rw [e5, Int.sub_zero] at g3
  obtain ⟨fa', k1, k2⟩ := sx_fact_ok c1.2.2.1 g3 h3 h4 g1
  exact ⟨_, _, _, c1.fact k1, c2, k2⟩
theorem sx_divp_ok (hr : sx_R Z Cs σe env me σ) {o : Nat} (ho : o = 9 ∨ o = 10) {ex ey : sx_e} {x y : Int32} (hx : sx_ev env ex = some x.toInt) (hy : sx_ev env ey = some y.toInt) (y1 : 1 ≤ y.toInt) {K : sx_Me → sx_e → Bool} (h : sx_divp o me ex ey K = true) : sx_ex Z Cs σe env σ (ex_bin o x y).toInt K := by
  unfold sx_divp at h
  have y2 := sx_i32 y
  have hy' := sx_ev_to hy
  rcases ho with rfl | rfl
  · simp only at h
    cases hb : sx_in me.2.2.2.2 ex 0 sx_up with
    | false => rw [hb] at h; exact sx_new_full hr _ h
    | true =>
      rw [hb, cond_true] at h
      have x1 := sx_in_ok hr.2.2.1 hx hb
      have hx' := sx_ev_to hx
      obtain ⟨lo, hi, v, a1, a2, a3, a4⟩ := sx_lb_ok hr.2.2.1 ⟨_, hx'⟩ h
      rw [hx'] at a1
      cases a1
      rw [ex_fI_eq] at a4
      obtain ⟨m, m0, m1, m2, m3⟩ := sx_min_ok a4
      have e := sx_divI x1.1 y1
      show sx_ex Z Cs σe env σ (x / y).toInt K
      have e3 : x.toInt / y.toInt ≤ x.toInt := Int.ediv_le_self _ x1.1
      have e4 : 0 ≤ x.toInt / y.toInt := Int.ediv_nonneg x1.1 (by omega)
      rw [e]
      exact sx_new_ex hr e4 (by omega) m3
  · simp only at h
    show sx_ex Z Cs σe env σ (x - x / y * y).toInt K
    cases hb : sx_in me.2.2.2.2 ex 0 sx_up with
    | true =>
      rw [hb, cond_true] at h
      have x1 := sx_in_ok hr.2.2.1 hx hb
      obtain ⟨lo, hi, v, a1, a2, a3, a4⟩ := sx_lb_ok hr.2.2.1 ⟨_, hy'⟩ h
      rw [hy'] at a1
      cases a1
      rw [ex_fI_eq] at a4
      have e6 : 0 ≤ x.toInt % y.toInt := Int.emod_nonneg _ (by omega)
      have e7 : x.toInt % y.toInt < y.toInt := Int.emod_lt_of_pos _ (by omega)
      rw [sx_remI x1.1 y1]
      exact sx_remf_ok hr hy e6 (by omega) (by omega) (by omega) a4
    | false =>
      rw [hb, cond_false] at h
      cases hc : sx_in me.2.2.2.2 ex sx_lo 0 with
      | false => rw [hc] at h; exact sx_new_full hr _ h
      | true =>
        rw [hc, cond_true] at h
        have x1 := sx_in_ok hr.2.2.1 hx hc
        obtain ⟨lo, hi, v, a1, a2, a3, a4⟩ := sx_lb_ok hr.2.2.1 ⟨_, hy'⟩ h
        rw [hy'] at a1
        cases a1
        rw [ex_fI_eq] at a4
        have e6 : 0 ≤ (-x.toInt) % y.toInt := Int.emod_nonneg _ (by omega)
        have e7 : (-x.toInt) % y.toInt < y.toInt := Int.emod_lt_of_pos _ (by omega)
        rw [sx_remN1 x1.2 y1]
        exact sx_remf_ok hr hy (by omega) (by omega) (by omega) (by omega) a4
theorem sx_divn_ok (hr : sx_R Z Cs σe env me σ) {o : Nat} (ho : o = 9 ∨ o = 10) {ex ey : sx_e} {x y : Int32} (hx : sx_ev env ex = some x.toInt) (hy : sx_ev env ey = some y.toInt) (y1 : y.toInt ≤ -1) {K : sx_Me → sx_e → Bool} (h : sx_divn o me ex ey K = true) : sx_ex Z Cs σe env σ (ex_bin o x y).toInt K := by
  unfold sx_divn at h
  have y2 := sx_i32 y
  have hy' := sx_ev_to hy
  rcases ho with rfl | rfl
  · exact sx_new_full hr _ h
  · simp only at h
    show sx_ex Z Cs σe env σ (x - x / y * y).toInt K
    cases hb : sx_in me.2.2.2.2 ex 0 sx_up with
    | false => rw [hb] at h; exact sx_new_full hr _ h
    | true =>
      rw [hb, cond_true] at h
      have x1 := sx_in_ok hr.2.2.1 hx hb
      obtain ⟨lo, hi, v, a1, a2, a3, a4⟩ := sx_lb_ok hr.2.2.1 ⟨_, hy'⟩ h
      rw [hy'] at a1
      cases a1
      rw [ex_fI_eq] at a4
      have e6 : 0 ≤ x.toInt % (-y.toInt) := Int.emod_nonneg _ (by omega)
      have e7 : x.toInt % (-y.toInt) < -y.toInt := Int.emod_lt_of_pos _ (by omega)
      rw [sx_remN2 x1.1 y1]
      exact sx_remf_ok hr hy e6 (by omega) (by omega) (by omega) a4
theorem sx_div_ok (hr : sx_R Z Cs σe env me σ) {o : Nat} (ho : o = 9 ∨ o = 10) {ex ey : sx_e} {x y : Int32} (hx : sx_ev env ex = some x.toInt) (hy : sx_ev env ey = some y.toInt) {K : sx_Me → sx_e → Bool} (h : sx_div o me ex ey K = true) : ¬ y = 0 ∧ sx_ex Z Cs σe env σ (ex_bin o x y).toInt K := by
  unfold sx_div at h
  cases h0 : sx_in me.2.2.2.2 ey 1 sx_up with
  | true =>
    rw [h0, cond_true] at h
    have y1 := sx_in_ok hr.2.2.1 hy h0
    refine ⟨fun q => by rw [q] at y1; exact absurd y1.1 (by decide), ?_⟩
    obtain ⟨a, b, v, -, -, -, a4⟩ := sx_lb_ok hr.2.2.1 ⟨_, sx_ev_to hx⟩ h
    obtain ⟨p, q, v, -, -, -, b4⟩ := sx_lb_ok hr.2.2.1 ⟨_, sx_ev_to hy⟩ a4
    cases hb : (sx_ile (b - a) 16 && sx_ile (q - p) 16) with
    | true =>
      rw [hb, cond_true] at b4
      obtain ⟨me1, g1, g2⟩ := sx_conc_ok hr hx b4
      obtain ⟨me2, g3, g4⟩ := sx_conc_ok g1 hy g2
      rw [ex_fI_eq, Int32.ofInt_toInt, Int32.ofInt_toInt] at g4
      exact sx_ex_here g3 sx_const g4
    | false =>
      rw [hb] at b4
      exact sx_divp_ok hr ho hx hy y1.1 b4
  | false =>
    rw [h0, cond_false] at h
    cases h1 : sx_in me.2.2.2.2 ey sx_lo (-1) with
    | false => rw [h1] at h; cases h
    | true =>
      rw [h1, cond_true] at h
      have y1 := sx_in_ok hr.2.2.1 hy h1
      exact ⟨fun q => by rw [q] at y1; exact absurd y1.2 (by decide), sx_divn_ok hr ho hx hy y1.2 h⟩
end SB
