/-! feed, both sides: the tape's bytes -/
theorem rd_sh8 (v : BitVec 32) (s : Nat) (hs : s ≤ 24) : (v.sshiftRight s).setWidth 8 = (v >>> s).setWidth 8 := by
  apply BitVec.eq_of_getLsbD_eq
  intro i hi
  have h1 : s + i < 32 := by omega
  have h2 : i < 32 := by omega
  rw [BitVec.getLsbD_setWidth, BitVec.getLsbD_setWidth, BitVec.getLsbD_sshiftRight, BitVec.getLsbD_ushiftRight]
  have h3 : ¬ 32 ≤ i := by omega
  simp [h1, h2, h3]
def fd_b (v s : Int32) : Int32 := (v >>> (s &&& 31)).toInt8.toInt32.toInt8.toInt32
def fc_b (v s : Int32) : Int32 := (v.toUInt32 >>> (s.toUInt32 &&& Int32.toUInt32 31)).toInt32.toInt8.toInt32.toInt8.toInt32
theorem fd_b8 (x : Int32) : -128 ≤ (x.toInt8.toInt32).toInt ∧ (x.toInt8.toInt32).toInt ≤ 127 := by
  rw [Int8.toInt_toInt32]
  have h1 := Int8.le_toInt x.toInt8
  have h2 := Int8.toInt_lt x.toInt8
  omega
theorem fd_eq (v : Int32) : fc_b v 24 = fd_b v 24 ∧ fc_b v 16 = fd_b v 16 ∧ fc_b v 8 = fd_b v 8 ∧ fc_b v 0 = fd_b v 0 := by
  have key : ∀ (s : Int32) (n : Nat), n ≤ 24 → (s &&& 31).toBitVec.smod 32 = BitVec.ofNat 32 n → (s.toUInt32 &&& Int32.toUInt32 31).toBitVec % 32 = BitVec.ofNat 32 n → fc_b v s = fd_b v s := by
    intro s n hn h1 h2
    have hb : (v.toUInt32 >>> (s.toUInt32 &&& Int32.toUInt32 31)).toInt32.toInt8 = (v >>> (s &&& 31)).toInt8 := by
      apply Int8.toBitVec_inj.mp
      rw [Int32.toBitVec_toInt8, Int32.toBitVec_toInt8, Int32.toBitVec_shiftRight, h1, BitVec.signExtend_eq_setWidth_of_le _ (by decide), BitVec.signExtend_eq_setWidth_of_le _ (by decide)]
      show ((v.toUInt32 >>> (s.toUInt32 &&& Int32.toUInt32 31)).toBitVec).setWidth 8 = _
      rw [UInt32.toBitVec_shiftRight, h2]
      show (v.toBitVec >>> (BitVec.ofNat 32 n).toNat).setWidth 8 = (v.toBitVec.sshiftRight (BitVec.ofNat 32 n).toNat).setWidth 8
      have e : (BitVec.ofNat 32 n).toNat = n := by rw [BitVec.toNat_ofNat]; exact Nat.mod_eq_of_lt (by omega)
      rw [e, rd_sh8 _ _ hn]
    unfold fc_b fd_b
    rw [hb]
  exact ⟨key 24 24 (by decide) (by decide) (by decide), key 16 16 (by decide) (by decide) (by decide), key 8 8 (by decide) (by decide) (by decide), key 0 0 (by decide) (by decide) (by decide)⟩
def fd_ap (f : Nat → Int32) (n : Nat) (v : Int32) : Nat → Int32 := rd_up (rd_up (rd_up (rd_up f n (fd_b v 24)) (n + 1) (fd_b v 16)) (n + 2) (fd_b v 8)) (n + 3) (fd_b v 0)
def fd_m : Nat := Nat.lor (Nat.shiftLeft 1 361) (Nat.shiftLeft 1 406)
def fd_T (σ : am_S) (f : Nat → Int32) : Prop := ∀ k, k < 940 → σ.2.1 119 k = f k
theorem fd_T0 {σ σ' : am_S} {m : Nat} {f : Nat → Int32} (t : fd_T σ f) (h : sx_M zK hd_T σ m 0 σ') (hb : sx_bit m 406 = false) : fd_T σ' f := fun k hk => (h.2.2.2.2.1 119 k _ _ 406 (rd_a119 hk) hb).trans (t k hk)
theorem fd_T1 {σ : am_S} {f : Nat → Int32} (t : fd_T σ f) (p : Nat) (x : Int32) : fd_T (σ.1, am_up σ.2.1 119 p x, σ.2.2.1, σ.2.2.2) (rd_up f p x) := by
  intro k hk
  show am_up σ.2.1 119 p x 119 k = rd_up f p x k
  by_cases e : k = p
  · subst e
    rw [am_up_s, rd_up_s]
  · rw [am_up_n _ _ (fun h => e h.2), rd_up_n _ _ e]
    exact t k hk
theorem fd_up {σe σ : am_S} (hM : sx_M zK hd_T σe fd_m 0 σ) {p : Nat} (hp : p < 940) (v s : Int32) : sx_M zK hd_T σe fd_m 0 (σ.1, am_up σ.2.1 119 p (fd_b v s), σ.2.2.1, σ.2.2.2) := by
  refine sx_M_up rd_CsK hM (fun lo hi' u e => ?_) ⟨fun h => absurd (rfl : (zK.2.1 119).1 = 0) h, fun h => absurd (rfl : (zK.2.1 119).2.1 = 0) h⟩ (fun _ h => h) (fun _ h => h) (fun c hc => absurd hc List.not_mem_nil) (fun c hc => absurd hc List.not_mem_nil)
  have e3 : sx_atl (z9.1 119) p = some (lo, hi', u) := e
  rw [rd_a119 hp] at e3
  cases e3
  have h : -128 ≤ (fd_b v s).toInt ∧ (fd_b v s).toInt ≤ 127 := fd_b8 _
  exact ⟨by show (-128 : Int) ≤ _; omega, by show _ ≤ (127 : Int); omega, by decide +kernel⟩
section FR
variable {g : am_C} {L : Nat} {xs : Nat → Int32}
theorem fd_st (G : sx_G0 g L xs zK hd_T ex_mt) {σe σ : am_S} (hM : sx_M zK hd_T σe fd_m 0 σ) {f : Nat → Int32} (t : fd_T σ f) {p : Nat} (hp : p < 940) {lw : List (Nat × Value)} {post : Option (Option Value) → am_S → Prop} {n0 n1 n2 : Int32} (e2 : n2.toInt = p) (kk : ∀ σ', sx_M zK hd_T σe fd_m 0 σ' → (σ'.2.1 118 2).toInt = (σ.2.1 118 2).toInt → fd_T σ' (rd_up f p (fd_b n1 n0)) → am_K g 5 tX12_four.1 0 0 20 lw [] σ' post) : am_K g 5 tX12_four.1 0 0 17 lw [.int n0, .int n1, .int n2, .ref 119] σ post := by
  refine kr_ishr rd_d_X12_four_17 ?_
  refine kr_i2b rd_d_X12_four_18 ?_
  refine kr_bast G.1 (y := fd_b n1 n0) rd_d_X12_four_19 (hM.1 119 (.inr (.byte, 940)) rfl) (hd_in e2 hp) rfl ?_
  rw [hd_clamp e2]
  refine kk _ (fd_up hM hp n1 n0) ?_ (fd_T1 t p _)
  show (am_up σ.2.1 119 p (fd_b n1 n0) 118 2).toInt = _
  rw [am_up_n _ _ (fun h => by omega)]
theorem fd_four (G : sx_G0 g L xs zK hd_T ex_mt) {σ : am_S} (hM : sx_M zK hd_T σ 0 0 σ) {f : Nat → Int32} (t : fd_T σ f) {n : Nat} (hn : (σ.2.1 118 2).toInt = n) (h9 : n ≤ 936) {lw : List (Nat × Value)} (hl : (0, Value.ref 118) ∈ lw) {v : Int32} (hl1 : (1, Value.int v) ∈ lw) {post : Option (Option Value) → am_S → Prop} (kk : ∀ σ', sx_M zK hd_T σ fd_m 0 σ' → (σ'.2.1 118 2).toInt = ((n + 4 : Nat) : Int) → fd_T σ' (fd_ap f n v) → post (some none) σ') : am_K g 5 tX12_four.1 0 0 0 lw [] σ post := by
  have z24 : (24 : Int32).toInt = 24 := rfl
  have z16 : (16 : Int32).toInt = 16 := rfl
  have z8 : (8 : Int32).toInt = 8 := rfl
  have z0 : (0 : Int32).toInt = 0 := rfl
  have fit : ∀ (c : Int32) (z : Int32), c.toInt = z.toInt → c = z := fun c z h => Int32.toInt_inj.mp h
  refine sg_fo1_run G hd_ctK hM hl hl1 (by omega) ?_
  intro lw1 y1 y2 c0 c1 c2 σ1 p0 p1 p2 f1 f2 f3 f4 f5 hM1
  have n1 : (σ1.2.1 118 2).toInt = n := by rw [hM1.2.2.2.2.1 118 2 _ _ 361 rfl (sx_bit0 _)]; exact hn
  have t1 := fd_T0 t hM1 (sx_bit0 _)
  have ev : c1 = v := fit c1 v (by omega)
  have es : c0 = 24 := fit c0 24 (by omega)
  refine fd_st G (sx_M_mask (by decide +kernel) hM1 : sx_M zK hd_T σ fd_m 0 σ1) t1 (p := n) (by omega) (by omega) ?_
  intro σ2 H2 n2 t2
  rw [ev, es] at t2
  refine sg_fo2_24_run G hd_ctK (sx_M_self H2) p0 p1 p2 (by omega) (by omega) ?_
  intro lw3 u1 w1 c1_0 c1_1 c1_2 σ3 q0 q1 q2 g1_1 g1_2 g1_3 g1_4 g1_5 g1_6 hM3
  have n3 : (σ3.2.1 118 2).toInt = ((n + 1 : Nat) : Int) := by omega
  have ev1 : c1_1 = v := fit c1_1 v (by omega)
  have es1 : c1_0 = 16 := fit c1_0 16 (by omega)
  have t3 := fd_T0 t2 hM3 (by decide +kernel)
  refine fd_st G (hd_tr H2 hM3 (by decide +kernel)) t3 (p := n + 1) (by omega) (by omega) ?_
  intro σ4 H4 n4 t4
  rw [ev1, es1] at t4
  refine sg_fo2_16_run G hd_ctK (sx_M_self H4) q0 q1 q2 (by omega) (by omega) ?_
  intro lw5 u2 w2 c2_0 c2_1 c2_2 σ5 r0 r1 r2 g2_1 g2_2 g2_3 g2_4 g2_5 g2_6 hM5
  have n5 : (σ5.2.1 118 2).toInt = ((n + 2 : Nat) : Int) := by omega
  have ev2 : c2_1 = v := fit c2_1 v (by omega)
  have es2 : c2_0 = 8 := fit c2_0 8 (by omega)
  have t5 := fd_T0 t4 hM5 (by decide +kernel)
  refine fd_st G (hd_tr H4 hM5 (by decide +kernel)) t5 (p := n + 2) (by omega) (by omega) ?_
  intro σ6 H6 n6 t6
  rw [ev2, es2] at t6
  refine sg_fo2_8_run G hd_ctK (sx_M_self H6) r0 r1 r2 (by omega) (by omega) ?_
  intro lw7 u3 w3 c3_0 c3_1 c3_2 σ7 s0 s1 s2 g3_1 g3_2 g3_3 g3_4 g3_5 g3_6 hM7
  have n7 : (σ7.2.1 118 2).toInt = ((n + 3 : Nat) : Int) := by omega
  have ev3 : c3_1 = v := fit c3_1 v (by omega)
  have es3 : c3_0 = 0 := fit c3_0 0 (by omega)
  have t7 := fd_T0 t6 hM7 (by decide +kernel)
  refine fd_st G (hd_tr H6 hM7 (by decide +kernel)) t7 (p := n + 3) (by omega) (by omega) ?_
  intro σ8 H8 n8 t8
  rw [ev3, es3] at t8
  refine sg_fo3_run G hd_ctK (sx_M_self H8) s0 s1 s2 (by omega) (by omega) ?_
  intro σ9 j1 hM9
  exact kk σ9 (hd_tr H8 hM9 (by decide +kernel)) (by omega) (fd_T0 t8 hM9 (by decide +kernel))
theorem fd_fourc (G : sx_G0 g L xs zK hd_T ex_mt) {σ : am_S} (hM : sx_M zK hd_T σ 0 0 σ) {f : Nat → Int32} (t : fd_T σ f) {n : Nat} (hn : (σ.2.1 118 2).toInt = n) (h9 : n ≤ 936) {v : Int32} {lw : List (Nat × Value)} {pc i mi q : Nat} (hT : ex_mt mi = some tX12_four) (hd : decode tX12_feed.1.2.1 pc = .ok (.invokevirtual i, 3)) (hl : ex_lk ex_mt tX12_feed pc (.invokevirtual i) [0, mi, q] = true) {post : Option (Option Value) → am_S → Prop} (kk : ∀ σ', sx_M zK hd_T σ fd_m 0 σ' → (σ'.2.1 118 2).toInt = ((n + 4 : Nat) : Int) → fd_T σ' (fd_ap f n v) → am_K g 12 tX12_feed.1 0 0 (pc + 3) lw [] σ' post) : am_K g 12 tX12_feed.1 0 0 pc lw [.int v, .ref 118] σ post := by
  refine rd_call G (T2 := tX12_four) hT hd hl rfl (hM.1 118 (.inl 12) rfl) (as := [.int v]) (st := []) rfl (Nat.le_of_ble_eq_true rfl) rfl (by decide) (d1 := 5) (by decide) (post1 := fun r σ' => r = some none ∧ sx_M zK hd_T σ fd_m 0 σ' ∧ (σ'.2.1 118 2).toInt = ((n + 4 : Nat) : Int) ∧ fd_T σ' (fd_ap f n v)) (fun _ h => by cases h.1) (fd_four G hM t hn h9 (by simp [lv_args, Value.category]) (v := v) (by simp [lv_args, Value.category]) (fun σ' a1 a2 a3 => ⟨rfl, a1, a2, a3⟩)) ?_
  intro w σ' ⟨hw, a1, a2, a3⟩
  cases hw
  exact kk σ' a1 a2 a3
def fd_mF : Nat := Nat.lor fd_m (Nat.shiftLeft 1 359)
def fd_5 (f : Nat → Int32) (n : Nat) (v1 v2 v3 v4 v5 : Int32) : Nat → Int32 := fd_ap (fd_ap (fd_ap (fd_ap (fd_ap f n v1) (n + 4) v2) (n + 4 + 4) v3) (n + 4 + 4 + 4) v4) (n + 4 + 4 + 4 + 4) v5
theorem fd_feed (G : sx_G0 g L xs zK hd_T ex_mt) {σ : am_S} (hM : sx_M zK hd_T σ 0 0 σ) {n : Nat} (hn : (σ.2.1 118 2).toInt = n) {lw : List (Nat × Value)} (hl : (0, Value.ref 118) ∈ lw) {m1 m2 m3 m4 m5 : Int32} (hl1 : (1, Value.int m1) ∈ lw) (hl2 : (2, Value.int m2) ∈ lw) (hl3 : (3, Value.int m3) ∈ lw) (hl4 : (4, Value.int m4) ∈ lw) (hl5 : (5, Value.int m5) ∈ lw) {post : Option (Option Value) → am_S → Prop} (kk : ∀ (r : Int32) σ', sx_M zK hd_T σ fd_mF 0 σ' → ((n ≤ 920 ∧ (σ'.2.1 118 2).toInt = ((n + 20 : Nat) : Int) ∧ fd_T σ' (fd_5 (σ.2.1 119) n m1 m2 m3 m4 m5)) ∨ (921 ≤ n ∧ (σ'.2.1 118 2).toInt = (n : Nat) ∧ fd_T σ' (σ.2.1 119))) → post (some (some (.int r))) σ') : am_K g 12 tX12_feed.1 0 0 0 lw [] σ post := by
  have k9 : (σ.2.1 118 2).toInt ≤ (940 : Int) := (hM.2.2.1 118 2 _ _ 361 rfl).2
  have t0 : fd_T σ (σ.2.1 119) := fun _ _ => rfl
  by_cases h : n ≤ 920
  · refine sg_fe1_run G hd_ctK hM hl hl1 hl2 hl3 hl4 hl5 (by omega) ?_
    intro lw1 y1 y2 y3 y4 y5 c1 σ1 a0 a1 a2 a3 a4 a5 e0 e1 e2 e3 e4 e5 hM1
    obtain rfl : c1 = m1 := Int32.toInt_inj.mp (by omega)
    obtain rfl : y2 = m2 := Int32.toInt_inj.mp (by omega)
    obtain rfl : y3 = m3 := Int32.toInt_inj.mp (by omega)
    obtain rfl : y4 = m4 := Int32.toInt_inj.mp (by omega)
    obtain rfl : y5 = m5 := Int32.toInt_inj.mp (by omega)
    have H1 : sx_M zK hd_T σ fd_mF 0 σ1 := sx_M_mask (by decide +kernel) hM1
    have n1 : (σ1.2.1 118 2).toInt = n := by rw [hM1.2.2.2.2.1 118 2 _ _ 361 rfl (by decide +kernel)]; exact hn
    refine fd_fourc G (sx_M_self hM1) (fd_T0 t0 hM1 (by decide +kernel)) n1 (by omega) rfl rd_d_X12_feed_22 rd_k_X12_feed_22 ?_
    intro σ2 hM2 n2 t2
    have H2 := hd_tr H1 hM2 (by decide +kernel)
    refine sg_fe2_run G hd_ctK (sx_M_self hM2) a0 a1 a2 a3 a4 a5 ?_
    intro lw3 z1_1 z1_2 z1_3 z1_4 z1_5 d1 σ3 b1_0 b1_1 b1_2 b1_3 b1_4 b1_5 e10 e11 e12 e13 e14 e15 hM3
    obtain rfl : d1 = y2 := Int32.toInt_inj.mp (by omega)
    have H3 := hd_tr H2 hM3 (by decide +kernel)
    have n3 : (σ3.2.1 118 2).toInt = ((n + 4 : Nat) : Int) := by rw [hM3.2.2.2.2.1 118 2 _ _ 361 rfl (sx_bit0 _)]; exact n2
    refine fd_fourc G (sx_M_self hM3) (fd_T0 t2 hM3 (sx_bit0 _)) n3 (by omega) rfl rd_d_X12_feed_27 rd_k_X12_feed_27 ?_
    intro σ4 hM4 n4 t4
    have H4 := hd_tr H3 hM4 (by decide +kernel)
    refine sg_fe3_run G hd_ctK (sx_M_self hM4) b1_0 b1_1 b1_2 b1_3 b1_4 b1_5 ?_
    intro lw5 z2_1 z2_2 z2_3 z2_4 z2_5 d2 σ5 b2_0 b2_1 b2_2 b2_3 b2_4 b2_5 e20 e21 e22 e23 e24 e25 hM5
    obtain rfl : d2 = y3 := Int32.toInt_inj.mp (by omega)
    have H5 := hd_tr H4 hM5 (by decide +kernel)
    have n5 : (σ5.2.1 118 2).toInt = ((n + 4 + 4 : Nat) : Int) := by rw [hM5.2.2.2.2.1 118 2 _ _ 361 rfl (sx_bit0 _)]; exact n4
    refine fd_fourc G (sx_M_self hM5) (fd_T0 t4 hM5 (sx_bit0 _)) n5 (by omega) rfl rd_d_X12_feed_32 rd_k_X12_feed_32 ?_
    intro σ6 hM6 n6 t6
    have H6 := hd_tr H5 hM6 (by decide +kernel)
    refine sg_fe4_run G hd_ctK (sx_M_self hM6) b2_0 b2_1 b2_2 b2_3 b2_4 b2_5 ?_
    intro lw7 z3_1 z3_2 z3_3 z3_4 z3_5 d3 σ7 b3_0 b3_1 b3_2 b3_3 b3_4 b3_5 e30 e31 e32 e33 e34 e35 hM7
    obtain rfl : d3 = y4 := Int32.toInt_inj.mp (by omega)
    have H7 := hd_tr H6 hM7 (by decide +kernel)
    have n7 : (σ7.2.1 118 2).toInt = ((n + 4 + 4 + 4 : Nat) : Int) := by rw [hM7.2.2.2.2.1 118 2 _ _ 361 rfl (sx_bit0 _)]; exact n6
    refine fd_fourc G (sx_M_self hM7) (fd_T0 t6 hM7 (sx_bit0 _)) n7 (by omega) rfl rd_d_X12_feed_38 rd_k_X12_feed_38 ?_
    intro σ8 hM8 n8 t8
    have H8 := hd_tr H7 hM8 (by decide +kernel)
    refine sg_fe5_run G hd_ctK (sx_M_self hM8) b3_0 b3_1 b3_2 b3_3 b3_4 b3_5 ?_
    intro lw9 z4_1 z4_2 z4_3 z4_4 z4_5 d4 σ9 b4_0 b4_1 b4_2 b4_3 b4_4 b4_5 e40 e41 e42 e43 e44 e45 hM9
    obtain rfl : d4 = y5 := Int32.toInt_inj.mp (by omega)
    have H9 := hd_tr H8 hM9 (by decide +kernel)
    have n9 : (σ9.2.1 118 2).toInt = ((n + 4 + 4 + 4 + 4 : Nat) : Int) := by rw [hM9.2.2.2.2.1 118 2 _ _ 361 rfl (sx_bit0 _)]; exact n8
    refine fd_fourc G (sx_M_self hM9) (fd_T0 t8 hM9 (sx_bit0 _)) n9 (by omega) rfl rd_d_X12_feed_44 rd_k_X12_feed_44 ?_
    intro σ10 hM10 n10 t10
    have H10 := hd_tr H9 hM10 (by decide +kernel)
    refine sg_fe6_run G hd_ctK (sx_M_self hM10) b4_0 ?_
    intro r σ11 e6 hM11
    refine kk r σ11 (hd_tr H10 hM11 (by decide +kernel)) (Or.inl ⟨h, ?_, fd_T0 t10 hM11 (sx_bit0 _)⟩)
    rw [hM11.2.2.2.2.1 118 2 _ _ 361 rfl (sx_bit0 _), n10]
  · refine sg_fe0_run G hd_ctK hM hl hl1 hl2 hl3 hl4 hl5 (by omega) ?_
    intro r σ1 e0 hM1
    refine kk r σ1 (sx_M_mask (by decide +kernel) hM1) (Or.inr ⟨by omega, ?_, fd_T0 t0 hM1 (by decide +kernel)⟩)
    rw [hM1.2.2.2.2.1 118 2 _ _ 361 rfl (by decide +kernel)]
    exact hn
end FR
def fc_ap (f : Nat → Int32) (n : Nat) (v : Int32) : Nat → Int32 := rd_up (rd_up (rd_up (rd_up f n (fc_b v 24)) (n + 1) (fc_b v 16)) (n + 2) (fc_b v 8)) (n + 3) (fc_b v 0)
def fc_m : Nat := Nat.lor (Nat.shiftLeft 1 18) (Nat.shiftLeft 1 19)
def fc_T (σ : am_S) (f : Nat → Int32) : Prop := ∀ k, k < 940 → σ.2.1 2 k = f k
theorem fc_T0 {σ σ' : am_S} {m : Nat} {f : Nat → Int32} (t : fc_T σ f) (h : sx_M zK hd_T σ m 0 σ') (hb : sx_bit m 19 = false) : fc_T σ' f := fun k hk => (h.2.2.2.2.1 2 k _ _ 19 (rc_a2 hk) hb).trans (t k hk)
theorem fc_T1 {σ : am_S} {f : Nat → Int32} (t : fc_T σ f) (p : Nat) (x : Int32) : fc_T (σ.1, am_up σ.2.1 2 p x, σ.2.2.1, σ.2.2.2) (rd_up f p x) := by
  intro k hk
  show am_up σ.2.1 2 p x 2 k = rd_up f p x k
  by_cases e : k = p
  · subst e
    rw [am_up_s, rd_up_s]
  · rw [am_up_n _ _ (fun h => e h.2), rd_up_n _ _ e]
    exact t k hk
theorem fc_up {σe σ : am_S} (hM : sx_M zK hd_T σe fc_m 0 σ) {p : Nat} (hp : p < 940) (v s : Int32) : sx_M zK hd_T σe fc_m 0 (σ.1, am_up σ.2.1 2 p (fc_b v s), σ.2.2.1, σ.2.2.2) := by
  refine sx_M_up rd_CsK hM (fun lo hi' u e => ?_) ⟨fun h => absurd (rfl : (zK.2.1 2).1 = 0) h, fun h => absurd (rfl : (zK.2.1 2).2.1 = 0) h⟩ (fun _ h => h) (fun _ h => h) (fun c hc => absurd hc List.not_mem_nil) (fun c hc => absurd hc List.not_mem_nil)
  have e3 : sx_atl (z9.1 2) p = some (lo, hi', u) := e
  rw [rc_a2 hp] at e3
  cases e3
  have h : -128 ≤ (fc_b v s).toInt ∧ (fc_b v s).toInt ≤ 127 := fd_b8 _
  exact ⟨by show (-128 : Int) ≤ _; omega, by show _ ≤ (127 : Int); omega, by decide +kernel⟩
section FC
variable {g : am_C} {L : Nat} {xs : Nat → Int32}
theorem fc_st (G : sx_G0 g L xs zK hd_T ex_mt) {σe σ : am_S} (hM : sx_M zK hd_T σe fc_m 0 σ) {f : Nat → Int32} (t : fc_T σ f) {p : Nat} (hp : p < 940) {lw : List (Nat × Value)} {post : Option (Option Value) → am_S → Prop} {n0 n1 n2 : Int32} (e2 : n2.toInt = p) (kk : ∀ σ', sx_M zK hd_T σe fc_m 0 σ' → (σ'.2.1 1 1).toInt = (σ.2.1 1 1).toInt → fc_T σ' (rd_up f p (fc_b n1 n0)) → am_K g 5 tX10_append.1 0 0 39 lw [] σ' post) : am_K g 5 tX10_append.1 0 0 36 lw [.int n0, .int n1, .int n2, .ref 2] σ post := by
  refine kr_iushr rd_d_X10_append_36 ?_
  refine kr_i2b rd_d_X10_append_37 ?_
  refine kr_bast G.1 (y := fc_b n1 n0) rd_d_X10_append_38 (hM.1 2 (.inr (.byte, 940)) rfl) (hd_in e2 hp) rfl ?_
  rw [hd_clamp e2]
  refine kk _ (fc_up hM hp n1 n0) ?_ (fc_T1 t p _)
  show (am_up σ.2.1 2 p (fc_b n1 n0) 1 1).toInt = _
  rw [am_up_n _ _ (fun h => by omega)]
theorem fc_four (G : sx_G0 g L xs zK hd_T ex_mt) {σ : am_S} (hM : sx_M zK hd_T σ 0 0 σ) {f : Nat → Int32} (t : fc_T σ f) {n : Nat} (hn : (σ.2.1 1 1).toInt = n) (h9 : n ≤ 936) {lw : List (Nat × Value)} (hl : (0, Value.ref 1) ∈ lw) {v : Int32} (hl1 : (1, Value.int v) ∈ lw) {post : Option (Option Value) → am_S → Prop} (kk : ∀ σ', sx_M zK hd_T σ fc_m 0 σ' → (σ'.2.1 1 1).toInt = ((n + 4 : Nat) : Int) → fc_T σ' (fc_ap f n v) → post (some none) σ') : am_K g 5 tX10_append.1 0 0 0 lw [] σ post := by
  have z24 : (24 : Int32).toInt = 24 := rfl
  have z16 : (16 : Int32).toInt = 16 := rfl
  have z8 : (8 : Int32).toInt = 8 := rfl
  have z0 : (0 : Int32).toInt = 0 := rfl
  have fit : ∀ (c : Int32) (z : Int32), c.toInt = z.toInt → c = z := fun c z h => Int32.toInt_inj.mp h
  refine sg_ap1_run G hd_ctK hM hl hl1 (by omega) ?_
  intro lw1 y1 y2 c0 c1 c2 σ1 p0 p1 p2 f1 f2 f3 f4 f5 hM1
  have n1 : (σ1.2.1 1 1).toInt = n := by rw [hM1.2.2.2.2.1 1 1 _ _ 18 rfl (sx_bit0 _)]; exact hn
  have t1 := fc_T0 t hM1 (sx_bit0 _)
  have ev : c1 = v := fit c1 v (by omega)
  have es : c0 = 24 := fit c0 24 (by omega)
  refine fc_st G (sx_M_mask (by decide +kernel) hM1 : sx_M zK hd_T σ fc_m 0 σ1) t1 (p := n) (by omega) (by omega) ?_
  intro σ2 H2 n2 t2
  rw [ev, es] at t2
  refine sg_ap2_24_run G hd_ctK (sx_M_self H2) p0 p1 p2 (by omega) (by omega) ?_
  intro lw3 u1 w1 c1_0 c1_1 c1_2 σ3 q0 q1 q2 g1_1 g1_2 g1_3 g1_4 g1_5 g1_6 hM3
  have n3 : (σ3.2.1 1 1).toInt = ((n + 1 : Nat) : Int) := by omega
  have ev1 : c1_1 = v := fit c1_1 v (by omega)
  have es1 : c1_0 = 16 := fit c1_0 16 (by omega)
  have t3 := fc_T0 t2 hM3 (by decide +kernel)
  refine fc_st G (hd_tr H2 hM3 (by decide +kernel)) t3 (p := n + 1) (by omega) (by omega) ?_
  intro σ4 H4 n4 t4
  rw [ev1, es1] at t4
  refine sg_ap2_16_run G hd_ctK (sx_M_self H4) q0 q1 q2 (by omega) (by omega) ?_
  intro lw5 u2 w2 c2_0 c2_1 c2_2 σ5 r0 r1 r2 g2_1 g2_2 g2_3 g2_4 g2_5 g2_6 hM5
  have n5 : (σ5.2.1 1 1).toInt = ((n + 2 : Nat) : Int) := by omega
  have ev2 : c2_1 = v := fit c2_1 v (by omega)
  have es2 : c2_0 = 8 := fit c2_0 8 (by omega)
  have t5 := fc_T0 t4 hM5 (by decide +kernel)
  refine fc_st G (hd_tr H4 hM5 (by decide +kernel)) t5 (p := n + 2) (by omega) (by omega) ?_
  intro σ6 H6 n6 t6
  rw [ev2, es2] at t6
  refine sg_ap2_8_run G hd_ctK (sx_M_self H6) r0 r1 r2 (by omega) (by omega) ?_
  intro lw7 u3 w3 c3_0 c3_1 c3_2 σ7 s0 s1 s2 g3_1 g3_2 g3_3 g3_4 g3_5 g3_6 hM7
  have n7 : (σ7.2.1 1 1).toInt = ((n + 3 : Nat) : Int) := by omega
  have ev3 : c3_1 = v := fit c3_1 v (by omega)
  have es3 : c3_0 = 0 := fit c3_0 0 (by omega)
  have t7 := fc_T0 t6 hM7 (by decide +kernel)
  refine fc_st G (hd_tr H6 hM7 (by decide +kernel)) t7 (p := n + 3) (by omega) (by omega) ?_
  intro σ8 H8 n8 t8
  rw [ev3, es3] at t8
  refine sg_ap3_run G hd_ctK (sx_M_self H8) s0 s1 s2 (by omega) (by omega) ?_
  intro σ9 j1 hM9
  exact kk σ9 (hd_tr H8 hM9 (by decide +kernel)) (by omega) (fc_T0 t8 hM9 (by decide +kernel))
theorem fc_fourc (G : sx_G0 g L xs zK hd_T ex_mt) {σ : am_S} (hM : sx_M zK hd_T σ 0 0 σ) {f : Nat → Int32} (t : fc_T σ f) {n : Nat} (hn : (σ.2.1 1 1).toInt = n) (h9 : n ≤ 936) {v : Int32} {lw : List (Nat × Value)} {pc i mi q : Nat} (hT : ex_mt mi = some tX10_append) (hd : decode tX11_feed.1.2.1 pc = .ok (.invokevirtual i, 3)) (hl : ex_lk ex_mt tX11_feed pc (.invokevirtual i) [0, mi, q] = true) {post : Option (Option Value) → am_S → Prop} (kk : ∀ σ', sx_M zK hd_T σ fc_m 0 σ' → (σ'.2.1 1 1).toInt = ((n + 4 : Nat) : Int) → fc_T σ' (fc_ap f n v) → am_K g 12 tX11_feed.1 0 0 (pc + 3) lw [] σ' post) : am_K g 12 tX11_feed.1 0 0 pc lw [.int v, .ref 1] σ post := by
  refine rd_call G (T2 := tX10_append) hT hd hl rfl (hM.1 1 (.inl 10) rfl) (as := [.int v]) (st := []) rfl (Nat.le_of_ble_eq_true rfl) rfl (by decide) (d1 := 5) (by decide) (post1 := fun r σ' => r = some none ∧ sx_M zK hd_T σ fc_m 0 σ' ∧ (σ'.2.1 1 1).toInt = ((n + 4 : Nat) : Int) ∧ fc_T σ' (fc_ap f n v)) (fun _ h => by cases h.1) (fc_four G hM t hn h9 (by simp [lv_args, Value.category]) (v := v) (by simp [lv_args, Value.category]) (fun σ' a1 a2 a3 => ⟨rfl, a1, a2, a3⟩)) ?_
  intro w σ' ⟨hw, a1, a2, a3⟩
  cases hw
  exact kk σ' a1 a2 a3
def fc_mF : Nat := fc_m
def fc_5 (f : Nat → Int32) (n : Nat) (v1 v2 v3 v4 v5 : Int32) : Nat → Int32 := fc_ap (fc_ap (fc_ap (fc_ap (fc_ap f n v1) (n + 4) v2) (n + 4 + 4) v3) (n + 4 + 4 + 4) v4) (n + 4 + 4 + 4 + 4) v5
theorem fc_feed (G : sx_G0 g L xs zK hd_T ex_mt) {σ : am_S} (hM : sx_M zK hd_T σ 0 0 σ) {n : Nat} (hn : (σ.2.1 1 1).toInt = n) {lw : List (Nat × Value)} (hl : (0, Value.ref 0) ∈ lw) {m1 m2 m3 m4 m5 : Int32} (hl1 : (1, Value.int m1) ∈ lw) (hl2 : (2, Value.int m2) ∈ lw) (hl3 : (3, Value.int m3) ∈ lw) (hl4 : (4, Value.int m4) ∈ lw) (hl5 : (5, Value.int m5) ∈ lw) {post : Option (Option Value) → am_S → Prop} (kk : ∀ (r : Int32) σ', sx_M zK hd_T σ fc_mF 0 σ' → ((n ≤ 920 ∧ (σ'.2.1 1 1).toInt = ((n + 20 : Nat) : Int) ∧ fc_T σ' (fc_5 (σ.2.1 2) n m1 m2 m3 m4 m5)) ∨ (921 ≤ n ∧ (σ'.2.1 1 1).toInt = (n : Nat) ∧ fc_T σ' (σ.2.1 2))) → post (some (some (.int r))) σ') : am_K g 12 tX11_feed.1 0 0 0 lw [] σ post := by
  have k9 : (σ.2.1 1 1).toInt ≤ (940 : Int) := (hM.2.2.1 1 1 _ _ 18 rfl).2
  have t0 : fc_T σ (σ.2.1 2) := fun _ _ => rfl
  by_cases h : n ≤ 920
  · refine sg_xe1_run G hd_ctK hM hl hl1 hl2 hl3 hl4 hl5 (by omega) ?_
    intro lw1 y1 y2 y3 y4 y5 c1 σ1 a0 a1 a2 a3 a4 a5 e0 e1 e2 e3 e4 e5 hM1
    obtain rfl : c1 = m1 := Int32.toInt_inj.mp (by omega)
    obtain rfl : y2 = m2 := Int32.toInt_inj.mp (by omega)
    obtain rfl : y3 = m3 := Int32.toInt_inj.mp (by omega)
    obtain rfl : y4 = m4 := Int32.toInt_inj.mp (by omega)
    obtain rfl : y5 = m5 := Int32.toInt_inj.mp (by omega)
    have H1 : sx_M zK hd_T σ fc_mF 0 σ1 := sx_M_mask (by decide +kernel) hM1
    have n1 : (σ1.2.1 1 1).toInt = n := by rw [hM1.2.2.2.2.1 1 1 _ _ 18 rfl (by decide +kernel)]; exact hn
    refine fc_fourc G (sx_M_self hM1) (fc_T0 t0 hM1 (by decide +kernel)) n1 (by omega) rfl rd_d_X11_feed_17 rd_k_X11_feed_17 ?_
    intro σ2 hM2 n2 t2
    have H2 := hd_tr H1 hM2 (by decide +kernel)
    refine sg_xe2_run G hd_ctK (sx_M_self hM2) a0 a1 a2 a3 a4 a5 ?_
    intro lw3 z1_1 z1_2 z1_3 z1_4 z1_5 d1 σ3 b1_0 b1_1 b1_2 b1_3 b1_4 b1_5 e10 e11 e12 e13 e14 e15 hM3
    obtain rfl : d1 = y2 := Int32.toInt_inj.mp (by omega)
    have H3 := hd_tr H2 hM3 (by decide +kernel)
    have n3 : (σ3.2.1 1 1).toInt = ((n + 4 : Nat) : Int) := by rw [hM3.2.2.2.2.1 1 1 _ _ 18 rfl (sx_bit0 _)]; exact n2
    refine fc_fourc G (sx_M_self hM3) (fc_T0 t2 hM3 (sx_bit0 _)) n3 (by omega) rfl rd_d_X11_feed_25 rd_k_X11_feed_25 ?_
    intro σ4 hM4 n4 t4
    have H4 := hd_tr H3 hM4 (by decide +kernel)
    refine sg_xe3_run G hd_ctK (sx_M_self hM4) b1_0 b1_1 b1_2 b1_3 b1_4 b1_5 ?_
    intro lw5 z2_1 z2_2 z2_3 z2_4 z2_5 d2 σ5 b2_0 b2_1 b2_2 b2_3 b2_4 b2_5 e20 e21 e22 e23 e24 e25 hM5
    obtain rfl : d2 = y3 := Int32.toInt_inj.mp (by omega)
    have H5 := hd_tr H4 hM5 (by decide +kernel)
    have n5 : (σ5.2.1 1 1).toInt = ((n + 4 + 4 : Nat) : Int) := by rw [hM5.2.2.2.2.1 1 1 _ _ 18 rfl (sx_bit0 _)]; exact n4
    refine fc_fourc G (sx_M_self hM5) (fc_T0 t4 hM5 (sx_bit0 _)) n5 (by omega) rfl rd_d_X11_feed_33 rd_k_X11_feed_33 ?_
    intro σ6 hM6 n6 t6
    have H6 := hd_tr H5 hM6 (by decide +kernel)
    refine sg_xe4_run G hd_ctK (sx_M_self hM6) b2_0 b2_1 b2_2 b2_3 b2_4 b2_5 ?_
    intro lw7 z3_1 z3_2 z3_3 z3_4 z3_5 d3 σ7 b3_0 b3_1 b3_2 b3_3 b3_4 b3_5 e30 e31 e32 e33 e34 e35 hM7
    obtain rfl : d3 = y4 := Int32.toInt_inj.mp (by omega)
    have H7 := hd_tr H6 hM7 (by decide +kernel)
    have n7 : (σ7.2.1 1 1).toInt = ((n + 4 + 4 + 4 : Nat) : Int) := by rw [hM7.2.2.2.2.1 1 1 _ _ 18 rfl (sx_bit0 _)]; exact n6
    refine fc_fourc G (sx_M_self hM7) (fc_T0 t6 hM7 (sx_bit0 _)) n7 (by omega) rfl rd_d_X11_feed_42 rd_k_X11_feed_42 ?_
    intro σ8 hM8 n8 t8
    have H8 := hd_tr H7 hM8 (by decide +kernel)
    refine sg_xe5_run G hd_ctK (sx_M_self hM8) b3_0 b3_1 b3_2 b3_3 b3_4 b3_5 ?_
    intro lw9 z4_1 z4_2 z4_3 z4_4 z4_5 d4 σ9 b4_0 b4_1 b4_2 b4_3 b4_4 b4_5 e40 e41 e42 e43 e44 e45 hM9
    obtain rfl : d4 = y5 := Int32.toInt_inj.mp (by omega)
    have H9 := hd_tr H8 hM9 (by decide +kernel)
    have n9 : (σ9.2.1 1 1).toInt = ((n + 4 + 4 + 4 + 4 : Nat) : Int) := by rw [hM9.2.2.2.2.1 1 1 _ _ 18 rfl (sx_bit0 _)]; exact n8
    refine fc_fourc G (sx_M_self hM9) (fc_T0 t8 hM9 (sx_bit0 _)) n9 (by omega) rfl rd_d_X11_feed_51 rd_k_X11_feed_51 ?_
    intro σ10 hM10 n10 t10
    have H10 := hd_tr H9 hM10 (by decide +kernel)
    refine sg_xe6_run G hd_ctK (sx_M_self hM10) b4_0 ?_
    intro r σ11 e6 hM11
    refine kk r σ11 (hd_tr H10 hM11 (by decide +kernel)) (Or.inl ⟨h, ?_, fc_T0 t10 hM11 (sx_bit0 _)⟩)
    rw [hM11.2.2.2.2.1 1 1 _ _ 18 rfl (sx_bit0 _), n10]
  · refine sg_xe0_run G hd_ctK hM hl hl1 hl2 hl3 hl4 hl5 (by omega) ?_
    intro r σ1 e0 hM1
    refine kk r σ1 (sx_M_mask (by decide +kernel) hM1) (Or.inr ⟨by omega, ?_, fc_T0 t0 hM1 (by decide +kernel)⟩)
    rw [hM1.2.2.2.2.1 1 1 _ _ 18 rfl (by decide +kernel)]
    exact hn
end FC
theorem fd_ap_eq {f f' : Nat → Int32} (h : ∀ k, k < 940 → f k = f' k) (n : Nat) (v : Int32) : ∀ k, k < 940 → fc_ap f n v k = fd_ap f' n v k := by
  intro k hk
  obtain ⟨e1, e2, e3, e4⟩ := fd_eq v
  unfold fc_ap fd_ap
  rw [e1, e2, e3, e4]
  unfold rd_up
  rw [h k hk]
theorem fd_5_eq {f f' : Nat → Int32} (h : ∀ k, k < 940 → f k = f' k) (n : Nat) (v1 v2 v3 v4 v5 : Int32) : ∀ k, k < 940 → fc_5 f n v1 v2 v3 v4 v5 k = fd_5 f' n v1 v2 v3 v4 v5 k := fd_ap_eq (fd_ap_eq (fd_ap_eq (fd_ap_eq (fd_ap_eq h n v1) _ v2) _ v3) _ v4) _ v5
