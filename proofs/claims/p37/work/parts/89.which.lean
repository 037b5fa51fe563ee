/-! words by their number; which of the eight settings -/
theorem rd_c2 {T : ex_T} {pc i r p : Nat} (hl : ex_lk ex_mt T pc (.ldc2_w i) [r, p] = true) : Cond.constantLong T.1.1.cls i (Int64.ofNat r) ∈ lw_tbl := ex_mem_ok hl
theorem rd_one {P : Prop} {dP : Decidable P} {r : Int32} (h : r.toInt = (if P then 1 else 0)) (h0 : ¬ r = 0) : P := by
  by_cases q : P
  · exact q
  · rw [if_neg q] at h
    exact absurd (Int32.toInt_inj.mp h) h0
theorem rd_zero {P : Prop} {dP : Decidable P} {r : Int32} (h : r.toInt = (if P then 1 else 0)) (h0 : r = 0) : ¬ P := by
  intro q
  rw [if_pos q, h0] at h
  exact absurd h (by decide)
def rd_ws : Nat → List Nat
  | 0 => [119, 97, 108, 107]
  | 1 => [98, 97, 115, 107, 101, 116]
  | 2 => [104, 111, 110, 101, 115, 116]
  | 3 => [115, 104, 121]
  | 4 => [119, 104, 105, 115, 116, 108, 101]
  | 5 => [97, 103, 97, 105, 110]
  | 6 => [114, 117, 110, 110, 101, 114]
  | 7 => [99, 111, 115, 116]
  | 8 => [119, 105, 110, 100, 111, 119]
  | _ => [115, 116, 97, 110, 100, 115]
def rd_wl (k i : Nat) : Nat := (rd_ws k).getD i 0
/-- the token is the word of that number -/
def rd_isk (b : Nat → Nat) (k : Nat) (t : rd_K) : Bool := rd_isw b (rd_wl k) (rd_ws k).length t
def rd_wh (b : Nat → Nat) (t : rd_K) : Int := (if rd_isk b 0 t = true then 0 else (if rd_isk b 1 t = true then 1 else (if rd_isk b 2 t = true then 2 else (if rd_isk b 3 t = true then 3 else (if rd_isk b 4 t = true then 4 else (if rd_isk b 5 t = true then 5 else (if rd_isk b 6 t = true then 6 else (if rd_isk b 7 t = true then 7 else -1))))))))
section RV
variable {g : am_C} {L : Nat} {xs : Nat → Int32}
/-- isWord, called -/
theorem rd_iwc (G : sx_G0 g L xs zK hd_T ex_mt) {T : ex_T} {d : Nat} (hdp : 2 ≤ d) {σ : am_S} (hM : sx_M zK hd_T σ 0 0 σ) {b : Nat → Nat} {t : rd_K} (hb : ∀ k, b k ≤ 255) (hN : rd_N σ b t) (ht : rd_wok b t) (wk : Nat) {w : Int64} (hw : w.toBitVec.toNat = rd_v (rd_wl wk) (rd_ws wk).length 0 0) (hc : ∀ i, i < (rd_ws wk).length → 1 ≤ rd_wl wk i ∧ rd_wl wk i ≤ 255) {lw : List (Nat × Value)} {pc i mi q : Nat} (hT : ex_mt mi = some tX12_isWord) (hd : decode T.1.2.1 pc = .ok (.invokevirtual i, 3)) (hl : ex_lk ex_mt T pc (.invokevirtual i) [0, mi, q] = true) {st : List Value} (hroom : (st.map fun v => v.category).sum ≤ 8) {post : Option (Option Value) → am_S → Prop} (kk : ∀ r : Int32, r.toInt = (if rd_isk b wk t = true then 1 else 0) → am_K g d T.1 0 0 (pc + 3) lw (.int r :: st) σ post) : am_K g d T.1 0 0 pc lw (.long w :: .ref 118 :: st) σ post := by
  refine rd_call G (T2 := tX12_isWord) hT hd hl rfl (hM.1 118 (.inl 12) rfl) (as := [.long w]) (st := st) rfl (Nat.le_of_ble_eq_true rfl) rfl hroom (d1 := 1) hdp (post1 := fun r σ' => ∃ y : Int32, r = some (some (.int y)) ∧ σ' = σ ∧ y.toInt = (if rd_isk b wk t = true then 1 else 0)) (fun _ h => by obtain ⟨y, h, -⟩ := h; cases h) (rd_isWord G hM hb hN ht hw hc (by simp [lv_args]) (by simp [lv_args, Value.category]) (fun r h => ⟨r, rfl, rfl, h⟩)) ?_
  intro v σ' ⟨y, hv, hs, h2⟩
  cases hv
  subst hs
  exact kk y h2
theorem rd_which (G : sx_G0 g L xs zK hd_T ex_mt) {d : Nat} (hdp : 2 ≤ d) {σ : am_S} (hM : sx_M zK hd_T σ 0 0 σ) {b : Nat → Nat} {t : rd_K} (hb : ∀ k, b k ≤ 255) (hN : rd_N σ b t) (ht : rd_wok b t) {lw : List (Nat × Value)} (hl : (0, Value.ref 118) ∈ lw) {post : Option (Option Value) → am_S → Prop} (k : ∀ r : Int32, r.toInt = rd_wh b t → post (some (some (.int r))) σ) : am_K g d tX12_whichOf.1 0 0 0 lw [] σ post := by
  obtain ⟨i0, hi0⟩ := List.getElem?_of_mem hl
  refine kr_aload_n i0 rd_d_X12_whichOf_0 hi0 ?_
  refine kr_ldc2 G.1 rd_d_X12_whichOf_1 (rd_c2 rd_k_X12_whichOf_1) ?_
  refine rd_iwc G hdp hM hb hN ht 0 (by decide +kernel) (by decide +kernel) rfl rd_d_X12_whichOf_4 rd_k_X12_whichOf_4 (Nat.le_of_ble_eq_true rfl) ?_
  intro r0 e0
  refine kr_if_eq (tgt := 12) rd_d_X12_whichOf_7 rfl (fun h0 => ?_) (fun h0 => ?_)
  rotate_left
  · refine kr_iconst rd_d_X12_whichOf_10 (v := 0) rfl ?_
    refine kr_ireturn rd_d_X12_whichOf_11 (ty := .int) rfl rfl (k 0 ?_)
    unfold rd_wh
    rw [if_pos (rd_one e0 h0)]
    rfl
  have z0 := rd_zero e0 h0
  refine kr_aload_n i0 rd_d_X12_whichOf_12 hi0 ?_
  refine kr_ldc2 G.1 rd_d_X12_whichOf_13 (rd_c2 rd_k_X12_whichOf_13) ?_
  refine rd_iwc G hdp hM hb hN ht 1 (by decide +kernel) (by decide +kernel) rfl rd_d_X12_whichOf_16 rd_k_X12_whichOf_16 (Nat.le_of_ble_eq_true rfl) ?_
  intro r1 e1
  refine kr_if_eq (tgt := 24) rd_d_X12_whichOf_19 rfl (fun h0 => ?_) (fun h0 => ?_)
  rotate_left
  · refine kr_iconst rd_d_X12_whichOf_22 (v := 1) rfl ?_
    refine kr_ireturn rd_d_X12_whichOf_23 (ty := .int) rfl rfl (k 1 ?_)
    unfold rd_wh
    rw [if_neg z0, if_pos (rd_one e1 h0)]
    rfl
  have z1 := rd_zero e1 h0
  refine kr_aload_n i0 rd_d_X12_whichOf_24 hi0 ?_
  refine kr_ldc2 G.1 rd_d_X12_whichOf_25 (rd_c2 rd_k_X12_whichOf_25) ?_
  refine rd_iwc G hdp hM hb hN ht 2 (by decide +kernel) (by decide +kernel) rfl rd_d_X12_whichOf_28 rd_k_X12_whichOf_28 (Nat.le_of_ble_eq_true rfl) ?_
  intro r2 e2
  refine kr_if_eq (tgt := 36) rd_d_X12_whichOf_31 rfl (fun h0 => ?_) (fun h0 => ?_)
  rotate_left
  · refine kr_iconst rd_d_X12_whichOf_34 (v := 2) rfl ?_
    refine kr_ireturn rd_d_X12_whichOf_35 (ty := .int) rfl rfl (k 2 ?_)
    unfold rd_wh
    rw [if_neg z0, if_neg z1, if_pos (rd_one e2 h0)]
    rfl
  have z2 := rd_zero e2 h0
  refine kr_aload_n i0 rd_d_X12_whichOf_36 hi0 ?_
  refine kr_ldc2 G.1 rd_d_X12_whichOf_37 (rd_c2 rd_k_X12_whichOf_37) ?_
  refine rd_iwc G hdp hM hb hN ht 3 (by decide +kernel) (by decide +kernel) rfl rd_d_X12_whichOf_40 rd_k_X12_whichOf_40 (Nat.le_of_ble_eq_true rfl) ?_
  intro r3 e3
  refine kr_if_eq (tgt := 48) rd_d_X12_whichOf_43 rfl (fun h0 => ?_) (fun h0 => ?_)
  rotate_left
  · refine kr_iconst rd_d_X12_whichOf_46 (v := 3) rfl ?_
    refine kr_ireturn rd_d_X12_whichOf_47 (ty := .int) rfl rfl (k 3 ?_)
    unfold rd_wh
    rw [if_neg z0, if_neg z1, if_neg z2, if_pos (rd_one e3 h0)]
    rfl
  have z3 := rd_zero e3 h0
  refine kr_aload_n i0 rd_d_X12_whichOf_48 hi0 ?_
  refine kr_ldc2 G.1 rd_d_X12_whichOf_49 (rd_c2 rd_k_X12_whichOf_49) ?_
  refine rd_iwc G hdp hM hb hN ht 4 (by decide +kernel) (by decide +kernel) rfl rd_d_X12_whichOf_52 rd_k_X12_whichOf_52 (Nat.le_of_ble_eq_true rfl) ?_
  intro r4 e4
  refine kr_if_eq (tgt := 60) rd_d_X12_whichOf_55 rfl (fun h0 => ?_) (fun h0 => ?_)
  rotate_left
  · refine kr_iconst rd_d_X12_whichOf_58 (v := 4) rfl ?_
    refine kr_ireturn rd_d_X12_whichOf_59 (ty := .int) rfl rfl (k 4 ?_)
    unfold rd_wh
    rw [if_neg z0, if_neg z1, if_neg z2, if_neg z3, if_pos (rd_one e4 h0)]
    rfl
  have z4 := rd_zero e4 h0
  refine kr_aload_n i0 rd_d_X12_whichOf_60 hi0 ?_
  refine kr_ldc2 G.1 rd_d_X12_whichOf_61 (rd_c2 rd_k_X12_whichOf_61) ?_
  refine rd_iwc G hdp hM hb hN ht 5 (by decide +kernel) (by decide +kernel) rfl rd_d_X12_whichOf_64 rd_k_X12_whichOf_64 (Nat.le_of_ble_eq_true rfl) ?_
  intro r5 e5
  refine kr_if_eq (tgt := 72) rd_d_X12_whichOf_67 rfl (fun h0 => ?_) (fun h0 => ?_)
  rotate_left
  · refine kr_iconst rd_d_X12_whichOf_70 (v := 5) rfl ?_
    refine kr_ireturn rd_d_X12_whichOf_71 (ty := .int) rfl rfl (k 5 ?_)
    unfold rd_wh
    rw [if_neg z0, if_neg z1, if_neg z2, if_neg z3, if_neg z4, if_pos (rd_one e5 h0)]
    rfl
  have z5 := rd_zero e5 h0
  refine kr_aload_n i0 rd_d_X12_whichOf_72 hi0 ?_
  refine kr_ldc2 G.1 rd_d_X12_whichOf_73 (rd_c2 rd_k_X12_whichOf_73) ?_
  refine rd_iwc G hdp hM hb hN ht 6 (by decide +kernel) (by decide +kernel) rfl rd_d_X12_whichOf_76 rd_k_X12_whichOf_76 (Nat.le_of_ble_eq_true rfl) ?_
  intro r6 e6
  refine kr_if_eq (tgt := 85) rd_d_X12_whichOf_79 rfl (fun h0 => ?_) (fun h0 => ?_)
  rotate_left
  · refine kr_bipush rd_d_X12_whichOf_82 (v := 6) (by decide) ?_
    refine kr_ireturn rd_d_X12_whichOf_84 (ty := .int) rfl rfl (k 6 ?_)
    unfold rd_wh
    rw [if_neg z0, if_neg z1, if_neg z2, if_neg z3, if_neg z4, if_neg z5, if_pos (rd_one e6 h0)]
    rfl
  have z6 := rd_zero e6 h0
  refine kr_aload_n i0 rd_d_X12_whichOf_85 hi0 ?_
  refine kr_ldc2 G.1 rd_d_X12_whichOf_86 (rd_c2 rd_k_X12_whichOf_86) ?_
  refine rd_iwc G hdp hM hb hN ht 7 (by decide +kernel) (by decide +kernel) rfl rd_d_X12_whichOf_89 rd_k_X12_whichOf_89 (Nat.le_of_ble_eq_true rfl) ?_
  intro r7 e7
  refine kr_if_eq (tgt := 100) rd_d_X12_whichOf_92 rfl (fun h0 => ?_) (fun h0 => ?_)
  rotate_left
  · refine kr_bipush rd_d_X12_whichOf_95 (v := 7) (by decide) ?_
    refine kr_goto (tgt := 101) rd_d_X12_whichOf_97 rfl ?_
    refine kr_ireturn rd_d_X12_whichOf_101 (ty := .int) rfl rfl (k 7 ?_)
    unfold rd_wh
    rw [if_neg z0, if_neg z1, if_neg z2, if_neg z3, if_neg z4, if_neg z5, if_neg z6, if_pos (rd_one e7 h0)]
    rfl
  have z7 := rd_zero e7 h0
  refine kr_iconst rd_d_X12_whichOf_100 (v := -1) rfl ?_
  refine kr_ireturn rd_d_X12_whichOf_101 (ty := .int) rfl rfl (k (-1) ?_)
  unfold rd_wh
  rw [if_neg z0, if_neg z1, if_neg z2, if_neg z3, if_neg z4, if_neg z5, if_neg z6, if_neg z7]
  rfl
/-- whichOf, called -/
theorem rd_whc (G : sx_G0 g L xs zK hd_T ex_mt) {T : ex_T} {d : Nat} (hdp : 3 ≤ d) {σ : am_S} (hM : sx_M zK hd_T σ 0 0 σ) {b : Nat → Nat} {t : rd_K} (hb : ∀ k, b k ≤ 255) (hN : rd_N σ b t) (ht : rd_wok b t) {lw : List (Nat × Value)} {pc i mi q : Nat} (hT : ex_mt mi = some tX12_whichOf) (hd : decode T.1.2.1 pc = .ok (.invokevirtual i, 3)) (hl : ex_lk ex_mt T pc (.invokevirtual i) [0, mi, q] = true) {st : List Value} (hroom : (st.map fun v => v.category).sum ≤ 8) {post : Option (Option Value) → am_S → Prop} (kk : ∀ r : Int32, r.toInt = rd_wh b t → am_K g d T.1 0 0 (pc + 3) lw (.int r :: st) σ post) : am_K g d T.1 0 0 pc lw (.ref 118 :: st) σ post := by
  refine rd_call G (T2 := tX12_whichOf) hT hd hl rfl (hM.1 118 (.inl 12) rfl) (as := []) (st := st) rfl (Nat.le_of_ble_eq_true rfl) rfl hroom (d1 := 2) hdp (post1 := fun r σ' => ∃ y : Int32, r = some (some (.int y)) ∧ σ' = σ ∧ y.toInt = rd_wh b t) (fun _ h => by obtain ⟨y, h, -⟩ := h; cases h) (rd_which G (by decide) hM hb hN ht (by simp [lv_args]) (fun r h => ⟨r, rfl, rfl, h⟩)) ?_
  intro v σ' ⟨y, hv, hs, h2⟩
  cases hv
  subst hs
  exact kk y h2
theorem rd_callS {Z : sx_Z} {C : Nat → am_S → Prop} (G : sx_G0 g L xs Z C ex_mt) {mi2 : Nat} {T T2 : ex_T} (hT2 : ex_mt mi2 = some T2) {pc i p n bc bs ci p1 p2 p3 p4 : Nat} (hd : decode T.1.2.1 pc = .ok (.invokestatic i, 3)) (hl : ex_lk ex_mt T pc (.invokestatic i) [0, mi2, p] = true) (hm : T2.2.1 = [0, n, bc, bs, ci, p1, p2, p3, p4]) (hh : T2.1.2.2.2.2 = []) {σ : am_S} {as st stk : List Value} (hn : as.length = n) (hlen : (lg_sl as).length ≤ T2.1.2.2.1) (hst : stk = as.reverse ++ st) (hroom : (st.map fun v => v.category).sum ≤ 8) {d d1 : Nat} (hd1 : d1 + 1 ≤ d) {lv : List (Nat × Value)} {post post1 : Option (Option Value) → am_S → Prop} (hnt : ∀ σ', ¬ post1 none σ') (k1 : am_K g d1 T2.1 0 0 0 (lv_args 0 as) [] σ post1) (kk : ∀ v σ', post1 (some v) σ' → am_K g d T.1 0 0 (pc + 3) lv (v.toList ++ st) σ' post) : am_K g d T.1 0 0 pc lv stk σ post := by
  unfold ex_lk at hl
  simp only [hT2, hh] at hl
  rw [Bool.and_eq_true, decide_eq_true_eq] at hl
  obtain ⟨m1, m2, m3⟩ := ex_mok_S (G.2.2.2.1 mi2 T2 hT2) hm
  exact kr_callS (mc := 0) (ms := 0) (mc1 := 0) (ms1 := 0) G.1 (m1 hh) m3 (ex_mlk_ok hl.2) hd hn hlen hst hroom hd1 hnt k1 kk
/-- told already? -/
def rd_bit (x y : Int32) : Bool := decide (((x >>> (y &&& 31)) &&& 1) = 1)
theorem rd_bitc (G : sx_G0 g L xs zK hd_T ex_mt) {T : ex_T} {d : Nat} (hdp : 2 ≤ d) {σ : am_S} {x y : Int32} {lw : List (Nat × Value)} {pc i mi q : Nat} (hT : ex_mt mi = some tX12_bitOf) (hd : decode T.1.2.1 pc = .ok (.invokestatic i, 3)) (hl : ex_lk ex_mt T pc (.invokestatic i) [0, mi, q] = true) {st : List Value} (hroom : (st.map fun v => v.category).sum ≤ 8) {post : Option (Option Value) → am_S → Prop} (kk : ∀ r : Int32, r.toInt = (if rd_bit x y = true then 1 else 0) → am_K g d T.1 0 0 (pc + 3) lw (.int r :: st) σ post) : am_K g d T.1 0 0 pc lw (.int y :: .int x :: st) σ post := by
  refine rd_callS G (T2 := tX12_bitOf) hT hd hl rfl rfl (as := [.int x, .int y]) (st := st) rfl (Nat.le_of_ble_eq_true rfl) rfl hroom (d1 := 1) hdp (post1 := fun r σ' => ∃ z : Int32, r = some (some (.int z)) ∧ σ' = σ ∧ z.toInt = (if rd_bit x y = true then 1 else 0)) (fun _ h => by obtain ⟨y, h, -⟩ := h; cases h) ?_ ?_
  · refine kr_iload_n 0 rd_d_X12_bitOf_0 rfl ?_
    refine kr_iload_n 1 rd_d_X12_bitOf_1 rfl ?_
    refine kr_ishr rd_d_X12_bitOf_2 ?_
    refine kr_iconst rd_d_X12_bitOf_3 (v := 1) rfl ?_
    refine kr_iand rd_d_X12_bitOf_4 ?_
    refine kr_iconst rd_d_X12_bitOf_5 (v := 1) rfl ?_
    refine kr_icmp_ne (tgt := 13) rd_d_X12_bitOf_6 rfl (fun h => ?_) (fun h => ?_)
    · refine kr_iconst rd_d_X12_bitOf_13 (v := 0) rfl ?_
      refine kr_ireturn rd_d_X12_bitOf_14 (ty := .boolean) rfl rfl ⟨0, rfl, rfl, ?_⟩
      rw [if_neg (by unfold rd_bit; rw [decide_eq_true_eq]; exact h)]
      rfl
    · refine kr_iconst rd_d_X12_bitOf_9 (v := 1) rfl ?_
      refine kr_goto (tgt := 14) rd_d_X12_bitOf_10 rfl ?_
      refine kr_ireturn rd_d_X12_bitOf_14 (ty := .boolean) rfl rfl ⟨1, rfl, rfl, ?_⟩
      rw [if_pos (by unfold rd_bit; rw [decide_eq_true_eq]; exact h)]
      rfl
  · intro v σ' ⟨z, hv, hs, h2⟩
    cases hv
    subst hs
    exact kk z h2
end RV
