/-! the reader of the reference: one token -/
theorem rd_call {g : am_C} {L : Nat} {xs : Nat → Int32} {Z : sx_Z} {C : Nat → am_S → Prop} (G : sx_G0 g L xs Z C ex_mt) {mi2 : Nat} {T T2 : ex_T} (hT2 : ex_mt mi2 = some T2) {pc i p n bc bs ci p1 p2 p3 p4 : Nat} (hd : decode T.1.2.1 pc = .ok (.invokevirtual i, 3)) (hl : ex_lk ex_mt T pc (.invokevirtual i) [0, mi2, p] = true) (hm : T2.2.1 = [1, n, bc, bs, ci, p1, p2, p3, p4]) {o : Nat} {σ : am_S} (ho : σ.1[o]? = some (.inl ci)) {as st stk : List Value} (hn : as.length = n) (hlen : (lg_sl (.ref o :: as)).length ≤ T2.1.2.2.1) (hst : stk = as.reverse ++ .ref o :: st) (hroom : (st.map fun v => v.category).sum ≤ 8) {d d1 : Nat} (hd1 : d1 + 1 ≤ d) {lv : List (Nat × Value)} {post post1 : Option (Option Value) → am_S → Prop} (hnt : ∀ σ', ¬ post1 none σ') (k1 : am_K g d1 T2.1 0 0 0 (lv_args 0 (.ref o :: as)) [] σ post1) (kk : ∀ v σ', post1 (some v) σ' → am_K g d T.1 0 0 (pc + 3) lv (v.toList ++ st) σ' post) : am_K g d T.1 0 0 pc lv stk σ post := by
  unfold ex_lk at hl
  simp only [hT2] at hl
  rw [Bool.and_eq_true, decide_eq_true_eq] at hl
  obtain ⟨m1, m2, m3, U, N, m4⟩ := ex_mok_V (G.2.2.2.1 mi2 T2 hT2) hm
  exact kr_callV (mc := 0) (ms := 0) (mc1 := 0) (ms1 := 0) G.1 m4 ho m1 m2 m3 (ex_mlk_ok hl.2) hd hn hlen hst hroom hd1 hnt k1 kk
/-- what a token's reading writes: p, token, at, span, number, the word -/
def rd_mN : Nat := Nat.lor (Nat.shiftLeft 1 363) (Nat.lor (Nat.shiftLeft 1 368) (Nat.lor (Nat.shiftLeft 1 369) (Nat.lor (Nat.shiftLeft 1 370) (Nat.lor (Nat.shiftLeft 1 371) (Nat.shiftLeft 1 900)))))
/-- the text: bytes, how many, how many at most -/
def rd_X (σ : am_S) (b : Nat → Nat) (n most : Nat) : Prop := (∀ k, k < 940 → rd_by (σ.2.1 119) k = b k) ∧ σ.2.1 118 3 = Int32.ofNat n ∧ σ.2.1 118 5 = Int32.ofNat most ∧ n ≤ 940 ∧ most ≤ 940
theorem rd_Xm {σ σ' : am_S} {m : Nat} {b : Nat → Nat} {n most : Nat} (X : rd_X σ b n most) (hM : sx_M zK hd_T σ m 0 σ') (hm : (Nat.lor m rd_mN).beq rd_mN = true) : rd_X σ' b n most := by
  have fr : ∀ u, sx_bit rd_mN u = false → sx_bit m u = false := fun u h => sx_lor_sub hm h
  refine ⟨fun k hk => ?_, (hM.2.2.2.2.1 118 3 _ _ 362 rfl (fr 362 (by decide +kernel))).trans X.2.1, (hM.2.2.2.2.1 118 5 _ _ 364 rfl (fr 364 (by decide +kernel))).trans X.2.2.1, X.2.2.2⟩
  rw [← X.1 k hk]
  unfold rd_by
  rw [hM.2.2.2.2.1 119 k _ _ 406 (rd_a119 hk) (fr 406 (by decide +kernel))]
section RN
variable {g : am_C} {L : Nat} {xs : Nat → Int32}
theorem rd_pkc (G : sx_G0 g L xs zK hd_T ex_mt) {σ : am_S} (hM : sx_M zK hd_T σ 0 0 σ) {b : Nat → Nat} {n most p : Nat} (X : rd_X σ b n most) (hp : (σ.2.1 118 4).toInt = p) {lw : List (Nat × Value)} {pc i mi q : Nat} (hT : ex_mt mi = some tX12_peek) (hd : decode tX12_next.1.2.1 pc = .ok (.invokevirtual i, 3)) (hl : ex_lk ex_mt tX12_next pc (.invokevirtual i) [0, mi, q] = true) {st : List Value} (hroom : (st.map fun v => v.category).sum ≤ 8) {post : Option (Option Value) → am_S → Prop} (kk : ∀ (r : Int32) σ', sx_M zK hd_T σ 0 0 σ' → r.toInt = rd_pk b n p → am_K g 10 tX12_next.1 0 0 (pc + 3) lw (.int r :: st) σ' post) : am_K g 10 tX12_next.1 0 0 pc lw (.ref 118 :: st) σ post := by
  refine rd_call G (T2 := tX12_peek) hT hd hl rfl (hM.1 118 (.inl 12) rfl) (as := []) (st := st) rfl (Nat.le_of_ble_eq_true rfl) rfl hroom (d1 := 3) (by decide) (post1 := fun r σ' => ∃ y : Int32, r = some (some (.int y)) ∧ sx_M zK hd_T σ 0 0 σ' ∧ y.toInt = rd_pk b n p) (fun _ h => by obtain ⟨y, h, -⟩ := h; cases h) (rd_peek G hM (by simp [lv_args]) ?_) ?_
  · intro r σ' h1 h2
    refine ⟨r, rfl, h1, ?_⟩
    rw [h2]
    have e3 : (σ.2.1 118 3).toInt = (n : Nat) := by rw [X.2.1]; exact hd_ti (by have := X.2.2.2.1; omega)
    rw [e3, hp]
    unfold rd_pk
    by_cases h : p < n
    · rw [if_pos (by simpa using h), if_pos h]
      have := X.1 p (by have := X.2.2.2.1; omega)
      rw [← this]
      rfl
    · rw [if_neg (by simpa using h), if_neg h]
  · intro v σ' ⟨y, hv, h1, h2⟩
    cases hv
    exact kk y σ' h1 h2
end RN
