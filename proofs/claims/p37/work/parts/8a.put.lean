/-! the reader of the reference: numbers and signs, taken and put -/
abbrev rd_Q : Type := rd_K × (Nat → Int32) × Int32
def rd_mT : Nat := Nat.lor rd_mN (Nat.shiftLeft 1 375)
/-- what the reading of a line writes: the token, the number got, what is told, the 62 slots; and, if it fails, the fault -/
def rd_mK : Nat := Nat.lor rd_mT (Nat.lor (Nat.shiftLeft 1 377) (Nat.shiftLeft 65535 430))
def rd_mL : Nat := Nat.lor rd_mK (Nat.lor (Nat.shiftLeft 1 372) (Nat.shiftLeft 1 373))
theorem rd_KL {σe σ : am_S} (h : sx_M zK hd_T σe rd_mK 0 σ) : sx_M zK hd_T σe rd_mL 0 σ := sx_M_mask (by decide +kernel) h
def rd_up (h : Nat → Int32) (i : Nat) (v : Int32) : Nat → Int32 := fun k => if k = i then v else h k
theorem rd_up_s (h : Nat → Int32) (i : Nat) (v : Int32) : rd_up h i v i = v := if_pos rfl
theorem rd_up_n (h : Nat → Int32) {i k : Nat} (v : Int32) (hk : k ≠ i) : rd_up h i v k = h k := if_neg hk
theorem rd_a121 : ∀ k, k < 62 → (match sx_atl (z9.1 121) k with | some (_, _, u) => Nat.ble 430 u && Nat.ble u 445 | none => false) = true := by decide +kernel
theorem rd_u121 {k : Nat} (hk : k < 62) : ∃ lo hi u, sx_atl (z9.1 121) k = some (lo, hi, u) ∧ 430 ≤ u ∧ u ≤ 445 := by
  have h := rd_a121 k hk
  split at h
  · rename_i lo hi u e
    rw [Bool.and_eq_true, Nat.ble_eq, Nat.ble_eq] at h
    exact ⟨lo, hi, u, e, h⟩
  · cases h
theorem rd_mT_fr : ∀ i, i < 16 → sx_bit rd_mT (430 + i) = false := by decide +kernel
theorem rd_mK_in : ∀ i, i < 16 → sx_bit rd_mK (430 + i) = true := by decide +kernel
/-- the slots stay -/
theorem rd_h_of {σ σ' : am_S} {m : Nat} (h : sx_M zK hd_T σ m 0 σ') (hm : (Nat.lor m rd_mT).beq rd_mT = true) {k : Nat} (hk : k < 62) : σ'.2.1 121 k = σ.2.1 121 k := by
  obtain ⟨lo, hi, u, e, h1, h2⟩ := rd_u121 hk
  refine h.2.2.2.2.1 121 k lo hi u e (sx_lor_sub hm ?_)
  have := rd_mT_fr (u - 430) (by omega)
  rw [show 430 + (u - 430) = u by omega] at this
  exact this
theorem rd_N0 {σ σ' : am_S} {b : Nat → Nat} {t : rd_K} {m : Nat} (N : rd_N σ b t) (h : sx_M zK hd_T σ m 0 σ') (h9 : sx_bit m 368 = false) (h10 : sx_bit m 369 = false) (h4 : sx_bit m 363 = false) (h12 : sx_bit m 371 = false) (h15 : sx_bit m 900 = false) : rd_N σ' b t := by
  unfold rd_N
  rw [h.2.2.2.2.1 118 9 _ _ 368 rfl h9, h.2.2.2.2.1 118 10 _ _ 369 rfl h10, h.2.2.2.2.1 118 4 _ _ 363 rfl h4, h.2.2.2.2.1 118 12 _ _ 371 rfl h12, h.2.2.2.2.2.2.2.1 h15]
  exact N
/-- text, token, slots and what is told -/
def rd_E (σ : am_S) (b : Nat → Nat) (n most : Nat) (q : rd_Q) : Prop := rd_X σ b n most ∧ rd_N σ b q.1 ∧ (∀ k, k < 62 → σ.2.1 121 k = q.2.1 k) ∧ σ.2.1 118 18 = q.2.2
theorem rd_E0 {σ σ' : am_S} {b : Nat → Nat} {n most : Nat} {q : rd_Q} (E : rd_E σ b n most q) (h : sx_M zK hd_T σ 0 0 σ') : rd_E σ' b n most q :=
  ⟨rd_Xm E.1 h (by decide +kernel), rd_N0 E.2.1 h (sx_bit0 _) (sx_bit0 _) (sx_bit0 _) (sx_bit0 _) (sx_bit0 _), fun k hk => (rd_h_of h (by decide +kernel) hk).trans (E.2.2.1 k hk), (h.2.2.2.2.1 118 18 _ _ 377 rfl (sx_bit0 _)).trans E.2.2.2⟩
/-- a new token -/
theorem rd_En {σ σ' : am_S} {b : Nat → Nat} {n most m : Nat} {q : rd_Q} {t : rd_K} (E : rd_E σ b n most q) (h : sx_M zK hd_T σ m 0 σ') (hm : (Nat.lor m rd_mT).beq rd_mT = true) (hx : rd_X σ' b n most) (N : rd_N σ' b t) : rd_E σ' b n most (t, q.2) :=
  ⟨hx, N, fun k hk => (rd_h_of h hm hk).trans (E.2.2.1 k hk), (h.2.2.2.2.1 118 18 _ _ 377 rfl (sx_lor_sub hm (by decide +kernel))).trans E.2.2.2⟩
theorem rd_Xt {σ σ' : am_S} {m : Nat} {b : Nat → Nat} {n most : Nat} (X : rd_X σ b n most) (hM : sx_M zK hd_T σ m 0 σ') (hm : (Nat.lor m rd_mL).beq rd_mL = true) : rd_X σ' b n most := by
  have fr : ∀ u, sx_bit rd_mL u = false → sx_bit m u = false := fun u h => sx_lor_sub hm h
  refine ⟨fun k hk => ?_, (hM.2.2.2.2.1 118 3 _ _ 362 rfl (fr 362 (by decide +kernel))).trans X.2.1, (hM.2.2.2.2.1 118 5 _ _ 364 rfl (fr 364 (by decide +kernel))).trans X.2.2.1, X.2.2.2⟩
  rw [← X.1 k hk]
  unfold rd_by
  rw [hM.2.2.2.2.1 119 k _ _ 406 (rd_a119 hk) (fr 406 (by decide +kernel))]
theorem rd_CsK : sx_CsOk zK hd_T := fun _ hc => absurd hc List.not_mem_nil
theorem rd_Mup {σe σ : am_S} (hM : sx_M zK hd_T σe rd_mK 0 σ) {i : Nat} {x : Int32} (hi : i < 62) (hx : ∀ lo hi u, sx_atl (z9.1 121) i = some (lo, hi, u) → lo ≤ x.toInt ∧ x.toInt ≤ hi) : sx_M zK hd_T σe rd_mK 0 (σ.1, am_up σ.2.1 121 i x, σ.2.2.1, σ.2.2.2) := by
  refine sx_M_up rd_CsK hM (fun lo hi' u e => ?_) ⟨fun h => absurd (rfl : (zK.2.1 121).1 = 0) h, fun h => absurd (rfl : (zK.2.1 121).2.1 = 0) h⟩ (fun _ h => h) (fun _ h => h) (fun c hc => absurd hc List.not_mem_nil) (fun c hc => absurd hc List.not_mem_nil)
  have h := hx lo hi' u e
  obtain ⟨lo2, hi2, u2, e2, h1, h2⟩ := rd_u121 hi
  have e3 : sx_atl (z9.1 121) i = some (lo, hi', u) := e
  rw [e2] at e3
  cases e3
  refine ⟨h.1, h.2, ?_⟩
  have := rd_mK_in (u - 430) (by omega)
  rw [show 430 + (u - 430) = u by omega] at this
  exact this
theorem rd_Eup {σ : am_S} {b : Nat → Nat} {n most : Nat} {q : rd_Q} (E : rd_E σ b n most q) (i : Nat) (x : Int32) : rd_E (σ.1, am_up σ.2.1 121 i x, σ.2.2.1, σ.2.2.2) b n most (q.1, rd_up q.2.1 i x, q.2.2) := by
  have n8 : ∀ k, am_up σ.2.1 121 i x 118 k = σ.2.1 118 k := fun k => am_up_n _ _ (fun h => by omega)
  have n9 : ∀ k, am_up σ.2.1 121 i x 119 k = σ.2.1 119 k := fun k => am_up_n _ _ (fun h => by omega)
  refine ⟨⟨fun k hk => ?_, ?_, ?_, E.1.2.2.2⟩, ?_, fun k hk => ?_, ?_⟩
  · rw [← E.1.1 k hk]
    unfold rd_by
    show (am_up σ.2.1 121 i x 119 k &&& 255).toInt.toNat = _
    rw [n9]
  · exact (n8 3).trans E.1.2.1
  · exact (n8 5).trans E.1.2.2.1
  · have N := E.2.1
    unfold rd_N at N ⊢
    show (am_up σ.2.1 121 i x 118 9).toInt = _ ∧ (am_up σ.2.1 121 i x 118 10).toInt = _ ∧ (am_up σ.2.1 121 i x 118 4).toInt = _ ∧ (_ → (am_up σ.2.1 121 i x 118 12).toInt = _) ∧ _
    rw [n8, n8, n8, n8]
    exact N
  · show am_up σ.2.1 121 i x 121 k = rd_up q.2.1 i x k
    by_cases e : k = i
    · subst e
      rw [am_up_s, rd_up_s]
    · rw [am_up_n _ _ (fun h => e h.2), rd_up_n _ _ e]
      exact E.2.2.1 k hk
  · exact (n8 18).trans E.2.2.2
theorem rd_ofNat {x : Int32} {n : Nat} (h : x.toInt = n) : x = Int32.ofNat n := by
  apply Int32.toInt_inj.mp
  have := Int32.toInt_lt x
  rw [h, hd_ti (by omega)]
/-- what is wrong with the number there: 0 nothing -/
def rd_tkf (t : rd_K) (lo hi : Nat) : Nat := if t.1 = 2 then (if lo ≤ t.2.2.2.2 ∧ t.2.2.2.2 ≤ hi then 0 else 2) else 1
def rd_sgf (t : rd_K) (c : Nat) : Nat := if t.1 = 3 ∧ t.2.2.2.2 = c then 0 else 1
def rd_put1 (b : Nat → Nat) (n most : Nat) (q : rd_Q) (slot lo hi : Nat) : (Nat × Nat) ⊕ rd_Q := if rd_tkf q.1 lo hi = 0 then .inr (rd_tok b n most q.1.2.2.2.1, rd_up q.2.1 slot (Int32.ofNat q.1.2.2.2.2), q.2.2) else .inl (rd_tkf q.1 lo hi, q.1.2.1)
section RP
variable {g : am_C} {L : Nat} {xs : Nat → Int32}
theorem rd_takes (G : sx_G0 g L xs zK hd_T ex_mt) {σ : am_S} (hM : sx_M zK hd_T σ 0 0 σ) {b : Nat → Nat} {n most : Nat} {t : rd_K} (X : rd_X σ b n most) (N : rd_N σ b t) {lo hi : Nat} {lw : List (Nat × Value)} (hl : (0, Value.ref 118) ∈ lw) {m1 m2 : Int32} (hl1 : (1, Value.int m1) ∈ lw) (hl2 : (2, Value.int m2) ∈ lw) (h1 : m1.toInt = lo) (h2 : m2.toInt = hi) {post : Option (Option Value) → am_S → Prop}
    (kf : ∀ (r : Int32) σ', rd_tkf t lo hi ≠ 0 → r.toInt = 0 → sx_M zK hd_T σ rd_mL 0 σ' → (σ'.2.1 118 13).toInt = (rd_tkf t lo hi : Nat) → (σ'.2.1 118 14).toInt = (t.2.1 : Nat) → post (some (some (.int r))) σ')
    (kt : ∀ (r : Int32) σ', rd_tkf t lo hi = 0 → r.toInt = 1 → sx_M zK hd_T σ rd_mT 0 σ' → rd_N σ' b (rd_tok b n most t.2.2.2.1) → (σ'.2.1 118 16).toInt = (t.2.2.2.2 : Nat) → post (some (some (.int r))) σ') : am_K g 12 tX12_takes.1 0 0 0 lw [] σ post := by
  have k9 : (σ.2.1 118 9).toInt ≤ (4 : Int) := (hM.2.2.1 118 9 _ _ 368 rfl).2
  have n1 := N.1
  have n2 := N.2.1
  by_cases e2 : t.1 = 2
  · have n4 := N.2.2.2.1 (Or.inl e2)
    have bad : ¬ (lo ≤ t.2.2.2.2 ∧ t.2.2.2.2 ≤ hi) → rd_tkf t lo hi = 2 := fun h => by unfold rd_tkf; rw [if_pos e2, if_neg h]
    refine sg_tk1c_run G hd_ctK hM hl hl1 hl2 (by omega) ?_ ?_ ?_
    · intro r σ' f1 f2 f3 f4 hM'
      have e := bad (by omega)
      exact kf r σ' (by omega) (by omega) (sx_M_mask (by decide +kernel) hM') (by rw [e]; show _ = (2 : Int); omega) (by omega)
    · intro r σ' f1 f2 f3 f4 hM'
      have e := bad (by omega)
      exact kf r σ' (by omega) (by omega) (sx_M_mask (by decide +kernel) hM') (by rw [e]; show _ = (2 : Int); omega) (by omega)
    · intro lw1 σ1 hl' f1 f2 f3 hM1
      have H1 : sx_M zK hd_T σ rd_mT 0 σ1 := sx_M_mask (by decide +kernel) hM1
      have X1 := rd_Xt X hM1 (by decide +kernel)
      have p1 := rd_f4 hM1 (by decide +kernel) N.2.2.1
      refine rd_nxc G (d := 12) (by decide) (sx_M_self hM1) X1 p1 rfl rd_d_X12_takes_41 rd_k_X12_takes_41 (by decide) ?_
      intro σ2 hM2 N2
      refine sg_tk2_run G hd_ctK (sx_M_self hM2) hl' ?_
      intro r σ3 f5 hM3
      refine kt r σ3 (by unfold rd_tkf; rw [if_pos e2, if_pos (by omega)]) (by omega) (hd_tr (hd_tr H1 hM2 (by decide +kernel)) hM3 (by decide +kernel)) (rd_N0 N2 hM3 (sx_bit0 _) (sx_bit0 _) (sx_bit0 _) (sx_bit0 _) (sx_bit0 _)) ?_
      rw [hM3.2.2.2.2.1 118 16 _ _ 375 rfl (sx_bit0 _), hM2.2.2.2.2.1 118 16 _ _ 375 rfl (by decide +kernel)]
      omega
  · have e : rd_tkf t lo hi = 1 := by unfold rd_tkf; rw [if_neg e2]
    by_cases e3 : t.1 ≤ 1
    · refine sg_tk1a_run G hd_ctK hM hl hl1 hl2 (by omega) ?_
      intro r σ' f1 f2 f3 hM'
      exact kf r σ' (by omega) (by omega) (sx_M_mask (by decide +kernel) hM') (by rw [e]; show _ = (1 : Int); omega) (by omega)
    · refine sg_tk1b_run G hd_ctK hM hl hl1 hl2 (by omega) ?_
      intro r σ' f1 f2 f3 hM'
      exact kf r σ' (by omega) (by omega) (sx_M_mask (by decide +kernel) hM') (by rw [e]; show _ = (1 : Int); omega) (by omega)
theorem rd_sign (G : sx_G0 g L xs zK hd_T ex_mt) {σ : am_S} (hM : sx_M zK hd_T σ 0 0 σ) {b : Nat → Nat} {n most : Nat} {t : rd_K} (X : rd_X σ b n most) (N : rd_N σ b t) {c : Nat} {lw : List (Nat × Value)} (hl : (0, Value.ref 118) ∈ lw) {m1 : Int32} (hl1 : (1, Value.int m1) ∈ lw) (h1 : m1.toInt = c) {post : Option (Option Value) → am_S → Prop}
    (kf : ∀ (r : Int32) σ', rd_sgf t c ≠ 0 → r.toInt = 0 → sx_M zK hd_T σ rd_mL 0 σ' → (σ'.2.1 118 13).toInt = (rd_sgf t c : Nat) → (σ'.2.1 118 14).toInt = (t.2.1 : Nat) → post (some (some (.int r))) σ')
    (kt : ∀ (r : Int32) σ', rd_sgf t c = 0 → r.toInt = 1 → sx_M zK hd_T σ rd_mN 0 σ' → rd_N σ' b (rd_tok b n most t.2.2.2.1) → post (some (some (.int r))) σ') : am_K g 12 tX12_sign.1 0 0 0 lw [] σ post := by
  have k9 : (σ.2.1 118 9).toInt ≤ (4 : Int) := (hM.2.2.1 118 9 _ _ 368 rfl).2
  have n1 := N.1
  have n2 := N.2.1
  have i1 := Int32.toInt_lt m1
  have i2 := Int32.toInt_lt (σ.2.1 118 12)
  have fail : ¬ (t.1 = 3 ∧ t.2.2.2.2 = c) → ∀ (r : Int32) (σ' : am_S), (0 ≤ 1 * r.toInt + 0 ∧ 1 * r.toInt + 0 ≤ 0) → (1 ≤ 1 * (σ'.2.1 118 13).toInt + 0 ∧ 1 * (σ'.2.1 118 13).toInt + 0 ≤ 1) → (0 ≤ 1 * (σ.2.1 118 10).toInt + ((-1) * (σ'.2.1 118 14).toInt + 0) ∧ 1 * (σ.2.1 118 10).toInt + ((-1) * (σ'.2.1 118 14).toInt + 0) ≤ 0) → sx_M zK hd_T σ rd_mL 0 σ' → post (some (some (.int r))) σ' := by
    intro h r σ' f1 f2 f3 hM'
    have e : rd_sgf t c = 1 := by unfold rd_sgf; rw [if_neg h]
    exact kf r σ' (by omega) (by omega) hM' (by rw [e]; show _ = (1 : Int); omega) (by omega)
  by_cases e3 : t.1 = 3
  · have n4 := N.2.2.2.1 (Or.inr e3)
    by_cases ec : t.2.2.2.2 = c
    · refine sg_sn1e_run G hd_ctK hM hl hl1 (by omega) (by omega) ?_
      intro lw1 σ1 hl' hM1
      have X1 := rd_Xt X hM1 (by decide +kernel)
      have p1 := rd_f4 hM1 (by decide +kernel) N.2.2.1
      have H1 : sx_M zK hd_T σ rd_mN 0 σ1 := sx_M_mask (by decide +kernel) hM1
      refine rd_nxc G (d := 12) (by decide) (sx_M_self hM1) X1 p1 rfl rd_d_X12_sign_15 rd_k_X12_sign_15 (by decide) ?_
      intro σ2 hM2 N2
      refine sg_sn2_run G hd_ctK (sx_M_self hM2) hl' ?_
      intro r σ3 f5 hM3
      exact kt r σ3 (by unfold rd_sgf; rw [if_pos ⟨e3, ec⟩]) (by omega) (hd_tr (hd_tr H1 hM2 (by decide +kernel)) hM3 (by decide +kernel)) (rd_N0 N2 hM3 (sx_bit0 _) (sx_bit0 _) (sx_bit0 _) (sx_bit0 _) (sx_bit0 _))
    · by_cases lt : c < t.2.2.2.2
      · refine sg_sn1d_run G hd_ctK hM hl hl1 (by omega) (by omega) ?_
        intro r σ' f1 f2 f3 hM'
        exact fail (by omega) r σ' f1 f2 f3 (sx_M_mask (by decide +kernel) hM')
      · refine sg_sn1c_run G hd_ctK hM hl hl1 (by omega) (by omega) ?_
        intro r σ' f1 f2 f3 hM'
        exact fail (by omega) r σ' f1 f2 f3 (sx_M_mask (by decide +kernel) hM')
  · by_cases e4 : t.1 ≤ 2
    · refine sg_sn1a_run G hd_ctK hM hl hl1 (by omega) ?_
      intro r σ' f1 f2 f3 hM'
      exact fail (by omega) r σ' f1 f2 f3 (sx_M_mask (by decide +kernel) hM')
    · refine sg_sn1b_run G hd_ctK hM hl hl1 (by omega) ?_
      intro r σ' f1 f2 f3 hM'
      exact fail (by omega) r σ' f1 f2 f3 (sx_M_mask (by decide +kernel) hM')
theorem rd_puts (G : sx_G0 g L xs zK hd_T ex_mt) {σ : am_S} (hM : sx_M zK hd_T σ 0 0 σ) {b : Nat → Nat} {n most : Nat} {q : rd_Q} (E : rd_E σ b n most q) {slot lo hi : Nat} (hs : slot < 62) (hk : ∀ lo' hi' u, sx_atl (z9.1 121) slot = some (lo', hi', u) → lo' ≤ (lo : Int) ∧ (hi : Int) ≤ hi') {lw : List (Nat × Value)} (hl : (0, Value.ref 118) ∈ lw) {m1 m2 m3 : Int32} (hl1 : (1, Value.int m1) ∈ lw) (hl2 : (2, Value.int m2) ∈ lw) (hl3 : (3, Value.int m3) ∈ lw) (h1 : m1.toInt = slot) (h2 : m2.toInt = lo) (h3 : m3.toInt = hi) {post : Option (Option Value) → am_S → Prop}
    (kf : ∀ (r : Int32) (σ' : am_S) (kd at' : Nat), rd_put1 b n most q slot lo hi = .inl (kd, at') → r.toInt = 0 → sx_M zK hd_T σ rd_mL 0 σ' → (σ'.2.1 118 13).toInt = kd → (σ'.2.1 118 14).toInt = at' → post (some (some (.int r))) σ')
    (kt : ∀ (r : Int32) (σ' : am_S) (q' : rd_Q), rd_put1 b n most q slot lo hi = .inr q' → r.toInt = 1 → sx_M zK hd_T σ rd_mK 0 σ' → rd_E σ' b n most q' → post (some (some (.int r))) σ') : am_K g 15 tX12_puts.1 0 0 0 lw [] σ post := by
  refine sg_pt1_run G hd_ctK hM hl hl1 hl2 hl3 ?_
  intro lw1 y1 a3 a2 σ1 hl' hl1' f1 f2 f3 hM1
  have E1 := rd_E0 E hM1
  refine rd_call G (T2 := tX12_takes) rfl rd_d_X12_puts_3 rd_k_X12_puts_3 rfl (hM1.1 118 (.inl 12) rfl) (as := [.int a2, .int a3]) (st := []) rfl (Nat.le_of_ble_eq_true rfl) rfl (by decide) (d1 := 12) (by decide)
    (post1 := fun r σ' => ∃ y : Int32, r = some (some (.int y)) ∧ ((rd_tkf q.1 lo hi ≠ 0 ∧ y.toInt = 0 ∧ sx_M zK hd_T σ1 rd_mL 0 σ' ∧ (σ'.2.1 118 13).toInt = (rd_tkf q.1 lo hi : Nat) ∧ (σ'.2.1 118 14).toInt = (q.1.2.1 : Nat)) ∨ (rd_tkf q.1 lo hi = 0 ∧ y.toInt = 1 ∧ sx_M zK hd_T σ1 rd_mT 0 σ' ∧ rd_N σ' b (rd_tok b n most q.1.2.2.2.1) ∧ (σ'.2.1 118 16).toInt = (q.1.2.2.2.2 : Nat)))) (fun _ h => by obtain ⟨y, h, -⟩ := h; cases h)
    (rd_takes G (sx_M_self hM1) E1.1 E1.2.1 (lo := lo) (hi := hi) (m1 := a2) (m2 := a3) (by simp [lv_args, Value.category]) (by simp [lv_args, Value.category]) (by simp [lv_args, Value.category]) (by omega) (by omega) (fun r σ' c1 c2 c3 c4 c5 => ⟨r, rfl, Or.inl ⟨c1, c2, c3, c4, c5⟩⟩) (fun r σ' c1 c2 c3 c4 c5 => ⟨r, rfl, Or.inr ⟨c1, c2, c3, c4, c5⟩⟩)) ?_
  intro v σ2 ⟨y, hv, hh⟩
  cases hv
  have H1 : sx_M zK hd_T σ rd_mK 0 σ1 := sx_M_mask (by decide +kernel) hM1
  rcases hh with ⟨c1, c2, c3, c4, c5⟩ | ⟨c1, c2, c3, c4, c5⟩
  · refine sg_pt2a_run G hd_ctK (sx_M_self c3) hl' hl1' (by omega) ?_
    intro r σ3 f4 hM3
    refine kf r σ3 (rd_tkf q.1 lo hi) q.1.2.1 (by unfold rd_put1; exact if_neg c1) (by omega) (hd_tr (hd_tr (rd_KL H1) c3 (by decide +kernel)) hM3 (by decide +kernel)) ?_ ?_
    · rw [hM3.2.2.2.2.1 118 13 _ _ 372 rfl (sx_bit0 _)]
      exact c4
    · rw [hM3.2.2.2.2.1 118 14 _ _ 373 rfl (sx_bit0 _)]
      exact c5
  · have X2 := rd_Xt E1.1 c3 (by decide +kernel)
    have E2 := rd_En E1 c3 (by decide +kernel) X2 c4
    refine sg_pt2b_run G hd_ctK (sx_M_self c3) hl' hl1' (by omega) ?_
    intro lw3 x n1 σ3 hl3' f4 f5 hM3
    have E3 := rd_E0 E2 hM3
    have H3 := hd_tr (hd_tr H1 c3 (by decide +kernel)) hM3 (by decide +kernel)
    have en : n1.toInt = slot := by omega
    have ex : x.toInt = (q.1.2.2.2.2 : Nat) := by omega
    have hr : lo ≤ q.1.2.2.2.2 ∧ q.1.2.2.2.2 ≤ hi := by
      unfold rd_tkf at c1
      split at c1
      · split at c1
        · rename_i h; exact h
        · cases c1
      · cases c1
    have exx := rd_ofNat ex
    subst exx
    refine kr_iast G.1 rd_d_X12_puts_20 (hM3.1 121 (.inr (.int, 62)) rfl) (hd_in en (by omega)) ?_
    rw [hd_clamp en]
    have H4 := rd_Mup H3 (i := slot) (x := Int32.ofNat q.1.2.2.2.2) hs (fun lo' hi' u e => by have := hk lo' hi' u e; omega)
    refine sg_pt3_run G hd_ctK (sx_M_self H4) hl3' ?_
    intro r σ5 f6 hM5
    refine kt r σ5 _ (by unfold rd_put1; exact if_pos c1) (by omega) (hd_tr H4 hM5 (by decide +kernel)) (rd_E0 ?_ hM5)
    exact rd_Eup E3 slot _
/-- puts, called -/
theorem rd_ptc (G : sx_G0 g L xs zK hd_T ex_mt) {T : ex_T} {d : Nat} (hdp : 16 ≤ d) {σ : am_S} (hM : sx_M zK hd_T σ 0 0 σ) {b : Nat → Nat} {n most : Nat} {q : rd_Q} (E : rd_E σ b n most q) {slot lo hi : Nat} (hs : slot < 62) (hk : ∀ lo' hi' u, sx_atl (z9.1 121) slot = some (lo', hi', u) → lo' ≤ (lo : Int) ∧ (hi : Int) ≤ hi') {lw : List (Nat × Value)} {pc i mi z : Nat} (hT : ex_mt mi = some tX12_puts) (hd : decode T.1.2.1 pc = .ok (.invokevirtual i, 3)) (hl : ex_lk ex_mt T pc (.invokevirtual i) [0, mi, z] = true) {m1 m2 m3 : Int32} (h1 : m1.toInt = slot) (h2 : m2.toInt = lo) (h3 : m3.toInt = hi) {st : List Value} (hroom : (st.map fun v => v.category).sum ≤ 8) {post : Option (Option Value) → am_S → Prop}
    (kf : ∀ (r : Int32) (σ' : am_S) (kd at' : Nat), rd_put1 b n most q slot lo hi = .inl (kd, at') → r.toInt = 0 → sx_M zK hd_T σ rd_mL 0 σ' → (σ'.2.1 118 13).toInt = kd → (σ'.2.1 118 14).toInt = at' → am_K g d T.1 0 0 (pc + 3) lw (.int r :: st) σ' post)
    (kt : ∀ (r : Int32) (σ' : am_S) (q' : rd_Q), rd_put1 b n most q slot lo hi = .inr q' → r.toInt = 1 → sx_M zK hd_T σ rd_mK 0 σ' → rd_E σ' b n most q' → am_K g d T.1 0 0 (pc + 3) lw (.int r :: st) σ' post) : am_K g d T.1 0 0 pc lw (.int m3 :: .int m2 :: .int m1 :: .ref 118 :: st) σ post := by
  refine rd_call G (T2 := tX12_puts) hT hd hl rfl (hM.1 118 (.inl 12) rfl) (as := [.int m1, .int m2, .int m3]) (st := st) rfl (Nat.le_of_ble_eq_true rfl) rfl hroom (d1 := 15) hdp
    (post1 := fun r σ' => ∃ y : Int32, r = some (some (.int y)) ∧ ((∃ kd at' : Nat, rd_put1 b n most q slot lo hi = .inl (kd, at') ∧ y.toInt = 0 ∧ sx_M zK hd_T σ rd_mL 0 σ' ∧ (σ'.2.1 118 13).toInt = kd ∧ (σ'.2.1 118 14).toInt = at') ∨ (∃ q' : rd_Q, rd_put1 b n most q slot lo hi = .inr q' ∧ y.toInt = 1 ∧ sx_M zK hd_T σ rd_mK 0 σ' ∧ rd_E σ' b n most q'))) (fun _ h => by obtain ⟨y, h, -⟩ := h; cases h)
    (rd_puts G hM E hs hk (by simp [lv_args, Value.category]) (m1 := m1) (m2 := m2) (m3 := m3) (by simp [lv_args, Value.category]) (by simp [lv_args, Value.category]) (by simp [lv_args, Value.category]) h1 h2 h3 (fun r σ' kd at' c1 c2 c3 c4 c5 => ⟨r, rfl, Or.inl ⟨kd, at', c1, c2, c3, c4, c5⟩⟩) (fun r σ' q' c1 c2 c3 c4 => ⟨r, rfl, Or.inr ⟨q', c1, c2, c3, c4⟩⟩)) ?_
  intro v σ2 ⟨y, hv, hh⟩
  cases hv
  rcases hh with ⟨kd, at', c1, c2, c3, c4, c5⟩ | ⟨q', c1, c2, c3, c4⟩
  · exact kf y σ2 kd at' c1 c2 c3 c4 c5
  · exact kt y σ2 q' c1 c2 c3 c4
end RP
