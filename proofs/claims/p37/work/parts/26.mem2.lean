/-! writes, arrays at forms, arithmetic -/
section SN
variable {Z : sx_Z} {Cs : Nat → am_S → Prop} {σe σ : am_S} {env : List Int} {me : sx_Me}
theorem sx_const {c : Int} : sx_ev env (c, []) = some c := by
  rw [sx_ev_of (e := (c, [])) (y := 0) rfl]
  simp
theorem sx_keeps_ok (hr : sx_R Z Cs σe env me σ) {c : sx_Cl} (hz : c.2.2.1 < 65536 ∧ c.2.2.2.1 + c.2.2.2.2 ≤ 65536) {k : Nat} {e : sx_e} {x : Int32} (he : sx_ev env e = some x.toInt) (h : sx_keeps me c k e = true) (hc : sx_c0 c σ) : sx_c0 c (σ.1, am_up σ.2.1 c.2.1 k x, σ.2.2.1, σ.2.2.2) := by
  unfold sx_keeps at h
  intro j hj hlt
  show 1 ≤ (am_up σ.2.1 c.2.1 k x c.2.1 (c.2.2.2.1 + j)).toInt
  have hlt' : (j : Int) < (am_up σ.2.1 c.2.1 k x c.2.1 c.2.2.1).toInt := hlt
  cases hb : k.beq c.2.2.1 with
  | true =>
    have hk := Nat.eq_of_beq_eq_true hb
    rw [hb, cond_true, ex_fN_eq] at h
    have h1 := ex_all_ok _ h (j : Int) (by omega) (by omega)
    rw [hk, am_up_s] at hlt'
    have old : ∀ v : Int, 1 ≤ v → (k = c.2.2.2.1 + j → v = x.toInt) → (k ≠ c.2.2.2.1 + j → v = (σ.2.1 c.2.1 (c.2.2.2.1 + j)).toInt) → 1 ≤ (am_up σ.2.1 c.2.1 k x c.2.1 (c.2.2.2.1 + j)).toInt := by
      intro v hv h1 h2
      by_cases hkj : k = c.2.2.2.1 + j
      · rw [hkj, am_up_s, ← h1 hkj]; exact hv
      · rw [am_up_n _ _ (fun q => hkj q.2.symm), ← h2 hkj]; exact hv
    by_cases hkj : k = c.2.2.2.1 + j
    · rw [hkj, am_up_s]
      omega
    · rw [am_up_n _ _ (fun q => hkj q.2.symm)]
      rcases (Bool.or_eq_true _ _).mp h1 with h2 | h2
      · have := (sx_in_ok hr.2.2.1 he h2).2
        omega
      · rcases (Bool.or_eq_true _ _).mp h2 with h3 | h3
        · rw [ex_fN_eq] at h3
          rcases sx_trg_ok h3 with ⟨f, f1, f2⟩ | f1
          · rw [show (j : Int).toNat = j by omega] at f1
            exact (sx_in_ok hr.2.2.1 (hr.at (by omega) f1) f2).1
          · cases f1
        · rcases sx_trg_ok h3 with ⟨f, f1, f2⟩ | f1
          · have := (sx_in_ok hr.2.2.1 (hr.at hz.1 f1) f2).1
            exact hc j hj (by omega)
          · cases f1
  | false =>
    rw [hb, cond_false] at h
    have hk : k ≠ c.2.2.1 := fun q => by rw [q, Nat.beq_refl] at hb; cases hb
    rw [am_up_n _ _ (fun q => hk q.2.symm)] at hlt'
    by_cases hkj : k = c.2.2.2.1 + j
    · rw [hkj, am_up_s]
      have hin : (c.2.2.2.1.ble k && k.blt (c.2.2.2.1 + c.2.2.2.2)) = true := by
        rw [Bool.and_eq_true, Nat.ble_eq, Nat.blt_eq]
        omega
      rw [hin, cond_true] at h
      rcases (Bool.or_eq_true _ _).mp h with h2 | h2
      · exact (sx_in_ok hr.2.2.1 he h2).1
      · rw [ex_fN_eq] at h2
        rcases sx_trg_ok h2 with ⟨f, f1, f2⟩ | f1
        · have := (sx_in_ok hr.2.2.1 (hr.at hz.1 f1) f2).2
          have h3 : (σ.2.1 c.2.1 c.2.2.1).toInt ≤ ((k - c.2.2.2.1 : Nat) : Int) := this
          omega
        · cases f1
    · rw [am_up_n _ _ (fun q => hkj q.2.symm)]
      exact hc j hj hlt'
theorem sx_xm1_ok {o k : Nat} {e : sx_e} : ∀ {cl : List sx_Cl} {xm : Nat} {K : Nat → Bool}, sx_xm1 cl me o k e xm K = true → ∃ xm', K xm' = true ∧ (∀ v, sx_bit xm v = true → sx_bit xm' v = true) ∧ ∀ c ∈ cl, c.2.1 = o → sx_bit xm' c.1 = false → sx_keeps me c k e = true := by
  intro cl
  induction cl with
  | nil => intro xm K h; exact ⟨xm, h, fun v hv => hv, fun c hc => (by cases hc)⟩
  | cons c t ih =>
    intro xm K h
    have h' : (bif c.2.1.beq o then (bif sx_keeps me c k e then sx_xm1 t me o k e xm K else ex_fN (Nat.lor xm (Nat.shiftLeft 1 c.1)) fun xm => sx_xm1 t me o k e xm K) else sx_xm1 t me o k e xm K) = true := h
    rw [ex_fN_eq] at h'
    cases ho : c.2.1.beq o with
    | false =>
      rw [ho] at h'
      obtain ⟨xm', a1, a2, a3⟩ := ih h'
      refine ⟨xm', a1, a2, fun q hq hqo hb => ?_⟩
      rcases List.mem_cons.mp hq with rfl | hq
      · rw [hqo, Nat.beq_refl] at ho; cases ho
      · exact a3 q hq hqo hb
    | true =>
      rw [ho, cond_true] at h'
      cases hk : sx_keeps me c k e with
      | true =>
        rw [hk] at h'
        obtain ⟨xm', a1, a2, a3⟩ := ih h'
        refine ⟨xm', a1, a2, fun q hq hqo hb => ?_⟩
        rcases List.mem_cons.mp hq with rfl | hq
        · exact hk
        · exact a3 q hq hqo hb
      | false =>
        rw [hk] at h'
        obtain ⟨xm', a1, a2, a3⟩ := ih h'
        refine ⟨xm', a1, fun v hv => a2 v (by rw [sx_bit_set, hv]; rfl), fun q hq hqo hb => ?_⟩
        rcases List.mem_cons.mp hq with rfl | hq
        · have := a2 q.1 (by rw [sx_bit_set, decide_eq_true rfl, Bool.or_true])
          rw [this] at hb
          cases hb
        · exact a3 q hq hqo hb
theorem sx_xm2_ok {o a b : Nat} : ∀ {cu : List (Nat × Nat × Nat × Nat)} {xm : Nat} {K : Nat → Bool}, sx_xm2 cu o a b xm K = true → ∃ xm', K xm' = true ∧ (∀ v, sx_bit xm v = true → sx_bit xm' v = true) ∧ ∀ c ∈ cu, c.2.1 = o → sx_bit xm' c.1 = false → ∀ j, a ≤ j → j ≤ b → ¬ (c.2.2.1 ≤ j ∧ j < c.2.2.2) := by
  intro cu
  induction cu with
  | nil => intro xm K h; exact ⟨xm, h, fun v hv => hv, fun c hc => (by cases hc)⟩
  | cons c t ih =>
    intro xm K h
    have h' : (bif c.2.1.beq o && (a.blt c.2.2.2 && c.2.2.1.ble b) then ex_fN (Nat.lor xm (Nat.shiftLeft 1 c.1)) (fun xm => sx_xm2 t o a b xm K) else sx_xm2 t o a b xm K) = true := h
    rw [ex_fN_eq] at h'
    cases ho : (c.2.1.beq o && (a.blt c.2.2.2 && c.2.2.1.ble b)) with
    | false =>
      rw [ho] at h'
      obtain ⟨xm', a1, a2, a3⟩ := ih h'
      refine ⟨xm', a1, a2, fun q hq hqo hb j h1 h2 h3 => ?_⟩
      rcases List.mem_cons.mp hq with rfl | hq
      · have : (q.2.1.beq o && (a.blt q.2.2.2 && q.2.2.1.ble b)) = true := by
          rw [Bool.and_eq_true, Bool.and_eq_true, hqo, Nat.beq_refl, Nat.blt_eq, Nat.ble_eq]
          exact ⟨rfl, by omega, by omega⟩
        rw [this] at ho
        cases ho
      · exact a3 q hq hqo hb j h1 h2 h3
    | true =>
      rw [ho] at h'
      obtain ⟨xm', a1, a2, a3⟩ := ih h'
      refine ⟨xm', a1, fun v hv => a2 v (by rw [sx_bit_set, hv]; rfl), fun q hq hqo hb => ?_⟩
      rcases List.mem_cons.mp hq with rfl | hq
      · have := a2 q.1 (by rw [sx_bit_set, decide_eq_true rfl, Bool.or_true])
        rw [this] at hb
        cases hb
      · exact a3 q hq hqo hb
theorem sx_xm3_ok {o a b : Nat} : ∀ {cl : List sx_Cl} {xm : Nat} {K : Nat → Bool}, sx_xm3 cl o a b xm K = true → ∃ xm', K xm' = true ∧ (∀ v, sx_bit xm v = true → sx_bit xm' v = true) ∧ ∀ c ∈ cl, c.2.1 = o → sx_bit xm' c.1 = false → ∀ j, a ≤ j → j ≤ b → j ≠ c.2.2.1 ∧ ¬ (c.2.2.2.1 ≤ j ∧ j < c.2.2.2.1 + c.2.2.2.2) := by
  intro cl
  induction cl with
  | nil => intro xm K h; exact ⟨xm, h, fun v hv => hv, fun c hc => (by cases hc)⟩
  | cons c t ih =>
    intro xm K h
    have h' : (bif c.2.1.beq o && ((a.ble c.2.2.1 && c.2.2.1.ble b) || (a.blt (c.2.2.2.1 + c.2.2.2.2) && c.2.2.2.1.ble b)) then ex_fN (Nat.lor xm (Nat.shiftLeft 1 c.1)) (fun xm => sx_xm3 t o a b xm K) else sx_xm3 t o a b xm K) = true := h
    rw [ex_fN_eq] at h'
    cases ho : (c.2.1.beq o && ((a.ble c.2.2.1 && c.2.2.1.ble b) || (a.blt (c.2.2.2.1 + c.2.2.2.2) && c.2.2.2.1.ble b))) with
    | false =>
      rw [ho] at h'
      obtain ⟨xm', a1, a2, a3⟩ := ih h'
      refine ⟨xm', a1, a2, fun q hq hqo hb j h1 h2 => ?_⟩
      rcases List.mem_cons.mp hq with rfl | hq
      · refine ⟨fun h3 => ?_, fun h3 => ?_⟩
        · have : (q.2.1.beq o && ((a.ble q.2.2.1 && q.2.2.1.ble b) || (a.blt (q.2.2.2.1 + q.2.2.2.2) && q.2.2.2.1.ble b))) = true := by
            rw [Bool.and_eq_true, Bool.or_eq_true, Bool.and_eq_true, hqo, Nat.beq_refl, Nat.ble_eq, Nat.ble_eq]
            exact ⟨rfl, Or.inl ⟨by omega, by omega⟩⟩
          rw [this] at ho
          cases ho
        · have : (q.2.1.beq o && ((a.ble q.2.2.1 && q.2.2.1.ble b) || (a.blt (q.2.2.2.1 + q.2.2.2.2) && q.2.2.2.1.ble b))) = true := by
            rw [Bool.and_eq_true, Bool.or_eq_true, Bool.and_eq_true, Bool.and_eq_true, hqo, Nat.beq_refl, Nat.blt_eq, Nat.ble_eq]
            exact ⟨rfl, Or.inr ⟨by omega, by rw [Nat.ble_eq]; omega⟩⟩
          rw [this] at ho
          cases ho
      · exact a3 q hq hqo hb j h1 h2
    | true =>
      rw [ho] at h'
      obtain ⟨xm', a1, a2, a3⟩ := ih h'
      refine ⟨xm', a1, fun v hv => a2 v (by rw [sx_bit_set, hv]; rfl), fun q hq hqo hb => ?_⟩
      rcases List.mem_cons.mp hq with rfl | hq
      · have := a2 q.1 (by rw [sx_bit_set, decide_eq_true rfl, Bool.or_true])
        rw [this] at hb
        cases hb
      · exact a3 q hq hqo hb
theorem sx_bit_mono {a b : Nat} (h : ∀ v, sx_bit a v = true → sx_bit b v = true) {v : Nat} (hb : sx_bit b v = false) : sx_bit a v = false := by
  cases ha : sx_bit a v with
  | false => rfl
  | true => rw [h v ha] at hb; cases hb
/-- one slot written -/
theorem sx_M_up (hCs : sx_CsOk Z Cs) {md xm md' xm' o k : Nat} {x : Int32} (hM : sx_M Z Cs σe md xm σ) (hty : ∀ lo hi u, sx_atl (Z.1 o) k = some (lo, hi, u) → lo ≤ x.toInt ∧ x.toInt ≤ hi ∧ sx_bit md' u = true) (hmo : ((Z.2.1 o).1 ≠ 0 → x.toInt ≤ ((k % (Z.2.1 o).1 : Nat) : Int)) ∧ ((Z.2.1 o).2.1 ≠ 0 → x.toInt + ((Z.2.1 o).2.1 : Int) * (k : Int) ≤ (Z.2.1 o).2.2)) (hmd : ∀ v, sx_bit md v = true → sx_bit md' v = true) (hxm : ∀ v, sx_bit xm v = true → sx_bit xm' v = true)
    (hcl : ∀ c ∈ Z.2.2.2.2.1, c.2.1 = o → sx_bit xm' c.1 = false → sx_c0 c σ → sx_c0 c (σ.1, am_up σ.2.1 o k x, σ.2.2.1, σ.2.2.2)) (hcu : ∀ c ∈ Z.2.2.2.2.2.1, c.2.1 = o → sx_bit xm' c.1 = false → ¬ (c.2.2.1 ≤ k ∧ k < c.2.2.2)) : sx_M Z Cs σe md' xm' (σ.1, am_up σ.2.1 o k x, σ.2.2.1, σ.2.2.2) := by
  obtain ⟨m1, m2, m3, m4, m5, m6, m7, m8⟩ := hM
  refine ⟨m1, m2, fun o' k' lo hi u h => ?_, fun o' k' lo hi u h => ?_, fun o' k' lo hi u h hb => ?_, fun c hc hb => ?_, fun c hc hb => ?_, fun hb => m8.1 (sx_bit_mono hmd hb), fun hb => m8.2 (sx_bit_mono hmd hb)⟩
  · show lo ≤ (am_up σ.2.1 o k x o' k').toInt ∧ (am_up σ.2.1 o k x o' k').toInt ≤ hi
    by_cases he : o' = o ∧ k' = k
    · obtain ⟨rfl, rfl⟩ := he
      rw [am_up_s]
      exact ⟨(hty lo hi u h).1, (hty lo hi u h).2.1⟩
    · rw [am_up_n _ _ he]
      exact m3 o' k' lo hi u h
  · show (_ → (am_up σ.2.1 o k x o' k').toInt ≤ _) ∧ (_ → (am_up σ.2.1 o k x o' k').toInt + _ ≤ _)
    by_cases he : o' = o ∧ k' = k
    · obtain ⟨rfl, rfl⟩ := he
      rw [am_up_s]
      exact hmo
    · rw [am_up_n _ _ he]
      exact m4 o' k' lo hi u h
  · show am_up σ.2.1 o k x o' k' = _
    by_cases he : o' = o ∧ k' = k
    · obtain ⟨rfl, rfl⟩ := he
      rw [(hty lo hi u h).2.2] at hb
      cases hb
    · rw [am_up_n _ _ he]
      exact m5 o' k' lo hi u h (sx_bit_mono hmd hb)
  · have h0 := m6 c hc (sx_bit_mono hxm hb)
    by_cases ho : c.2.1 = o
    · exact hcl c hc ho hb h0
    · intro j hj hlt
      have hlt' : (j : Int) < (am_up σ.2.1 o k x c.2.1 c.2.2.1).toInt := hlt
      show 1 ≤ (am_up σ.2.1 o k x c.2.1 (c.2.2.2.1 + j)).toInt
      rw [am_up_o _ _ ho] at hlt' ⊢
      exact h0 j hj hlt'
  · refine hCs c hc σ _ (fun k' h1 h2 => ?_) (m7 c hc (sx_bit_mono hxm hb))
    show am_up σ.2.1 o k x c.2.1 k' = _
    by_cases he : c.2.1 = o ∧ k' = k
    · exact absurd ⟨by rw [← he.2]; exact h1, by rw [← he.2]; exact h2⟩ (hcu c hc he.1 hb)
    · rw [am_up_n _ _ he]
theorem sx_wr_ok (hZ : sx_Zok Z) (hCs : sx_CsOk Z Cs) (hr : sx_R Z Cs σe env me σ) {o k : Nat} {e : sx_e} {x : Int32} (he : sx_ev env e = some x.toInt) {K : sx_Me → Bool} (h : sx_wr Z me o k e K = true) : ∃ me', sx_R Z Cs σe env me' (σ.1, am_up σ.2.1 o k x, σ.2.2.1, σ.2.2.2) ∧ K me' = true := by
  obtain ⟨nw, md, xm, tr, fa⟩ := me
  unfold sx_wr at h
  simp only at h
  rw [Bool.and_eq_true] at h
  have hk := ex_blt h.1
  obtain ⟨lo, hi, u, a1, a2⟩ := sx_at_ok h.2
  rw [Bool.and_eq_true, Bool.and_eq_true, Bool.and_eq_true] at a2
  obtain ⟨b1, ⟨b2, b4⟩, b3⟩ := a2
  have hp : sx_P env fa := hr.2.2.1
  have hin := sx_in_ok hp he b1
  obtain ⟨xm1, c1, c2, c3⟩ := sx_xm1_ok b3
  obtain ⟨xm2, d1, d2, d3⟩ := sx_xm2_ok c1
  rw [ex_fN_eq, ex_fN_eq] at d1
  have hfil : ∃ tr' : sx_Tr, (∀ q ∈ tr', q ∈ tr ∧ q.1 ≠ 65536 * o + k) ∧ K (nw, Nat.lor md (Nat.shiftLeft 1 u), xm2, (65536 * o + k, e) :: tr', fa) = true := by
    rcases sx_trg_no d1 with ⟨_, d4⟩ | ⟨d4, d5⟩
    · obtain ⟨tr', e1, e2⟩ := sx_filt_ok d4
      refine ⟨tr', fun q hq => ⟨(e1 q hq).1, fun hq' => ?_⟩, e2⟩
      have := (e1 q hq).2
      rw [hq', Nat.beq_refl] at this
      cases this
    · exact ⟨tr, fun q hq => ⟨hq, d4 q hq⟩, d5⟩
  obtain ⟨tr', e1, e2⟩ := hfil
  refine ⟨(nw, Nat.lor md (Nat.shiftLeft 1 u), xm2, (65536 * o + k, e) :: tr', fa), ⟨hr.1, fun q hq => ?_, hp, ?_⟩, e2⟩
  · rcases List.mem_cons.mp hq with rfl | hq
    · show _ = some (am_up σ.2.1 o k x ((65536 * o + k) / 65536) ((65536 * o + k) % 65536)).toInt
      rw [(sx_key o k hk).1, (sx_key o k hk).2, am_up_s]
      exact he
    · have hne : q.1 ≠ 65536 * o + k := (e1 q hq).2
      show _ = some (am_up σ.2.1 o k x (q.1 / 65536) (q.1 % 65536)).toInt
      rw [am_up_n _ _ (by omega)]
      exact hr.2.1 q (e1 q hq).1
  · refine sx_M_up hCs (md := md) (xm := xm) hr.2.2.2 (fun lo' hi' u' h' => ?_) ⟨fun hm => ?_, fun hm => ?_⟩ (fun v hv => by rw [sx_bit_set, hv]; rfl) (fun v hv => d2 v (c2 v hv)) (fun c hc ho hb h0 => ?_) (fun c hc ho hb => d3 c hc ho hb k (Nat.le_refl _) (Nat.le_refl _))
    · rw [a1] at h'
      cases h'
      exact ⟨hin.1, hin.2, by rw [sx_bit_set, decide_eq_true rfl, Bool.or_true]⟩
    · rcases (Bool.or_eq_true _ _).mp b2 with g1 | g1
      · exact absurd (Nat.eq_of_beq_eq_true g1) hm
      · exact (sx_in_ok hp he g1).2
    · rcases (Bool.or_eq_true _ _).mp b4 with g1 | g1
      · exact absurd (Nat.eq_of_beq_eq_true g1) hm
      · have g2 := (sx_in_ok hp he g1).2
        have g3 : x.toInt ≤ (Z.2.1 o).2.2 - (((Z.2.1 o).2.1 * k : Nat) : Int) := g2
        rw [Int.natCast_mul] at g3
        omega
    · have := sx_keeps_ok hr (hZ c hc) he (c3 c hc ho (sx_bit_mono d2 hb)) h0
      rw [ho] at this
      exact this
/-! arrays at forms -/
theorem sx_rng_ok {fa : sx_Fa} (hp : sx_P env fa) {e : sx_e} {j n : Nat} (he : sx_ev env e = some (j : Int)) (hj : j < n) {K : Nat → Nat → Bool} (h : sx_rng fa e n K = true) : ∃ a b, a ≤ j ∧ j ≤ b ∧ K a b = true := by
  unfold sx_rng at h
  have hx := sx_ev_to he
  obtain ⟨lo, hi, v, h1, h2, h3, h4⟩ := sx_lb_ok hp ⟨_, hx⟩ h
  rw [hx] at h1
  cases h1
  have main : ∀ a : Nat, a ≤ j → (match e.1 + hi with
      | .ofNat b => bif b.blt n then ex_fN b fun b => K a b else ex_fN (n - 1) fun b => K a b
      | .negSucc _ => false) = true → ∃ a b, a ≤ j ∧ j ≤ b ∧ K a b = true := by
    intro a ha h5
    split at h5
    · rename_i b hb
      rw [ex_fN_eq, ex_fN_eq] at h5
      have hb' : e.1 + hi = (b : Int) := hb
      cases hbn : b.blt n with
      | true => rw [hbn] at h5; exact ⟨a, b, ha, by omega, h5⟩
      | false => rw [hbn] at h5; exact ⟨a, n - 1, ha, by omega, h5⟩
    · cases h5
  cases hlo : e.1 + lo with
  | ofNat a =>
    rw [hlo] at h4
    simp only at h4
    rw [ex_fN_eq] at h4
    have ha' : e.1 + lo = (a : Int) := hlo
    exact main a (by omega) h4
  | negSucc a =>
    rw [hlo] at h4
    simp only at h4
    rw [ex_fN_eq] at h4
    exact main 0 (by omega) h4
theorem sx_res_ok {m : Nat} : ∀ {l : sx_A} {K : sx_A → Bool}, sx_res m l K = true → ∃ r, K r = true ∧ ∀ (env : List Int) (y : Int), sx_ea env l = some y → ∃ z, sx_ea env r = some z ∧ ∃ t : Int, y = z + (m : Int) * t := by
  intro l
  induction l with
  | nil => intro K h; exact ⟨[], h, fun env y hy => ⟨0, rfl, 0, by cases hy; simp⟩⟩
  | cons q t ih =>
    intro K h
    have h' : (bif sx_ieq (q.1 % .ofNat m) 0 then sx_res m t K else sx_res m t fun r => K (q :: r)) = true := h
    cases hb : sx_ieq (q.1 % .ofNat m) 0 with
    | true =>
      rw [hb] at h'
      obtain ⟨r, a1, a2⟩ := ih h'
      refine ⟨r, a1, fun env y hy => ?_⟩
      obtain ⟨x, y', e1, e2, rfl⟩ := sx_ea_cons (a := q.1) (w := q.2) hy
      obtain ⟨z, b1, t', b2⟩ := a2 env y' e2
      have h0 : q.1 % (m : Int) = 0 := sx_ieq_iff.mp hb
      have h1 := Int.emod_add_mul_ediv q.1 m
      rw [h0, Int.zero_add] at h1
      refine ⟨z, b1, q.1 / m * x + t', ?_⟩
      rw [b2, Int.mul_add, ← Int.mul_assoc, h1]
      omega
    | false =>
      rw [hb] at h'
      obtain ⟨r, a1, a2⟩ := ih h'
      refine ⟨_, a1, fun env y hy => ?_⟩
      obtain ⟨x, y', e1, e2, rfl⟩ := sx_ea_cons (a := q.1) (w := q.2) hy
      obtain ⟨z, b1, t', b2⟩ := a2 env y' e2
      exact ⟨q.1 * x + z, sx_ea_mk e1 b1, t', by omega⟩
/-- the rest of a form -/
theorem sx_res_at {m j : Nat} {e : sx_e} (he : sx_ev env e = some (j : Int)) {r : sx_A} (h : ∀ (env : List Int) (y : Int), sx_ea env e.2 = some y → ∃ z, sx_ea env r = some z ∧ ∃ t : Int, y = z + (m : Int) * t) : ∃ z, sx_ea env r = some z ∧ (0 ≤ e.1 % (m : Int) + z → e.1 % (m : Int) + z ≤ (m : Int) - 1 → ((j % m : Nat) : Int) = e.1 % (m : Int) + z) := by
  obtain ⟨z, h1, t, h2⟩ := h env _ (sx_ev_to he)
  refine ⟨z, h1, fun h3 h4 => ?_⟩
  have h5 := Int.emod_add_mul_ediv e.1 (m : Int)
  have h6 : (j : Int) = (e.1 % (m : Int) + z) + (m : Int) * (e.1 / (m : Int) + t) := by
    rw [Int.mul_add]
    omega
  rw [Int.natCast_emod, h6, Int.add_mul_emod_self_left]
  exact Int.emod_eq_of_lt h3 (by omega)
theorem sx_rda_ok (hZ : sx_Zok Z) (hr : sx_R Z Cs σe env me σ) {o n j : Nat} {e : sx_e} (he : sx_ev env e = some (j : Int)) (hj : j < n) {K : sx_Me → sx_e → Bool} (h : sx_rda Z me o n e K = true) : sx_ex Z Cs σe env σ (σ.2.1 o j).toInt K := by
  unfold sx_rda at h
  obtain ⟨a, b, a1, a2, a3⟩ := sx_rng_ok hr.2.2.1 he hj h
  obtain ⟨lo, hi, l, h', u, b1, b2, b3, b4⟩ := sx_hull_ok a1 a2 a3
  have hb := hr.2.2.2.2.2.1 o j l h' u b1
  have hv := sx_i32 (σ.2.1 o j)
  have e1 : sx_lo = -2147483648 := rfl
  have main : ∀ lo', lo' ≤ (σ.2.1 o j).toInt → (sx_new me lo' hi fun me w => bif (Z.2.1 o).1.beq 0 then (bif (Z.2.1 o).2.1.beq 0 then K me w else match me with
    | (nw, md, xm, tr, fa) => sx_axpy (.ofNat (Z.2.1 o).2.1) e.2 w.2 fun l => sx_fact fa l (sx_lo - .ofNat (Z.2.1 o).2.1 * e.1) ((Z.2.1 o).2.2 - .ofNat (Z.2.1 o).2.1 * e.1) fun fa => K (nw, md, xm, tr, fa) w) else match me with
    | (nw, md, xm, tr, fa) => sx_res (Z.2.1 o).1 e.2 fun r => ex_fI (e.1 % .ofNat (Z.2.1 o).1) fun c => bif sx_inx fa (c, r) 0 (.ofNat (Z.2.1 o).1 - 1) then sx_axpy (-1) r w.2 fun l => sx_fact fa l (sx_lo - .ofNat (Z.2.1 o).1) c fun fa => K (nw, md, xm, tr, fa) w else K (nw, md, xm, tr, fa) w) = true → sx_ex Z Cs σe env σ (σ.2.1 o j).toInt K := by
    intro lo' hlo h2
    obtain ⟨c1, c2, c3⟩ := sx_new_ok hr hlo (by omega : (σ.2.1 o j).toInt ≤ hi) h2
    have e5 : (sx_w me.1).1 = 0 := rfl
    cases hm : (Z.2.1 o).1.beq 0 with
    | true =>
      rw [hm, cond_true] at c3
      cases hs : (Z.2.1 o).2.1.beq 0 with
      | true => rw [hs] at c3; exact ⟨_, _, _, c1, c2, c3⟩
      | false =>
        rw [hs, cond_false] at c3
        simp only at c3
        have hs0 : (Z.2.1 o).2.1 ≠ 0 := fun q => by rw [q] at hs; cases hs
        have hle := (hr.2.2.2.2.2.2.1 o j l h' u b1).2 hs0
        have he' := sx_ev_to (sx_ev_app [(σ.2.1 o j).toInt] he)
        obtain ⟨l', g1, g2⟩ := sx_axpy_ok c3
        have g3 := g2 _ _ _ he' (sx_ev_to c2)
        have e6 : Int.ofNat (Z.2.1 o).2.1 * ((j : Int) - e.1) + ((σ.2.1 o j).toInt - (sx_w me.1).1) = (σ.2.1 o j).toInt + ((Z.2.1 o).2.1 : Int) * (j : Int) - ((Z.2.1 o).2.1 : Int) * e.1 := by
          rw [e5]
          show ((Z.2.1 o).2.1 : Int) * ((j : Int) - e.1) + _ = _
          rw [Int.mul_sub]
          omega
        rw [e6] at g3
        have e7 : 0 ≤ ((Z.2.1 o).2.1 : Int) * (j : Int) := Int.mul_nonneg (Int.natCast_nonneg _) (Int.natCast_nonneg _)
        obtain ⟨fa', k1, k2⟩ := sx_fact_ok c1.2.2.1 g3 (show sx_lo - ((Z.2.1 o).2.1 : Int) * e.1 ≤ _ by omega) (show _ ≤ (Z.2.1 o).2.2 - ((Z.2.1 o).2.1 : Int) * e.1 by omega) g1
        exact ⟨_, _, _, c1.fact k1, c2, k2⟩
    | false =>
      rw [hm, cond_false] at c3
      simp only at c3
      have hm0 : (Z.2.1 o).1 ≠ 0 := fun q => by rw [q] at hm; cases hm
      obtain ⟨r, d1, d2⟩ := sx_res_ok c3
      rw [ex_fI_eq] at d1
      have he' := sx_ev_app [(σ.2.1 o j).toInt] he
      obtain ⟨z, z1, z2⟩ := sx_res_at he' d2
      cases hq : sx_inx (([(.ofNat 1, me.1)], lo', hi) :: me.2.2.2.2) (e.1 % .ofNat (Z.2.1 o).1, r) 0 (.ofNat (Z.2.1 o).1 - 1) with
      | false =>
        rw [hq] at d1
        exact ⟨_, _, _, c1, c2, d1⟩
      | true =>
        rw [hq, cond_true] at d1
        have hz := sx_inx_ok c1.2.2.1 (sx_ev_of (e := (e.1 % .ofNat (Z.2.1 o).1, r)) z1) hq
        have hz1 := z2 hz.1 hz.2
        have hle := (hr.2.2.2.2.2.2.1 o j l h' u b1).1 hm0
        obtain ⟨l', g1, g2⟩ := sx_axpy_ok d1
        have g3 := g2 _ z _ z1 (sx_ev_to c2)
        have e2 : (0 : Int) ≤ ((j % (Z.2.1 o).1 : Nat) : Int) := Int.natCast_nonneg _
        have e3 : ((j % (Z.2.1 o).1 : Nat) : Int) < (((Z.2.1 o).1 : Nat) : Int) := by
          have := Nat.mod_lt j (Nat.pos_of_ne_zero hm0)
          omega
        have e4 : 0 ≤ e.1 % (((Z.2.1 o).1 : Nat) : Int) := Int.emod_nonneg _ (by omega)
        have e6 : -1 * z + ((σ.2.1 o j).toInt - (sx_w me.1).1) = -1 * z + (σ.2.1 o j).toInt := by
          rw [e5]; omega
        rw [e6] at g3
        obtain ⟨fa', k1, k2⟩ := sx_fact_ok c1.2.2.1 g3 (show sx_lo - (((Z.2.1 o).1 : Nat) : Int) ≤ _ by omega) (show _ ≤ e.1 % (((Z.2.1 o).1 : Nat) : Int) by omega) g1
        exact ⟨_, _, _, c1.fact k1, c2, k2⟩
  cases hc : sx_cl1 Z me o e with
  | true =>
    rw [hc] at b4
    simp only [cond_true] at b4
    obtain ⟨c, c1, c2, c3, c4⟩ := sx_max_ok b4
    have h1' := sx_cl1_ok hZ hr he hc
    exact main c (by omega) c4
  | false =>
    rw [hc] at b4
    simp only [cond_false] at b4
    rw [ex_fI_eq] at b4
    exact main lo (by omega) b4
theorem sx_wra_ok (hCs : sx_CsOk Z Cs) (hr : sx_R Z Cs σe env me σ) {o n j : Nat} {i e : sx_e} {x : Int32} (hi : sx_ev env i = some (j : Int)) (hj : j < n) (hn : n ≤ 65536) (he : sx_ev env e = some x.toInt) {K : sx_Me → Bool} (h : sx_wra Z me o n i e K = true) : ∃ me', sx_R Z Cs σe env me' (σ.1, am_up σ.2.1 o j x, σ.2.2.1, σ.2.2.2) ∧ K me' = true := by
  obtain ⟨nw, md, xm, tr, fa⟩ := me
  unfold sx_wra at h
  simp only at h
  have hp : sx_P env fa := hr.2.2.1
  obtain ⟨a, b, a1, a2, a3⟩ := sx_rng_ok hp hi hj h
  rw [Bool.and_eq_true, Bool.and_eq_true, Bool.and_eq_true] at a3
  obtain ⟨b1, ⟨b2, b4⟩, b3⟩ := a3
  obtain ⟨lo, hi', u, c1, c2⟩ := sx_over_ok a1 a2 b1
  have hin := sx_in_ok hp he c2
  obtain ⟨xm1, d1, d2, d3⟩ := sx_xm3_ok b3
  obtain ⟨xm2, e1, e2, e3⟩ := sx_xm2_ok d1
  obtain ⟨md', f1, f2, f3⟩ := sx_units_ok a1 a2 e1
  obtain ⟨tr', g1, g2⟩ := sx_filt_ok f1
  refine ⟨(nw, md', xm2, tr', fa), ⟨hr.1, fun q hq => ?_, hp, ?_⟩, g2⟩
  · have hne : q.1 / 65536 ≠ o := by
      intro hq'
      have := (g1 q hq).2
      rw [hq', Nat.beq_refl] at this
      cases this
    show _ = some (am_up σ.2.1 o j x (q.1 / 65536) (q.1 % 65536)).toInt
    rw [am_up_o _ _ hne]
    exact hr.2.1 q (g1 q hq).1
  · refine sx_M_up hCs (md := md) (xm := xm) hr.2.2.2 (fun lo' hi2 u' h' => ?_) ⟨fun hm => ?_, fun hm => ?_⟩ f2 (fun v hv => e2 v (d2 v hv)) (fun c hc ho hb h0 => ?_) (fun c hc ho hb => e3 c hc ho hb j a1 a2)
    · rw [c1] at h'
      cases h'
      exact ⟨hin.1, hin.2, f3 _ _ _ c1⟩
    · rcases (Bool.or_eq_true _ _).mp b2 with g1 | g1
      · exact absurd (Nat.eq_of_beq_eq_true g1) hm
      · obtain ⟨r, r1, r2⟩ := sx_res_ok g1
        rw [ex_fI_eq, Bool.and_eq_true] at r1
        obtain ⟨z, z1, z2⟩ := sx_res_at hi r2
        have hz := sx_inx_ok hp (sx_ev_of (e := (i.1 % .ofNat (Z.2.1 o).1, r)) z1) r1.1
        have hz1 := z2 hz.1 hz.2
        obtain ⟨d, q1, q2⟩ := sx_lin_ok r1.2
        have q3 := sx_leq_ok hp (q2 env _ _ (sx_ev_of (e := (i.1 % .ofNat (Z.2.1 o).1, r)) z1) he) q1
        have q4 : -1 * (i.1 % (((Z.2.1 o).1 : Nat) : Int) + z) + x.toInt ≤ 0 := q3
        omega
    · rcases (Bool.or_eq_true _ _).mp b4 with g1 | g1
      · exact absurd (Nat.eq_of_beq_eq_true g1) hm
      · obtain ⟨d, q1, q2⟩ := sx_lin_ok g1
        rw [ex_fI_eq] at q1
        have q3 := q2 env _ _ hi he
        have q4 := sx_leq_ok hp (sx_ev_of (e := (d.1 - (Z.2.1 o).2.2, d.2)) (sx_ev_to (e := d) q3)) q1
        have q5 : d.1 - (Z.2.1 o).2.2 + (((Z.2.1 o).2.1 : Int) * (j : Int) + x.toInt - d.1) ≤ 0 := q4
        omega
    · have hk := d3 c hc ho (sx_bit_mono e2 hb) j a1 a2
      intro j' hj' hlt
      have hlt' : (j' : Int) < (am_up σ.2.1 o j x c.2.1 c.2.2.1).toInt := hlt
      show 1 ≤ (am_up σ.2.1 o j x c.2.1 (c.2.2.2.1 + j')).toInt
      rw [am_up_n _ _ (fun q => hk.1 q.2.symm)] at hlt'
      rw [am_up_n _ _ (fun q => hk.2 ⟨by omega, by omega⟩)]
      exact h0 j' hj' hlt'
/-! arithmetic -/
theorem sx_wrapI (z : Int) (h1 : sx_lo ≤ z) (h2 : z ≤ sx_up) : (Int32.ofInt z).toInt = z := by
  have e1 : sx_lo = -2147483648 := rfl
  have e2 : sx_up = 2147483647 := rfl
  rw [e1] at h1
  rw [e2] at h2
  rw [Int32.toInt_ofInt, show Int32.size = 4294967296 from rfl]
  exact Int.bmod_eq_of_le (by omega) (by omega)
theorem sx_addI (x y : Int32) : sx_lo ≤ x.toInt + y.toInt → x.toInt + y.toInt ≤ sx_up → (x + y).toInt = x.toInt + y.toInt := by
  intro h1 h2
  rw [Int32.toInt_add]
  have e1 : sx_lo = -2147483648 := rfl
  have e2 : sx_up = 2147483647 := rfl
  rw [e1] at h1
  rw [e2] at h2
  exact Int.bmod_eq_of_le (by omega) (by omega)
theorem sx_subI (x y : Int32) : sx_lo ≤ x.toInt - y.toInt → x.toInt - y.toInt ≤ sx_up → (x - y).toInt = x.toInt - y.toInt := by
  intro h1 h2
  rw [Int32.toInt_sub]
  have e1 : sx_lo = -2147483648 := rfl
  have e2 : sx_up = 2147483647 := rfl
  rw [e1] at h1
  rw [e2] at h2
  exact Int.bmod_eq_of_le (by omega) (by omega)
theorem sx_mulI (x y : Int32) : sx_lo ≤ x.toInt * y.toInt → x.toInt * y.toInt ≤ sx_up → (x * y).toInt = x.toInt * y.toInt := by
  intro h1 h2
  rw [Int32.toInt_mul]
  have e1 : sx_lo = -2147483648 := rfl
  have e2 : sx_up = 2147483647 := rfl
  rw [e1] at h1
  rw [e2] at h2
  exact Int.bmod_eq_of_le (by omega) (by omega)
theorem sx_mulB {a b p q x y : Int} (h1 : a ≤ x) (h2 : x ≤ b) (h3 : p ≤ y) (h4 : y ≤ q) {m n : Int} (m1 : m ≤ a * p) (m2 : m ≤ a * q) (m3 : m ≤ b * p) (m4 : m ≤ b * q) (n1 : a * p ≤ n) (n2 : a * q ≤ n) (n3 : b * p ≤ n) (n4 : b * q ≤ n) : m ≤ x * y ∧ x * y ≤ n := by
  rcases Int.le_total 0 y with hy | hy
  · have u1 := Int.mul_le_mul_of_nonneg_right h1 hy
    have u2 := Int.mul_le_mul_of_nonneg_right h2 hy
    rcases Int.le_total 0 a with ha | ha
    · have v1 := Int.mul_le_mul_of_nonneg_left h3 ha
      rcases Int.le_total 0 b with hb | hb
      · have v2 := Int.mul_le_mul_of_nonneg_left h4 hb
        omega
      · have v2 := Int.mul_le_mul_of_nonpos_left hb h3
        omega
    · have v1 := Int.mul_le_mul_of_nonpos_left ha h4
      rcases Int.le_total 0 b with hb | hb
      · have v2 := Int.mul_le_mul_of_nonneg_left h4 hb
        omega
      · have v2 := Int.mul_le_mul_of_nonpos_left hb h3
        omega
  · have u1 := Int.mul_le_mul_of_nonpos_right h1 hy
    have u2 := Int.mul_le_mul_of_nonpos_right h2 hy
    rcases Int.le_total 0 b with hb | hb
    · have v1 := Int.mul_le_mul_of_nonneg_left h3 hb
      rcases Int.le_total 0 a with ha | ha
      · have v2 := Int.mul_le_mul_of_nonneg_left h4 ha
        omega
      · have v2 := Int.mul_le_mul_of_nonpos_left ha h3
        omega
    · have v1 := Int.mul_le_mul_of_nonpos_left hb h4
      rcases Int.le_total 0 a with ha | ha
      · have v2 := Int.mul_le_mul_of_nonneg_left h4 ha
        omega
      · have v2 := Int.mul_le_mul_of_nonpos_left ha h3
        omega
theorem sx_mulr_ok (hr : sx_R Z Cs σe env me σ) {x y : Int32} {a b p q : Int} (h1 : a ≤ x.toInt) (h2 : x.toInt ≤ b) (h3 : p ≤ y.toInt) (h4 : y.toInt ≤ q) {K : sx_Me → sx_e → Bool} (h : sx_mulr me a b p q K = true) : sx_ex Z Cs σe env σ (x * y).toInt K := by
  unfold sx_mulr at h
  obtain ⟨m1, -, c1, c2, b5⟩ := sx_min_ok h
  obtain ⟨m2, -, c3, c4, b6⟩ := sx_min_ok b5
  obtain ⟨m, -, c5, c6, b7⟩ := sx_min_ok b6
  obtain ⟨n1, -, d1, d2, b8⟩ := sx_max_ok b7
  obtain ⟨n2, -, d3, d4, b9⟩ := sx_max_ok b8
  obtain ⟨n, -, d5, d6, b10⟩ := sx_max_ok b9
  have hB := sx_mulB h1 h2 h3 h4 (Int.le_trans c5 c1) (Int.le_trans c5 c2) (Int.le_trans c6 c3) (Int.le_trans c6 c4) (Int.le_trans d1 d5) (Int.le_trans d2 d5) (Int.le_trans d3 d6) (Int.le_trans d4 d6)
  cases hb : (sx_ile sx_lo m && sx_ile n sx_up) with
  | false => rw [hb] at b10; exact sx_new_full hr _ b10
  | true =>
    rw [hb] at b10
    rw [Bool.and_eq_true] at hb
    have g1 := sx_ile_iff.mp hb.1
    have g2 := sx_ile_iff.mp hb.2
    rw [sx_mulI x y (by omega) (by omega)]
    exact sx_new_ex hr hB.1 hB.2 b10
theorem sx_muls_ok (hr : sx_R Z Cs σe env me σ) {ey : sx_e} {x y : Int32} (hy : sx_ev env ey = some y.toInt) {a b p q : Int} (h0 : 0 ≤ a) (h1 : a ≤ x.toInt) (h2 : x.toInt ≤ b) (h3 : p ≤ y.toInt) (h4 : y.toInt ≤ q) {K : sx_Me → sx_e → Bool} (h : sx_muls me a b p q ey K = true) : sx_ex Z Cs σe env σ (x * y).toInt K := by
  obtain ⟨nw, md, xm, tr, fa⟩ := me
  unfold sx_muls at h
  cases hb : (sx_ile sx_lo (b * p) && sx_ile (b * q) sx_up) with
  | false => rw [hb] at h; exact sx_mulr_ok hr h1 h2 h3 h4 h
  | true =>
    rw [hb, cond_true] at h
    simp only at h
    rw [Bool.and_eq_true] at hb
    have g1 := sx_ile_iff.mp hb.1
    have g2 := sx_ile_iff.mp hb.2
    have e1 : sx_lo = -2147483648 := rfl
    have e2 : sx_up = 2147483647 := rfl
    have e5 : (sx_w nw).1 = 0 := rfl
    have hx0 : 0 ≤ x.toInt := by omega
    have hb0 : 0 ≤ b := by omega
    obtain ⟨fa1, f1, ⟨f2, f3⟩ | ⟨f2, f3⟩⟩ := sx_cmp_ok hr.2.2.1 hy (sx_const (c := .ofNat 0)) h
    · have f2' : y.toInt < 0 := f2
      have u1 : x.toInt * y.toInt ≤ 0 := Int.mul_nonpos_of_nonneg_of_nonpos hx0 (by omega)
      have u2 : b * y.toInt ≤ x.toInt * y.toInt := Int.mul_le_mul_of_nonpos_right h2 (by omega)
      have u3 : b * p ≤ b * y.toInt := Int.mul_le_mul_of_nonneg_left h3 hb0
      rw [ex_fI_eq] at f3
      have e3 := sx_mulI x y (by omega) (by omega)
      obtain ⟨c1, c2, c3⟩ := sx_new_ok (hr.fact f1) (v := (x * y).toInt) (lo := b * p) (hi := 0) (by rw [e3]; omega) (by rw [e3]; omega) f3
      simp only at c3
      obtain ⟨l', k1, k2⟩ := sx_axpy_ok c3
      have k3 := k2 _ _ _ (sx_ea_app [(x * y).toInt] (sx_ev_to hy)) (sx_ev_to c2)
      have e6 : -b * (y.toInt - ey.1) + ((x * y).toInt - (sx_w nw).1) = x.toInt * y.toInt - b * y.toInt + b * ey.1 := by
        rw [e5, e3, Int.neg_mul, Int.mul_sub]; omega
      rw [show (sx_w ((nw, md, xm, tr, fa1) : sx_Me).1) = sx_w nw from rfl, e6] at k3
      obtain ⟨fa2, n1, n2⟩ := sx_fact_ok c1.2.2.1 k3 (show b * ey.1 ≤ _ by omega) (show _ ≤ b * ey.1 - b * p by omega) k1
      exact ⟨_, _, _, c1.fact n1, c2, n2⟩
    · have f2' : 0 ≤ y.toInt := by
        have : ¬ y.toInt < 0 := f2
        omega
      have u1 : 0 ≤ x.toInt * y.toInt := Int.mul_nonneg hx0 f2'
      have u2 : x.toInt * y.toInt ≤ b * y.toInt := Int.mul_le_mul_of_nonneg_right h2 f2'
      have u3 : b * y.toInt ≤ b * q := Int.mul_le_mul_of_nonneg_left h4 hb0
      rw [ex_fI_eq] at f3
      have e3 := sx_mulI x y (by omega) (by omega)
      obtain ⟨c1, c2, c3⟩ := sx_new_ok (hr.fact f1) (v := (x * y).toInt) (lo := 0) (hi := b * q) (by rw [e3]; omega) (by rw [e3]; omega) f3
      simp only at c3
      obtain ⟨l', k1, k2⟩ := sx_axpy_ok c3
      have k3 := k2 _ _ _ (sx_ea_app [(x * y).toInt] (sx_ev_to hy)) (sx_ev_to c2)
      have e6 : -b * (y.toInt - ey.1) + ((x * y).toInt - (sx_w nw).1) = x.toInt * y.toInt - b * y.toInt + b * ey.1 := by
        rw [e5, e3, Int.neg_mul, Int.mul_sub]; omega
      rw [show (sx_w ((nw, md, xm, tr, fa1) : sx_Me).1) = sx_w nw from rfl, e6] at k3
      obtain ⟨fa2, n1, n2⟩ := sx_fact_ok c1.2.2.1 k3 (show b * ey.1 - b * q ≤ _ by omega) (show _ ≤ b * ey.1 by omega) k1
      exact ⟨_, _, _, c1.fact n1, c2, n2⟩
theorem sx_mul_ok (hr : sx_R Z Cs σe env me σ) {ex ey : sx_e} {x y : Int32} (hx : sx_ev env ex = some x.toInt) (hy : sx_ev env ey = some y.toInt) {K : sx_Me → sx_e → Bool} (h : sx_mul me ex ey K = true) : sx_ex Z Cs σe env σ (x * y).toInt K := by
  have scl : ∀ {me' : sx_Me} {e' : sx_e} {v z : Int}, sx_R Z Cs σe env me' σ → sx_ev env e' = some z → v * z = x.toInt * y.toInt → (sx_scale v e' fun e => sx_wrap me' e K) = true → sx_ex Z Cs σe env σ (x * y).toInt K := by
    intro me' e' v z hr' he' hvz h'
    unfold sx_scale at h'
    by_cases hv : v = 0
    · rw [sx_ieq_iff.mpr hv, cond_true] at h'
      subst hv
      refine sx_wrap_ok hr' (sx_const (c := 0)) (fun a b => ?_) h'
      rw [Int.zero_mul] at hvz
      rw [hvz] at a b ⊢
      exact sx_mulI x y a b
    rw [show sx_ieq v 0 = false from Bool.eq_false_iff.mpr (fun h => hv (sx_ieq_iff.mp h)), cond_false] at h'
    obtain ⟨e, h1, h2⟩ := sx_lin_ok h'
    refine sx_wrap_ok hr' (h2 env _ 0 he' sx_const) (fun a b => ?_) h1
    rw [Int.add_zero, hvz] at a b ⊢
    exact sx_mulI x y a b
  unfold sx_mul at h
  split at h
  · rename_i c
    have hc : x.toInt = c := Option.some.inj (hx.symm.trans sx_const)
    exact scl hr hy (by rw [hc]) h
  · rename_i cx qx lx
    split at h
    · rename_i c
      have hc : y.toInt = c := Option.some.inj (hy.symm.trans sx_const)
      exact scl hr hx (by rw [hc, Int.mul_comm]) h
    · rename_i cy qy ly
      have hx' := sx_ev_to hx
      have hy' := sx_ev_to hy
      obtain ⟨a, b, v, a1, a2, a3, a4⟩ := sx_lb_ok hr.2.2.1 ⟨_, hx'⟩ h
      rw [hx'] at a1
      cases a1
      obtain ⟨p, q, v, b1, b2, b3, b4⟩ := sx_lb_ok hr.2.2.1 ⟨_, hy'⟩ a4
      rw [hy'] at b1
      cases b1
      simp only at a2 a3 b2 b3
      cases n1 : sx_ile (b - a) 2 with
      | true =>
        rw [n1, cond_true] at b4
        obtain ⟨me', g1, g2⟩ := sx_conc_ok hr hx b4
        exact scl g1 hy rfl g2
      | false =>
        rw [n1, cond_false] at b4
        cases n2 : sx_ile (q - p) 2 with
        | true =>
          rw [n2, cond_true] at b4
          obtain ⟨me', g1, g2⟩ := sx_conc_ok hr hy b4
          exact scl g1 hx (Int.mul_comm _ _) g2
        | false =>
          rw [n2, cond_false, ex_fI_eq, ex_fI_eq, ex_fI_eq, ex_fI_eq] at b4
          cases n3 : (sx_ile 0 (cx + a) && (sx_ile (cy + p) (-1) && sx_ile 1 (cy + q))) with
          | true =>
            rw [n3] at b4
            rw [Bool.and_eq_true] at n3
            exact sx_muls_ok hr hy (sx_ile_iff.mp n3.1) (by omega) (by omega) (by omega) (by omega) b4
          | false =>
            rw [n3] at b4
            exact sx_mulr_ok hr (by omega) (by omega) (by omega) (by omega) b4
end SN
theorem sx_lgm_t {md o u : Nat} (h : sx_bit (sx_lgm md o) u = false) : sx_bit md u = false := by
  unfold sx_lgm at h
  rw [sx_bit_or, sx_bit_or, Bool.or_eq_false_iff, Bool.or_eq_false_iff] at h
  exact h.1.1
theorem sx_lgm_0 {md o : Nat} (h : sx_bit (sx_lgm md o) 900 = false) : False := by
  unfold sx_lgm at h
  rw [sx_bit_or, sx_bit_set, decide_eq_true rfl, Bool.or_true, Bool.true_or] at h
  cases h
theorem sx_lgm_1 {md : Nat} (h : sx_bit (sx_lgm md 72) 901 = false) : False := by
  unfold sx_lgm at h
  rw [show Nat.beq 72 72 = true from rfl, cond_true, sx_bit_set, decide_eq_true rfl, Bool.or_true] at h
  cases h
theorem sx_R.longs {Z : sx_Z} {Cs : Nat → am_S → Prop} {σe σ : am_S} {env : List Int} {me : sx_Me} (hCs : sx_CsOk Z Cs) (hr : sx_R Z Cs σe env me σ) (o : Nat) (f : Nat → Nat → Int64) (hf : o ≠ 72 → f 72 = σ.2.2.1 72) : sx_R Z Cs σe env (me.1, sx_lgm me.2.1 o, me.2.2.1, me.2.2.2.1, me.2.2.2.2) (σ.1, σ.2.1, f, σ.2.2.2) :=
  ⟨hr.1, hr.2.1, hr.2.2.1, hr.2.2.2.1, hr.2.2.2.2.1, hr.2.2.2.2.2.1, hr.2.2.2.2.2.2.1, fun o k lo hi u a b => hr.2.2.2.2.2.2.2.1 o k lo hi u a (sx_lgm_t b), hr.2.2.2.2.2.2.2.2.1, fun c hc hb => hCs c hc σ _ (fun _ _ _ => rfl) (hr.2.2.2.2.2.2.2.2.2.1 c hc hb), fun b => (sx_lgm_0 b).elim, fun b => by
    by_cases e : o = 72
    · subst e
      exact (sx_lgm_1 b).elim
    · exact (hf e).trans (hr.2.2.2.2.2.2.2.2.2.2.2 (sx_lgm_t b))⟩
