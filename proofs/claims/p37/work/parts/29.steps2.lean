/-! steps of the second executor that touch the memory; ends of methods -/
theorem sx_isO_ok {Z : sx_Z} {Cs : Nat → am_S → Prop} {σe σ : am_S} {env : List Int} {me : sx_Me} (hr : sx_R Z Cs σe env me σ) {o ci : Nat} (h : sx_isO Z o ci = true) : σ.1[o]? = some (.inl ci) := by
  unfold sx_isO at h
  split at h
  · rename_i c hc
    rw [← Nat.eq_of_beq_eq_true h]
    exact hr.2.2.2.1 o _ (by rw [hc]; rfl)
  · cases h
theorem sx_isA_ok {Z : sx_Z} {Cs : Nat → am_S → Prop} {σe σ : am_S} {env : List Int} {me : sx_Me} (hr : sx_R Z Cs σe env me σ) {o : Nat} {K : Nat → Nat → Bool} (h : sx_isA Z o K = true) : ∃ t n, σ.1[o]? = some (.inr (ex_ty t, n)) ∧ K t n = true := by
  unfold sx_isA at h
  split at h
  · rename_i t n hc
    exact ⟨t, n, hr.2.2.2.1 o _ (by rw [hc]; rfl), h⟩
  · cases h
theorem sx_ix_ok {fa : sx_Fa} {env : List Int} (hp : sx_P env fa) {i : sx_e} {a : Int32} (ha : sx_ev env i = some a.toInt) {n : Nat} (h : sx_ix fa i n = true) : vp_in a n ∧ a.toInt = (a.toNatClampNeg : Int) ∧ a.toNatClampNeg < n := by
  unfold sx_ix at h
  rw [Bool.and_eq_true, ex_fI_eq] at h
  obtain ⟨m, h1, h2⟩ := sx_negA_ok h.1
  rw [ex_fI_eq] at h1
  have hx := sx_ev_to ha
  have b1 := sx_leq_ok hp (sx_ev_of (e := (-i.1, m)) (h2 env _ hx)) h1
  have b2 := sx_leq_ok hp (sx_ev_of (e := (i.1 - .ofNat n + 1, i.2)) hx) h.2
  have b1' : -i.1 + -(a.toInt - i.1) ≤ 0 := b1
  have b2' : i.1 - (n : Int) + 1 + (a.toInt - i.1) ≤ 0 := b2
  have e : (a.toNatClampNeg : Int) = a.toInt := by
    rw [Int32.toNatClampNeg]
    omega
  refine ⟨?_, e.symm, by omega⟩
  unfold vp_in
  rintro (q | q)
  · rw [Int32.lt_iff_toInt_lt] at q
    have : (0 : Int32).toInt = 0 := rfl
    omega
  · omega
theorem sx_ixn {j n : Nat} (hj : j < n) {a : Int32} (ha : a.toInt = (j : Int)) : vp_in a n ∧ a.toNatClampNeg = j := by
  have e : a.toNatClampNeg = j := by
    rw [Int32.toNatClampNeg]
    omega
  refine ⟨?_, e⟩
  unfold vp_in
  rintro (q | q)
  · rw [Int32.lt_iff_toInt_lt] at q
    have : (0 : Int32).toInt = 0 := rfl
    omega
  · omega
section ZB
variable {x : sx_X} {K : sx_K} {env : List Int} {T : ex_T} {cd : List ex_E} {lv : sx_L} {st : List sx_V} {fs : List sx_Fr} {me : sx_Me} {lw : List (Nat × Value)} {sw : List Value} {fw : List sx_Fw} {σ : am_S} {pc nx d mc ms : Nat}
theorem sx_go (C : sx_Kx x K) (h : K T cd pc d mc ms lv st fs me = true) (A : sx_At x env T cd lv st fs me lw sw fw σ) : sx_am x d T mc ms pc lw sw fw σ := C _ _ _ _ _ _ _ _ _ _ _ _ _ _ _ h A
theorem tk_getf (B : sx_Bx x) (C : sx_Kx x K) (A : sx_At x env T cd lv st fs me lw sw fw σ) {i : Nat} {ex : List Nat} (hd : decode T.1.2.1 pc = .ok (.getfield i, 3)) (hl : ex_lk (xm x) T pc (.getfield i) ex = true) (h : sx_getf (xZ x) K T cd (pc + 3) d mc ms lv st fs me ex = true) : sx_am x d T mc ms pc lw sw fw σ := by
  unfold sx_getf at h
  split at h
  · rename_i ci k kd p
    unfold ex_lk at hl
    simp only at hl
    split at hl
    · rename_i C1 U N hc
      simp only [Bool.and_eq_true, decide_eq_true_eq] at hl
      obtain ⟨l1, l2, l3, l4⟩ := hl
      have hf : am_FL T.1.1.cls i ci k := ⟨C1, U, N, hc, l1, l2, ex_flk_ok l3⟩
      split at h
      · rename_i o st'
        obtain ⟨v, sw1, rfl, hv, h3⟩ := A.s.cons
        have e : v = .ref o := hv
        subst e
        rw [Bool.and_eq_true] at h
        have hs := sx_isO_ok A.r h.1
        have h2 := h.2
        split at h2
        · exact kr_getf B.1 hf hd hs (v := .int (σ.2.1 o k)) (ex_fa0 l4) (sx_push C (A.stk h3) (sx_rd_ok B.2.2.2.2.1 A.r h2))
        · refine kr_getf B.1 hf hd hs (v := .long (σ.2.2.1 o k)) ?_ (sx_go C h2 (A.stk ⟨⟨_, rfl⟩, h3⟩))
          unfold am_fa
          rw [l4]
          rfl
        · split at h2
          · rename_i r hrf
            refine kr_getf B.1 hf hd hs (v := .ref r) ?_ (sx_go C h2 (A.stk ⟨rfl, h3⟩))
            rw [ex_fa2 l4]
            exact A.r.2.2.2.2.1 o k r hrf
          · cases h2
        · cases h2
      · cases h
    · cases hl
  · cases h
theorem sx_nar01 {ty : FieldType} (h : am_kd ty = 0) {n : Int32} (h1 : 0 ≤ n.toInt) (h2 : n.toInt ≤ 1) : narrow ty (.int n) = .int n ∧ fits ty (.int n) = true := by
  have hn : n = 0 ∨ n = 1 := by
    rcases (show n.toInt = 0 ∨ n.toInt = 1 by omega) with q | q
    · exact Or.inl (Int32.toInt_inj.mp q)
    · exact Or.inr (Int32.toInt_inj.mp q)
  cases ty <;> first
    | (rcases hn with rfl | rfl <;> exact ⟨rfl, rfl⟩)
    | exact absurd h (by decide)
    | exact absurd (show (2 : Nat) = 0 from h) (by decide)
theorem tk_putf (B : sx_Bx x) (C : sx_Kx x K) (A : sx_At x env T cd lv st fs me lw sw fw σ) {i : Nat} {ex : List Nat} (hd : decode T.1.2.1 pc = .ok (.putfield i, 3)) (hl : ex_lk (xm x) T pc (.putfield i) ex = true) (h : sx_putf (xZ x) K T cd (pc + 3) d mc ms lv st fs me ex = true) : sx_am x d T mc ms pc lw sw fw σ := by
  unfold sx_putf at h
  split at h
  · rename_i ci k kd p
    unfold ex_lk at hl
    simp only at hl
    split at hl
    · rename_i C1 U N hc
      rw [Bool.and_eq_true, Bool.and_eq_true, Bool.and_eq_true, decide_eq_true_eq, decide_eq_true_eq] at hl
      obtain ⟨l1, l2, l3, l4⟩ := hl
      have hf : am_FP T.1.1.cls T.1.1.name i ci k := by
        refine ⟨C1, U, N, hc, l1, l2, ?_⟩
        split at l3
        · rename_i hfin
          exact Or.inl ⟨hfin, ex_flk_ok l3⟩
        · rename_i hfin
          simp only [Bool.and_eq_true, decide_eq_true_eq] at l3
          exact Or.inr ⟨hfin, ex_mem_ok l3.1, l3.2.1, l3.2.2⟩
      split at h
      · rename_i e o st'
        obtain ⟨v, sw1, rfl, ⟨n, rfl, he⟩, h3⟩ := A.s.cons
        obtain ⟨v, sw2, rfl, hv, h4⟩ := h3.cons
        have e : v = .ref o := hv
        subst e
        rw [Bool.and_eq_true] at h
        have hs := sx_isO_ok A.r h.1
        have h2 := h.2
        split at h2
        · have l5 : am_ty ci k = .int := of_decide_eq_true l4
          obtain ⟨me', g1, g2⟩ := sx_wr_ok B.2.2.2.2.1 B.2.2.2.2.2 A.r he h2
          exact kr_putI B.1 hf hd hs (by rw [l5]; rfl) (by rw [l5]; rfl) (by rw [l5]; rfl) (sx_go C g2 ((A.stk h4).re0 g1))
        · rw [Bool.and_eq_true] at h2
          have l5 : am_kd (am_ty ci k) = 0 := of_decide_eq_true l4
          have hb := sx_in_ok A.p he h2.1
          have hn := sx_nar01 l5 hb.1 hb.2
          obtain ⟨me', g1, g2⟩ := sx_wr_ok B.2.2.2.2.1 B.2.2.2.2.2 A.r he h2.2
          exact kr_putI B.1 hf hd hs hn.1 hn.2 l5 (sx_go C g2 ((A.stk h4).re0 g1))
        · cases h2
      · rename_i o st'
        obtain ⟨v, sw1, rfl, ⟨n, rfl⟩, h3⟩ := A.s.cons
        obtain ⟨v, sw2, rfl, hv, h4⟩ := h3.cons
        have e : v = .ref o := hv
        subst e
        rw [Bool.and_eq_true] at h
        have hs := sx_isO_ok A.r h.1
        have h2 := h.2
        split at h2
        · have l5 : am_ty ci k = .long := of_decide_eq_true l4
          exact kr_putJ B.1 hf hd hs (by rw [l5]; rfl) (by rw [l5]; rfl) (by rw [l5]; rfl) (sx_go C (by rw [sx_lg_eq] at h2; exact h2) ((A.stk h4).re0 (A.r.longs B.2.2.2.2.2 o _ (fun e => funext fun _ => am_up_o _ _ (Ne.symm e)))))
        · cases h2
      · cases h
    · cases hl
  · cases h
/-! arrays -/
theorem sx_idx_ok {o : Nat} {i : sx_e} {a : Int} {F : sx_Me → sx_e → Bool} (hr : sx_Rx x env me σ) (ha : sx_ev env i = some a) (h : sx_idx (xZ x) me o i F = true) : ∃ me' i', sx_Rx x env me' σ ∧ sx_ev env i' = some a ∧ F me' i' = true := by
  unfold sx_idx at h
  cases hb : (xZ x).2.2.2.2.2.2 o with
  | true =>
    rw [show (xZ x).2.2.2.2.2.2 o = true from hb, cond_true] at h
    obtain ⟨me', h1, h2⟩ := sx_conc_ok hr ha h
    exact ⟨me', _, h1, sx_const, h2⟩
  | false =>
    rw [show (xZ x).2.2.2.2.2.2 o = false from hb, cond_false] at h
    exact ⟨me, i, hr, ha, h⟩
theorem sx_rdx_ok (B : sx_Bx x) {o n : Nat} {i : sx_e} {a : Int32} {F : sx_Me → sx_e → Bool} (hr : sx_Rx x env me σ) (ha : sx_ev env i = some a.toInt) (h : sx_rdx (xZ x) me o n i F = true) : vp_in a n ∧ sx_ex (xZ x) (xC x) (xe x) env σ (σ.2.1 o a.toNatClampNeg).toInt F := by
  unfold sx_rdx at h
  obtain ⟨me', i', h1, h2, h3⟩ := sx_idx_ok hr ha h
  split at h3
  · rename_i j
    rw [Bool.and_eq_true] at h3
    have hj : a.toInt = (j : Int) := Option.some.inj (h2.symm.trans sx_const)
    have := sx_ixn (ex_blt h3.1) hj
    rw [this.2]
    exact ⟨this.1, sx_rd_ok B.2.2.2.2.1 h1 h3.2⟩
  · rw [Bool.and_eq_true] at h3
    have := sx_ix_ok h1.2.2.1 h2 h3.1
    rw [this.2.1] at h2
    exact ⟨this.1, sx_rda_ok B.2.2.2.2.1 h1 h2 this.2.2 h3.2⟩
theorem sx_wrx_ok (B : sx_Bx x) {o n : Nat} (hn : n ≤ 65536) {i e : sx_e} {a z : Int32} {F : sx_Me → Bool} (hr : sx_Rx x env me σ) (ha : sx_ev env i = some a.toInt) (hz : sx_ev env e = some z.toInt) (h : sx_wrx (xZ x) me o n i e F = true) : vp_in a n ∧ ∃ me', sx_Rx x env me' (σ.1, am_up σ.2.1 o a.toNatClampNeg z, σ.2.2.1, σ.2.2.2) ∧ F me' = true := by
  unfold sx_wrx at h
  obtain ⟨me', i', h1, h2, h3⟩ := sx_idx_ok hr ha h
  split at h3
  · rename_i j
    rw [Bool.and_eq_true] at h3
    have hj : a.toInt = (j : Int) := Option.some.inj (h2.symm.trans sx_const)
    have := sx_ixn (ex_blt h3.1) hj
    rw [this.2]
    exact ⟨this.1, sx_wr_ok B.2.2.2.2.1 B.2.2.2.2.2 h1 hz h3.2⟩
  · rw [Bool.and_eq_true] at h3
    have := sx_ix_ok h1.2.2.1 h2 h3.1
    rw [this.2.1] at h2
    exact ⟨this.1, sx_wra_ok B.2.2.2.2.2 h1 h2 this.2.2 hn hz h3.2⟩
theorem tk_alen (B : sx_Bx x) (C : sx_Kx x K) (A : sx_At x env T cd lv st fs me lw sw fw σ) (hd : decode T.1.2.1 pc = .ok (.arraylength, 1)) (h : sx_alen (xZ x) K T cd (pc + 1) d mc ms lv st fs me (xw x) = true) : sx_am x d T mc ms pc lw sw fw σ := by
  unfold sx_alen at h
  split at h
  · rename_i o st'
    obtain ⟨v, sw1, rfl, hv, h3⟩ := A.s.cons
    have e : v = .ref o := hv
    subst e
    obtain ⟨t, n, h1, h2⟩ := sx_isA_ok A.r h
    rw [Bool.and_eq_true, Bool.and_eq_true] at h2
    have hn := ex_blt h2.2.1
    have hi : (nI n).toInt = (n : Int) := nI_toInt (by omega)
    have hk := sx_go C h2.2.2 (A.stk (st' := .inl (.ofNat n, []) :: st') (sw' := .int (nI n) :: sw1) ⟨⟨nI n, rfl, by rw [hi]; exact sx_const⟩, h3⟩)
    match t, h1, h2 with
    | 0, h1, _ => exact kr_alenI B.1 hd h1 hk
    | 1, h1, _ => exact kr_alenB B.1 hd h1 hk
    | 2, h1, _ => exact kr_alenJ B.1 hd h1 hk
    | 3, _, h2 => exact absurd h2.1 (by decide)
    | t + 4, h1, _ => exact kr_alenQ B.1 hd h1 hk
  · rename_i st'
    obtain ⟨v, sw1, rfl, hv, h3⟩ := A.s.cons
    have e : v = .retAddr 0 := hv
    subst e
    split at h
    · rename_i w hw
      have hx : (xg x).2.2.2.2.2.2 0 = some (xL x, x.2.1.2) := by rw [B.2.1]; rfl
      have hL := B.2.2.1
      have hi : (nI (xL x)).toInt = (xL x : Int) := nI_toInt (by omega)
      refine kr_alenX B.1 hd hx (sx_go C h (A.stk ⟨⟨_, rfl, ?_⟩, h3⟩))
      rw [hi]
      have h5 := (A.2.2.1.1 w hw).1
      rw [sx_ev_of (e := sx_w w) (sx_ea_mk (l := []) h5 rfl)]
      congr 1
      show (0 : Int) + (1 * (xL x : Int) + 0) = _
      omega
    · cases h
  · rename_i k st' hk0
    obtain ⟨v, sw1, rfl, hv, h3⟩ := A.s.cons
    have e : v = .retAddr k := hv
    subst e
    rw [Bool.and_eq_true] at h
    have hk4 := ex_blt h.1
    have hx : ∃ f, (xg x).2.2.2.2.2.2 k = some (8, f) := by
      rw [B.2.1]
      rcases (show k = 0 ∨ k = 1 ∨ k = 2 ∨ k = 3 by omega) with rfl | rfl | rfl | rfl
      · exact (hk0 rfl).elim
      · exact ⟨_, rfl⟩
      · exact ⟨_, rfl⟩
      · exact ⟨_, rfl⟩
    obtain ⟨f, hx⟩ := hx
    exact kr_alenX B.1 hd hx (sx_go C h.2 (A.stk ⟨⟨nI 8, rfl, sx_const⟩, h3⟩))
  · cases h
end ZB
