/-! the reader of the reference: the lines of stands and settings; a line -/
theorem rd_FPi {T : ex_T} {pc i ci k p : Nat} (hl : ex_lk ex_mt T pc (.putfield i) [ci, k, 0, p] = true) : am_FP T.1.1.cls T.1.1.name i ci k ∧ am_ty ci k = .int := by
  unfold ex_lk at hl
  simp only at hl
  split at hl
  · rename_i C1 U N hc
    rw [Bool.and_eq_true, Bool.and_eq_true, Bool.and_eq_true, decide_eq_true_eq, decide_eq_true_eq] at hl
    obtain ⟨l1, l2, l3, l4⟩ := hl
    refine ⟨⟨C1, U, N, hc, l1, l2, ?_⟩, of_decide_eq_true l4⟩
    split at l3
    · rename_i hfin
      exact Or.inl ⟨hfin, ex_flk_ok l3⟩
    · rename_i hfin
      simp only [Bool.and_eq_true, decide_eq_true_eq] at l3
      exact Or.inr ⟨hfin, ex_mem_ok l3.1, l3.2.1, l3.2.2⟩
  · cases hl
section RM
variable {g : am_C} {L : Nat} {xs : Nat → Int32}
theorem rd_lnT2 (G : sx_G0 g L xs zK hd_T ex_mt) {σ : am_S} {b : Nat → Nat} {n most : Nat} {q : rd_Q} {k : Nat} (hk : k ≤ 5) (t2 : q.1.1 = 2) (hr : 1 ≤ q.1.2.2.2.2 ∧ q.1.2.2.2.2 ≤ 60) (hh : (q.2.1 1).toInt = k) {post : Option (Option Value) → am_S → Prop} (R : rd_R post σ b n most (rd_lineT b n most q k)) : ∀ (m j : Nat) (σ1 : am_S) (lw : List (Nat × Value)) (m1 m2 : Int32), m + j = k → sx_M zK hd_T σ rd_mK 0 σ1 → rd_E σ1 b n most q → rd_fnd q.2.1 (Int32.ofNat q.1.2.2.2.2) k 0 = rd_fnd q.2.1 (Int32.ofNat q.1.2.2.2.2) m j → (0, Value.ref 118) ∈ lw → (1, Value.int m1) ∈ lw → (2, Value.int m2) ∈ lw → m1.toInt = k → m2.toInt = j → am_K g 20 tX12_line.1 0 0 169 lw [] σ1 post := by
  have tk0 : rd_tkf q.1 1 60 = 0 := by unfold rd_tkf; rw [if_pos t2, if_pos hr]
  intro m
  induction m with
  | zero =>
    intro j σ1 lw m1 m2 hm H1 E1 hf hl hl1 hl2 e1 e2
    have n12 := E1.2.1.2.2.2.1 (Or.inl t2)
    have nf : ¬ rd_fnd q.2.1 (Int32.ofNat q.1.2.2.2.2) k 0 = true := by rw [hf]; exact Bool.noConfusion
    refine sg_lna_run G hd_ctK (sx_M_self H1) hl hl1 (by omega) hl2 (by omega) ?_ ?_
    · intro lw2 y1 y2 c1 σ2 g0 g1 g2 f1 f2 f3 f4 hM2
      omega
    · intro lw2 y1 c1 c2 σ2 g0 g1 f1 f2 f3 f4 hM2
      have E2 := rd_E0 E1 hM2
      have H2 := hd_tr H1 hM2 (by decide +kernel)
      have en : c2.toInt = ((42 + k : Nat) : Int) := by omega
      have ec : c1.toInt = (q.1.2.2.2.2 : Nat) := by omega
      refine kr_iast G.1 rd_d_X12_line_214 (hM2.1 121 (.inr (.int, 62)) rfl) (hd_in en (by omega)) ?_
      rw [hd_clamp en]
      have H3 := rd_Mup H2 (i := 42 + k) (x := c1) (by omega) (fun lo' hi' u e => by have := rd_fit (rd_fit42 k (by omega)) lo' hi' u e; omega)
      have E3 := rd_Eup E2 (42 + k) c1
      refine sg_lne_run G hd_ctK (sx_M_self H3) g0 g1 ?_
      intro lw4 y4 σ4 h0 h1 f5 hM4
      have E4 := rd_E0 E3 hM4
      have H4 := hd_tr H3 hM4 (by decide +kernel)
      refine rd_nxc G (d := 20) (by decide) (sx_M_self hM4) E4.1 E4.2.1.2.2.1 rfl rd_d_X12_line_216 rd_k_X12_line_216 (by decide) ?_
      intro σ5 hM5 N5
      have X5 := rd_Xm E4.1 hM5 (by decide +kernel)
      have E5 := rd_En E4 hM5 (by decide +kernel) X5 N5
      have H5 := hd_tr H4 hM5 (by decide +kernel)
      rw [rd_ofNat ec] at E5
      refine sg_lnf_run G hd_ctK (sx_M_self hM5) h0 h1 (by omega) ?_
      intro lw6 y6 d1 d2 d3 σ6 i0 i1 f6 f7 f8 f9 hM6
      have E6 := rd_E0 E5 hM6
      have H6 := hd_tr H5 hM6 (by decide +kernel)
      refine rd_ptc G (d := 20) (by decide) (sx_M_self hM6) E6 (slot := 48 + k) (lo := 1) (hi := 9) (by omega) (rd_fit (rd_fit48 k (by omega))) rfl rd_d_X12_line_227 rd_k_X12_line_227 (by omega) (by omega) (by omega) (by decide) ?_ ?_
      · intro r σ7 kd at' p1 p2 p3 p4 p5
        refine sg_lngz_run G hd_ctK (sx_M_self p3) i0 (by omega) ?_
        intro r8 σ8 t6 hM8
        refine R.1 r8 σ8 kd at' (by unfold rd_lineT; rw [if_pos tk0, if_neg nf]; show rd_bd _ _ = _; rw [p1]; rfl) (by omega) (hd_tr (hd_tr (rd_KL H6) p3 (by decide +kernel)) hM8 (by decide +kernel)) ?_ ?_
        · rw [hM8.2.2.2.2.1 118 13 _ _ 372 rfl (sx_bit0 _)]; exact p4
        · rw [hM8.2.2.2.2.1 118 14 _ _ 373 rfl (sx_bit0 _)]; exact p5
      · intro r σ7 q2 p1 p2 p3 E7
        have H7 := hd_tr H6 p3 (by decide +kernel)
        have ew : σ7.2.1 121 1 = q.2.1 1 := by
          rw [E7.2.2.1 1 (by decide), rd_put1_h p1 (by omega)]
          exact rd_up_n _ _ (by omega)
        refine sg_lng_run G hd_ctK (sx_M_self p3) i0 (by rw [ew]; omega) (by omega) ?_
        intro r8 σ8 t6 t7 hM8
        rw [ew] at t7
        refine R.2 r8 σ8 (q2.1, rd_up q2.2.1 1 (Int32.ofNat (k + 1)), q2.2.2) (by unfold rd_lineT; rw [if_pos tk0, if_neg nf]; show rd_bd _ _ = _; rw [p1]; rfl) (by omega) (hd_tr H7 hM8 (by decide +kernel)) ?_
        exact rd_Em E7 hM8 (by decide +kernel) (by decide +kernel) (by decide +kernel) (by decide +kernel) (by decide +kernel) (by decide +kernel) (by decide +kernel) (fun k hk hne => rd_h_ne hM8 hk (rd_ne1 k hk hne)) (fun _ => rd_ofNat (by omega))
  | succ m ih =>
    intro j σ1 lw m1 m2 hm H1 E1 hf hl hl1 hl2 e1 e2
    have n12 := E1.2.1.2.2.2.1 (Or.inl t2)
    have n10 := E1.2.1.2.1
    refine sg_lna_run G hd_ctK (sx_M_self H1) hl hl1 (by omega) hl2 (by omega) ?_ ?_
    · intro lw2 y1 y2 c1 σ2 g0 g1 g2 f1 f2 f3 f4 hM2
      have E2 := rd_E0 E1 hM2
      have H2 := hd_tr H1 hM2 (by decide +kernel)
      have m12 := E2.2.1.2.2.2.1 (Or.inl t2)
      have m10 := E2.2.1.2.1
      have en : c1.toInt = ((42 + j : Nat) : Int) := by omega
      refine kr_iald G.1 rd_d_X12_line_182 (hM2.1 121 (.inr (.int, 62)) rfl) (hd_in en (by omega)) ?_
      rw [hd_clamp en]
      have ev : σ2.2.1 121 (42 + j) = q.2.1 (42 + j) := E2.2.2.1 (42 + j) (by omega)
      rw [ev]
      have fe : rd_fnd q.2.1 (Int32.ofNat q.1.2.2.2.2) (m + 1) j = (q.2.1 (42 + j) == Int32.ofNat q.1.2.2.2.2 || rd_fnd q.2.1 (Int32.ofNat q.1.2.2.2.2) m (j + 1)) := rfl
      have hne : (q.2.1 (42 + j)).toInt ≠ (q.1.2.2.2.2 : Nat) → rd_fnd q.2.1 (Int32.ofNat q.1.2.2.2.2) k 0 = rd_fnd q.2.1 (Int32.ofNat q.1.2.2.2.2) m (j + 1) := by
        intro h
        rw [hf, fe]
        have : (q.2.1 (42 + j) == Int32.ofNat q.1.2.2.2.2) = false := by
          rw [beq_eq_false_iff_ne]
          intro h2
          apply h
          rw [h2]
          exact hd_ti (by omega)
        rw [this, Bool.false_or]
      rcases Int.lt_trichotomy (q.2.1 (42 + j)).toInt (q.1.2.2.2.2 : Nat) with h | h | h
      · refine sg_lnb_run G hd_ctK (sx_M_self hM2) g0 g1 (by omega) g2 (by omega) (by have := Int32.toInt_lt (σ2.2.1 118 12); have := Int32.le_toInt (q.2.1 (42 + j)); omega) ?_
        intro lw3 y3 y4 σ3 i0 i1 i2 f5 f6 hM3
        exact ih (j + 1) σ3 lw3 y3 y4 (by omega) (hd_tr H2 hM3 (by decide +kernel)) (rd_E0 E2 hM3) (hne (by omega)) i0 i1 i2 (by omega) (by omega)
      · refine sg_lnd_run G hd_ctK (sx_M_self hM2) g0 (by omega) ?_
        intro r3 σ3 f5 f6 f7 hM3
        have fy : rd_fnd q.2.1 (Int32.ofNat q.1.2.2.2.2) k 0 = true := by
          rw [hf, fe, rd_ofNat h]
          simp
        exact R.1 r3 σ3 3 q.1.2.1 (by unfold rd_lineT; rw [if_pos tk0, if_pos fy]) (by omega) (hd_tr (rd_KL H2) hM3 (by decide +kernel)) (by show _ = (3 : Int); omega) (by omega)
      · refine sg_lnc_run G hd_ctK (sx_M_self hM2) g0 g1 (by omega) g2 (by omega) (by have := Int32.le_toInt (σ2.2.1 118 12); have := Int32.toInt_lt (q.2.1 (42 + j)); omega) ?_
        intro lw3 y3 y4 σ3 i0 i1 i2 f5 f6 hM3
        exact ih (j + 1) σ3 lw3 y3 y4 (by omega) (hd_tr H2 hM3 (by decide +kernel)) (rd_E0 E2 hM3) (hne (by omega)) i0 i1 i2 (by omega) (by omega)
    · intro lw2 y1 c1 c2 σ2 g0 g1 f1 f2 f3 f4 hM2
      omega
theorem rd_lnT (G : sx_G0 g L xs zK hd_T ex_mt) {σ : am_S} (hM : sx_M zK hd_T σ 0 0 σ) {b : Nat → Nat} {n most : Nat} {q : rd_Q} (E : rd_E σ b n most q) {lw : List (Nat × Value)} (hl : (0, Value.ref 118) ∈ lw) {n0 : Int32} (hn0 : n0.toInt = 1) {post : Option (Option Value) → am_S → Prop} (R : rd_R post σ b n most (if (q.2.1 1).toInt = 6 then .inl (4, q.1.2.1) else rd_lineT b n most (rd_nx b n most q) (q.2.1 1).toInt.toNat)) : am_K g 20 tX12_line.1 0 0 108 lw [.int n0] σ post := by
  have k0 : (0 : Int) ≤ (σ.2.1 121 1).toInt ∧ (σ.2.1 121 1).toInt ≤ (6 : Int) := hM.2.2.1 121 1 _ _ 431 rfl
  have e0 := E.2.2.1 1 (by decide)
  have n2 := E.2.1.2.1
  by_cases h10 : (q.2.1 1).toInt = 6
  · rw [if_pos h10] at R
    refine sg_ln8a_run G hd_ctK hM hl (by rw [e0]; omega) (by omega) ?_
    intro r σ' f1 f2 f3 hM'
    exact R.1 r σ' 4 q.1.2.1 rfl (by omega) (sx_M_mask (by decide +kernel) hM') (by show _ = (4 : Int); omega) (by omega)
  · rw [if_neg h10] at R
    rw [e0] at k0
    obtain ⟨w, hw⟩ : ∃ w : Nat, (q.2.1 1).toInt = w := ⟨(q.2.1 1).toInt.toNat, by omega⟩
    rw [hw, Int.toNat_natCast] at R
    refine sg_ln8b_run G hd_ctK hM hl (by rw [e0]; omega) (by omega) ?_
    intro lw1 y1 σ1 hl1 g1 f1 hM1
    rw [e0] at f1
    have E1 := rd_E0 E hM1
    have H1 : sx_M zK hd_T σ rd_mK 0 σ1 := sx_M_mask (by decide +kernel) hM1
    refine rd_nxc G (d := 20) (by decide) (sx_M_self hM1) E1.1 E1.2.1.2.2.1 rfl rd_d_X12_line_131 rd_k_X12_line_131 (by decide) ?_
    intro σ2 hM2 N2
    have X2 := rd_Xm E1.1 hM2 (by decide +kernel)
    have E2 : rd_E σ2 b n most (rd_nx b n most q) := rd_En E1 hM2 (by decide +kernel) X2 N2
    have H2 := hd_tr H1 hM2 (by decide +kernel)
    have m9 : (σ2.2.1 118 9).toInt ≤ (4 : Int) := (hM2.2.2.1 118 9 _ _ 368 rfl).2
    have m1 := E2.2.1.1
    have m2 := E2.2.1.2.1
    by_cases t2 : (rd_nx b n most q).1.1 = 2
    · have m12 := E2.2.1.2.2.2.1 (Or.inl t2)
      have bad : ¬ (1 ≤ (rd_nx b n most q).1.2.2.2.2 ∧ (rd_nx b n most q).1.2.2.2.2 ≤ 60) → rd_lineT b n most (rd_nx b n most q) w = .inl (2, (rd_nx b n most q).1.2.1) := by
        intro h
        have e : rd_tkf (rd_nx b n most q).1 1 60 = 2 := by unfold rd_tkf; rw [if_pos t2, if_neg h]
        unfold rd_lineT
        rw [e]
        rfl
      refine sg_ln9c_run G hd_ctK (sx_M_self hM2) hl1 g1 (by omega) ?_ ?_ ?_
      · intro r σ3 f2 f3 f4 f5 hM3
        exact R.1 r σ3 2 _ (bad (by omega)) (by omega) (hd_tr (rd_KL H2) hM3 (by decide +kernel)) (by show _ = (2 : Int); omega) (by omega)
      · intro r σ3 f2 f3 f4 f5 hM3
        exact R.1 r σ3 2 _ (bad (by omega)) (by omega) (hd_tr (rd_KL H2) hM3 (by decide +kernel)) (by show _ = (2 : Int); omega) (by omega)
      · intro lw3 y3 y4 σ3 i0 i1 i2 f2 f3 f4 hM3
        exact rd_lnT2 G (σ := σ) (q := rd_nx b n most q) (k := w) (by omega) t2 (by omega) hw R w 0 σ3 lw3 y3 y4 (by omega) (hd_tr H2 hM3 (by decide +kernel)) (rd_E0 E2 hM3) rfl i0 i1 i2 (by omega) (by omega)
    · have bad : rd_lineT b n most (rd_nx b n most q) w = .inl (1, (rd_nx b n most q).1.2.1) := by
        have e : rd_tkf (rd_nx b n most q).1 1 60 = 1 := by unfold rd_tkf; rw [if_neg t2]
        unfold rd_lineT
        rw [e]
        rfl
      by_cases t3 : (rd_nx b n most q).1.1 ≤ 1
      · refine sg_ln9a_run G hd_ctK (sx_M_self hM2) hl1 (by omega) ?_
        intro r σ3 f2 f3 f4 hM3
        exact R.1 r σ3 1 _ bad (by omega) (hd_tr (rd_KL H2) hM3 (by decide +kernel)) (by show _ = (1 : Int); omega) (by omega)
      · refine sg_ln9b_run G hd_ctK (sx_M_self hM2) hl1 (by omega) ?_
        intro r σ3 f2 f3 f4 hM3
        exact R.1 r σ3 1 _ bad (by omega) (hd_tr (rd_KL H2) hM3 (by decide +kernel)) (by show _ = (1 : Int); omega) (by omega)
theorem rd_Mup18 {σe σ : am_S} (hM : sx_M zK hd_T σe rd_mK 0 σ) (x : Int32) : sx_M zK hd_T σe rd_mK 0 (σ.1, am_up σ.2.1 118 18 x, σ.2.2.1, σ.2.2.2) := by
  refine sx_M_up rd_CsK hM (fun lo hi' u e => ?_) ⟨fun h => absurd (rfl : (zK.2.1 118).1 = 0) h, fun h => absurd (rfl : (zK.2.1 118).2.1 = 0) h⟩ (fun _ h => h) (fun _ h => h) (fun c hc => absurd hc List.not_mem_nil) (fun c hc => absurd hc List.not_mem_nil)
  have e2 : sx_atl (z9.1 118) 18 = some (.negSucc 2147483647, .ofNat 2147483647, 377) := by decide +kernel
  have e3 : sx_atl (z9.1 118) 18 = some (lo, hi', u) := e
  rw [e2] at e3
  cases e3
  have a1 := Int32.le_toInt x
  have a2 := Int32.toInt_lt x
  exact ⟨by show (-2147483648 : Int) ≤ _; omega, by show _ ≤ (2147483647 : Int); omega, by decide +kernel⟩
theorem rd_E18 {σ : am_S} {b : Nat → Nat} {n most : Nat} {q : rd_Q} (E : rd_E σ b n most q) (x : Int32) : rd_E (σ.1, am_up σ.2.1 118 18 x, σ.2.2.1, σ.2.2.2) b n most (q.1, q.2.1, x) := by
  have n8 : ∀ k, k ≠ 18 → am_up σ.2.1 118 18 x 118 k = σ.2.1 118 k := fun k hk => am_up_n _ _ (fun h => hk h.2)
  have n9 : ∀ k, am_up σ.2.1 118 18 x 119 k = σ.2.1 119 k := fun k => am_up_n _ _ (fun h => by omega)
  have n1 : ∀ k, am_up σ.2.1 118 18 x 121 k = σ.2.1 121 k := fun k => am_up_n _ _ (fun h => by omega)
  refine ⟨⟨fun k hk => ?_, ?_, ?_, E.1.2.2.2⟩, ?_, fun k hk => ?_, ?_⟩
  · rw [← E.1.1 k hk]
    unfold rd_by
    show (am_up σ.2.1 118 18 x 119 k &&& 255).toInt.toNat = _
    rw [n9]
  · exact (n8 3 (by decide)).trans E.1.2.1
  · exact (n8 5 (by decide)).trans E.1.2.2.1
  · have N := E.2.1
    unfold rd_N at N ⊢
    show (am_up σ.2.1 118 18 x 118 9).toInt = _ ∧ (am_up σ.2.1 118 18 x 118 10).toInt = _ ∧ (am_up σ.2.1 118 18 x 118 4).toInt = _ ∧ (_ → (am_up σ.2.1 118 18 x 118 12).toInt = _) ∧ _
    rw [n8 9 (by decide), n8 10 (by decide), n8 4 (by decide), n8 12 (by decide)]
    exact N
  · exact (n1 k).trans (E.2.2.1 k hk)
  · show am_up σ.2.1 118 18 x 118 18 = x
    exact am_up_s _ _ _ _
theorem rd_wh_in (b : Nat → Nat) (t : rd_K) : rd_wh b t = -1 ∨ (0 ≤ rd_wh b t ∧ rd_wh b t ≤ 7) := by
  unfold rd_wh
  split
  · omega
  split
  · omega
  split
  · omega
  split
  · omega
  split
  · omega
  split
  · omega
  split
  · omega
  split <;> omega
theorem rd_lnS (G : sx_G0 g L xs zK hd_T ex_mt) {σ : am_S} (hM : sx_M zK hd_T σ 0 0 σ) {b : Nat → Nat} (hb : ∀ k, b k ≤ 255) {n most : Nat} {q : rd_Q} (hq : rd_wok b q.1) (E : rd_E σ b n most q) {lw : List (Nat × Value)} (hl : (0, Value.ref 118) ∈ lw) {post : Option (Option Value) → am_S → Prop} (R : rd_R post σ b n most (if rd_wh b q.1 = -1 then .inl (1, q.1.2.1) else rd_lineS b n most q (rd_wh b q.1).toNat)) : am_K g 20 tX12_line.1 0 0 248 lw [.ref 118] σ post := by
  have n2 := E.2.1.2.1
  refine rd_whc G (d := 20) (by decide) hM hb E.2.1 hq rfl rd_d_X12_line_248 rd_k_X12_line_248 (by decide) ?_
  intro r hr
  rcases rd_wh_in b q.1 with hw | hw
  · rw [if_pos hw] at R
    refine sg_lnh_run G hd_ctK hM hl (by omega) ?_
    intro r1 σ1 f1 f2 f3 hM1
    exact R.1 r1 σ1 1 _ rfl (by omega) (sx_M_mask (by decide +kernel) hM1) (by show _ = (1 : Int); omega) (by omega)
  · rw [if_neg (by omega)] at R
    obtain ⟨k, hk⟩ : ∃ k : Nat, rd_wh b q.1 = k := ⟨(rd_wh b q.1).toNat, by omega⟩
    rw [hk, Int.toNat_natCast] at R
    refine sg_lni_run G hd_ctK hM hl (by omega) ?_
    intro lw1 y1 c1 c2 σ1 hl1 g1 f1 f2 f3 hM1
    have E1 := rd_E0 E hM1
    have H1 : sx_M zK hd_T σ rd_mK 0 σ1 := sx_M_mask (by decide +kernel) hM1
    have ec1 : c1 = Int32.ofNat k := rd_ofNat (by omega)
    have ec2 : c2 = q.2.2 := by rw [← E.2.2.2]; exact Int32.toInt_inj.mp (by omega)
    have ey1 : y1.toInt = k := by omega
    subst ec1
    subst ec2
    have m10 := E1.2.1.2.1
    refine rd_bitc G (d := 20) (by decide) rfl rd_d_X12_line_267 rd_k_X12_line_267 (by decide) ?_
    intro r2 h2
    by_cases hbit : rd_bit q.2.2 (Int32.ofNat k) = true
    · rw [if_pos hbit] at h2
      refine sg_lnj_run G hd_ctK (sx_M_self hM1) hl1 (by omega) ?_
      intro r3 σ3 f5 f6 f7 hM3
      exact R.1 r3 σ3 3 _ (by unfold rd_lineS; rw [if_pos hbit]) (by omega) (hd_tr (rd_KL H1) hM3 (by decide +kernel)) (by show _ = (3 : Int); omega) (by omega)
    · rw [if_neg hbit] at h2
      refine sg_lnk_run G hd_ctK (sx_M_self hM1) hl1 g1 (by omega) ?_
      intro lw3 y3 c3 c4 c5 σ3 hl3 g3 f5 f6 f7 f8 hM3
      have E3 := rd_E0 E1 hM3
      have H3 := hd_tr H1 hM3 (by decide +kernel)
      have ec3 : c3 = Int32.ofNat k := rd_ofNat (by omega)
      have ec4 : c4 = 1 := Int32.toInt_inj.mp (by have : (1 : Int32).toInt = 1 := rfl; omega)
      have ec5 : c5 = q.2.2 := by rw [← E1.2.2.2]; exact Int32.toInt_inj.mp (by omega)
      subst ec3
      subst ec4
      subst ec5
      refine kr_ishl rd_d_X12_line_286 ?_
      refine kr_ior rd_d_X12_line_287 ?_
      have hty := (rd_FPi rd_k_X12_line_288).2
      refine kr_putI G.1 (rd_FPi rd_k_X12_line_288).1 rd_d_X12_line_288 (hM3.1 118 (.inl 12) rfl) (by rw [hty]; rfl) (by rw [hty]; rfl) (by rw [hty]; rfl) ?_
      have H4 := rd_Mup18 H3 (q.2.2 ||| ((1 : Int32) <<< (Int32.ofNat k &&& 31)))
      have E4 := rd_E18 E3 (q.2.2 ||| ((1 : Int32) <<< (Int32.ofNat k &&& 31)))
      refine sg_lnl_run G hd_ctK (sx_M_self H4) hl3 g3 ?_
      intro lw5 y5 σ5 hl5 g5 f9 hM5
      have E5 := rd_E0 E4 hM5
      have H5 := hd_tr H4 hM5 (by decide +kernel)
      refine rd_nxc G (d := 20) (by decide) (sx_M_self hM5) E5.1 E5.2.1.2.2.1 rfl rd_d_X12_line_292 rd_k_X12_line_292 (by decide) ?_
      intro σ6 hM6 N6
      have X6 := rd_Xm E5.1 hM6 (by decide +kernel)
      have E6 := rd_En E5 hM6 (by decide +kernel) X6 N6
      have H6 := hd_tr H5 hM6 (by decide +kernel)
      have fin : ∀ (lw7 : List (Nat × Value)) (a1 a2 a3 : Int32) (σ7 : am_S), (0, Value.ref 118) ∈ lw7 → a1.toInt = (rd_most k : Nat) → a2.toInt = (rd_least k : Nat) → a3.toInt = ((54 + k : Nat) : Int) → sx_M zK hd_T σ6 0 0 σ7 → am_K g 20 tX12_line.1 0 0 313 lw7 [.int a1, .int a2, .int a3, .ref 118] σ7 post := by
        intro lw7 a1 a2 a3 σ7 hl7 i1 i2 i3 hM7
        have H7 := hd_tr H6 hM7 (by decide +kernel)
        refine rd_ptc G (d := 20) (by decide) (sx_M_self hM7) (rd_E0 E6 hM7) (slot := 54 + k) (lo := rd_least k) (hi := rd_most k) (by omega) (rd_fit (rd_fit54 k (by omega))) rfl rd_d_X12_line_313 rd_k_X12_line_313 i3 i2 i1 (by decide) ?_ ?_
        · intro r8 σ8 kd at' p1 p2 p3 p4 p5
          refine sg_lnn_run G hd_ctK (sx_M_self p3) hl7 (by omega) ?_
          intro r9 σ9 j1 hM9
          refine R.1 r9 σ9 kd at' (by unfold rd_lineS; rw [if_neg hbit]; exact p1) (by omega) (hd_tr (hd_tr (rd_KL H7) p3 (by decide +kernel)) hM9 (by decide +kernel)) ?_ ?_
          · rw [hM9.2.2.2.2.1 118 13 _ _ 372 rfl (sx_bit0 _)]; exact p4
          · rw [hM9.2.2.2.2.1 118 14 _ _ 373 rfl (sx_bit0 _)]; exact p5
        · intro r8 σ8 q' p1 p2 p3 E8
          refine sg_lnn_run G hd_ctK (sx_M_self p3) hl7 (by omega) ?_
          intro r9 σ9 j1 hM9
          exact R.2 r9 σ9 q' (by unfold rd_lineS; rw [if_neg hbit]; exact p1) (by omega) (hd_tr (hd_tr H7 p3 (by decide +kernel)) hM9 (by decide +kernel)) (rd_E0 E8 hM9)
      have k8 : k = 0 ∨ k = 1 ∨ k = 2 ∨ k = 3 ∨ k = 4 ∨ k = 5 ∨ k = 6 ∨ k = 7 := by omega
      rcases k8 with h | h | h | h | h | h | h | h
      · refine sg_lnm0_run G hd_ctK (sx_M_self hM6) hl5 g5 (by omega) ?_
        intro lw7 a1 a2 a3 σ7 hl7 i1 i2 i3 hM7
        subst h
        exact fin lw7 a1 a2 a3 σ7 hl7 (by show _ = (5 : Int); omega) (by show _ = (1 : Int); omega) (by omega) hM7
      · refine sg_lnm1_run G hd_ctK (sx_M_self hM6) hl5 g5 (by omega) ?_
        intro lw7 a1 a2 a3 σ7 hl7 i1 i2 i3 hM7
        subst h
        exact fin lw7 a1 a2 a3 σ7 hl7 (by show _ = (24 : Int); omega) (by show _ = (0 : Int); omega) (by omega) hM7
      · refine sg_lnm2_run G hd_ctK (sx_M_self hM6) hl5 g5 (by omega) ?_
        intro lw7 a1 a2 a3 σ7 hl7 i1 i2 i3 hM7
        subst h
        exact fin lw7 a1 a2 a3 σ7 hl7 (by show _ = (12 : Int); omega) (by show _ = (0 : Int); omega) (by omega) hM7
      · refine sg_lnm3_run G hd_ctK (sx_M_self hM6) hl5 g5 (by omega) ?_
        intro lw7 a1 a2 a3 σ7 hl7 i1 i2 i3 hM7
        subst h
        exact fin lw7 a1 a2 a3 σ7 hl7 (by show _ = (12 : Int); omega) (by show _ = (0 : Int); omega) (by omega) hM7
      · refine sg_lnm4_run G hd_ctK (sx_M_self hM6) hl5 g5 (by omega) ?_
        intro lw7 a1 a2 a3 σ7 hl7 i1 i2 i3 hM7
        subst h
        exact fin lw7 a1 a2 a3 σ7 hl7 (by show _ = (30 : Int); omega) (by show _ = (0 : Int); omega) (by omega) hM7
      · refine sg_lnm5_run G hd_ctK (sx_M_self hM6) hl5 g5 (by omega) ?_
        intro lw7 a1 a2 a3 σ7 hl7 i1 i2 i3 hM7
        subst h
        exact fin lw7 a1 a2 a3 σ7 hl7 (by show _ = (11 : Int); omega) (by show _ = (0 : Int); omega) (by omega) hM7
      · refine sg_lnm6_run G hd_ctK (sx_M_self hM6) hl5 g5 (by omega) ?_
        intro lw7 a1 a2 a3 σ7 hl7 i1 i2 i3 hM7
        subst h
        exact fin lw7 a1 a2 a3 σ7 hl7 (by show _ = (12 : Int); omega) (by show _ = (0 : Int); omega) (by omega) hM7
      · refine sg_lnm7_run G hd_ctK (sx_M_self hM6) hl5 g5 (by omega) ?_
        intro lw7 a1 a2 a3 σ7 hl7 i1 i2 i3 hM7
        subst h
        exact fin lw7 a1 a2 a3 σ7 hl7 (by show _ = (99 : Int); omega) (by show _ = (0 : Int); omega) (by omega) hM7
/-- a line -/
theorem rd_lineK (G : sx_G0 g L xs zK hd_T ex_mt) {σ : am_S} (hM : sx_M zK hd_T σ 0 0 σ) {b : Nat → Nat} (hb : ∀ k, b k ≤ 255) {n most : Nat} {q : rd_Q} (hq : rd_wok b q.1) (E : rd_E σ b n most q) {lw : List (Nat × Value)} (hl : (0, Value.ref 118) ∈ lw) {post : Option (Option Value) → am_S → Prop} (R : rd_R post σ b n most (rd_line b n most q)) : am_K g 20 tX12_line.1 0 0 0 lw [] σ post := by
  obtain ⟨i0, hi0⟩ := List.getElem?_of_mem hl
  refine kr_aload_n i0 rd_d_X12_line_0 hi0 ?_
  refine kr_ldc2 G.1 rd_d_X12_line_1 (rd_c2 rd_k_X12_line_1) ?_
  refine rd_iwc G (d := 20) (by decide) hM hb E.2.1 hq 8 (by decide +kernel) (by decide +kernel) rfl rd_d_X12_line_4 rd_k_X12_line_4 (by decide) ?_
  intro r0 e0
  unfold rd_line at R
  by_cases w8 : rd_isk b 8 q.1 = true
  · rw [if_pos w8] at R e0
    exact rd_lnW G hM E hl e0 R
  · rw [if_neg w8] at R e0
    refine sg_ln2c_run G hd_ctK hM hl (by omega) ?_
    intro lw1 σ1 hl1 hM1
    have E1 := rd_E0 E hM1
    have H1 : sx_M zK hd_T σ rd_mK 0 σ1 := sx_M_mask (by decide +kernel) hM1
    obtain ⟨i1, hi1⟩ := List.getElem?_of_mem hl1
    refine kr_aload_n i1 rd_d_X12_line_101 hi1 ?_
    refine kr_ldc2 G.1 rd_d_X12_line_102 (rd_c2 rd_k_X12_line_102) ?_
    refine rd_iwc G (d := 20) (by decide) (sx_M_self hM1) hb E1.2.1 hq 9 (by decide +kernel) (by decide +kernel) rfl rd_d_X12_line_105 rd_k_X12_line_105 (by decide) ?_
    intro r1 e1
    by_cases w9 : rd_isk b 9 q.1 = true
    · rw [if_pos w9] at R e1
      exact rd_lnT G (sx_M_self hM1) E1 hl1 e1 (rd_Rm R H1)
    · rw [if_neg w9] at R e1
      refine sg_ln8c_run G hd_ctK (sx_M_self hM1) hl1 (by omega) ?_
      intro lw2 σ2 hl2 hM2
      exact rd_lnS G (sx_M_self hM2) hb hq (rd_E0 E1 hM2) hl2 (rd_Rm R (hd_tr H1 hM2 (by decide +kernel)))
end RM
