/-! the reader of the class: windows, stands, settings; a line -/
def rc_c (w s : Nat) : Nat → Nat := fun r => if r < 4 then w else if r < 6 then s else 8
theorem rc_Ec {σ : am_S} {b : Nat → Nat} {n most : Nat} {q : rd_Q} {c c' : Nat → Nat} (E : rc_E σ b n most q c) (h : ∀ r, r < 7 → c' r = c r) : rc_E σ b n most q c' :=
  ⟨E.1, E.2.1, ⟨E.2.2.1.1, E.2.2.1.2.1, E.2.2.1.2.2.1, fun r hr => by rw [h r hr]; exact E.2.2.1.2.2.2 r hr⟩, E.2.2.2⟩
def rc_E2 (σ : am_S) (b : Nat → Nat) (n most : Nat) (q : rd_Q) : Prop := rc_E σ b n most q (rc_c (q.2.1 0).toInt.toNat (q.2.1 1).toInt.toNat)
def rc_R2 (K : Int32 → am_S → Prop) (σ : am_S) (b : Nat → Nat) (n most : Nat) (x : (Nat × Nat) ⊕ rd_Q) : Prop :=
  (∀ (r : Int32) (σ' : am_S) (kd at' : Nat), x = .inl (kd, at') → r.toInt = 0 → sx_M z9 hd_C σ rc_mL 0 σ' → (σ'.2.1 3 7).toInt = kd → (σ'.2.1 3 8).toInt = at' → K r σ') ∧
  (∀ (r : Int32) (σ' : am_S) (q' : rd_Q), x = .inr q' → r.toInt = 1 → sx_M z9 hd_C σ rc_mK 0 σ' → rc_E2 σ' b n most q' → K r σ')
theorem rc_R2m {K : Int32 → am_S → Prop} {σ σ1 : am_S} {b : Nat → Nat} {n most : Nat} {x : (Nat × Nat) ⊕ rd_Q} (R : rc_R2 K σ b n most x) (h : sx_M z9 hd_C σ rc_mK 0 σ1) : rc_R2 K σ1 b n most x :=
  ⟨fun r σ' kd at' a1 a2 a3 a4 a5 => R.1 r σ' kd at' a1 a2 (hd_tr (rc_KL h) a3 (by decide +kernel)) a4 a5, fun r σ' q' a1 a2 a3 a4 => R.2 r σ' q' a1 a2 (hd_tr h a3 (by decide +kernel)) a4⟩
theorem rc_fit {R k lo hi : Nat} (h : (match sx_atl (z9.1 R) k with | some (l, t, _) => decide (l ≤ (lo : Int)) && decide ((hi : Int) ≤ t) | none => false) = true) : ∀ lo' hi' u, sx_atl (z9.1 R) k = some (lo', hi', u) → lo' ≤ (lo : Int) ∧ (hi : Int) ≤ hi' := by
  intro lo' hi' u e
  rw [e] at h
  simpa using h
theorem rc_fit13 : ∀ k, k < 10 → (match sx_atl (z9.1 13) k with | some (l, t, _) => decide (l ≤ ((1 : Nat) : Int)) && decide (((99 : Nat) : Int) ≤ t) | none => false) = true := by decide +kernel
theorem rc_fit14 : ∀ k, k < 10 → (match sx_atl (z9.1 14) k with | some (l, t, _) => decide (l ≤ ((1 : Nat) : Int)) && decide (((9 : Nat) : Int) ≤ t) | none => false) = true := by decide +kernel
theorem rc_fit15 : ∀ k, k < 10 → (match sx_atl (z9.1 15) k with | some (l, t, _) => decide (l ≤ ((0 : Nat) : Int)) && decide (((3 : Nat) : Int) ≤ t) | none => false) = true := by decide +kernel
theorem rc_fit16 : ∀ k, k < 10 → (match sx_atl (z9.1 16) k with | some (l, t, _) => decide (l ≤ ((0 : Nat) : Int)) && decide (((99 : Nat) : Int) ≤ t) | none => false) = true := by decide +kernel
theorem rc_fit17 : ∀ k, k < 6 → (match sx_atl (z9.1 17) k with | some (l, t, _) => decide (l ≤ ((1 : Nat) : Int)) && decide (((60 : Nat) : Int) ≤ t) | none => false) = true := by decide +kernel
theorem rc_fit18 : ∀ k, k < 6 → (match sx_atl (z9.1 18) k with | some (l, t, _) => decide (l ≤ ((1 : Nat) : Int)) && decide (((9 : Nat) : Int) ≤ t) | none => false) = true := by decide +kernel
theorem rc_fit19 : ∀ k, k < 8 → (match sx_atl (z9.1 19) k with | some (l, t, _) => decide (l ≤ ((rd_least k : Nat) : Int)) && decide (((rd_most k : Nat) : Int) ≤ t) | none => false) = true := by decide +kernel
/-- one count more -/
theorem rc_Ecnt {σ σ' : am_S} {b : Nat → Nat} {n most : Nat} {q : rd_Q} {c : Nat → Nat} {m j v : Nat} (E : rc_E σ b n most q c) (h : sx_M z9 hd_C σ m 0 σ') (hj : (j = 0 ∧ m = Nat.shiftLeft 1 54) ∨ (j = 1 ∧ m = Nat.shiftLeft 1 55)) (hv : (σ'.2.1 12 (7 + j)).toInt = v) (hv9 : v < 2 ^ 31) : rc_E σ' b n most (q.1, rd_up q.2.1 j (Int32.ofNat v), q.2.2) c := by
  have fr : ∀ u, u ∈ [18, 19, 21, 22, 23, 24, 25, 26, 57] → sx_bit m u = false := by
    rcases hj with ⟨-, rfl⟩ | ⟨-, rfl⟩
    · decide +kernel
    · decide +kernel
  have frr : ∀ r, r < 7 → sx_bit m (58 + r) = false := by
    rcases hj with ⟨-, rfl⟩ | ⟨-, rfl⟩
    · decide +kernel
    · decide +kernel
  refine ⟨rc_Xm E.1 h (fr 18 (by decide)) (fr 19 (by decide)) (fr 21 (by decide)), rc_N0 E.2.1 h (fr 22 (by decide)) (fr 23 (by decide)) (fr 24 (by decide)) (fr 25 (by decide)) (fr 26 (by decide)), ⟨?_, ?_, ?_, fun r hr => ⟨(E.2.2.1.2.2.2 r hr).1, fun k hk => ?_⟩⟩, E.2.2.2⟩
  · show (σ'.2.1 12 7).toInt = (rd_up q.2.1 j (Int32.ofNat v) 0).toInt
    rcases hj with ⟨rfl, rfl⟩ | ⟨rfl, rfl⟩
    · rw [rd_up_s, hd_ti hv9]
      exact hv
    · rw [rd_up_n _ _ (by decide), h.2.2.2.2.1 12 7 _ _ 54 rfl (by decide +kernel)]
      exact E.2.2.1.1
  · show (σ'.2.1 12 8).toInt = (rd_up q.2.1 j (Int32.ofNat v) 1).toInt
    rcases hj with ⟨rfl, rfl⟩ | ⟨rfl, rfl⟩
    · rw [rd_up_n _ _ (by decide), h.2.2.2.2.1 12 8 _ _ 55 rfl (by decide +kernel)]
      exact E.2.2.1.2.1
    · rw [rd_up_s, hd_ti hv9]
      exact hv
  · rw [h.2.2.2.2.1 12 10 _ _ 57 rfl (fr 57 (by decide))]
    exact E.2.2.1.2.2.1
  · obtain ⟨lo, hi, e⟩ := rc_u13 hr (Nat.lt_of_lt_of_le hk (E.2.2.1.2.2.2 r hr).1)
    have b2 := (rc_bs_in r hr).1
    rw [h.2.2.2.2.1 (13 + r) k lo hi _ e (frr r hr)]
    show σ.2.1 (13 + r) k = rd_up q.2.1 j (Int32.ofNat v) (rc_bs r + k)
    rw [rd_up_n _ _ (by rcases hj with h | h <;> omega)]
    exact (E.2.2.1.2.2.2 r hr).2 k hk
section CK
variable {g : am_C} {L : Nat} {xs : Nat → Int32}
theorem rc_window (G : sx_G0 g L xs z9 hd_C ex_mt) (hct : rc_ct g) {σ : am_S} (hM : sx_M z9 hd_C σ 0 0 σ) {b : Nat → Nat} {n most : Nat} {q : rd_Q} (E : rc_E2 σ b n most q) (t1 : q.1.1 = 1) {lw : List (Nat × Value)} (hl : (0, Value.ref 12) ∈ lw) (hl1 : (1, Value.ref 3) ∈ lw) {post : Option (Option Value) → am_S → Prop} (R : rc_R2 (fun r σ' => post (some (some (.int r))) σ') σ b n most (if (q.2.1 0).toInt = 10 then .inl (4, q.1.2.1) else rd_lineW b n most q (q.2.1 0).toInt.toNat)) : am_K g 30 tX9_readWindow.1 0 0 0 lw [] σ post := by
  have k0 : (0 : Int) ≤ (σ.2.1 12 7).toInt ∧ (σ.2.1 12 7).toInt ≤ (10 : Int) := hM.2.2.1 12 7 _ _ 54 rfl
  have k1 : (0 : Int) ≤ (σ.2.1 12 8).toInt ∧ (σ.2.1 12 8).toInt ≤ (6 : Int) := hM.2.2.1 12 8 _ _ 55 rfl
  have e0 := E.2.2.1.1
  have e1 := E.2.2.1.2.1
  have n2 := E.2.1.2.1
  by_cases h10 : (q.2.1 0).toInt = 10
  · rw [if_pos h10] at R
    refine sg_rw1a_run G hct hM hl hl1 (by omega) ?_
    intro r σ' f1 f2 f3 hM'
    exact R.1 r σ' 4 q.1.2.1 rfl (by omega) (sx_M_mask (by decide +kernel) hM') (by show _ = (4 : Int); omega) (by omega)
  · rw [if_neg h10] at R
    obtain ⟨w, hw⟩ : ∃ w : Nat, (q.2.1 0).toInt = w := ⟨(q.2.1 0).toInt.toNat, by omega⟩
    obtain ⟨s, hs⟩ : ∃ s : Nat, (q.2.1 1).toInt = s := ⟨(q.2.1 1).toInt.toNat, by omega⟩
    unfold rc_E2 at E
    rw [hw, hs, Int.toNat_natCast, Int.toNat_natCast] at E
    rw [hw, Int.toNat_natCast] at R
    refine sg_rw1b_run G hct hM hl hl1 (by omega) ?_
    intro lw1 σ1 p0 p1 hM1
    have E1 := rc_E0 E hM1
    have H1 : sx_M z9 hd_C σ rc_mK 0 σ1 := sx_M_mask (by decide +kernel) hM1
    refine rc_stc G hct (d := 30) (by decide) (sx_M_self hM1) E1.1 (E1.2.1.2.2.1 (Or.inl t1)) rfl rd_d_X9_readWindow_16 rd_k_X9_readWindow_16 (by decide) ?_
    intro σ2 hM2 N2
    have E2 : rc_E σ2 b n most (rd_nx b n most q) (rc_c w s) := rc_En E1 hM2 N2
    have H2 := hd_tr H1 hM2 (by decide +kernel)
    have w2 : (σ2.2.1 12 7).toInt = w := E2.2.2.1.1.trans hw
    refine sg_rw2_run G hct (sx_M_self hM2) p0 p1 ?_
    intro lw3 c1 c2 c3 σ3 q0 q1 f1 f2 f3 hM3
    have E3 := rc_E0 E2 hM3
    have H3 := hd_tr H2 hM3 (by decide +kernel)
    refine rc_intoc13 G hct (d := 30) (by decide) (sx_M_self hM3) E3 (k := w) (lo := 1) (hi := 99) (by omega) (Nat.le_refl _) (rc_fit (rc_fit13 w (by omega))) (by omega) (by omega) (by omega) rfl rd_d_X9_readWindow_31 rd_k_X9_readWindow_31 ⟨?_, ?_⟩
    · intro r σ4 kd at' a1 a2 a3 a4 a5
      refine sg_rw3z_run G hct (sx_M_self a3) q0 q1 (by omega) ?_
      intro r5 σ5 f6 hM5
      have f78 := rc_F78 hM5
      exact R.1 r5 σ5 kd at' (by unfold rd_lineW; rw [a1]; rfl) (by omega) (hd_tr (hd_tr (rc_KL H3) a3 (by decide +kernel)) hM5 (by decide +kernel)) (by rw [f78.1]; exact a4) (by rw [f78.2]; exact a5)
    intro r4 σ4 q4 a1 a2 a3 E4
    have H4 := hd_tr H3 a3 (by decide +kernel)
    have hw4 : (q4.2.1 0).toInt = w := by rw [rd_put1_h a1 (by omega)]; exact hw
    have w4 : (σ4.2.1 12 7).toInt = w := E4.2.2.1.1.trans hw4
    refine sg_rw3_run G hct (sx_M_self a3) q0 q1 (by omega) ?_
    intro lw5 c4 c5 c6 σ5 u0 u1 f4 f5 f6 hM5
    have E5 := rc_E0 E4 hM5
    have H5 := hd_tr H4 hM5 (by decide +kernel)
    refine rc_intoc14 G hct (d := 30) (by decide) (sx_M_self hM5) E5 (k := w) (lo := 1) (hi := 9) (by omega) (Nat.le_refl _) (rc_fit (rc_fit14 w (by omega))) (by omega) (by omega) (by omega) rfl rd_d_X9_readWindow_49 rd_k_X9_readWindow_49 ⟨?_, ?_⟩
    · intro r σ6 kd at' b1 b2 b3 b4 b5
      refine sg_rw4z_run G hct (sx_M_self b3) u0 u1 (by omega) ?_
      intro r7 σ7 f7 hM7
      have f78 := rc_F78 hM7
      exact R.1 r7 σ7 kd at' (by unfold rd_lineW; rw [a1]; show rd_bd (rd_put1 b n most q4 (12 + w) 1 9) _ = _; rw [b1]; rfl) (by omega) (hd_tr (hd_tr (rc_KL H5) b3 (by decide +kernel)) hM7 (by decide +kernel)) (by rw [f78.1]; exact b4) (by rw [f78.2]; exact b5)
    intro r6 σ6 q6 b1 b2 b3 E6
    have H6 := hd_tr H5 b3 (by decide +kernel)
    have hw6 : (q6.2.1 0).toInt = w := by rw [rd_put1_h b1 (by omega)]; exact hw4
    have w6 : (σ6.2.1 12 7).toInt = w := E6.2.2.1.1.trans hw6
    refine sg_rw4_run G hct (sx_M_self b3) u0 u1 (by omega) ?_
    intro lw7 c7 c8 c9 σ7 v0 v1 f7 f8 f9 hM7
    have E7 := rc_E0 E6 hM7
    have H7 := hd_tr H6 hM7 (by decide +kernel)
    refine rc_intoc15 G hct (d := 30) (by decide) (sx_M_self hM7) E7 (k := w) (lo := 0) (hi := 3) (by omega) (Nat.le_refl _) (rc_fit (rc_fit15 w (by omega))) (by omega) (by omega) (by omega) rfl rd_d_X9_readWindow_66 rd_k_X9_readWindow_66 ⟨?_, ?_⟩
    · intro r σ8 kd at' d1 d2 d3 d4 d5
      refine sg_rw5z_run G hct (sx_M_self d3) v0 v1 (by omega) ?_
      intro r9 σ9 fa hM9
      have f78 := rc_F78 hM9
      exact R.1 r9 σ9 kd at' (by unfold rd_lineW; rw [a1]; show rd_bd (rd_put1 b n most q4 (12 + w) 1 9) _ = _; rw [b1]; show rd_bd (rd_put1 b n most q6 (22 + w) 0 3) _ = _; rw [d1]; rfl) (by omega) (hd_tr (hd_tr (rc_KL H7) d3 (by decide +kernel)) hM9 (by decide +kernel)) (by rw [f78.1]; exact d4) (by rw [f78.2]; exact d5)
    intro r8 σ8 q8 d1 d2 d3 E8
    have H8 := hd_tr H7 d3 (by decide +kernel)
    have hw8 : (q8.2.1 0).toInt = w := by rw [rd_put1_h d1 (by omega)]; exact hw6
    have w8 : (σ8.2.1 12 7).toInt = w := E8.2.2.1.1.trans hw8
    refine sg_rw5_run G hct (sx_M_self d3) v0 v1 (by omega) ?_
    intro lw9 ca cb cc σ9 x0 x1 fa fb fc hM9
    have E9 := rc_E0 E8 hM9
    have H9 := hd_tr H8 hM9 (by decide +kernel)
    refine rc_intoc16 G hct (d := 30) (by decide) (sx_M_self hM9) E9 (k := w) (lo := 0) (hi := 99) (by omega) (Nat.le_refl _) (rc_fit (rc_fit16 w (by omega))) (by omega) (by omega) (by omega) rfl rd_d_X9_readWindow_84 rd_k_X9_readWindow_84 ⟨?_, ?_⟩
    · intro r σa kd at' g1 g2 g3 g4 g5
      refine sg_rw6z_run G hct (sx_M_self g3) x0 x1 (by omega) ?_
      intro rb σb fd hMb
      have f78 := rc_F78 hMb
      exact R.1 rb σb kd at' (by unfold rd_lineW; rw [a1]; show rd_bd (rd_put1 b n most q4 (12 + w) 1 9) _ = _; rw [b1]; show rd_bd (rd_put1 b n most q6 (22 + w) 0 3) _ = _; rw [d1]; show rd_bd (rd_put1 b n most q8 (32 + w) 0 99) _ = _; rw [g1]; rfl) (by omega) (hd_tr (hd_tr (rc_KL H9) g3 (by decide +kernel)) hMb (by decide +kernel)) (by rw [f78.1]; exact g4) (by rw [f78.2]; exact g5)
    intro ra σa qa g1 g2 g3 Ea
    have Ha := hd_tr H9 g3 (by decide +kernel)
    have hwa : (qa.2.1 0).toInt = w := by rw [rd_put1_h g1 (by omega)]; exact hw8
    have hsa : qa.2.1 1 = q.2.1 1 := by
      rw [rd_put1_h g1 (by omega), rd_put1_h d1 (by omega), rd_put1_h b1 (by omega), rd_put1_h a1 (by omega)]
      rfl
    have wa : (σa.2.1 12 7).toInt = w := Ea.2.2.1.1.trans hwa
    refine sg_rw6_run G hct (sx_M_self g3) x0 x1 (by omega) (by omega) ?_
    intro rb σb fd fe hMb
    refine R.2 rb σb (qa.1, rd_up qa.2.1 0 (Int32.ofNat (w + 1)), qa.2.2) (by unfold rd_lineW; rw [a1]; show rd_bd (rd_put1 b n most q4 (12 + w) 1 9) _ = _; rw [b1]; show rd_bd (rd_put1 b n most q6 (22 + w) 0 3) _ = _; rw [d1]; show rd_bd (rd_put1 b n most q8 (32 + w) 0 99) _ = _; rw [g1]; rfl) (by omega) (hd_tr Ha hMb (by decide +kernel)) ?_
    have Eb := rc_Ecnt Ea hMb (Or.inl ⟨rfl, rfl⟩) (v := w + 1) (by show (σb.2.1 12 7).toInt = _; omega) (by omega)
    unfold rc_E2
    refine rc_Ec Eb (fun r hr => ?_)
    have z1 : ((rd_up qa.2.1 0 (Int32.ofNat (w + 1)) 0).toInt.toNat) = w + 1 := by rw [rd_up_s, hd_ti (by omega), Int.toNat_natCast]
    have z2 : ((rd_up qa.2.1 0 (Int32.ofNat (w + 1)) 1).toInt.toNat) = s := by rw [rd_up_n _ _ (by decide), hsa, hs, Int.toNat_natCast]
    show rc_c ((rd_up qa.2.1 0 (Int32.ofNat (w + 1)) 0).toInt.toNat) ((rd_up qa.2.1 0 (Int32.ofNat (w + 1)) 1).toInt.toNat) r = _
    rw [z1, z2]
    have r7 : r = 0 ∨ r = 1 ∨ r = 2 ∨ r = 3 ∨ r = 4 ∨ r = 5 ∨ r = 6 := by omega
    rcases r7 with rfl | rfl | rfl | rfl | rfl | rfl | rfl
    · show w + 1 = max w (w + 1)
      omega
    · show w + 1 = max w (w + 1)
      omega
    · show w + 1 = max w (w + 1)
      omega
    · show w + 1 = max w (w + 1)
      omega
    · rfl
    · rfl
    · rfl
end CK
