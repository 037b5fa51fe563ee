/-! the reader of the reference: a line -/
def rd_nx (b : Nat → Nat) (n most : Nat) (q : rd_Q) : rd_Q := (rd_tok b n most q.1.2.2.2.1, q.2)
def rd_bd (x : (Nat × Nat) ⊕ rd_Q) (f : rd_Q → (Nat × Nat) ⊕ rd_Q) : (Nat × Nat) ⊕ rd_Q := match x with
  | .inl e => .inl e
  | .inr q => f q
/-- is v told among the m from the j-th on? -/
def rd_fnd (h : Nat → Int32) (v : Int32) : Nat → Nat → Bool
  | 0, _ => false
  | m + 1, j => h (42 + j) == v || rd_fnd h v m (j + 1)
def rd_least (k : Nat) : Nat := if k = 0 then 1 else 0
def rd_most (k : Nat) : Nat := [5, 24, 12, 12, 30, 11, 12, 99].getD k 0
def rd_lineW (b : Nat → Nat) (n most : Nat) (q : rd_Q) (w : Nat) : (Nat × Nat) ⊕ rd_Q :=
  rd_bd (rd_put1 b n most (rd_nx b n most q) (2 + w) 1 99) fun q1 => rd_bd (rd_put1 b n most q1 (12 + w) 1 9) fun q2 => rd_bd (rd_put1 b n most q2 (22 + w) 0 3) fun q3 => rd_bd (rd_put1 b n most q3 (32 + w) 0 99) fun q4 => .inr (q4.1, rd_up q4.2.1 0 (Int32.ofNat (w + 1)), q4.2.2)
def rd_lineT (b : Nat → Nat) (n most : Nat) (q1 : rd_Q) (k : Nat) : (Nat × Nat) ⊕ rd_Q :=
  if rd_tkf q1.1 1 60 = 0 then
    (if rd_fnd q1.2.1 (Int32.ofNat q1.1.2.2.2.2) k 0 = true then .inl (3, q1.1.2.1)
     else rd_bd (rd_put1 b n most (rd_tok b n most q1.1.2.2.2.1, rd_up q1.2.1 (42 + k) (Int32.ofNat q1.1.2.2.2.2), q1.2.2) (48 + k) 1 9) fun q2 => .inr (q2.1, rd_up q2.2.1 1 (Int32.ofNat (k + 1)), q2.2.2))
  else .inl (rd_tkf q1.1 1 60, q1.1.2.1)
def rd_lineS (b : Nat → Nat) (n most : Nat) (q : rd_Q) (k : Nat) : (Nat × Nat) ⊕ rd_Q :=
  if rd_bit q.2.2 (Int32.ofNat k) = true then .inl (3, q.1.2.1)
  else rd_put1 b n most (rd_tok b n most q.1.2.2.2.1, q.2.1, q.2.2 ||| ((1 : Int32) <<< (Int32.ofNat k &&& 31))) (54 + k) (rd_least k) (rd_most k)
def rd_line (b : Nat → Nat) (n most : Nat) (q : rd_Q) : (Nat × Nat) ⊕ rd_Q :=
  if rd_isk b 8 q.1 = true then (if (q.2.1 0).toInt = 10 then .inl (4, q.1.2.1) else rd_lineW b n most q (q.2.1 0).toInt.toNat)
  else if rd_isk b 9 q.1 = true then (if (q.2.1 1).toInt = 6 then .inl (4, q.1.2.1) else rd_lineT b n most (rd_nx b n most q) (q.2.1 1).toInt.toNat)
  else if rd_wh b q.1 = -1 then .inl (1, q.1.2.1)
  else rd_lineS b n most q (rd_wh b q.1).toNat
theorem rd_put1_h {b : Nat → Nat} {n most : Nat} {q q' : rd_Q} {slot lo hi : Nat} (h : rd_put1 b n most q slot lo hi = .inr q') {k : Nat} (hk : k ≠ slot) : q'.2.1 k = q.2.1 k := by
  unfold rd_put1 at h
  split at h
  · cases h
    exact rd_up_n _ _ hk
  · cases h
/-- what is owed at the end of a reading -/
def rd_R (post : Option (Option Value) → am_S → Prop) (σ : am_S) (b : Nat → Nat) (n most : Nat) (x : (Nat × Nat) ⊕ rd_Q) : Prop :=
  (∀ (r : Int32) (σ' : am_S) (kd at' : Nat), x = .inl (kd, at') → r.toInt = 0 → sx_M zK hd_T σ rd_mL 0 σ' → (σ'.2.1 118 13).toInt = kd → (σ'.2.1 118 14).toInt = at' → post (some (some (.int r))) σ') ∧
  (∀ (r : Int32) (σ' : am_S) (q' : rd_Q), x = .inr q' → r.toInt = 1 → sx_M zK hd_T σ rd_mK 0 σ' → rd_E σ' b n most q' → post (some (some (.int r))) σ')
theorem rd_Rm {post : Option (Option Value) → am_S → Prop} {σ σ1 : am_S} {b : Nat → Nat} {n most : Nat} {x : (Nat × Nat) ⊕ rd_Q} (R : rd_R post σ b n most x) (h : sx_M zK hd_T σ rd_mK 0 σ1) : rd_R post σ1 b n most x :=
  ⟨fun r σ' kd at' a1 a2 a3 a4 a5 => R.1 r σ' kd at' a1 a2 (hd_tr (rd_KL h) a3 (by decide +kernel)) a4 a5, fun r σ' q' a1 a2 a3 a4 => R.2 r σ' q' a1 a2 (hd_tr h a3 (by decide +kernel)) a4⟩
theorem rd_h_ne {σ σ' : am_S} {m : Nat} (h : sx_M zK hd_T σ m 0 σ') {k : Nat} (hk : k < 62) (hm : (match sx_atl (z9.1 121) k with | some (_, _, u) => sx_bit m u | none => true) = false) : σ'.2.1 121 k = σ.2.1 121 k := by
  obtain ⟨lo, hi, u, e, -⟩ := rd_u121 hk
  rw [e] at hm
  exact h.2.2.2.2.1 121 k lo hi u e hm
theorem rd_fit {slot lo hi : Nat} (h : (match sx_atl (z9.1 121) slot with | some (l, t, _) => decide (l ≤ (lo : Int)) && decide ((hi : Int) ≤ t) | none => false) = true) : ∀ lo' hi' u, sx_atl (z9.1 121) slot = some (lo', hi', u) → lo' ≤ (lo : Int) ∧ (hi : Int) ≤ hi' := by
  intro lo' hi' u e
  rw [e] at h
  simpa using h
theorem rd_fit2 : ∀ w, w < 10 → (match sx_atl (z9.1 121) (2 + w) with | some (l, t, _) => decide (l ≤ ((1 : Nat) : Int)) && decide (((99 : Nat) : Int) ≤ t) | none => false) = true := by decide +kernel
theorem rd_fit12 : ∀ w, w < 10 → (match sx_atl (z9.1 121) (12 + w) with | some (l, t, _) => decide (l ≤ ((1 : Nat) : Int)) && decide (((9 : Nat) : Int) ≤ t) | none => false) = true := by decide +kernel
theorem rd_fit22 : ∀ w, w < 10 → (match sx_atl (z9.1 121) (22 + w) with | some (l, t, _) => decide (l ≤ ((0 : Nat) : Int)) && decide (((3 : Nat) : Int) ≤ t) | none => false) = true := by decide +kernel
theorem rd_fit32 : ∀ w, w < 10 → (match sx_atl (z9.1 121) (32 + w) with | some (l, t, _) => decide (l ≤ ((0 : Nat) : Int)) && decide (((99 : Nat) : Int) ≤ t) | none => false) = true := by decide +kernel
theorem rd_fit42 : ∀ w, w < 6 → (match sx_atl (z9.1 121) (42 + w) with | some (l, t, _) => decide (l ≤ ((1 : Nat) : Int)) && decide (((60 : Nat) : Int) ≤ t) | none => false) = true := by decide +kernel
theorem rd_fit48 : ∀ w, w < 6 → (match sx_atl (z9.1 121) (48 + w) with | some (l, t, _) => decide (l ≤ ((1 : Nat) : Int)) && decide (((9 : Nat) : Int) ≤ t) | none => false) = true := by decide +kernel
theorem rd_fit54 : ∀ w, w < 8 → (match sx_atl (z9.1 121) (54 + w) with | some (l, t, _) => decide (l ≤ ((rd_least w : Nat) : Int)) && decide (((rd_most w : Nat) : Int) ≤ t) | none => false) = true := by decide +kernel
def rd_m430 : Nat := Nat.shiftLeft 1 430
def rd_m431 : Nat := Nat.shiftLeft 1 431
theorem rd_ne0 : ∀ k, k < 62 → k ≠ 0 → (match sx_atl (z9.1 121) k with | some (_, _, u) => sx_bit rd_m430 u | none => true) = false := by decide +kernel
theorem rd_ne1 : ∀ k, k < 62 → k ≠ 1 → (match sx_atl (z9.1 121) k with | some (_, _, u) => sx_bit rd_m431 u | none => true) = false := by decide +kernel
theorem rd_Em {σ σ' : am_S} {b : Nat → Nat} {n most m : Nat} {q : rd_Q} {i : Nat} {x : Int32} (E : rd_E σ b n most q) (h : sx_M zK hd_T σ m 0 σ') (hm : (Nat.lor m rd_mL).beq rd_mL = true) (h9 : sx_bit m 368 = false) (h10 : sx_bit m 369 = false) (h4 : sx_bit m 363 = false) (h12 : sx_bit m 371 = false) (h15 : sx_bit m 900 = false) (h18 : sx_bit m 377 = false) (hne : ∀ k, k < 62 → k ≠ i → σ'.2.1 121 k = σ.2.1 121 k) (hx : i < 62 → σ'.2.1 121 i = x) : rd_E σ' b n most (q.1, rd_up q.2.1 i x, q.2.2) := by
  refine ⟨rd_Xt E.1 h hm, rd_N0 E.2.1 h h9 h10 h4 h12 h15, fun k hk => ?_, (h.2.2.2.2.1 118 18 _ _ 377 rfl h18).trans E.2.2.2⟩
  show σ'.2.1 121 k = rd_up q.2.1 i x k
  by_cases e : k = i
  · subst e
    rw [rd_up_s]
    exact hx hk
  · rw [rd_up_n _ _ e, hne k hk e]
    exact E.2.2.1 k hk
section RL
variable {g : am_C} {L : Nat} {xs : Nat → Int32}
theorem rd_lnW (G : sx_G0 g L xs zK hd_T ex_mt) {σ : am_S} (hM : sx_M zK hd_T σ 0 0 σ) {b : Nat → Nat} {n most : Nat} {q : rd_Q} (E : rd_E σ b n most q) {lw : List (Nat × Value)} (hl : (0, Value.ref 118) ∈ lw) {n0 : Int32} (hn0 : n0.toInt = 1) {post : Option (Option Value) → am_S → Prop} (R : rd_R post σ b n most (if (q.2.1 0).toInt = 10 then .inl (4, q.1.2.1) else rd_lineW b n most q (q.2.1 0).toInt.toNat)) : am_K g 20 tX12_line.1 0 0 7 lw [.int n0] σ post := by
  have k0 : (0 : Int) ≤ (σ.2.1 121 0).toInt ∧ (σ.2.1 121 0).toInt ≤ (10 : Int) := hM.2.2.1 121 0 _ _ 430 rfl
  have e0 := E.2.2.1 0 (by decide)
  have n2 := E.2.1.2.1
  by_cases h10 : (q.2.1 0).toInt = 10
  · rw [if_pos h10] at R
    refine sg_ln2a_run G hd_ctK hM hl (by rw [e0]; omega) (by omega) ?_
    intro r σ' f1 f2 f3 hM'
    exact R.1 r σ' 4 q.1.2.1 rfl (by omega) (sx_M_mask (by decide +kernel) hM') (by show _ = (4 : Int); omega) (by omega)
  · rw [if_neg h10] at R
    rw [e0] at k0
    obtain ⟨w, hw⟩ : ∃ w : Nat, (q.2.1 0).toInt = w := ⟨(q.2.1 0).toInt.toNat, by omega⟩
    rw [hw, Int.toNat_natCast] at R
    refine sg_ln2b_run G hd_ctK hM hl (by rw [e0]; omega) (by omega) ?_
    intro lw1 y1 σ1 hl1 g1 f1 hM1
    rw [e0] at f1
    have E1 := rd_E0 E hM1
    have H1 : sx_M zK hd_T σ rd_mK 0 σ1 := sx_M_mask (by decide +kernel) hM1
    refine rd_nxc G (d := 20) (by decide) (sx_M_self hM1) E1.1 E1.2.1.2.2.1 rfl rd_d_X12_line_30 rd_k_X12_line_30 (by decide) ?_
    intro σ2 hM2 N2
    have X2 := rd_Xm E1.1 hM2 (by decide +kernel)
    have E2 : rd_E σ2 b n most (rd_nx b n most q) := rd_En E1 hM2 (by decide +kernel) X2 N2
    have H2 := hd_tr H1 hM2 (by decide +kernel)
    refine sg_ln3_run G hd_ctK (sx_M_self hM2) hl1 g1 (by omega) ?_
    intro lw3 y3 c1 c2 c3 σ3 hl3 g3 f2 f3 f4 f5 hM3
    have E3 := rd_E0 E2 hM3
    have H3 := hd_tr H2 hM3 (by decide +kernel)
    refine rd_ptc G (d := 20) (by decide) (sx_M_self hM3) E3 (slot := 2 + w) (lo := 1) (hi := 99) (by omega) (rd_fit (rd_fit2 w (by omega))) rfl rd_d_X12_line_40 rd_k_X12_line_40 (by omega) (by omega) (by omega) (by decide) ?_ ?_
    · intro r σ4 kd at' p1 p2 p3 p4 p5
      refine sg_ln4z_run G hd_ctK (sx_M_self p3) hl3 (by omega) ?_
      intro r5 σ5 f6 hM5
      refine R.1 r5 σ5 kd at' (by unfold rd_lineW; rw [p1]; rfl) (by omega) (hd_tr (hd_tr (rd_KL H3) p3 (by decide +kernel)) hM5 (by decide +kernel)) ?_ ?_
      · rw [hM5.2.2.2.2.1 118 13 _ _ 372 rfl (sx_bit0 _)]; exact p4
      · rw [hM5.2.2.2.2.1 118 14 _ _ 373 rfl (sx_bit0 _)]; exact p5
    intro r4 σ4 q1 p1 p2 p3 E4
    have H4 := hd_tr H3 p3 (by decide +kernel)
    refine sg_ln4_run G hd_ctK (sx_M_self p3) hl3 g3 (by omega) (by omega) ?_
    intro lw5 y5 d1 d2 d3 σ5 hl5 g5 f6 f7 f8 f9 hM5
    have E5 := rd_E0 E4 hM5
    have H5 := hd_tr H4 hM5 (by decide +kernel)
    refine rd_ptc G (d := 20) (by decide) (sx_M_self hM5) E5 (slot := 12 + w) (lo := 1) (hi := 9) (by omega) (rd_fit (rd_fit12 w (by omega))) rfl rd_d_X12_line_54 rd_k_X12_line_54 (by omega) (by omega) (by omega) (by decide) ?_ ?_
    · intro r σ6 kd at' s1 s2 s3 s4 s5
      refine sg_ln5z_run G hd_ctK (sx_M_self s3) hl5 (by omega) ?_
      intro r7 σ7 t6 hM7
      refine R.1 r7 σ7 kd at' (by unfold rd_lineW; rw [p1]; show rd_bd (rd_put1 b n most q1 (12 + w) 1 9) _ = _; rw [s1]; rfl) (by omega) (hd_tr (hd_tr (rd_KL H5) s3 (by decide +kernel)) hM7 (by decide +kernel)) ?_ ?_
      · rw [hM7.2.2.2.2.1 118 13 _ _ 372 rfl (sx_bit0 _)]; exact s4
      · rw [hM7.2.2.2.2.1 118 14 _ _ 373 rfl (sx_bit0 _)]; exact s5
    intro r6 σ6 q2 s1 s2 s3 E6
    have H6 := hd_tr H5 s3 (by decide +kernel)
    refine sg_ln5_run G hd_ctK (sx_M_self s3) hl5 g5 (by omega) (by omega) ?_
    intro lw7 y7 d4 d5 d6 σ7 hl7 g7 z1 z2 z3 z4 hM7
    have E7 := rd_E0 E6 hM7
    have H7 := hd_tr H6 hM7 (by decide +kernel)
    refine rd_ptc G (d := 20) (by decide) (sx_M_self hM7) E7 (slot := 22 + w) (lo := 0) (hi := 3) (by omega) (rd_fit (rd_fit22 w (by omega))) rfl rd_d_X12_line_67 rd_k_X12_line_67 (by omega) (by omega) (by omega) (by decide) ?_ ?_
    · intro r σ8 kd at' u1 u2 u3 u4 u5
      refine sg_ln6z_run G hd_ctK (sx_M_self u3) hl7 (by omega) ?_
      intro r9 σ9 t6 hM9
      refine R.1 r9 σ9 kd at' (by unfold rd_lineW; rw [p1]; show rd_bd (rd_put1 b n most q1 (12 + w) 1 9) _ = _; rw [s1]; show rd_bd (rd_put1 b n most q2 (22 + w) 0 3) _ = _; rw [u1]; rfl) (by omega) (hd_tr (hd_tr (rd_KL H7) u3 (by decide +kernel)) hM9 (by decide +kernel)) ?_ ?_
      · rw [hM9.2.2.2.2.1 118 13 _ _ 372 rfl (sx_bit0 _)]; exact u4
      · rw [hM9.2.2.2.2.1 118 14 _ _ 373 rfl (sx_bit0 _)]; exact u5
    intro r8 σ8 q3 u1 u2 u3 E8
    have H8 := hd_tr H7 u3 (by decide +kernel)
    refine sg_ln6_run G hd_ctK (sx_M_self u3) hl7 g7 (by omega) (by omega) ?_
    intro lw9 y9 d7 d8 d9 σ9 hl9 g9 z5 z6 z7 z8 hM9
    have E9 := rd_E0 E8 hM9
    have H9 := hd_tr H8 hM9 (by decide +kernel)
    refine rd_ptc G (d := 20) (by decide) (sx_M_self hM9) E9 (slot := 32 + w) (lo := 0) (hi := 99) (by omega) (rd_fit (rd_fit32 w (by omega))) rfl rd_d_X12_line_81 rd_k_X12_line_81 (by omega) (by omega) (by omega) (by decide) ?_ ?_
    · intro r σa kd at' v1 v2 v3 v4 v5
      refine sg_ln7z_run G hd_ctK (sx_M_self v3) hl9 (by omega) ?_
      intro rb σb t6 hMb
      refine R.1 rb σb kd at' (by unfold rd_lineW; rw [p1]; show rd_bd (rd_put1 b n most q1 (12 + w) 1 9) _ = _; rw [s1]; show rd_bd (rd_put1 b n most q2 (22 + w) 0 3) _ = _; rw [u1]; show rd_bd (rd_put1 b n most q3 (32 + w) 0 99) _ = _; rw [v1]; rfl) (by omega) (hd_tr (hd_tr (rd_KL H9) v3 (by decide +kernel)) hMb (by decide +kernel)) ?_ ?_
      · rw [hMb.2.2.2.2.1 118 13 _ _ 372 rfl (sx_bit0 _)]; exact v4
      · rw [hMb.2.2.2.2.1 118 14 _ _ 373 rfl (sx_bit0 _)]; exact v5
    intro ra σa q4 v1 v2 v3 Ea
    have Ha := hd_tr H9 v3 (by decide +kernel)
    have ew : σa.2.1 121 0 = q.2.1 0 := by
      rw [Ea.2.2.1 0 (by decide), rd_put1_h v1 (by omega), rd_put1_h u1 (by omega), rd_put1_h s1 (by omega), rd_put1_h p1 (by omega)]
      rfl
    refine sg_ln7_run G hd_ctK (sx_M_self v3) hl9 (by rw [ew]; omega) (by omega) ?_
    intro rb σb t6 t7 hMb
    rw [ew] at t7
    refine R.2 rb σb (q4.1, rd_up q4.2.1 0 (Int32.ofNat (w + 1)), q4.2.2) (by unfold rd_lineW; rw [p1]; show rd_bd (rd_put1 b n most q1 (12 + w) 1 9) _ = _; rw [s1]; show rd_bd (rd_put1 b n most q2 (22 + w) 0 3) _ = _; rw [u1]; show rd_bd (rd_put1 b n most q3 (32 + w) 0 99) _ = _; rw [v1]; rfl) (by omega) (hd_tr Ha hMb (by decide +kernel)) ?_
    exact rd_Em Ea hMb (by decide +kernel) (by decide +kernel) (by decide +kernel) (by decide +kernel) (by decide +kernel) (by decide +kernel) (by decide +kernel) (fun k hk hne => rd_h_ne hMb hk (rd_ne0 k hk hne)) (fun _ => rd_ofNat (by omega))
end RL
