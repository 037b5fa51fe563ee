/-! the reader of the reference: a token, behind the blanks -/
def rd_tk2 (b : Nat → Nat) (s e : Nat) : rd_K := (if rd_all rd_ltr b (e - s) s = true ∧ e - s ≤ 7 then 1 else if rd_all rd_dgt b (e - s) s = true ∧ e - s ≤ 3 then 2 else 4, s, e - s, e, rd_nm b (e - s) s 0)
def rd_tk1 (b : Nat → Nat) (n most s : Nat) : rd_K :=
  if most < n ∧ most ≤ s then (4, most, 0, s, 0)
  else if n ≤ s then (0, s, 0, s, 0)
  else if (rd_ltr (b s) || rd_dgt (b s)) = true then rd_tk2 b s (rd_rn b n (n - s) s)
  else (if rd_sgn (b s) = true then 3 else 4, s, 0, s + 1, b s)
theorem rd_ltr_iff {c : Nat} : rd_ltr c = true ↔ 97 ≤ c ∧ c ≤ 122 := by
  unfold rd_ltr
  rw [Bool.and_eq_true, Nat.ble_eq, Nat.ble_eq]
theorem rd_dgt_iff {c : Nat} : rd_dgt c = true ↔ 48 ≤ c ∧ c ≤ 57 := by
  unfold rd_dgt
  rw [Bool.and_eq_true, Nat.ble_eq, Nat.ble_eq]
theorem rd_sgn_iff {c : Nat} : rd_sgn c = true ↔ c = 59 ∨ c = 40 ∨ c = 41 ∨ (60 ≤ c ∧ c ≤ 62) := by
  unfold rd_sgn
  rw [Bool.or_eq_true, Bool.or_eq_true, Bool.or_eq_true, Bool.and_eq_true, Nat.ble_eq, Nat.ble_eq, beq_iff_eq, beq_iff_eq, beq_iff_eq]
  omega
/-- the word of m letters from s on, on top of w -/
def rd_wd (b : Nat → Nat) : Nat → Nat → Int64 → Int64
  | 0, _, w => w
  | m + 1, p, w => rd_wd b m (p + 1) ((w <<< ((8 : Int32).toInt64 &&& 63)) ||| Int64.ofNat (b p))
/-- the token stands there -/
def rd_N (σ : am_S) (b : Nat → Nat) (t : rd_K) : Prop := (σ.2.1 118 9).toInt = t.1 ∧ (σ.2.1 118 10).toInt = t.2.1 ∧ (σ.2.1 118 4).toInt = t.2.2.2.1 ∧ ((t.1 = 2 ∨ t.1 = 3) → (σ.2.1 118 12).toInt = t.2.2.2.2) ∧ (t.1 = 1 → σ.2.2.1 118 15 = rd_wd b t.2.2.1 t.2.1 0)
section RT
variable {g : am_C} {L : Nat} {xs : Nat → Int32}
theorem rd_tail (G : sx_G0 g L xs zK hd_T ex_mt) {σe σ : am_S} {b : Nat → Nat} {n most s : Nat} (Xe : rd_X σe b n most) (hM : sx_M zK hd_T σe rd_mN 0 σ) (hp : (σ.2.1 118 4).toInt = s) {lw : List (Nat × Value)} (hl : (0, Value.ref 118) ∈ lw) {post : Option (Option Value) → am_S → Prop}
    (kend : ∀ σ', sx_M zK hd_T σe rd_mN 0 σ' → rd_N σ' b (rd_tk1 b n most s) → post (some none) σ')
    (krun : ∀ (σ' : am_S) (lw' : List (Nat × Value)) (x2 x3 : Int32), sx_M zK hd_T σe rd_mN 0 σ' → (σ'.2.1 118 4).toInt = s → (σ'.2.1 118 10).toInt = s → (σ'.2.1 118 11).toInt = 0 → s < n → ¬ (most < n ∧ most ≤ s) → (0, Value.ref 118) ∈ lw' → (2, Value.int x2) ∈ lw' → (3, Value.int x3) ∈ lw' → ((x2.toInt = 1 ∧ rd_ltr (b s) = true) ∨ (x2.toInt = 0 ∧ rd_dgt (b s) = true)) → x3.toInt = 1 → am_K g 10 tX12_next.1 0 0 171 lw' [] σ' post) : am_K g 10 tX12_next.1 0 0 31 lw [] σ post := by
  have X := rd_Xm Xe hM (by decide +kernel)
  have e3 : (σ.2.1 118 3).toInt = (n : Nat) := by rw [X.2.1]; exact hd_ti (by have := X.2.2.2.1; omega)
  have e5 : (σ.2.1 118 5).toInt = (most : Nat) := by rw [X.2.2.1]; exact hd_ti (by have := X.2.2.2.2; omega)
  have hn9 := X.2.2.2.1
  have go : ∀ (σ1 : am_S) (lw1 : List (Nat × Value)) (m : Nat), (Nat.lor m rd_mN).beq rd_mN = true → sx_bit m 363 = false → sx_M zK hd_T σ m 0 σ1 → (σ1.2.1 118 10).toInt = s → (σ1.2.1 118 11).toInt = 0 → (0, Value.ref 118) ∈ lw1 → ¬ (most < n ∧ most ≤ s) → am_K g 10 tX12_next.1 0 0 81 lw1 [.ref 118] σ1 post := by
    intro σ1 lw1 m hm hm4 hM1 a1 a2 hl1 hno
    have X1 := rd_Xm X hM1 hm
    have p1 := rd_f4 hM1 hm4 hp
    have H1 := hd_tr hM hM1 hm
    refine rd_pkc G (sx_M_self hM1) X1 p1 rfl rd_d_X12_next_81 rd_k_X12_next_81 (by decide) ?_
    intro r σ2 hM2 hr
    have X2 := rd_Xm X1 hM2 (by decide +kernel)
    have p2 := rd_f4 hM2 (by decide +kernel) p1
    have H2 := hd_tr H1 hM2 (by decide +kernel)
    have q2 : (σ2.2.1 118 10).toInt = s := by rw [hM2.2.2.2.2.1 118 10 _ _ 369 rfl (by decide +kernel)]; exact a1
    have r2 : (σ2.2.1 118 11).toInt = 0 := by rw [hM2.2.2.2.2.1 118 11 _ _ 370 rfl (by decide +kernel)]; exact a2
    have hin := rd_pk_in X2 s
    rcases Int.lt_or_le r.toInt 0 with h0 | h0
    · have hge : n ≤ s := by
        rcases Nat.lt_or_ge s n with h | h
        · have : rd_pk b n s = (b s : Int) := by unfold rd_pk; rw [if_pos h]
          omega
        · exact h
      refine sg_nx5e_run G hd_ctK (sx_M_self hM2) hl1 (by omega) ?_
      intro σ3 f1 hM3
      refine kend σ3 (hd_tr H2 hM3 (by decide +kernel)) ?_
      have et : rd_tk1 b n most s = (0, s, 0, s, 0) := by
        unfold rd_tk1
        rw [if_neg hno, if_pos hge]
      rw [et]
      refine ⟨by show _ = ((0 : Nat) : Int); omega, ?_, rd_f4 hM3 (by decide +kernel) p2, fun h => (by rcases h with h | h <;> cases h), fun h => (by cases h)⟩
      rw [hM3.2.2.2.2.1 118 10 _ _ 369 rfl (by decide +kernel)]
      exact q2
    · obtain ⟨hlt, hbs⟩ := rd_pk_at (b := b) (n := n) (p := s) (by omega)
      have one : ∀ (σ3 : am_S) (m : Nat), (Nat.lor m rd_mN).beq rd_mN = true → sx_bit m 369 = false → sx_M zK hd_T σ2 m 0 σ3 → (σ3.2.1 118 9).toInt = (if rd_sgn (b s) = true then 3 else 4 : Nat) → (σ3.2.1 118 12).toInt = (b s : Nat) → (σ3.2.1 118 4).toInt = ((s + 1 : Nat) : Int) → (rd_ltr (b s) || rd_dgt (b s)) = false → post (some none) σ3 := by
        intro σ3 m hm hm9 hM3 c1 c2 c3 c4
        refine kend σ3 (hd_tr H2 hM3 hm) ?_
        have et : rd_tk1 b n most s = (if rd_sgn (b s) = true then 3 else 4, s, 0, s + 1, b s) := by
          unfold rd_tk1
          rw [if_neg hno, if_neg (by omega), if_neg (by rw [c4]; exact Bool.noConfusion)]
        rw [et]
        refine ⟨c1, ?_, c3, fun _ => c2, fun h => ?_⟩
        · rw [hM3.2.2.2.2.1 118 10 _ _ 369 rfl hm9]
          exact q2
        · have h' : (if rd_sgn (b s) = true then 3 else 4 : Nat) = 1 := h
          split at h' <;> cases h'
      have nl : ¬ (97 ≤ b s ∧ b s ≤ 122) → ¬ (48 ≤ b s ∧ b s ≤ 57) → (rd_ltr (b s) || rd_dgt (b s)) = false := by
        intro h1 h2
        rw [Bool.or_eq_false_iff]
        exact ⟨Bool.eq_false_iff.mpr (fun h => h1 (rd_ltr_iff.mp h)), Bool.eq_false_iff.mpr (fun h => h2 (rd_dgt_iff.mp h))⟩
      have s3 : (b s = 59 ∨ b s = 40 ∨ b s = 41 ∨ (60 ≤ b s ∧ b s ≤ 62)) → (if rd_sgn (b s) = true then 3 else 4 : Nat) = 3 := fun h => if_pos (rd_sgn_iff.mpr h)
      have s4 : ¬ (b s = 59 ∨ b s = 40 ∨ b s = 41 ∨ (60 ≤ b s ∧ b s ≤ 62)) → (if rd_sgn (b s) = true then 3 else 4 : Nat) = 4 := fun h => if_neg (fun h' => h (rd_sgn_iff.mp h'))
      by_cases i1 : r.toInt ≤ 39
      · refine sg_nx5a_run G hd_ctK (sx_M_self hM2) hl1 (by omega) (by omega) ?_
        intro σ3 f1 f2 f3 hM3
        exact one σ3 _ (by decide +kernel) (by decide +kernel) hM3 (by rw [s4 (by omega)]; omega) (by omega) (by omega) (nl (by omega) (by omega))
      by_cases i2 : r.toInt = 40
      · refine sg_nx5b_run G hd_ctK (sx_M_self hM2) hl1 (by omega) (by omega) ?_
        intro σ3 f1 f2 f3 hM3
        exact one σ3 _ (by decide +kernel) (by decide +kernel) hM3 (by rw [s3 (by omega)]; omega) (by omega) (by omega) (nl (by omega) (by omega))
      by_cases i3 : r.toInt = 41
      · refine sg_nx5c_run G hd_ctK (sx_M_self hM2) hl1 (by omega) (by omega) ?_
        intro σ3 f1 f2 f3 hM3
        exact one σ3 _ (by decide +kernel) (by decide +kernel) hM3 (by rw [s3 (by omega)]; omega) (by omega) (by omega) (nl (by omega) (by omega))
      by_cases i4 : r.toInt ≤ 47
      · refine sg_nx5d_run G hd_ctK (sx_M_self hM2) hl1 (by omega) (by omega) ?_
        intro σ3 f1 f2 f3 hM3
        exact one σ3 _ (by decide +kernel) (by decide +kernel) hM3 (by rw [s4 (by omega)]; omega) (by omega) (by omega) (nl (by omega) (by omega))
      by_cases i5 : r.toInt ≤ 57
      · refine sg_nx5k_run G hd_ctK (sx_M_self hM2) hl1 (by omega) ?_
        intro lw3 x2 x3 σ3 hl3 h2 h3 f1 f2 hM3
        refine krun σ3 lw3 x2 x3 (hd_tr H2 hM3 (by decide +kernel)) (rd_f4 hM3 (by decide +kernel) p2) ?_ ?_ hlt hno hl3 h2 h3 (Or.inr ⟨by omega, rd_dgt_iff.mpr (by omega)⟩) (by omega)
        · rw [hM3.2.2.2.2.1 118 10 _ _ 369 rfl (by decide +kernel)]; exact q2
        · rw [hM3.2.2.2.2.1 118 11 _ _ 370 rfl (by decide +kernel)]; exact r2
      by_cases i6 : r.toInt = 58
      · refine sg_nx5f_run G hd_ctK (sx_M_self hM2) hl1 (by omega) (by omega) ?_
        intro σ3 f1 f2 f3 hM3
        exact one σ3 _ (by decide +kernel) (by decide +kernel) hM3 (by rw [s4 (by omega)]; omega) (by omega) (by omega) (nl (by omega) (by omega))
      by_cases i7 : r.toInt = 59
      · refine sg_nx5g_run G hd_ctK (sx_M_self hM2) hl1 (by omega) (by omega) ?_
        intro σ3 f1 f2 f3 hM3
        exact one σ3 _ (by decide +kernel) (by decide +kernel) hM3 (by rw [s3 (by omega)]; omega) (by omega) (by omega) (nl (by omega) (by omega))
      by_cases i8 : r.toInt ≤ 62
      · refine sg_nx5h_run G hd_ctK (sx_M_self hM2) hl1 (by omega) (by omega) ?_
        intro σ3 f1 f2 f3 hM3
        exact one σ3 _ (by decide +kernel) (by decide +kernel) hM3 (by rw [s3 (by omega)]; omega) (by omega) (by omega) (nl (by omega) (by omega))
      by_cases i9 : r.toInt ≤ 96
      · refine sg_nx5i_run G hd_ctK (sx_M_self hM2) hl1 (by omega) (by omega) ?_
        intro σ3 f1 f2 f3 hM3
        exact one σ3 _ (by decide +kernel) (by decide +kernel) hM3 (by rw [s4 (by omega)]; omega) (by omega) (by omega) (nl (by omega) (by omega))
      by_cases i10 : r.toInt ≤ 122
      · refine sg_nx5l_run G hd_ctK (sx_M_self hM2) hl1 (by omega) ?_
        intro lw3 x2 x3 σ3 hl3 h2 h3 f1 f2 hM3
        refine krun σ3 lw3 x2 x3 (hd_tr H2 hM3 (by decide +kernel)) (rd_f4 hM3 (by decide +kernel) p2) ?_ ?_ hlt hno hl3 h2 h3 (Or.inl ⟨by omega, rd_ltr_iff.mpr (by omega)⟩) (by omega)
        · rw [hM3.2.2.2.2.1 118 10 _ _ 369 rfl (by decide +kernel)]; exact q2
        · rw [hM3.2.2.2.2.1 118 11 _ _ 370 rfl (by decide +kernel)]; exact r2
      · refine sg_nx5j_run G hd_ctK (sx_M_self hM2) hl1 (by omega) (by omega) ?_
        intro σ3 f1 f2 f3 hM3
        exact one σ3 _ (by decide +kernel) (by decide +kernel) hM3 (by rw [s4 (by omega)]; omega) (by omega) (by omega) (nl (by omega) (by omega))
  refine sg_nx4_run G hd_ctK (sx_M_self hM) hl ?_ ?_ ?_
  · intro σ1 f1 f2 f3 f4 f5 hM1
    refine kend σ1 (hd_tr hM hM1 (by decide +kernel)) ?_
    have et : rd_tk1 b n most s = (4, most, 0, s, 0) := by
      unfold rd_tk1
      rw [if_pos (by omega)]
    rw [et]
    exact ⟨by show _ = ((4 : Nat) : Int); omega, by show _ = ((most : Nat) : Int); omega, rd_f4 hM1 (by decide +kernel) hp, fun h => (by rcases h with h | h <;> cases h), fun h => (by cases h)⟩
  · intro lw1 σ1 hl1 f1 f2 f3 hM1
    exact go σ1 lw1 _ (by decide +kernel) (by decide +kernel) hM1 (by omega) (by omega) hl1 (by omega)
  · intro lw1 σ1 hl1 f1 f2 f3 hM1
    exact go σ1 lw1 _ (by decide +kernel) (by decide +kernel) hM1 (by omega) (by omega) hl1 (by omega)
end RT
