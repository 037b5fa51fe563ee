/-! SENTENCE, the reference: codes, nots, joins -/
/-- what is open on the stack: true a not, false a bracket -/
def sn_sk (f : Nat → Int32) : Nat → List Bool
  | 0 => []
  | t + 1 => if f t = 20 then true :: sn_sk f t else if f t = 23 then false :: sn_sk f t else sn_sk f t
theorem sn_sk_c {f f' : Nat → Int32} : ∀ t, (∀ j, j < t → f' j = f j) → sn_sk f' t = sn_sk f t := by
  intro t
  induction t with
  | zero => intro _; rfl
  | succ t ih =>
    intro h
    show (if f' t = 20 then true :: sn_sk f' t else if f' t = 23 then false :: sn_sk f' t else sn_sk f' t) = (if f t = 20 then true :: sn_sk f t else if f t = 23 then false :: sn_sk f t else sn_sk f t)
    rw [h t (by omega), ih (fun j hj => h j (by omega))]
theorem sn_sk_le (f : Nat → Int32) : ∀ t, (sn_sk f t).length ≤ t := by
  intro t
  induction t with
  | zero => exact Nat.le_refl _
  | succ t ih =>
    show (if f t = 20 then true :: sn_sk f t else if f t = 23 then false :: sn_sk f t else sn_sk f t).length ≤ t + 1
    split
    · exact Nat.succ_le_succ ih
    · split
      · exact Nat.succ_le_succ ih
      · omega
def sn_Z (f : Nat → Int32) (t : Nat) : Prop := (∀ j, j < t → f j = 20 ∨ f j = 21 ∨ f j = 22 ∨ f j = 23) ∧ ∀ j, j + 1 < t → (f (j + 1) = 21 ∨ f (j + 1) = 22) → ¬ f j = 20
theorem sn_Zc {f f' : Nat → Int32} {t t' : Nat} (h : sn_Z f t) (ht : t' ≤ t) (e : ∀ j, j < t' → f' j = f j) : sn_Z f' t' := ⟨fun j hj => by rw [e j hj]; exact h.1 j (by omega), fun j hj => by rw [e j (by omega), e (j + 1) hj]; exact h.2 j (by omega)⟩
/-- between two of its steps: codes, stack, whole or not, ones -/
def sn_J (σ : am_S) (c t w o : Nat) : Prop := (σ.2.1 118 39).toInt = c ∧ (σ.2.1 118 41).toInt = t ∧ (σ.2.1 118 43).toInt = w ∧ (σ.2.1 118 40).toInt = o ∧ (w ≤ 1 ∧ o ≤ 20 ∧ c + t + w ≤ 2 * o) ∧ (σ.2.1 118 42).toInt = (((sn_sk (σ.2.1 134) t).length + 1 : Nat) : Int) ∧ sn_Z (σ.2.1 134) t
/-- units that leave it alone -/
def sn_kp (m : Nat) : Bool := !(sx_bit m 398 || sx_bit m 399 || sx_bit m 400 || sx_bit m 401 || sx_bit m 402 || sx_bit m 484)
theorem sn_fr {σ σ' : am_S} {m : Nat} (h : sx_M zK hd_T σ m 0 σ') (hb : sx_bit m 484 = false) {k : Nat} (hk : k < 45) : σ'.2.1 134 k = σ.2.1 134 k := h.2.2.2.2.1 134 k _ _ _ (hd_a134 hk) hb
theorem sn_Jm {σ σ' : am_S} {c t w o m : Nat} (J : sn_J σ c t w o) (hM : sx_M zK hd_T σ m 0 σ') (hk : sn_kp m = true) : sn_J σ' c t w o := by
  obtain ⟨j1, j2, j3, j4, j5, j6, j7⟩ := J
  unfold sn_kp at hk
  simp only [Bool.not_eq_true', Bool.or_eq_false_iff] at hk
  obtain ⟨⟨⟨⟨⟨k1, k2⟩, k3⟩, k4⟩, k5⟩, k6⟩ := hk
  have e : ∀ j, j < t → σ'.2.1 134 j = σ.2.1 134 j := fun j hj => sn_fr hM k6 (by omega)
  refine ⟨?_, ?_, ?_, ?_, j5, ?_, sn_Zc j7 (Nat.le_refl _) e⟩
  · rw [hM.2.2.2.2.1 118 39 _ _ 398 rfl k1]; exact j1
  · rw [hM.2.2.2.2.1 118 41 _ _ 400 rfl k3]; exact j2
  · rw [hM.2.2.2.2.1 118 43 _ _ 402 rfl k5]; exact j3
  · rw [hM.2.2.2.2.1 118 40 _ _ 399 rfl k2]; exact j4
  · rw [hM.2.2.2.2.1 118 42 _ _ 401 rfl k4, sn_sk_c t e]; exact j6
def sn_mC : Nat := Nat.lor (Nat.shiftLeft 1 398) (Nat.shiftLeft 1 446)
def sn_mB : Nat := Nat.lor (Nat.shiftLeft 1 398) (Nat.lor (Nat.shiftLeft 1 400) (Nat.lor (Nat.shiftLeft 1 401) (Nat.shiftLeft 1 446)))
section SR
variable {g : am_C} {L : Nat} {xs : Nat → Int32}
theorem sn_code (G : sx_G0 g L xs zK hd_T ex_mt) {σ : am_S} (hM : sx_M zK hd_T σ 0 0 σ) {c : Nat} (hc : (σ.2.1 118 39).toInt = c) (hc9 : c ≤ 39) (w s n : Int32) {post : Option (Option Value) → am_S → Prop} (kk : ∀ σ', sx_M zK hd_T σ sn_mC 0 σ' → (σ'.2.1 118 39).toInt = ((c + 1 : Nat) : Int) → post (some none) σ') : am_K g 5 tX12_code.1 0 0 0 (lv_args 0 [.ref 118, .int w, .int s, .int n]) [] σ post := by
  have st : ∀ (σa : am_S) (x y : Int32) (k : Nat), sx_M zK hd_T σ sn_mC 0 σa → y.toInt = (k : Nat) → k < 135 → sx_M zK hd_T σ sn_mC 0 (σa.1, am_up σa.2.1 122 k x, σa.2.2.1, σa.2.2.2) := fun σa x y k h _ hk => hd_up hd_CsK h (hd_a122 hk) (Int32.le_toInt x) (Int32.toInt_le x) (by decide +kernel) ⟨rfl, rfl⟩ (fun c hc => by cases hc) (fun c hc => by cases hc)
  refine sg_kc1_run G hd_ctK hM (by simp [lv_args, Value.category]) (m1 := w) (by simp [lv_args, Value.category]) (m2 := s) (by simp [lv_args, Value.category]) (m3 := n) (by simp [lv_args, Value.category]) ?_
  intro lw1 a1 a2 a3 x1 y1 σ1 h0 h1 h2 h3 f1 f2 f3 f4 f5 f6 hM1
  have ey1 : y1.toInt = ((3 * c : Nat) : Int) := by omega
  have H1 : sx_M zK hd_T σ sn_mC 0 σ1 := sx_M_mask (by decide +kernel) hM1
  refine kr_iast G.1 rd_d_X12_code_11 (H1.1 122 (.inr (.int, 135)) rfl) (hd_in ey1 (by omega)) ?_
  rw [hd_clamp ey1]
  have H2 := st σ1 x1 y1 (3 * c) H1 ey1 (by omega)
  have c2 : (am_up σ1.2.1 122 (3 * c) x1 118 39).toInt = c := by rw [am_up_o _ _ (by decide)]; omega
  refine sg_kc2_run G hd_ctK (sx_M_self H2) h0 h1 h2 h3 ?_
  intro lw2 b1 b2 b3 x2 y2 σ2 q0 q1 q2 q3 g1 g2 g3 g4 g5 g6 hM2
  simp only at g2 g6
  have ey2 : y2.toInt = ((3 * c + 1 : Nat) : Int) := by omega
  have H3 := hd_tr H2 hM2 (by decide +kernel)
  refine kr_iast G.1 rd_d_X12_code_25 (H3.1 122 (.inr (.int, 135)) rfl) (hd_in ey2 (by omega)) ?_
  rw [hd_clamp ey2]
  have H4 := st σ2 x2 y2 (3 * c + 1) H3 ey2 (by omega)
  have c4 : (am_up σ2.2.1 122 (3 * c + 1) x2 118 39).toInt = c := by rw [am_up_o _ _ (by decide)]; omega
  refine sg_kc3_run G hd_ctK (sx_M_self H4) q0 q1 q2 q3 ?_
  intro lw3 d1 d2 d3 x3 y3 σ3 r0 r1 r2 r3 u1 u2 u6 hM3
  simp only at u2 u6
  have ey3 : y3.toInt = ((3 * c + 2 : Nat) : Int) := by omega
  have H5 := hd_tr H4 hM3 (by decide +kernel)
  refine kr_iast G.1 rd_d_X12_code_39 (H5.1 122 (.inr (.int, 135)) rfl) (hd_in ey3 (by omega)) ?_
  rw [hd_clamp ey3]
  have H6 := st σ3 x3 y3 (3 * c + 2) H5 ey3 (by omega)
  have c6 : (am_up σ3.2.1 122 (3 * c + 2) x3 118 39).toInt = c := by rw [am_up_o _ _ (by decide)]; omega
  refine sg_kc4_run G hd_ctK (sx_M_self H6) r0 (by show 0 ≤ (am_up σ3.2.1 122 (3 * c + 2) x3 118 39).toInt ∧ (am_up σ3.2.1 122 (3 * c + 2) x3 118 39).toInt ≤ 39; omega) ?_
  intro σ4 v1 hM4
  simp only at v1
  exact kk σ4 (hd_tr H6 hM4 (by decide +kernel)) (by omega)
/-- code, called -/
theorem sn_codec (G : sx_G0 g L xs zK hd_T ex_mt) {T : ex_T} {σ : am_S} (hM : sx_M zK hd_T σ 0 0 σ) {c : Nat} (hc : (σ.2.1 118 39).toInt = c) (hc9 : c ≤ 39) {w s n : Int32} {lw : List (Nat × Value)} {pc i mi q : Nat} (hT : ex_mt mi = some tX12_code) (hd : decode T.1.2.1 pc = .ok (.invokevirtual i, 3)) (hl : ex_lk ex_mt T pc (.invokevirtual i) [0, mi, q] = true) {post : Option (Option Value) → am_S → Prop} (kk : ∀ σ', sx_M zK hd_T σ sn_mC 0 σ' → (σ'.2.1 118 39).toInt = ((c + 1 : Nat) : Int) → am_K g 20 T.1 0 0 (pc + 3) lw [] σ' post) : am_K g 20 T.1 0 0 pc lw [.int n, .int s, .int w, .ref 118] σ post := by
  refine rd_call G (T2 := tX12_code) hT hd hl rfl (hM.1 118 (.inl 12) rfl) (as := [.int w, .int s, .int n]) (st := []) rfl (Nat.le_of_ble_eq_true rfl) rfl (Nat.le_of_ble_eq_true rfl) (d1 := 5) (by decide) (post1 := fun r σ' => r = some none ∧ sx_M zK hd_T σ sn_mC 0 σ' ∧ (σ'.2.1 118 39).toInt = ((c + 1 : Nat) : Int)) (fun _ h => by cases h.1) (sn_code G hM hc hc9 w s n (fun σ' a b => ⟨rfl, a, b⟩)) ?_
  intro v σ' ⟨hv, a, b⟩
  cases hv
  exact kk σ' a b
def sn_dn : List Bool → List Bool
  | true :: F => sn_dn F
  | F => F
theorem sn_nots (G : sx_G0 g L xs zK hd_T ex_mt) {σe : am_S} {o : Nat} {post : Option (Option Value) → am_S → Prop} {F : List Bool} (kk : ∀ (σ' : am_S) (c' t' : Nat), sx_M zK hd_T σe sn_mB 0 σ' → sn_J σ' c' t' 1 o → sn_sk (σ'.2.1 134) t' = sn_dn F → (∀ j, t' = j + 1 → ¬ σ'.2.1 134 j = 20) → post (some none) σ') : ∀ (t c : Nat) (σ : am_S) (lw : List (Nat × Value)), sx_M zK hd_T σe sn_mB 0 σ → sn_J σ c t 1 o → sn_dn (sn_sk (σ.2.1 134) t) = sn_dn F → (0, Value.ref 118) ∈ lw → am_K g 20 tX12_nots.1 0 0 0 lw [] σ post := by
  intro t
  induction t with
  | zero =>
    intro c σ lw hM J hF hl
    have ht := J.2.1
    refine sg_kn1z_run G hd_ctK (sx_M_self hM) hl (by omega) ?_
    intro σ' hM1
    exact kk σ' c 0 (hd_tr hM hM1 (by decide +kernel)) (sn_Jm J hM1 (by decide +kernel)) (show [] = sn_dn F from hF) (fun j h => by omega)
  | succ t ih =>
    intro c σ lw hM J hF hl
    have ht := J.2.1
    have j5 := J.2.2.2.2.1
    refine sg_kn1_run G hd_ctK (sx_M_self hM) hl (by omega) ?_
    intro lw1 x1 σ1 h0 f1 hM1
    have J1 := sn_Jm J hM1 (by decide +kernel)
    have H1 := hd_tr hM hM1 (by decide +kernel)
    have ex1 : x1.toInt = ((t : Nat) : Int) := by omega
    refine kr_iald G.1 rd_d_X12_nots_17 (H1.1 134 (.inr (.int, 45)) rfl) (hd_in ex1 (by omega)) ?_
    rw [hd_clamp ex1]
    have e1 : ∀ j, j < t + 1 → σ1.2.1 134 j = σ.2.1 134 j := fun j hj => sn_fr hM1 (by decide +kernel) (by omega)
    rw [← sn_sk_c (t + 1) e1] at hF
    obtain ⟨i1, i2, i3, i4, i5, i6, i7⟩ := J1
    have z20 : (20 : Int32).toInt = 20 := rfl
    have rng := i7.1 t (by omega)
    have hsk : sn_sk (σ1.2.1 134) (t + 1) = if σ1.2.1 134 t = 20 then true :: sn_sk (σ1.2.1 134) t else if σ1.2.1 134 t = 23 then false :: sn_sk (σ1.2.1 134) t else sn_sk (σ1.2.1 134) t := rfl
    by_cases h20 : σ1.2.1 134 t = 20
    · rw [if_pos h20] at hsk
      rw [hsk] at i6 hF
      have hle := sn_sk_le (σ1.2.1 134) t
      have i6' : (σ1.2.1 118 42).toInt = (((sn_sk (σ1.2.1 134) t).length + 1 + 1 : Nat) : Int) := i6
      refine sg_kn2_run G hd_ctK (sx_M_self H1) h0 (by omega) (by omega) (by rw [h20]; exact ⟨by decide, by decide⟩) ?_
      intro lw2 y0 y1 y2 σ2 q0 f3 f4 f5 f6 f7 hM2
      have H2 := hd_tr H1 hM2 (by decide +kernel)
      have c2 : (σ2.2.1 118 39).toInt = c := by rw [hM2.2.2.2.2.1 118 39 _ _ 398 rfl (by decide +kernel)]; exact i1
      refine sn_codec G (sx_M_self H2) c2 (by omega) rfl rd_d_X12_nots_48 rd_k_X12_nots_48 ?_
      intro σ3 hM3 c3
      refine kr_goto (tgt := 0) rd_d_X12_nots_51 rfl ?_
      have e3 : ∀ j, j < 45 → σ3.2.1 134 j = σ1.2.1 134 j := fun j hj => (sn_fr hM3 (by decide +kernel) hj).trans (sn_fr hM2 (by decide +kernel) hj)
      have hs3 : sn_sk (σ3.2.1 134) t = sn_sk (σ1.2.1 134) t := sn_sk_c t (fun j hj => e3 j (by omega))
      refine ih (c + 1) σ3 lw2 (hd_tr H2 hM3 (by decide +kernel)) ⟨c3, ?_, ?_, ?_, by omega, ?_, sn_Zc i7 (by omega) (fun j hj => e3 j (by omega))⟩ ?_ q0
      · rw [hM3.2.2.2.2.1 118 41 _ _ 400 rfl (by decide +kernel)]; omega
      · rw [hM3.2.2.2.2.1 118 43 _ _ 402 rfl (by decide +kernel), hM2.2.2.2.2.1 118 43 _ _ 402 rfl (by decide +kernel)]; exact i3
      · rw [hM3.2.2.2.2.1 118 40 _ _ 399 rfl (by decide +kernel), hM2.2.2.2.2.1 118 40 _ _ 399 rfl (by decide +kernel)]; exact i4
      · rw [hM3.2.2.2.2.1 118 42 _ _ 401 rfl (by decide +kernel), hs3]; omega
      · rw [hs3]; exact hF
    · have h3 : 21 ≤ (σ1.2.1 134 t).toInt ∧ (σ1.2.1 134 t).toInt ≤ 23 := by
        rcases rng with h | h | h | h
        · exact absurd h h20
        · rw [h]; exact ⟨by decide, by decide⟩
        · rw [h]; exact ⟨by decide, by decide⟩
        · rw [h]; exact ⟨by decide, by decide⟩
      refine sg_kn3_run G hd_ctK (sx_M_self H1) h0 h3 ?_
      intro σ2 hM2
      have e2 : ∀ j, j < t + 1 → σ2.2.1 134 j = σ1.2.1 134 j := fun j hj => sn_fr hM2 (by decide +kernel) (by omega)
      refine kk σ2 c (t + 1) (hd_tr H1 hM2 (by decide +kernel)) (sn_Jm ⟨i1, i2, i3, i4, i5, i6, i7⟩ hM2 (by decide +kernel)) ?_ (fun j h => ?_)
      · rw [sn_sk_c (t + 1) e2, ← hF]
        -- the top is no not, and what lies below it is none either
        have nt : ∀ k, k ≤ t + 1 → (∀ j, k = j + 1 → ¬ σ1.2.1 134 j = 20) → sn_sk (σ1.2.1 134) k = sn_dn (sn_sk (σ1.2.1 134) k) := by
          intro k
          induction k with
          | zero => intro _ _; rfl
          | succ k ihk =>
            intro hk hn
            have h9 := hn k rfl
            have hsk2 : sn_sk (σ1.2.1 134) (k + 1) = if σ1.2.1 134 k = 20 then true :: sn_sk (σ1.2.1 134) k else if σ1.2.1 134 k = 23 then false :: sn_sk (σ1.2.1 134) k else sn_sk (σ1.2.1 134) k := rfl
            rw [if_neg h9] at hsk2
            by_cases h23 : σ1.2.1 134 k = 23
            · rw [hsk2, if_pos h23]
              rfl
            · rw [hsk2, if_neg h23]
              have rk := i7.1 k (by omega)
              refine ihk (by omega) (fun j hj => ?_)
              subst hj
              refine i7.2 j (by omega) ?_
              rcases rk with h | h | h | h
              · exact absurd h h9
              · exact Or.inl h
              · exact Or.inr h
              · exact absurd h h23
        exact nt (t + 1) (Nat.le_refl _) (fun j hj => by cases hj; exact h20)
      · cases h
        rw [e2 t (by omega)]
        exact h20
end SR
