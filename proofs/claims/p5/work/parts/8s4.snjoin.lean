/-! SENTENCE, the reference: joins -/
def sn_top (f : Nat → Int32) (t : Nat) : Prop := ∀ j, t = j + 1 → ¬ f j = 20
section SR2
variable {g : am_C} {L : Nat} {xs : Nat → Int32}
theorem sn_joins (G : sx_G0 g L xs zK hd_T ex_mt) {σe : am_S} {o : Nat} {post : Option (Option Value) → am_S → Prop} {F : List Bool} {x : Int32} (hx : x = 21 ∨ x = 22) (kk : ∀ (σ' : am_S) (c' t' : Nat), sx_M zK hd_T σe sn_mB 0 σ' → sn_J σ' c' t' 1 o → sn_sk (σ'.2.1 134) t' = F → sn_top (σ'.2.1 134) t' → (x = 22 → ∀ j, t' = j + 1 → σ'.2.1 134 j = 23) → post (some none) σ') : ∀ (t c : Nat) (σ : am_S) (lw : List (Nat × Value)), sx_M zK hd_T σe sn_mB 0 σ → sn_J σ c t 1 o → sn_sk (σ.2.1 134) t = F → sn_top (σ.2.1 134) t → (0, Value.ref 118) ∈ lw → (1, Value.int x) ∈ lw → am_K g 20 tX12_joins.1 0 0 0 lw [] σ post := by
  have x20 : (20 : Int32).toInt = 20 := rfl
  have x21 : (21 : Int32).toInt = 21 := rfl
  have x22 : (22 : Int32).toInt = 22 := rfl
  have x23 : (23 : Int32).toInt = 23 := rfl
  intro t
  induction t with
  | zero =>
    intro c σ lw hM J hF hN hl hl1
    have ht := J.2.1
    refine sg_kj1z_run G hd_ctK (sx_M_self hM) hl hl1 (by omega) ?_
    intro σ' hM1
    exact kk σ' c 0 (hd_tr hM hM1 (by decide +kernel)) (sn_Jm J hM1 (by decide +kernel)) (show [] = F from hF) (fun j h => by omega) (fun _ j h => by omega)
  | succ t ih =>
    intro c σ lw hM J hF hN hl hl1
    have ht := J.2.1
    have j5 := J.2.2.2.2.1
    refine sg_kj1_run G hd_ctK (sx_M_self hM) hl hl1 (by omega) ?_
    intro lw1 z1 y1 σ1 h0 h1 f1 f2 hM1
    have ez : z1 = x := Int32.toInt_inj.mp (by omega)
    subst ez
    have J1 := sn_Jm J hM1 (by decide +kernel)
    have H1 := hd_tr hM hM1 (by decide +kernel)
    have ey1 : y1.toInt = ((t : Nat) : Int) := by omega
    have e1 : ∀ j, j < t + 1 → σ1.2.1 134 j = σ.2.1 134 j := fun j hj => sn_fr hM1 (by decide +kernel) (by omega)
    rw [← sn_sk_c (t + 1) e1] at hF
    have hN1 : ¬ σ1.2.1 134 t = 20 := by rw [e1 t (by omega)]; exact hN t rfl
    have ht1 := J1.2.1
    have rng := J1.2.2.2.2.2.2.1 t (by omega)
    have hsk : sn_sk (σ1.2.1 134) (t + 1) = if σ1.2.1 134 t = 20 then true :: sn_sk (σ1.2.1 134) t else if σ1.2.1 134 t = 23 then false :: sn_sk (σ1.2.1 134) t else sn_sk (σ1.2.1 134) t := rfl
    rw [if_neg hN1] at hsk
    refine kr_iald G.1 rd_d_X12_joins_17 (H1.1 134 (.inr (.int, 45)) rfl) (hd_in ey1 (by omega)) ?_
    rw [hd_clamp ey1]
    -- off the stack
    have pop : ∀ (σ2 : am_S) (lw2 : List (Nat × Value)) (z2 y2 : Int32), sx_M zK hd_T σ1 (Nat.shiftLeft 1 400) 0 σ2 → (σ2.2.1 118 41).toInt = (t : Nat) → y2.toInt = (t : Nat) → z2 = z1 → (σ1.2.1 134 t = 21 ∨ σ1.2.1 134 t = 22) → (0, Value.ref 118) ∈ lw2 → (1, Value.int z2) ∈ lw2 → am_K g 20 tX12_joins.1 0 0 64 lw2 [.int y2, .ref 134, .ref 118] σ2 post := by
      intro σ2 lw2 z2 y2 hM2 htop ey hz hv h20 h21
      subst hz
      obtain ⟨i1, i2, i3, i4, i5, i6, i7⟩ := J1
      have h23 : ¬ σ1.2.1 134 t = 23 := fun e => by rcases hv with h | h <;> rw [h] at e <;> exact absurd e (by decide)
      rw [if_neg h23] at hsk
      have H2 := hd_tr H1 hM2 (by decide +kernel)
      refine kr_iald G.1 rd_d_X12_joins_64 (H2.1 134 (.inr (.int, 45)) rfl) (hd_in ey (by omega)) ?_
      rw [hd_clamp ey]
      refine sg_kj9_run G hd_ctK (sx_M_self H2) h20 h21 ?_
      intro lw3 z3 y3 y4 y5 σ3 q0 q1 u1 u2 u3 u4 hM3
      have ez3 : z3 = z2 := Int32.toInt_inj.mp (by omega)
      subst ez3
      have H3 := hd_tr H2 hM3 (by decide +kernel)
      have c3 : (σ3.2.1 118 39).toInt = c := by rw [hM3.2.2.2.2.1 118 39 _ _ 398 rfl (by decide +kernel), hM2.2.2.2.2.1 118 39 _ _ 398 rfl (by decide +kernel)]; exact i1
      refine sn_codec G (sx_M_self H3) c3 (by omega) rfl rd_d_X12_joins_67 rd_k_X12_joins_67 ?_
      intro σ4 hM4 c4
      refine kr_goto (tgt := 0) rd_d_X12_joins_70 rfl ?_
      have e4 : ∀ j, j < 45 → σ4.2.1 134 j = σ1.2.1 134 j := fun j hj => (sn_fr hM4 (by decide +kernel) hj).trans ((sn_fr hM3 (by decide +kernel) hj).trans (sn_fr hM2 (by decide +kernel) hj))
      have hs4 : sn_sk (σ4.2.1 134) t = sn_sk (σ1.2.1 134) t := sn_sk_c t (fun j hj => e4 j (by omega))
      refine ih (c + 1) σ4 lw3 (hd_tr H3 hM4 (by decide +kernel)) ⟨c4, ?_, ?_, ?_, by omega, ?_, sn_Zc i7 (by omega) (fun j hj => e4 j (by omega))⟩ ?_ (fun j hj => ?_) q0 q1
      · rw [hM4.2.2.2.2.1 118 41 _ _ 400 rfl (by decide +kernel), hM3.2.2.2.2.1 118 41 _ _ 400 rfl (by decide +kernel)]; exact htop
      · rw [hM4.2.2.2.2.1 118 43 _ _ 402 rfl (by decide +kernel), hM3.2.2.2.2.1 118 43 _ _ 402 rfl (by decide +kernel), hM2.2.2.2.2.1 118 43 _ _ 402 rfl (by decide +kernel)]; exact i3
      · rw [hM4.2.2.2.2.1 118 40 _ _ 399 rfl (by decide +kernel), hM3.2.2.2.2.1 118 40 _ _ 399 rfl (by decide +kernel), hM2.2.2.2.2.1 118 40 _ _ 399 rfl (by decide +kernel)]; exact i4
      · rw [hM4.2.2.2.2.1 118 42 _ _ 401 rfl (by decide +kernel), hM3.2.2.2.2.1 118 42 _ _ 401 rfl (by decide +kernel), hM2.2.2.2.2.1 118 42 _ _ 401 rfl (by decide +kernel), hs4, ← hsk]; exact i6
      · rw [hs4, ← hsk]; exact hF
      · subst hj
        rw [e4 j (by omega)]
        exact i7.2 j (by omega) hv
    -- it ends here
    have fin : ∀ (σ2 : am_S), sx_M zK hd_T σ1 0 0 σ2 → (z1 = 22 → σ1.2.1 134 t = 23) → post (some none) σ2 := by
      intro σ2 hM2 h23
      have e2 : ∀ j, j < t + 1 → σ2.2.1 134 j = σ1.2.1 134 j := fun j hj => sn_fr hM2 (by decide +kernel) (by omega)
      exact kk σ2 c (t + 1) (hd_tr H1 hM2 (by decide +kernel)) (sn_Jm J1 hM2 (by decide +kernel)) ((sn_sk_c (t + 1) e2).trans hF) (fun j h => by cases h; rw [e2 t (by omega)]; exact hN1) (fun h j hj => by cases hj; rw [e2 t (by omega)]; exact h23 h)
    -- the second look
    have look : ∀ (σ2 : am_S) (lw2 : List (Nat × Value)) (z2 y2 : Int32), sx_M zK hd_T σ1 0 0 σ2 → y2.toInt = (t : Nat) → z2 = z1 → ¬ σ1.2.1 134 t = 21 → (0, Value.ref 118) ∈ lw2 → (1, Value.int z2) ∈ lw2 → am_K g 20 tX12_joins.1 0 0 33 lw2 [.int y2, .ref 134] σ2 post := by
      intro σ2 lw2 z2 y2 hM2 ey hz h21' h20 h21
      subst hz
      have H2 := hd_tr H1 hM2 (by decide +kernel)
      have e2 : σ2.2.1 134 t = σ1.2.1 134 t := sn_fr hM2 (by decide +kernel) (by omega)
      have ht2 : (σ2.2.1 118 41).toInt = ((t + 1 : Nat) : Int) := by rw [hM2.2.2.2.2.1 118 41 _ _ 400 rfl (by decide +kernel)]; exact ht1
      refine kr_iald G.1 rd_d_X12_joins_33 (H2.1 134 (.inr (.int, 45)) rfl) (hd_in ey (by omega)) ?_
      rw [hd_clamp ey, e2]
      rcases rng with h | h | h | h
      · exact absurd h hN1
      · exact absurd h h21'
      · rcases hx with hx1 | hx2
        · refine sg_kj6_run G hd_ctK (sx_M_self H2) h20 h21 (by rw [hx1]; exact ⟨by decide, by decide⟩) (by rw [h]; exact ⟨by decide, by decide⟩) ?_
          intro σ3 hM3
          exact fin σ3 (hd_tr hM2 hM3 (by decide +kernel)) (fun q => by rw [hx1] at q; exact absurd q (by decide))
        · refine sg_kj5_run G hd_ctK (sx_M_self H2) h20 h21 (by rw [hx2]; exact ⟨by decide, by decide⟩) (by omega) (by rw [h]; exact ⟨by decide, by decide⟩) ?_
          intro lw3 z3 y3 σ3 q0 q1 u1 u2 u3 hM3
          exact pop σ3 lw3 z3 y3 (hd_tr (sx_M_mask (by decide +kernel) hM2) hM3 (by decide +kernel)) (by omega) (by omega) (Int32.toInt_inj.mp (by omega)) (Or.inr h) q0 q1
      · refine sg_kj8_run G hd_ctK (sx_M_self H2) h20 h21 (by rw [h]; exact ⟨by decide, by decide⟩) ?_
        intro σ3 hM3
        exact fin σ3 (hd_tr hM2 hM3 (by decide +kernel)) (fun _ => h)
    by_cases h21 : σ1.2.1 134 t = 21
    · refine sg_kj2_run G hd_ctK (sx_M_self H1) h0 h1 (by omega) (by rw [h21]; exact ⟨by decide, by decide⟩) ?_
      intro lw2 z2 y2 σ2 q0 q1 u1 u2 u3 hM2
      exact pop σ2 lw2 z2 y2 (sx_M_mask (by decide +kernel) hM2) (by omega) (by omega) (Int32.toInt_inj.mp (by omega)) (Or.inl h21) q0 q1
    · refine sg_kj4_run G hd_ctK (sx_M_self H1) h0 h1 (by omega) ?_ ?_
      · rcases rng with h | h | h | h
        · exact absurd h hN1
        · exact absurd h h21
        · rw [h]; exact ⟨by decide, by decide⟩
        · rw [h]; exact ⟨by decide, by decide⟩
      · intro lw2 z2 y2 σ2 q0 q1 u1 u2 hM2
        exact look σ2 lw2 z2 y2 hM2 (by omega) (Int32.toInt_inj.mp (by omega)) h21 q0 q1
end SR2
