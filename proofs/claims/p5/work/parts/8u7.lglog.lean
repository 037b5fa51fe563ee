/-! LOG, the reference: all lines; what comes behind them -/
/-- the clauses again, where what they speak of has not been written -/
theorem lr_fin {σe σ : am_S} {m : Nat} (h0 : sx_M z9 hd_C σe 0 0 σe) (hK : sx_M zK hd_T σe m 0 σ) (o0 : hd_out m 120 277 = true) (o1 : hd_out m 121 62 = true) (o2 : hd_out m 136 554 = true) : sx_M z9 hd_C σe m 0 σ := by
  have f0 := hd_frz (o := 120) (n := 277) o0 hK
  have f1 := hd_frz (o := 121) (n := 62) o1 hK
  have f2 := hd_frz (o := 136) (n := 554) o2 hK
  have c0 : ∀ c ∈ z9.2.2.2.2.1, sx_c0 c σe := fun c hc => h0.2.2.2.2.2.1 c hc (by show sx_bit 0 c.1 = false; rw [sx_bit_eq]; exact Nat.zero_testBit _)
  have c1 : ∀ c ∈ z9.2.2.2.2.2.1, hd_C c.1 σe := fun c hc => h0.2.2.2.2.2.2.1 c hc (by show sx_bit 0 c.1 = false; rw [sx_bit_eq]; exact Nat.zero_testBit _)
  refine ⟨hK.1, hK.2.1, hK.2.2.1, hK.2.2.2.1, hK.2.2.2.2.1, ?_, ?_, hK.2.2.2.2.2.2.2⟩
  · have key : ∀ c ∈ z9.2.2.2.2.1, sx_c0 c σe → sx_c0 c σ := by
      refine hd_c8 ?_ ?_ ?_ ?_ ?_ ?_ ?_ ?_
      · exact hd_c0_congr (f0 0 (by decide)) (fun j hj => f0 (2 + j) (by have : j < 10 := hj; omega))
      · exact hd_c0_congr (f0 1 (by decide)) (fun j hj => f0 (48 + j) (by have : j < 6 := hj; omega))
      · exact hd_c0_congr (f1 0 (by decide)) (fun j hj => f1 (2 + j) (by have : j < 10 := hj; omega))
      · exact hd_c0_congr (f1 1 (by decide)) (fun j hj => f1 (48 + j) (by have : j < 6 := hj; omega))
      · exact hd_c0_congr (f2 0 (by decide)) (fun j hj => f2 (2 + j) (by have : j < 10 := hj; omega))
      · exact hd_c0_congr (f2 1 (by decide)) (fun j hj => f2 (48 + j) (by have : j < 6 := hj; omega))
      · exact hd_c0_congr (f2 277 (by decide)) (fun j hj => f2 (279 + j) (by have : j < 10 := hj; omega))
      · exact hd_c0_congr (f2 278 (by decide)) (fun j hj => f2 (325 + j) (by have : j < 6 := hj; omega))
    exact fun c hc _ => key c hc (c0 c hc)
  · have key : ∀ c ∈ z9.2.2.2.2.2.1, hd_C c.1 σe → hd_C c.1 σ := by
      refine hd_u3 ?_ ?_ ?_
      · exact fun h => hd_W_congr (fun k _ h2 => f0 k (by omega)) h
      · exact fun h => hd_W_congr (fun k _ h2 => f2 k (by omega)) h
      · exact fun h => hd_W_congr (f := fun k => σe.2.1 136 (277 + k)) (f' := fun k => σ.2.1 136 (277 + k)) (fun k _ h2 => f2 (277 + k) (by omega)) h
    exact fun c hc _ => key c hc (c1 c hc)
/-- what all of the reading writes, where it reads well -/
def lr_mR : Nat := Nat.lor lr_mT (Nat.lor (Nat.shiftLeft 1 359) (Nat.lor (Nat.shiftLeft 3 361) (Nat.lor (Nat.shiftLeft 1 364) (Nat.shiftLeft 1 372))))
def lr_mF : Nat := Nat.lor lr_mR rd_mL
/-- what comes behind the reading may write this at most -/
def lr_mA : Nat := Nat.xor (Nat.shiftLeft (2 ^ 543 - 1) 359) (Nat.lor (Nat.shiftLeft 1 406) (Nat.lor (Nat.shiftLeft 1 361) (Nat.shiftLeft 1 372)))
section LR2
variable {g : am_C} {L : Nat} {xs : Nat → Int32}
theorem lr_219 (G : sx_G0 g L xs z9 hd_C ex_mt) (hct : rc_ct g) {σ : am_S} {post : Option (Option Value) → am_S → Prop} (k : ∀ (r : Int32) σ', sx_M z9 hd_C σ lr_mA 0 σ' → post (some (some (.int r))) σ') {σ1 : am_S} (h1 : sx_M z9 hd_C σ lr_mA 0 σ1) {lw : List (Nat × Value)} {m1 m2 m3 : Int32} (hl : (0, Value.ref 118) ∈ lw) (hl1 : (1, Value.int m1) ∈ lw) (hl2 : (2, Value.int m2) ∈ lw) (hl3 : (3, Value.int m3) ∈ lw) (hm : 0 ≤ m1.toInt ∧ m1.toInt ≤ 1) : am_K g 30 tX12_log.1 0 0 219 lw [] σ1 post := by
  by_cases e : m1.toInt = 1
  · refine sg_gp5a_run G hct (sx_M_self h1) hl hl1 (by omega) hl2 hl3 ?_
    intro r σ' f1 hM'
    exact k r σ' (hd_tr h1 hM' (by decide +kernel))
  · refine sg_gp5b_run G hct (sx_M_self h1) hl hl1 (by omega) hl2 hl3 ?_
    intro r σ' f1 hM'
    exact k r σ' (hd_tr h1 hM' (by decide +kernel))
theorem lr_145 (G : sx_G0 g L xs z9 hd_C ex_mt) (hct : rc_ct g) {σ : am_S} {post : Option (Option Value) → am_S → Prop} (k : ∀ (r : Int32) σ', sx_M z9 hd_C σ lr_mA 0 σ' → post (some (some (.int r))) σ') : ∀ (f : Nat) (σ1 : am_S) (lw : List (Nat × Value)) (m1 m2 m3 m4 : Int32), 40 - m4.toInt < (f : Int) → sx_M z9 hd_C σ lr_mA 0 σ1 → (0, Value.ref 118) ∈ lw → (1, Value.int m1) ∈ lw → (2, Value.int m2) ∈ lw → (3, Value.int m3) ∈ lw → (4, Value.int m4) ∈ lw → 0 ≤ m1.toInt ∧ m1.toInt ≤ 1 → 0 ≤ m4.toInt ∧ m4.toInt ≤ 40 → am_K g 30 tX12_log.1 0 0 145 lw [] σ1 post := by
  intro f
  induction f with
  | zero => intro σ1 lw m1 m2 m3 m4 hf; omega
  | succ f ih =>
    intro σ1 lw m1 m2 m3 m4 hf h1 hl hl1 hl2 hl3 hl4 hm hm4
    have kt : (0 : Int) ≤ (σ1.2.1 118 35).toInt ∧ (σ1.2.1 118 35).toInt ≤ (40 : Int) := h1.2.2.1 118 35 _ _ 394 rfl
    have i3 := Int32.le_toInt m3
    have i3' := Int32.toInt_lt m3
    by_cases h3 : 0 ≤ m3.toInt
    · refine sg_gp4y_run G hct (sx_M_self h1) hl hl1 hm hl2 hl3 (by omega) hl4 hm4 ?_
      intro lw2 y1 y2 y3 σ2 p0 p1 p2 p3 f1 f2 hM2
      exact lr_219 G hct k (hd_tr h1 hM2 (by decide +kernel)) p0 p1 p2 p3 (by omega)
    · by_cases h4 : m4.toInt < (σ1.2.1 118 35).toInt
      · refine sg_gp4_run G hct (sx_M_self h1) hl hl1 hm hl2 hl3 (by omega) hl4 (by omega) (by omega) ?_ ?_
        · intro lw2 y1 y2 y3 y4 σ2 p0 p1 p2 p3 p4 f1 f2 f3 hM2
          exact ih σ2 lw2 y1 y2 y3 y4 (by omega) (hd_tr h1 hM2 (by decide +kernel)) p0 p1 p2 p3 p4 (by omega) (by omega)
        · intro lw2 y1 y2 y3 y4 σ2 p0 p1 p2 p3 p4 f1 f2 f3 hM2
          exact ih σ2 lw2 y1 y2 y3 y4 (by omega) (hd_tr h1 hM2 (by decide +kernel)) p0 p1 p2 p3 p4 (by omega) (by omega)
      · refine sg_gp4x_run G hct (sx_M_self h1) hl hl1 hm hl2 hl3 hl4 hm4 (by omega) ?_
        intro lw2 y1 y2 y3 σ2 p0 p1 p2 p3 f1 f2 hM2
        exact lr_219 G hct k (hd_tr h1 hM2 (by decide +kernel)) p0 p1 p2 p3 (by omega)
theorem lr_after (G : sx_G0 g L xs z9 hd_C ex_mt) (hct : rc_ct g) {σ : am_S} (hM : sx_M z9 hd_C σ 0 0 σ) {post : Option (Option Value) → am_S → Prop} (k : ∀ (r : Int32) σ', sx_M z9 hd_C σ lr_mA 0 σ' → post (some (some (.int r))) σ') {lw : List (Nat × Value)} {m1 : Int32} (hl : (0, Value.ref 118) ∈ lw) (hl1 : (1, Value.int m1) ∈ lw) (hm : 0 ≤ m1.toInt ∧ m1.toInt ≤ 1) : am_K g 30 tX12_log.1 0 0 83 lw [] σ post := by
  refine sg_gp1_run G hct hM hl hl1 hm ?_
  intro lw1 y1 y2 y3 y4 σ1 p0 p1 p2 p3 p4 f1 f2 f3 hM1
  exact lr_145 G hct k 41 σ1 lw1 y1 y2 y3 y4 (by omega) (sx_M_mask (by decide +kernel) hM1) p0 p1 p2 p3 p4 (by omega) (by omega)
theorem lr_loop (G : sx_G0 g L xs z9 hd_C ex_mt) (hct : rc_ct g) {σ : am_S} (hM : sx_M z9 hd_C σ 0 0 σ) {b : Nat → Nat} (hb : ∀ k, b k ≤ 255) {n : Nat} {S : lz_X} {post : Option (Option Value) → am_S → Prop}
    (k : ∀ (r : Int32) (σ' : am_S) (x : (Nat × Nat) ⊕ Nat), lz_go b n S (.inl x) → (σ'.2.1 118 13).toInt = (lz_kd x : Nat) → (σ'.2.1 118 2).toInt = 0 → σ'.1[118]? = some (.inl 12) → post (some (some (.int r))) σ') (hS : lz_in b n S) : ∀ (f l : Nat) (t : rd_K) (σ1 : am_S) (lw : List (Nat × Value)) (m1 : Int32), 40 - l < f → sx_M zK hd_T σ lr_mR 0 σ1 → lr_E σ1 b n l t → lz_go b n S (.inr (l, t)) → (0, Value.ref 118) ∈ lw → (1, Value.int m1) ∈ lw → 0 ≤ m1.toInt ∧ m1.toInt ≤ 1 → am_K g 30 tX12_log.1 0 0 39 lw [] σ1 post := by
  have GK := hd_GK G
  have z2 : ∀ {m : Nat} {σ1 σ2 : am_S}, sx_M zK hd_T σ1 m 0 σ2 → sx_bit m 361 = false → (σ1.2.1 118 2).toInt = 0 → (σ2.2.1 118 2).toInt = 0 := fun h hm e => by rw [h.2.2.2.2.1 118 2 _ _ 361 rfl hm]; exact e
  intro f
  induction f with
  | zero => intro l t σ1 lw m1 hf; omega
  | succ f ih =>
    intro l t σ1 lw m1 hf h1 E1 hgo hl hl1 hm
    have l40 := E1.2.2.2.2.1
    have n1 := E1.2.1.1
    have k9 : (0 : Int) ≤ (σ1.2.1 118 9).toInt ∧ (σ1.2.1 118 9).toInt ≤ (4 : Int) := h1.2.2.1 118 9 _ _ 368 rfl
    have n9 : n ≤ 940 := E1.1.2.2.2.1
    by_cases t0 : t.1 = 0
    · refine sg_go2e_run GK hd_ctK (sx_M_self h1) hl hl1 hm (by omega) ?_
      intro lw2 y2 σ2 p0 p1 f1 hM2
      have h2 := hd_tr h1 hM2 (by decide +kernel)
      have E2 := lr_E0 E1 hM2 (by decide +kernel)
      have h9 : sx_M z9 hd_C σ lr_mR 0 σ2 := lr_fin hM h2 (by decide +kernel) (by decide +kernel) (by decide +kernel)
      refine lr_after G hct (sx_M_self h9) (fun r σ' hM' => ?_) p0 p1 (by omega)
      refine k r σ' (.inr l) (lz_go_t hgo (lz_z t0)) ?_ ?_ (hM'.1 118 (.inl 12) rfl)
      · rw [hM'.2.2.2.2.1 118 13 _ _ 372 rfl (by decide +kernel)]; exact E2.2.2.2.2.2.1
      · rw [hM'.2.2.2.2.1 118 2 _ _ 361 rfl (by decide +kernel)]; exact E2.2.2.2.2.2.2
    refine sg_go2m_run GK hd_ctK (sx_M_self h1) hl hl1 hm (by omega) ?_
    intro lw2 y2 σ2 p0 p1 f1 hM2
    have E2 := lr_E0 E1 hM2 (by decide +kernel)
    have h2 := hd_tr h1 hM2 (by decide +kernel)
    refine rd_call GK (T2 := tX12_logLine) rfl rd_d_X12_log_47 rd_k_X12_log_47 rfl (hM2.1 118 (.inl 12) rfl) (as := []) (st := []) rfl (Nat.le_of_ble_eq_true rfl) rfl (by decide) (d1 := 20) (by decide) (post1 := fun r σ' => ∃ y : Int32, r = some (some (.int y)) ∧ ((∃ kd at' : Nat, lz_one b n l t = .inl (kd, at') ∧ y.toInt = 0 ∧ sx_M zK hd_T σ2 lr_m 0 σ' ∧ (σ'.2.1 118 13).toInt = (kd : Nat) ∧ (σ'.2.1 118 14).toInt = (at' : Nat) ∧ (σ'.2.1 118 2).toInt = 0) ∨ (∃ t1 : rd_K, lz_one b n l t = .inr t1 ∧ y.toInt = 1 ∧ sx_M zK hd_T σ2 lr_mT 0 σ' ∧ lr_E σ' b n l t1))) (fun _ h => by obtain ⟨y, h, -⟩ := h; cases h) (lr_line GK (sx_M_self hM2) hb E2 (by simp [lv_args]) (fun r σ' kd at' a1 a2 a3 a4 a5 a6 => ⟨r, rfl, Or.inl ⟨kd, at', a1, a2, a3, a4, a5, a6⟩⟩) (fun r σ' t1 a1 a2 a3 a4 => ⟨r, rfl, Or.inr ⟨t1, a1, a2, a3, a4⟩⟩)) ?_
    intro v3 σ3 ⟨y, hv, h⟩
    cases hv
    rcases h with ⟨kd, at', a1, a2, a3, a4, a5, a6⟩ | ⟨t1, a1, a2, a3, E3⟩
    · have g1 := lz_go_t hgo (lz_s t0 a1)
      have h9 : at' ≤ 940 := lz_go_in n9 g1 hS
      refine sg_go3n_run GK hd_ctK (sx_M_self a3) p0 (by omega) (by omega) ?_
      intro r σ4 f2 hM4
      exact k r σ4 (.inl (kd, at')) g1 (by rw [hM4.2.2.2.2.1 118 13 _ _ 372 rfl (sx_bit0 _)]; exact a4) (z2 hM4 (sx_bit0 _) a6) (hM4.1 118 (.inl 12) rfl)
    · have l39 := lz_one40 a1
      have h3 := hd_tr h2 a3 (by decide +kernel)
      have g1 : lz_go b n S (if rd_sgf t1 59 = 0 then .inr (l + 1, lz_nx b n t1) else .inl (.inl (1, t1.2.1))) := lz_go_t hgo (lz_s t0 a1)
      refine sg_go3_run GK hd_ctK (sx_M_self a3) p0 p1 (by omega) (by omega) ?_
      intro lw4 y4 c4 σ4 q0 q1 f2 f3 hM4
      have E4 := lr_E0 E3 hM4 (by decide +kernel)
      have h4 := hd_tr h3 hM4 (by decide +kernel)
      refine rd_call GK (T2 := tX12_sign) rfl rd_d_X12_log_56 rd_k_X12_log_56 rfl (hM4.1 118 (.inl 12) rfl) (as := [.int c4]) (st := []) rfl (Nat.le_of_ble_eq_true rfl) rfl (by decide) (d1 := 12) (by decide) (post1 := fun r σ' => ∃ y : Int32, r = some (some (.int y)) ∧ ((rd_sgf t1 59 ≠ 0 ∧ y.toInt = 0 ∧ sx_M zK hd_T σ4 rd_mL 0 σ' ∧ (σ'.2.1 118 13).toInt = (rd_sgf t1 59 : Nat) ∧ (σ'.2.1 118 14).toInt = (t1.2.1 : Nat)) ∨ (rd_sgf t1 59 = 0 ∧ y.toInt = 1 ∧ sx_M zK hd_T σ4 rd_mN 0 σ' ∧ rd_N σ' b (lz_nx b n t1)))) (fun _ h => by obtain ⟨y, h, -⟩ := h; cases h) (rd_sign GK (sx_M_self hM4) E4.1 E4.2.1 (c := 59) (m1 := c4) (by simp [lv_args, Value.category]) (by simp [lv_args, Value.category]) (by omega) (fun r σ' e1 e2 e3 e4 e5 => ⟨r, rfl, Or.inl ⟨e1, e2, e3, e4, e5⟩⟩) (fun r σ' e1 e2 e3 e4 => ⟨r, rfl, Or.inr ⟨e1, e2, e3, e4⟩⟩)) ?_
      intro v5 σ5 ⟨y5, hv5, h5⟩
      cases hv5
      rcases h5 with ⟨b1, b2, b3, b4, b5⟩ | ⟨b1, b2, b3, b4⟩
      · rw [if_neg b1] at g1
        have es : rd_sgf t1 59 = 1 := by
          unfold rd_sgf at b1 ⊢
          split at b1
          · exact absurd rfl b1
          · rename_i hq; rw [if_neg hq]
        have h9 : t1.2.1 ≤ 940 := lz_go_in n9 g1 hS
        refine sg_go4n_run GK hd_ctK (sx_M_self b3) q0 (by omega) (by omega) ?_
        intro r σ6 f4 hM6
        exact k r σ6 (.inl (1, t1.2.1)) g1 (by rw [hM6.2.2.2.2.1 118 13 _ _ 372 rfl (sx_bit0 _), b4, es]; rfl) (z2 hM6 (sx_bit0 _) (z2 b3 (by decide +kernel) E4.2.2.2.2.2.2)) (hM6.1 118 (.inl 12) rfl)
      · rw [if_pos b1] at g1
        have E5 : lr_E σ5 b n l (lz_nx b n t1) := lr_En E4 b3 (by decide +kernel) b4
        have l5 := E5.2.2.2.1
        have h5' := hd_tr h4 b3 (by decide +kernel)
        refine sg_go4_run GK hd_ctK (sx_M_self b3) q0 q1 (by omega) (by omega) (by omega) ?_
        intro lw6 y6 σ6 u0 u1 f4 f5 hM6
        exact ih (l + 1) _ σ6 lw6 y6 (by omega) (hd_tr h5' hM6 (by decide +kernel)) (lr_E1 E5 (sx_M_mask (by decide +kernel) hM6) (by omega) (by omega)) g1 u0 u1 (by omega)
theorem lr_log (G : sx_G0 g L xs z9 hd_C ex_mt) (hct : rc_ct g) {σ : am_S} (hM : sx_M z9 hd_C σ 0 0 σ) {b : Nat → Nat} (hb : ∀ k, b k ≤ 255) (hbX : ∀ k, k < 940 → rd_by (σ.2.1 119) k = b k) {n : Nat} (hn : (σ.2.1 118 2).toInt = n) {lw : List (Nat × Value)} (hl : (0, Value.ref 118) ∈ lw) {m1 : Int32} (hl1 : (1, Value.int m1) ∈ lw) {post : Option (Option Value) → am_S → Prop}
    (k0 : ∀ (r : Int32) (σ' : am_S), ¬ (0 ≤ m1.toInt ∧ m1.toInt ≤ 1) → σ'.1[118]? = some (.inl 12) → σ'.2.1 118 13 = σ.2.1 118 13 → σ'.2.1 118 2 = σ.2.1 118 2 → post (some (some (.int r))) σ')
    (k1 : ∀ (r : Int32) (σ' : am_S) (x : (Nat × Nat) ⊕ Nat), 0 ≤ m1.toInt ∧ m1.toInt ≤ 1 → lz_go b n (lz_s0 b n) (.inl x) → (σ'.2.1 118 13).toInt = (lz_kd x : Nat) → (σ'.2.1 118 2).toInt = 0 → σ'.1[118]? = some (.inl 12) → post (some (some (.int r))) σ') : am_K g 30 tX12_log.1 0 0 0 lw [] σ post := by
  have GK := hd_GK G
  have hK := hd_toK hM
  have kL : (0 : Int) ≤ (σ.2.1 118 2).toInt ∧ (σ.2.1 118 2).toInt ≤ (940 : Int) := hM.2.2.1 118 2 _ _ 361 rfl
  by_cases hm : 0 ≤ m1.toInt ∧ m1.toInt ≤ 1
  · refine sg_go1_run GK hd_ctK hK hl hl1 hm ?_
    intro lw1 y1 σ1 p0 p1 f2 f3 f4 f5 f13 f35 f6 hM1
    have H1 : sx_M zK hd_T σ lr_mR 0 σ1 := sx_M_mask (by decide +kernel) hM1
    have X1 : rd_X σ1 b n 400 := ⟨fun k hk => by
      rw [← hbX k hk]
      unfold rd_by
      rw [hM1.2.2.2.2.1 119 k _ _ 406 (rd_a119 hk) (by decide +kernel)], hd_nat (by omega) (by omega), hd_nat (by decide) (by show _ = ((400 : Nat) : Int); omega), by omega, by decide⟩
    refine rd_nxc GK (d := 30) (by decide) (sx_M_self H1) X1 (p := 0) (by omega) rfl rd_d_X12_log_36 rd_k_X12_log_36 (by decide) ?_
    intro σ2 hM2 N2
    have H2 := hd_tr H1 hM2 (by decide +kernel)
    refine lr_loop G hct hM hb (S := lz_s0 b n) (fun r σ' x a1 a2 a3 a4 => k1 r σ' x hm a1 a2 a3 a4) ⟨0, Nat.zero_le _, rfl⟩ 41 0 _ σ2 lw1 y1 (by omega) H2 ⟨lr_X0 X1 hM2 (by decide +kernel) (by decide +kernel) (by decide +kernel), N2, ⟨0, Nat.zero_le _, rfl⟩, ?_, by omega, ?_, ?_⟩ (lz_go_r _) p0 p1 (by omega)
    · rw [hM2.2.2.2.2.1 118 35 _ _ 394 rfl (by decide +kernel)]; show _ = (0 : Int); omega
    · rw [hM2.2.2.2.2.1 118 13 _ _ 372 rfl (by decide +kernel)]; omega
    · rw [hM2.2.2.2.2.1 118 2 _ _ 361 rfl (by decide +kernel)]; omega
  · have i1 := Int32.le_toInt m1
    have i2 := Int32.toInt_lt m1
    by_cases h : m1.toInt ≤ -1
    · refine sg_go0a_run GK hd_ctK hK hl hl1 (by omega) ?_
      intro r σ' f1 hM'
      exact k0 r σ' hm (hM'.1 118 (.inl 12) rfl) (hM'.2.2.2.2.1 118 13 _ _ 372 rfl (by decide +kernel)) (hM'.2.2.2.2.1 118 2 _ _ 361 rfl (by decide +kernel))
    · refine sg_go0b_run GK hd_ctK hK hl hl1 (by omega) ?_
      intro r σ' f1 hM'
      exact k0 r σ' hm (hM'.1 118 (.inl 12) rfl) (hM'.2.2.2.2.1 118 13 _ _ 372 rfl (by decide +kernel)) (hM'.2.2.2.2.1 118 2 _ _ 361 rfl (by decide +kernel))
end LR2
