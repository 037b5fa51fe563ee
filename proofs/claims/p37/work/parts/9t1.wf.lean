/-! the STATION that is told is well formed, between turns too -/
theorem pl_W_c {s s' : Nat → Int32} (b : pl_B s) (h : pl_W s) (e : ∀ k, k < 62 → s' k = s k) : pl_W s' := by
  obtain ⟨⟨b1, b2⟩, b3, b4⟩ := b
  obtain ⟨h1, h2, h3⟩ := h
  refine ⟨fun k hk => ?_, fun k hk => ?_, ?_⟩
  · rw [e 0 (by decide)] at hk
    rw [e (12 + k) (by omega)]
    exact h1 k hk
  · rw [e 1 (by decide)] at hk
    rw [e (42 + k) (by omega)]
    exact h2 k hk
  · rw [e 54 (by decide)]
    exact h3
def rw_Q (q : rd_Q) : Prop := pl_B q.2.1 ∧ pl_W q.2.1
theorem rw_put {b : Nat → Nat} {n most : Nat} {q q' : rd_Q} {slot lo hi : Nat} (h : rd_put1 b n most q slot lo hi = .inr q') : ∃ v : Nat, lo ≤ v ∧ v ≤ hi ∧ q'.2.1 = rd_up q.2.1 slot (Int32.ofNat v) := by
  unfold rd_put1 at h
  split at h
  · rename_i h0
    cases h
    refine ⟨q.1.2.2.2.2, ?_, ?_, rfl⟩
    · unfold rd_tkf at h0
      split at h0
      · split at h0
        · rename_i g; exact g.1
        · cases h0
      · cases h0
    · unfold rd_tkf at h0
      split at h0
      · split at h0
        · rename_i g; exact g.2
        · cases h0
      · cases h0
  · cases h
theorem rw_bd {x : (Nat × Nat) ⊕ rd_Q} {f : rd_Q → (Nat × Nat) ⊕ rd_Q} {q' : rd_Q} (h : rd_bd x f = .inr q') : ∃ q1, x = .inr q1 ∧ f q1 = .inr q' := by
  cases x with
  | inl e => cases h
  | inr q1 => exact ⟨q1, rfl, h⟩
theorem rw_of {v : Nat} (h : v ≤ 99) : (Int32.ofNat v).toInt = (v : Int) := Int32.toInt_ofNat_of_lt (by omega)
theorem rw_line {b : Nat → Nat} {n most : Nat} {q q1 : rd_Q} (hq : rw_Q q) (h : rd_line b n most q = .inr q1) : rw_Q q1 := by
  obtain ⟨⟨⟨b1, b2⟩, b3, b4⟩, h1, h2, h3⟩ := hq
  unfold rd_line at h
  split at h
  · split at h
    · cases h
    · rename_i hw
      have hw9 : (q.2.1 0).toInt.toNat ≤ 9 := by omega
      unfold rd_lineW at h
      obtain ⟨r1, e1, h⟩ := rw_bd h
      obtain ⟨r2, e2, h⟩ := rw_bd h
      obtain ⟨r3, e3, h⟩ := rw_bd h
      obtain ⟨r4, e4, h⟩ := rw_bd h
      obtain ⟨v1, -, -, f1⟩ := rw_put e1
      obtain ⟨v2, l2, u2, f2⟩ := rw_put e2
      obtain ⟨v3, -, -, f3⟩ := rw_put e3
      obtain ⟨v4, -, -, f4⟩ := rw_put e4
      cases h
      have f0 : (rd_nx b n most q).2.1 = q.2.1 := rfl
      rw [f0] at f1
      generalize (q.2.1 0).toInt.toNat = w at *
      have g : ∀ k, k ≠ 0 → k ≠ 2 + w → k ≠ 12 + w → k ≠ 22 + w → k ≠ 32 + w → rd_up r4.2.1 0 (Int32.ofNat (w + 1)) k = q.2.1 k := by
        intro k a0 a1 a2 a3 a4
        rw [rd_up_n _ _ a0, f4, rd_up_n _ _ a4, f3, rd_up_n _ _ a3, f2, rd_up_n _ _ a2, f1, rd_up_n _ _ a1]
      have g0 : (rd_up r4.2.1 0 (Int32.ofNat (w + 1)) 0).toInt = ((w + 1 : Nat) : Int) := by rw [rd_up_s]; exact rw_of (by omega)
      have g1 := g 1 (by omega) (by omega) (by omega) (by omega) (by omega)
      have gt : rd_up r4.2.1 0 (Int32.ofNat (w + 1)) (12 + w) = Int32.ofNat v2 := by
        rw [rd_up_n _ _ (by omega), f4, rd_up_n _ _ (by omega), f3, rd_up_n _ _ (by omega), f2, rd_up_s]
      refine ⟨⟨⟨by show 0 ≤ (rd_up r4.2.1 0 (Int32.ofNat (w + 1)) 0).toInt; omega, by show (rd_up r4.2.1 0 (Int32.ofNat (w + 1)) 0).toInt ≤ 10; omega⟩, by show 0 ≤ (rd_up r4.2.1 0 (Int32.ofNat (w + 1)) 1).toInt; rw [g1]; exact b3, by show (rd_up r4.2.1 0 (Int32.ofNat (w + 1)) 1).toInt ≤ 6; rw [g1]; exact b4⟩, fun k hk => ?_, fun k hk => ?_, ?_⟩
      · have hk' : k < (rd_up r4.2.1 0 (Int32.ofNat (w + 1)) 0).toInt.toNat := hk
        show 1 ≤ (rd_up r4.2.1 0 (Int32.ofNat (w + 1)) (12 + k)).toInt
        by_cases e : k = w
        · rw [e, gt, rw_of (by omega)]; omega
        · rw [g (12 + k) (by omega) (by omega) (by omega) (by omega) (by omega)]
          exact h1 k (by omega)
      · have hk' : k < (rd_up r4.2.1 0 (Int32.ofNat (w + 1)) 1).toInt.toNat := hk
        rw [g1] at hk'
        show 1 ≤ (rd_up r4.2.1 0 (Int32.ofNat (w + 1)) (42 + k)).toInt
        rw [g (42 + k) (by omega) (by omega) (by omega) (by omega) (by omega)]
        exact h2 k hk'
      · show 1 ≤ (rd_up r4.2.1 0 (Int32.ofNat (w + 1)) 54).toInt
        rw [g 54 (by omega) (by omega) (by omega) (by omega) (by omega)]
        exact h3
  · split at h
    · split at h
      · cases h
      · rename_i hs
        have hs5 : (q.2.1 1).toInt.toNat ≤ 5 := by omega
        unfold rd_lineT at h
        have f0 : (rd_nx b n most q).2.1 = q.2.1 := rfl
        split at h
        · rename_i ht
          split at h
          · cases h
          · obtain ⟨r2, e2, h⟩ := rw_bd h
            obtain ⟨v2, -, -, f2⟩ := rw_put e2
            cases h
            have hv : 1 ≤ (rd_nx b n most q).1.2.2.2.2 ∧ (rd_nx b n most q).1.2.2.2.2 ≤ 60 := by
              unfold rd_tkf at ht
              split at ht
              · split at ht
                · rename_i g; exact g
                · cases ht
              · cases ht
            have f2' : r2.2.1 = rd_up (rd_up q.2.1 (42 + (q.2.1 1).toInt.toNat) (Int32.ofNat (rd_nx b n most q).1.2.2.2.2)) (48 + (q.2.1 1).toInt.toNat) (Int32.ofNat v2) := f2
            generalize (rd_nx b n most q).1.2.2.2.2 = v at *
            generalize (q.2.1 1).toInt.toNat = w at *
            have g : ∀ k, k ≠ 1 → k ≠ 42 + w → k ≠ 48 + w → rd_up r2.2.1 1 (Int32.ofNat (w + 1)) k = q.2.1 k := by
              intro k a0 a1 a2
              rw [rd_up_n _ _ a0, f2', rd_up_n _ _ a2, rd_up_n _ _ a1]
            have g1 : (rd_up r2.2.1 1 (Int32.ofNat (w + 1)) 1).toInt = ((w + 1 : Nat) : Int) := by rw [rd_up_s]; exact rw_of (by omega)
            have g0 := g 0 (by omega) (by omega) (by omega)
            have gt : rd_up r2.2.1 1 (Int32.ofNat (w + 1)) (42 + w) = Int32.ofNat v := by
              rw [rd_up_n _ _ (by omega), f2', rd_up_n _ _ (by omega), rd_up_s]
            refine ⟨⟨⟨by show 0 ≤ (rd_up r2.2.1 1 (Int32.ofNat (w + 1)) 0).toInt; rw [g0]; exact b1, by show (rd_up r2.2.1 1 (Int32.ofNat (w + 1)) 0).toInt ≤ 10; rw [g0]; exact b2⟩, by show 0 ≤ (rd_up r2.2.1 1 (Int32.ofNat (w + 1)) 1).toInt; omega, by show (rd_up r2.2.1 1 (Int32.ofNat (w + 1)) 1).toInt ≤ 6; omega⟩, fun k hk => ?_, fun k hk => ?_, ?_⟩
            · have hk' : k < (rd_up r2.2.1 1 (Int32.ofNat (w + 1)) 0).toInt.toNat := hk
              rw [g0] at hk'
              show 1 ≤ (rd_up r2.2.1 1 (Int32.ofNat (w + 1)) (12 + k)).toInt
              rw [g (12 + k) (by omega) (by omega) (by omega)]
              exact h1 k hk'
            · have hk' : k < (rd_up r2.2.1 1 (Int32.ofNat (w + 1)) 1).toInt.toNat := hk
              show 1 ≤ (rd_up r2.2.1 1 (Int32.ofNat (w + 1)) (42 + k)).toInt
              by_cases e : k = w
              · rw [e, gt, rw_of (by omega)]; omega
              · rw [g (42 + k) (by omega) (by omega) (by omega)]
                exact h2 k (by omega)
            · show 1 ≤ (rd_up r2.2.1 1 (Int32.ofNat (w + 1)) 54).toInt
              rw [g 54 (by omega) (by omega) (by omega)]
              exact h3
        · cases h
    · split at h
      · cases h
      · unfold rd_lineS at h
        split at h
        · cases h
        · obtain ⟨v, l, u, f⟩ := rw_put h
          have f' : q1.2.1 = rd_up q.2.1 (54 + (rd_wh b q.1).toNat) (Int32.ofNat v) := f
          have hm : rd_most (rd_wh b q.1).toNat ≤ 99 := by
            have : ∀ j, j < 8 → rd_most j ≤ 99 := by decide
            rcases rd_wh_in b q.1 with z | z
            · rw [z]; decide
            · exact this _ (by omega)
          generalize (rd_wh b q.1).toNat = w at *
          have g : ∀ k, k ≠ 54 + w → q1.2.1 k = q.2.1 k := fun k a => by rw [f', rd_up_n _ _ a]
          have g0 := g 0 (by omega)
          have g1 := g 1 (by omega)
          refine ⟨⟨⟨by rw [g0]; exact b1, by rw [g0]; exact b2⟩, by rw [g1]; exact b3, by rw [g1]; exact b4⟩, fun k hk => ?_, fun k hk => ?_, ?_⟩
          · rw [g0] at hk
            rw [g (12 + k) (by omega)]
            exact h1 k hk
          · rw [g1] at hk
            rw [g (42 + k) (by omega)]
            exact h2 k hk
          · by_cases e : w = 0
            · subst e
              rw [f', rd_up_s, rw_of (by omega)]
              have : rd_least 0 = 1 := rfl
              omega
            · rw [g 54 (by omega)]
              exact h3
theorem rw_stn {b : Nat → Nat} {n most : Nat} : ∀ (f l : Nat) (q : rd_Q) (z : Nat × rd_Q), rw_Q q → rd_stn b n most f l q = .inr z → rw_Q z.2 := by
  intro f
  induction f with
  | zero =>
    intro l q z hq h
    cases h
    exact hq
  | succ f ih =>
    intro l q z hq h
    unfold rd_stn at h
    split at h
    · cases h
      exact hq
    · split at h
      · cases h
      · rename_i q1 e1
        split at h
        · exact ih _ (rd_nx b n most q1) z (show rw_Q q1 from rw_line hq e1) h
        · cases h
theorem rw_all {b : Nat → Nat} {n : Nat} {z : Nat × rd_Q} (h : rd_all9 b n = .inr z) : rw_Q z.2 := by
  refine rw_stn (n + 1) 0 (rd_tok b n 900 0, rd_h0, 0) z ?_ h
  refine ⟨⟨⟨show 0 ≤ (rd_h0 0).toInt by decide, show (rd_h0 0).toInt ≤ 10 by decide⟩, show 0 ≤ (rd_h0 1).toInt by decide, show (rd_h0 1).toInt ≤ 6 by decide⟩, fun k hk => ?_, fun k hk => ?_, show 1 ≤ (rd_h0 54).toInt by decide⟩
  · have e : (rd_h0 0).toInt.toNat = 0 := by decide
    have hk' : k < (rd_h0 0).toInt.toNat := hk
    omega
  · have e : (rd_h0 1).toInt.toNat = 0 := by decide
    have hk' : k < (rd_h0 1).toInt.toNat := hk
    omega
/-- between turns -/
def lw_wf (σ : am_S) : Prop := pl_W (σ.2.1 120) ∧ (¬ σ.2.1 137 0 = 0 → pl_W (fun k => σ.2.1 136 (0 + k))) ∧ (¬ σ.2.1 137 1 = 0 → pl_W (fun k => σ.2.1 136 (277 + k)))
def lw_rw (σ : am_S) : Prop := lw_rl σ ∧ lw_wf σ
theorem rw_keep {σe σ : am_S} {m : Nat} (hE : sx_M z9 hd_C σe 0 0 σe) (hM : sx_M z9 hd_C σe m 0 σ) (hm : (Nat.land m lw_mX).beq 0 = true) (h : lw_rw σe) : lw_rw σ := by
  obtain ⟨hr, h1, h2, h3⟩ := h
  obtain ⟨b1, b2, b3⟩ := pl_BM hE
  obtain ⟨c1, c2, c3, c4, c5, c6, c7, c8, c9⟩ := rl_ckF
  have f0 := rl_z hM hm c9 0 (by decide)
  have f1 := rl_z hM hm c9 1 (by decide)
  refine ⟨rl_keep hE hM hm hr, pl_W_c b1 h1 (rl_z hM hm c4), fun n => ?_, fun n => ?_⟩
  · rw [f0] at n
    exact pl_W_c b2 (h2 n) (rl_fr hM hm c5)
  · rw [f1] at n
    exact pl_W_c b3 (h3 n) (rl_fr hM hm c6)
theorem rw_image {σ σ1 σ2 : am_S} {a : Int32} (hM : sx_M z9 hd_C σ 0 0 σ) (h : lw_rw σ) (hM1 : sx_M z9 hd_C σ lw_m_X11_image 0 σ1) (p : lw_imXp a σ σ1) (hM2 : sx_M z9 hd_C σ1 lw_m_X12_image 0 σ2) (q : lw_imMp a σ1 σ2) : lw_rw σ2 := by
  refine ⟨rl_image hM h.1 hM1 p hM2 q, ?_⟩
  obtain ⟨-, h1, h2, h3⟩ := h
  obtain ⟨b1, b2, b3⟩ := pl_BM hM
  have s0 : ∀ k, k < 62 → σ1.2.1 120 k = σ.2.1 120 k := rl_o0 hM1 (by decide +kernel)
  have s2 : ∀ k, k < 62 → σ2.2.1 120 k = σ1.2.1 120 k := rl_o0 hM2 (by decide +kernel)
  have k0 : ∀ k, k < 62 → σ1.2.1 136 (0 + k) = σ.2.1 136 (0 + k) := rl_oz hM1 (by decide +kernel)
  have k1 : ∀ k, k < 62 → σ1.2.1 136 (277 + k) = σ.2.1 136 (277 + k) := rl_oz hM1 (by decide +kernel)
  have gg : ∀ k, k < 2 → σ1.2.1 137 k = σ.2.1 137 k := rl_o0 hM1 (by decide +kernel)
  have g0 := gg 0 (by decide)
  have g1 := gg 1 (by decide)
  refine ⟨pl_W_c b1 h1 (fun k hk => (s2 k hk).trans (s0 k hk)), fun n => ?_, fun n => ?_⟩
  · rcases q with ⟨-, q1, q2, q3, q4⟩ | ⟨-, q1, q2, q3, q4⟩ | ⟨-, -, q1, q2, q3⟩
    · exact pl_W_c b1 h1 (fun k hk => (q1 k hk).trans (s0 k hk))
    · rw [q4, g0] at n
      exact pl_W_c b2 (h2 n) (fun k hk => (q2 k hk).trans (k0 k hk))
    · rw [q3 0 (by decide), g0] at n
      exact pl_W_c b2 (h2 n) (fun k hk => (q2 _ (by omega)).trans (k0 k hk))
  · rcases q with ⟨-, q1, q2, q3, q4⟩ | ⟨-, q1, q2, q3, q4⟩ | ⟨-, -, q1, q2, q3⟩
    · rw [q4, g1] at n
      exact pl_W_c b3 (h3 n) (fun k hk => (q2 k hk).trans (k1 k hk))
    · exact pl_W_c b1 h1 (fun k hk => (q1 k hk).trans (s0 k hk))
    · rw [q3 1 (by decide), g1] at n
      exact pl_W_c b3 (h3 n) (fun k hk => (q2 _ (by omega)).trans (k1 k hk))
theorem rw_restore {σ σ1 σ2 : am_S} {a : Int32} (hM : sx_M z9 hd_C σ 0 0 σ) (h : lw_rw σ) (hM1 : sx_M z9 hd_C σ lw_m_X11_restore 0 σ1) (p : lw_reXp a σ σ1) (hM2 : sx_M z9 hd_C σ1 lw_m_X12_restore 0 σ2) (q : lw_reMp a σ1 σ2) : lw_rw σ2 := by
  refine ⟨rl_restore hM h.1 hM1 p hM2 q, ?_⟩
  obtain ⟨-, h1, h2, h3⟩ := h
  obtain ⟨b1, b2, b3⟩ := pl_BM hM
  have s0 : ∀ k, k < 62 → σ1.2.1 120 k = σ.2.1 120 k := rl_o0 hM1 (by decide +kernel)
  have k0 : ∀ k, k < 62 → σ1.2.1 136 (0 + k) = σ.2.1 136 (0 + k) := rl_oz hM1 (by decide +kernel)
  have k1 : ∀ k, k < 62 → σ1.2.1 136 (277 + k) = σ.2.1 136 (277 + k) := rl_oz hM1 (by decide +kernel)
  have j0 : ∀ k, k < 62 → σ2.2.1 136 (0 + k) = σ1.2.1 136 (0 + k) := rl_oz hM2 (by decide +kernel)
  have j1 : ∀ k, k < 62 → σ2.2.1 136 (277 + k) = σ1.2.1 136 (277 + k) := rl_oz hM2 (by decide +kernel)
  have gg : ∀ k, k < 2 → σ1.2.1 137 k = σ.2.1 137 k := rl_o0 hM1 (by decide +kernel)
  have gh : ∀ k, k < 2 → σ2.2.1 137 k = σ1.2.1 137 k := rl_o0 hM2 (by decide +kernel)
  have g0 := gg 0 (by decide)
  have g1 := gg 1 (by decide)
  have z0 := (gh 0 (by decide)).trans g0
  have z1 := (gh 1 (by decide)).trans g1
  refine ⟨?_, fun n => ?_, fun n => ?_⟩
  · rcases q with ⟨-, ⟨d1, d2⟩ | ⟨d1, d2⟩⟩ | ⟨-, ⟨d1, d2⟩ | ⟨d1, d2⟩⟩ | ⟨-, -, q1, q2, q3⟩
    · rw [g0] at d1
      exact pl_W_c b2 (h2 d1) (fun k hk => (d2 k hk).trans (k0 k hk))
    · exact pl_W_c b1 h1 (fun k hk => (d2 k hk).trans (s0 k hk))
    · rw [g1] at d1
      exact pl_W_c b3 (h3 d1) (fun k hk => (d2 k hk).trans (k1 k hk))
    · exact pl_W_c b1 h1 (fun k hk => (d2 k hk).trans (s0 k hk))
    · exact pl_W_c b1 h1 (fun k hk => (q1 k (by omega)).trans (s0 k hk))
  · rw [z0] at n
    exact pl_W_c b2 (h2 n) (fun k hk => (j0 k hk).trans (k0 k hk))
  · rw [z1] at n
    exact pl_W_c b3 (h3 n) (fun k hk => (j1 k hk).trans (k1 k hk))
theorem rw_st {σ σ1 σ2 : am_S} {b : Nat → Nat} {N : Nat} (hM : sx_M z9 hd_C σ 0 0 σ) (h : lw_rw σ) (hM1 : sx_M z9 hd_C σ rc_mS 0 σ1) (p : lw_sX (rd_all9 b N) σ σ1) (hM2 : sx_M z9 hd_C σ1 lw_mR 0 σ2) (q : lw_sM (rd_all9 b N) σ1 σ2) : lw_rw σ2 := by
  refine ⟨rl_st hM h.1 hM1 p hM2 q, ?_⟩
  obtain ⟨-, h1, h2, h3⟩ := h
  obtain ⟨b1, b2, b3⟩ := pl_BM hM
  have s0 : ∀ k, k < 62 → σ1.2.1 120 k = σ.2.1 120 k := rl_o0 hM1 (by decide +kernel)
  have k0 : ∀ k, k < 62 → σ1.2.1 136 (0 + k) = σ.2.1 136 (0 + k) := rl_oz hM1 (by decide +kernel)
  have k1 : ∀ k, k < 62 → σ1.2.1 136 (277 + k) = σ.2.1 136 (277 + k) := rl_oz hM1 (by decide +kernel)
  have j0 : ∀ k, k < 62 → σ2.2.1 136 (0 + k) = σ1.2.1 136 (0 + k) := rl_oz hM2 (by decide +kernel)
  have j1 : ∀ k, k < 62 → σ2.2.1 136 (277 + k) = σ1.2.1 136 (277 + k) := rl_oz hM2 (by decide +kernel)
  have gg : ∀ k, k < 2 → σ1.2.1 137 k = σ.2.1 137 k := rl_o0 hM1 (by decide +kernel)
  have gh : ∀ k, k < 2 → σ2.2.1 137 k = σ1.2.1 137 k := rl_o0 hM2 (by decide +kernel)
  have z0 := (gh 0 (by decide)).trans (gg 0 (by decide))
  have z1 := (gh 1 (by decide)).trans (gg 1 (by decide))
  refine ⟨?_, fun n => ?_, fun n => ?_⟩
  · revert q
    cases hx : rd_all9 b N with
    | inl e =>
      intro q
      exact pl_W_c b1 h1 (fun k hk => ((show ∀ k, k < 62 → σ2.2.1 120 k = σ1.2.1 120 k from q) k hk).trans (s0 k hk))
    | inr y =>
      intro q
      have w := rw_all hx
      exact pl_W_c w.1 w.2 (show ∀ k, k < 62 → σ2.2.1 120 k = y.2.2.1 k from q)
  · rw [z0] at n
    exact pl_W_c b2 (h2 n) (fun k hk => (j0 k hk).trans (k0 k hk))
  · rw [z1] at n
    exact pl_W_c b3 (h3 n) (fun k hk => (j1 k hk).trans (k1 k hk))
