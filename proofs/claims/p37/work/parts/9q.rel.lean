/-! between two turns: the class's place is the reference's STATION, the images likewise -/
def pl_R (m : Nat → Nat → Int32) (o : Nat) (s : Nat → Int32) : Prop := (m o 7).toInt = (s 0).toInt ∧ ((s 1).toInt = 0 → (m o 8).toInt = 1 ∧ (m (o + 1 + 4) 0).toInt = 10 ∧ (m (o + 1 + 5) 0).toInt = 1) ∧ ((s 1).toInt ≠ 0 → (m o 8).toInt = (s 1).toInt) ∧ ∀ r, r < 7 → ∀ k, k < rc_c (s 0).toInt.toNat (s 1).toInt.toNat r → m (o + 1 + r) k = s (rc_bs r + k)
theorem pl_c {w t : Nat} (hw : w ≤ 10) (ht : t ≤ 6) {r : Nat} (hr : r < 7) : rc_c w t r ≤ rc_ln r := by
  have h7 : r = 0 ∨ r = 1 ∨ r = 2 ∨ r = 3 ∨ r = 4 ∨ r = 5 ∨ r = 6 := by omega
  rcases h7 with rfl | rfl | rfl | rfl | rfl | rfl | rfl
  · exact hw
  · exact hw
  · exact hw
  · exact hw
  · exact ht
  · exact ht
  · exact Nat.le_refl 8
theorem pl_b : ∀ r, r < 7 → rc_bs r + rc_ln r ≤ 62 := by decide
def pl_B (s : Nat → Int32) : Prop := (0 ≤ (s 0).toInt ∧ (s 0).toInt ≤ 10) ∧ 0 ≤ (s 1).toInt ∧ (s 1).toInt ≤ 6
/-- the STATION copied, or left alone -/
theorem pl_Q {σ τ : am_S} {D S : Nat} {s s' : Nat → Int32} (h : pl_R σ.2.1 S s) (b : pl_B s) (q : ax_Q D S σ τ) (e : ∀ k, k < 62 → s' k = s k) : pl_R τ.2.1 D s' := by
  have e0 := e 0 (by decide)
  have e1 := e 1 (by decide)
  obtain ⟨⟨b1, b2⟩, b3, b4⟩ := b
  obtain ⟨h1, h2, h3, h4⟩ := h
  refine ⟨?_, ?_, ?_, ?_⟩
  · rw [q.1 7 (by decide) (by decide), e0]; exact h1
  · rw [e1, q.1 8 (by decide) (by decide), q.2 4 (by decide) 0 (by decide), q.2 5 (by decide) 0 (by decide)]; exact h2
  · rw [e1, q.1 8 (by decide) (by decide)]; exact h3
  · intro r hr k hk
    rw [e0, e1] at hk
    have hc := pl_c (w := (s 0).toInt.toNat) (t := (s 1).toInt.toNat) (by omega) (by omega) hr
    have hb := pl_b r hr
    rw [q.2 r hr k (by omega), e (rc_bs r + k) (by omega)]
    exact h4 r hr k hk
def pl_W (s : Nat → Int32) : Prop := (∀ k, k < (s 0).toInt.toNat → 1 ≤ (s (12 + k)).toInt) ∧ (∀ k, k < (s 1).toInt.toNat → 1 ≤ (s (42 + k)).toInt) ∧ 1 ≤ (s 54).toInt
/-- what is alike between turns -/
def lw_rl (σ : am_S) : Prop := pl_R σ.2.1 4 (σ.2.1 120) ∧ (σ.2.1 86 3 = σ.2.1 137 0 ∧ σ.2.1 102 3 = σ.2.1 137 1) ∧ (¬ σ.2.1 137 0 = 0 → pl_R σ.2.1 87 (fun k => σ.2.1 136 (0 + k))) ∧ (¬ σ.2.1 137 1 = 0 → pl_R σ.2.1 103 (fun k => σ.2.1 136 (277 + k)))
/-- the units that the relation hangs on -/
def lw_mX : Nat := 14168940707626949848575353059100842850952495705269021221718104255612733725680686136640977366541613708086230951363540482459294360203092896880127184071831729471488
theorem rl_bit {m u : Nat} (h : (Nat.land m lw_mX).beq 0 = true) (hu : sx_bit lw_mX u = true) : sx_bit m u = false := by
  have h0 : m &&& lw_mX = 0 := Nat.eq_of_beq_eq_true h
  have h1 : (m &&& lw_mX).testBit u = false := by rw [h0]; exact Nat.zero_testBit u
  rw [Nat.testBit_and] at h1
  rw [sx_bit_eq] at hu ⊢
  rw [hu, Bool.and_true] at h1
  exact h1
noncomputable def rl_ck (o a n : Nat) : Bool := (List.range n).all fun k => match sx_atl (z9.1 o) (a + k) with
  | some q => sx_bit lw_mX q.2.2
  | none => false
theorem rl_fr {σe σ : am_S} {m o a n : Nat} (hM : sx_M z9 hd_C σe m 0 σ) (hm : (Nat.land m lw_mX).beq 0 = true) (hc : rl_ck o a n = true) : ∀ k, k < n → σ.2.1 o (a + k) = σe.2.1 o (a + k) := by
  intro k hk
  have q := List.all_eq_true.mp hc k (List.mem_range.mpr hk)
  revert q
  cases h : sx_atl (z9.1 o) (a + k) with
  | none => intro q; cases q
  | some b =>
    intro q
    obtain ⟨lo, hi, u⟩ := b
    exact hM.2.2.2.2.1 o (a + k) lo hi u h (rl_bit hm q)
theorem rl_ck7 : ∀ r, r < 7 → rl_ck (4 + 1 + r) 0 (rc_ln r) = true ∧ rl_ck (87 + 1 + r) 0 (rc_ln r) = true ∧ rl_ck (103 + 1 + r) 0 (rc_ln r) = true := by decide +kernel
theorem rl_ckF : rl_ck 4 7 4 = true ∧ rl_ck 87 7 4 = true ∧ rl_ck 103 7 4 = true ∧ rl_ck 120 0 62 = true ∧ rl_ck 136 0 62 = true ∧ rl_ck 136 277 62 = true ∧ rl_ck 86 3 1 = true ∧ rl_ck 102 3 1 = true ∧ rl_ck 137 0 2 = true := by decide +kernel
theorem rl_z {σe σ : am_S} {m o n : Nat} (hM : sx_M z9 hd_C σe m 0 σ) (hm : (Nat.land m lw_mX).beq 0 = true) (hc : rl_ck o 0 n = true) : ∀ k, k < n → σ.2.1 o k = σe.2.1 o k := fun k hk => by
  have := rl_fr hM hm hc k hk
  rw [Nat.zero_add] at this
  exact this
theorem rl_Qk {σe σ : am_S} {m o : Nat} (hM : sx_M z9 hd_C σe m 0 σ) (hm : (Nat.land m lw_mX).beq 0 = true) (hf : rl_ck o 7 4 = true) (hr : ∀ r, r < 7 → rl_ck (o + 1 + r) 0 (rc_ln r) = true) : ax_Q o o σe σ := by
  refine ⟨fun j h1 h2 => ?_, fun r h7 k hk => rl_z hM hm (hr r h7) k hk⟩
  have := rl_fr hM hm hf (j - 7) (by omega)
  rw [show 7 + (j - 7) = j by omega] at this
  exact this
theorem pl_BM {σe σ : am_S} {m : Nat} (hM : sx_M z9 hd_C σe m 0 σ) : pl_B (σ.2.1 120) ∧ pl_B (fun k => σ.2.1 136 (0 + k)) ∧ pl_B (fun k => σ.2.1 136 (277 + k)) := ⟨⟨hM.2.2.1 120 0 _ _ _ rfl, hM.2.2.1 120 1 _ _ _ rfl⟩, ⟨hM.2.2.1 136 0 _ _ _ rfl, hM.2.2.1 136 1 _ _ _ rfl⟩, ⟨hM.2.2.1 136 277 _ _ _ rfl, hM.2.2.1 136 278 _ _ _ rfl⟩⟩
theorem rl_keep {σe σ : am_S} {m : Nat} (hE : sx_M z9 hd_C σe 0 0 σe) (hM : sx_M z9 hd_C σe m 0 σ) (hm : (Nat.land m lw_mX).beq 0 = true) (h : lw_rl σe) : lw_rl σ := by
  obtain ⟨h1, ⟨h2, h3⟩, h4, h5⟩ := h
  obtain ⟨b1, b2, b3⟩ := pl_BM hE
  obtain ⟨c1, c2, c3, c4, c5, c6, c7, c8, c9⟩ := rl_ckF
  have f0 := rl_z hM hm c9 0 (by decide)
  have f1 := rl_z hM hm c9 1 (by decide)
  refine ⟨pl_Q h1 b1 (rl_Qk hM hm c1 (fun r hr => (rl_ck7 r hr).1)) (rl_z hM hm c4), ⟨?_, ?_⟩, fun n => ?_, fun n => ?_⟩
  · rw [f0, ← h2]; exact rl_fr hM hm c7 0 (by decide)
  · rw [f1, ← h3]; exact rl_fr hM hm c8 0 (by decide)
  · rw [f0] at n
    exact pl_Q (h4 n) b2 (rl_Qk hM hm c2 (fun r hr => (rl_ck7 r hr).2.1)) (rl_fr hM hm c5)
  · rw [f1] at n
    exact pl_Q (h5 n) b3 (rl_Qk hM hm c3 (fun r hr => (rl_ck7 r hr).2.2)) (rl_fr hM hm c6)
