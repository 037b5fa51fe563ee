/-! image and restore of any index; the relation behind station; the compared call (written by a program) -/
section Z11
variable {g : am_C} {L : Nat} {xs : Nat → Int32}
def lw_imXp (a : Int32) (σ σ' : am_S) : Prop := (a = 0 ∧ ax_Q 4 4 σ σ' ∧ ax_Q 87 4 σ σ' ∧ ax_Q 103 103 σ σ' ∧ σ'.2.1 86 3 = 1 ∧ σ'.2.1 102 3 = σ.2.1 102 3) ∨ (a = 1 ∧ ax_Q 4 4 σ σ' ∧ ax_Q 103 4 σ σ' ∧ ax_Q 87 87 σ σ' ∧ σ'.2.1 102 3 = 1 ∧ σ'.2.1 86 3 = σ.2.1 86 3) ∨ (¬ a = 0 ∧ ¬ a = 1 ∧ ax_Q 4 4 σ σ' ∧ ax_Q 87 87 σ σ' ∧ ax_Q 103 103 σ σ' ∧ σ'.2.1 86 3 = σ.2.1 86 3 ∧ σ'.2.1 102 3 = σ.2.1 102 3)
theorem lw_imX (G : sx_G0 g L xs z9 hd_C ex_mt) (hct : lw_hct g) {σ : am_S} (hM : sx_M z9 hd_C σ 0 0 σ) (a : Int32) : am_K g 60 tX11_image.1 0 0 0 (lv_args 0 [.ref 0, .int a]) [] σ (fun r σ' => ∃ y : Int32, r = some (some (.int y)) ∧ sx_M z9 hd_C σ lw_m_X11_image 0 σ' ∧ lw_imXp a σ σ') := by
  by_cases e0 : a = 0
  · subst e0
    exact kr_mono (fun r σ' h => ⟨1, h.1, h.2.1, Or.inl ⟨rfl, h.2.2⟩⟩) (lw_imX0 G hct hM)
  by_cases e1 : a = 1
  · subst e1
    exact kr_mono (fun r σ' h => ⟨1, h.1, h.2.1, Or.inr (Or.inl ⟨rfl, h.2.2⟩)⟩) (lw_imX1 G hct hM)
  · exact kr_mono (fun r σ' h => by
      obtain ⟨⟨y, hy⟩, h1, h2⟩ := h
      exact ⟨y, hy, h1, Or.inr (Or.inr ⟨e0, e1, h2⟩)⟩) (lw_imXn G hct hM e0 e1)
def lw_imMp (a : Int32) (σ σ' : am_S) : Prop := (a = 0 ∧ (∀ k, k < 62 → σ'.2.1 136 (0 + k) = σ.2.1 120 k) ∧ (∀ k, k < 62 → σ'.2.1 136 (277 + k) = σ.2.1 136 (277 + k)) ∧ σ'.2.1 137 0 = 1 ∧ σ'.2.1 137 1 = σ.2.1 137 1) ∨ (a = 1 ∧ (∀ k, k < 62 → σ'.2.1 136 (277 + k) = σ.2.1 120 k) ∧ (∀ k, k < 62 → σ'.2.1 136 (0 + k) = σ.2.1 136 (0 + k)) ∧ σ'.2.1 137 1 = 1 ∧ σ'.2.1 137 0 = σ.2.1 137 0) ∨ (¬ a = 0 ∧ ¬ a = 1 ∧ (∀ k, k < 277 → σ'.2.1 120 k = σ.2.1 120 k) ∧ (∀ k, k < 554 → σ'.2.1 136 k = σ.2.1 136 k) ∧ ∀ k, k < 2 → σ'.2.1 137 k = σ.2.1 137 k)
theorem lw_imM (G : sx_G0 g L xs z9 hd_C ex_mt) (hct : lw_hct g) {σ : am_S} (hM : sx_M z9 hd_C σ 0 0 σ) (a : Int32) : am_K g 60 tX12_image.1 0 0 0 (lv_args 0 [.ref 118, .int a]) [] σ (fun r σ' => ∃ y : Int32, r = some (some (.int y)) ∧ sx_M z9 hd_C σ lw_m_X12_image 0 σ' ∧ lw_imMp a σ σ') := by
  by_cases e0 : a = 0
  · subst e0
    exact kr_mono (fun r σ' h => ⟨1, h.1, h.2.1, Or.inl ⟨rfl, h.2.2⟩⟩) (lw_imM0 G hct hM)
  by_cases e1 : a = 1
  · subst e1
    exact kr_mono (fun r σ' h => ⟨1, h.1, h.2.1, Or.inr (Or.inl ⟨rfl, h.2.2⟩)⟩) (lw_imM1 G hct hM)
  · exact kr_mono (fun r σ' h => by
      obtain ⟨⟨y, hy⟩, h1, h2⟩ := h
      exact ⟨y, hy, h1, Or.inr (Or.inr ⟨e0, e1, h2⟩)⟩) (lw_imMn G hct hM e0 e1)
theorem rl_image {σ σ1 σ2 : am_S} {a : Int32} (hM : sx_M z9 hd_C σ 0 0 σ) (h : lw_rl σ) (hM1 : sx_M z9 hd_C σ lw_m_X11_image 0 σ1) (p : lw_imXp a σ σ1) (hM2 : sx_M z9 hd_C σ1 lw_m_X12_image 0 σ2) (q : lw_imMp a σ1 σ2) : lw_rl σ2 := by
  rcases p with ⟨e, p⟩ | ⟨e, p⟩ | ⟨e0, e1, p⟩
  · subst e
    rcases q with ⟨e, q⟩ | ⟨e, q⟩ | ⟨e0, e1, q⟩
    · exact rl_im0 hM h hM1 p.1 p.2.1 p.2.2.1 p.2.2.2.1 p.2.2.2.2 hM2 q.1 q.2.1 q.2.2.1 q.2.2.2
    · exact absurd e (by decide)
    · exact absurd rfl e0
  · subst e
    rcases q with ⟨e, q⟩ | ⟨e, q⟩ | ⟨e0, e1, q⟩
    · exact absurd e (by decide)
    · exact rl_im1 hM h hM1 p.1 p.2.1 p.2.2.1 p.2.2.2.1 p.2.2.2.2 hM2 q.1 q.2.1 q.2.2.1 q.2.2.2
    · exact absurd rfl e1
  · rcases q with ⟨e, q⟩ | ⟨e, q⟩ | ⟨-, -, q⟩
    · exact absurd e e0
    · exact absurd e e1
    · exact rl_n_image hM h hM1 p.1 p.2.1 p.2.2.1 p.2.2.2.1 p.2.2.2.2 hM2 q.1 q.2.1 q.2.2
def lw_reXp (a : Int32) (σ σ' : am_S) : Prop := (a = 0 ∧ ((¬ σ.2.1 86 3 = 0 ∧ ax_Q 4 87 σ σ') ∨ (σ.2.1 86 3 = 0 ∧ ax_Q 4 4 σ σ')) ∧ ax_Q 87 87 σ σ' ∧ ax_Q 103 103 σ σ' ∧ σ'.2.1 86 3 = σ.2.1 86 3 ∧ σ'.2.1 102 3 = σ.2.1 102 3) ∨ (a = 1 ∧ ((¬ σ.2.1 102 3 = 0 ∧ ax_Q 4 103 σ σ') ∨ (σ.2.1 102 3 = 0 ∧ ax_Q 4 4 σ σ')) ∧ ax_Q 87 87 σ σ' ∧ ax_Q 103 103 σ σ' ∧ σ'.2.1 86 3 = σ.2.1 86 3 ∧ σ'.2.1 102 3 = σ.2.1 102 3) ∨ (¬ a = 0 ∧ ¬ a = 1 ∧ ax_Q 4 4 σ σ' ∧ ax_Q 87 87 σ σ' ∧ ax_Q 103 103 σ σ' ∧ σ'.2.1 86 3 = σ.2.1 86 3 ∧ σ'.2.1 102 3 = σ.2.1 102 3)
theorem lw_reX (G : sx_G0 g L xs z9 hd_C ex_mt) (hct : lw_hct g) {σ : am_S} (hM : sx_M z9 hd_C σ 0 0 σ) (a : Int32) : am_K g 60 tX11_restore.1 0 0 0 (lv_args 0 [.ref 0, .int a]) [] σ (fun r σ' => ∃ y : Int32, r = some (some (.int y)) ∧ sx_M z9 hd_C σ lw_m_X11_restore 0 σ' ∧ lw_reXp a σ σ') := by
  by_cases e0 : a = 0
  · subst e0
    exact kr_mono (fun r σ' h => by
      obtain ⟨⟨y, hy⟩, h1, h2⟩ := h
      exact ⟨y, hy, h1, Or.inl ⟨rfl, h2⟩⟩) (lw_reX0 G hct hM)
  by_cases e1 : a = 1
  · subst e1
    exact kr_mono (fun r σ' h => by
      obtain ⟨⟨y, hy⟩, h1, h2⟩ := h
      exact ⟨y, hy, h1, Or.inr (Or.inl ⟨rfl, h2⟩)⟩) (lw_reX1 G hct hM)
  · exact kr_mono (fun r σ' h => by
      obtain ⟨⟨y, hy⟩, h1, h2⟩ := h
      exact ⟨y, hy, h1, Or.inr (Or.inr ⟨e0, e1, h2⟩)⟩) (lw_reXn G hct hM e0 e1)
def lw_reMp (a : Int32) (σ σ' : am_S) : Prop := (a = 0 ∧ ((¬ σ.2.1 137 0 = 0 ∧ ∀ k, k < 62 → σ'.2.1 120 k = σ.2.1 136 (0 + k)) ∨ (σ.2.1 137 0 = 0 ∧ ∀ k, k < 62 → σ'.2.1 120 k = σ.2.1 120 k))) ∨ (a = 1 ∧ ((¬ σ.2.1 137 1 = 0 ∧ ∀ k, k < 62 → σ'.2.1 120 k = σ.2.1 136 (277 + k)) ∨ (σ.2.1 137 1 = 0 ∧ ∀ k, k < 62 → σ'.2.1 120 k = σ.2.1 120 k))) ∨ (¬ a = 0 ∧ ¬ a = 1 ∧ (∀ k, k < 277 → σ'.2.1 120 k = σ.2.1 120 k) ∧ (∀ k, k < 554 → σ'.2.1 136 k = σ.2.1 136 k) ∧ ∀ k, k < 2 → σ'.2.1 137 k = σ.2.1 137 k)
theorem lw_reM (G : sx_G0 g L xs z9 hd_C ex_mt) (hct : lw_hct g) {σ : am_S} (hM : sx_M z9 hd_C σ 0 0 σ) (a : Int32) : am_K g 60 tX12_restore.1 0 0 0 (lv_args 0 [.ref 118, .int a]) [] σ (fun r σ' => ∃ y : Int32, r = some (some (.int y)) ∧ sx_M z9 hd_C σ lw_m_X12_restore 0 σ' ∧ lw_reMp a σ σ') := by
  by_cases e0 : a = 0
  · subst e0
    exact kr_mono (fun r σ' h => by
      obtain ⟨⟨y, hy⟩, h1, h2⟩ := h
      exact ⟨y, hy, h1, Or.inl ⟨rfl, h2⟩⟩) (lw_reM0 G hct hM)
  by_cases e1 : a = 1
  · subst e1
    exact kr_mono (fun r σ' h => by
      obtain ⟨⟨y, hy⟩, h1, h2⟩ := h
      exact ⟨y, hy, h1, Or.inr (Or.inl ⟨rfl, h2⟩)⟩) (lw_reM1 G hct hM)
  · exact kr_mono (fun r σ' h => by
      obtain ⟨⟨y, hy⟩, h1, h2⟩ := h
      exact ⟨y, hy, h1, Or.inr (Or.inr ⟨e0, e1, h2⟩)⟩) (lw_reMn G hct hM e0 e1)
theorem rl_restore {σ σ1 σ2 : am_S} {a : Int32} (hM : sx_M z9 hd_C σ 0 0 σ) (h : lw_rl σ) (hM1 : sx_M z9 hd_C σ lw_m_X11_restore 0 σ1) (p : lw_reXp a σ σ1) (hM2 : sx_M z9 hd_C σ1 lw_m_X12_restore 0 σ2) (q : lw_reMp a σ1 σ2) : lw_rl σ2 := by
  rcases p with ⟨e, p⟩ | ⟨e, p⟩ | ⟨e0, e1, p⟩
  · subst e
    rcases q with ⟨e, q⟩ | ⟨e, q⟩ | ⟨e0, e1, q⟩
    · exact rl_re0 hM h hM1 p.1 p.2.1 p.2.2.1 p.2.2.2.1 p.2.2.2.2 hM2 q
    · exact absurd e (by decide)
    · exact absurd rfl e0
  · subst e
    rcases q with ⟨e, q⟩ | ⟨e, q⟩ | ⟨e0, e1, q⟩
    · exact absurd e (by decide)
    · exact rl_re1 hM h hM1 p.1 p.2.1 p.2.2.1 p.2.2.2.1 p.2.2.2.2 hM2 q
    · exact absurd rfl e1
  · rcases q with ⟨e, q⟩ | ⟨e, q⟩ | ⟨-, -, q⟩
    · exact absurd e e0
    · exact absurd e e1
    · exact rl_n_restore hM h hM1 p.1 p.2.1 p.2.2.1 p.2.2.2.1 p.2.2.2.2 hM2 q.1 q.2.1 q.2.2
/-- what is alike behind station -/
theorem rl_st {σ σ1 σ2 : am_S} {x : (Nat × Nat) ⊕ (Nat × rd_Q)} (hM : sx_M z9 hd_C σ 0 0 σ) (h : lw_rl σ) (hM1 : sx_M z9 hd_C σ rc_mS 0 σ1) (p : lw_sX x σ σ1) (hM2 : sx_M z9 hd_C σ1 lw_mR 0 σ2) (q : lw_sM x σ1 σ2) : lw_rl σ2 := by
  obtain ⟨h1, ⟨h2, h3⟩, h4, h5⟩ := h
  obtain ⟨b1, b2, b3⟩ := pl_BM hM
  obtain ⟨c1, -, -⟩ := pl_BM hM2
  have q4 := ax_Qm hM2 (o := 4) (by decide +kernel) (by decide +kernel)
  have q87 := ax_Qm hM2 (o := 87) (by decide +kernel) (by decide +kernel)
  have q103 := ax_Qm hM2 (o := 103) (by decide +kernel) (by decide +kernel)
  have p87 := ax_Qm hM1 (o := 87) (by decide +kernel) (by decide +kernel)
  have p103 := ax_Qm hM1 (o := 103) (by decide +kernel) (by decide +kernel)
  have s0 : ∀ k, k < 62 → σ1.2.1 120 k = σ.2.1 120 k := rl_o0 hM1 (by decide +kernel)
  have k0 : ∀ k, k < 62 → σ1.2.1 136 (0 + k) = σ.2.1 136 (0 + k) := rl_oz hM1 (by decide +kernel)
  have k1 : ∀ k, k < 62 → σ1.2.1 136 (277 + k) = σ.2.1 136 (277 + k) := rl_oz hM1 (by decide +kernel)
  have j0 : ∀ k, k < 62 → σ2.2.1 136 (0 + k) = σ1.2.1 136 (0 + k) := rl_oz hM2 (by decide +kernel)
  have j1 : ∀ k, k < 62 → σ2.2.1 136 (277 + k) = σ1.2.1 136 (277 + k) := rl_oz hM2 (by decide +kernel)
  have gg : ∀ k, k < 2 → σ1.2.1 137 k = σ.2.1 137 k := rl_o0 hM1 (by decide +kernel)
  have gh : ∀ k, k < 2 → σ2.2.1 137 k = σ1.2.1 137 k := rl_o0 hM2 (by decide +kernel)
  have u : σ2.2.1 86 3 = σ1.2.1 86 3 := rl_oz hM2 (o := 86) (a := 3) (n := 1) (by decide +kernel) 0 (by decide)
  have v : σ2.2.1 102 3 = σ1.2.1 102 3 := rl_oz hM2 (o := 102) (a := 3) (n := 1) (by decide +kernel) 0 (by decide)
  have u0 : σ1.2.1 86 3 = σ.2.1 86 3 := rl_oz hM1 (o := 86) (a := 3) (n := 1) (by decide +kernel) 0 (by decide)
  have v0 : σ1.2.1 102 3 = σ.2.1 102 3 := rl_oz hM1 (o := 102) (a := 3) (n := 1) (by decide +kernel) 0 (by decide)
  have z0 := (gh 0 (by decide)).trans (gg 0 (by decide))
  have z1 := (gh 1 (by decide)).trans (gg 1 (by decide))
  refine ⟨?_, ⟨?_, ?_⟩, fun n => ?_, fun n => ?_⟩
  · cases x with
    | inl e => exact pl_Q h1 b1 (ax_Qtr (show ax_Q 4 4 σ σ1 from p) q4) (fun k hk => ((show ∀ k, k < 62 → σ2.2.1 120 k = σ1.2.1 120 k from q) k hk).trans (s0 k hk))
    | inr y =>
      have q' : ∀ k, k < 62 → σ2.2.1 120 k = y.2.2.1 k := q
      have b : pl_B y.2.2.1 := by
        obtain ⟨⟨d1, d2⟩, d3, d4⟩ := c1
        rw [q' 0 (by decide)] at d1 d2
        rw [q' 1 (by decide)] at d3 d4
        exact ⟨⟨d1, d2⟩, d3, d4⟩
      exact pl_Q (show pl_R σ1.2.1 4 y.2.2.1 from p) b q4 q'
  · rw [u, u0, h2, z0]
  · rw [v, v0, h3, z1]
  · rw [z0] at n
    exact pl_Q (h4 n) b2 (ax_Qtr p87 q87) (fun k hk => (j0 k hk).trans (k0 k hk))
  · rw [z1] at n
    exact pl_Q (h5 n) b3 (ax_Qtr p103 q103) (fun k hk => (j1 k hk).trans (k1 k hk))
end Z11
