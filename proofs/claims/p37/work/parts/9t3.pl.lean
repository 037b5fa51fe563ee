/-! what the class keeps of plans, between turns (written by a program) -/
section PLK
variable {g : am_C} {L : Nat} {xs : Nat → Int32}
theorem am_eqvJ {g : am_C} {σ σ' : am_S} (h : am_eqv g σ σ') {o n k : Nat} {ty : FieldType} (hty : am_kd ty = 1) (h1 : σ.1[o]? = some (.inr (ty, n))) (h2 : σ'.1[o]? = some (.inr (ty, n))) (hk : k < n) : σ.2.2.1 o k = σ'.2.2.1 o k := by
  obtain ⟨H, R1, R2⟩ := h
  have c1 : am_ce g σ o (.inr (ty, n)) = some (.inl (g.2.2.2.2.1 ty, n, .inr (.inl (σ.2.2.1 o)))) := by
    show am_ar g σ o ty n = _
    unfold am_ar
    rw [hty]
    rfl
  have c2 : am_ce g σ' o (.inr (ty, n)) = some (.inl (g.2.2.2.2.1 ty, n, .inr (.inl (σ'.2.2.1 o)))) := by
    show am_ar g σ' o ty n = _
    unfold am_ar
    rw [hty]
    rfl
  have e1 : H[am_b0 g + o]? = some (vp_cell (g.2.2.2.2.1 ty) (n, .inr (.inl (σ.2.2.1 o)))) := R1.2.1 o _ _ h1 c1
  have e2 : H[am_b0 g + o]? = some (vp_cell (g.2.2.2.2.1 ty) (n, .inr (.inl (σ'.2.2.1 o)))) := R2.2.1 o _ _ h2 c2
  rw [e1] at e2
  have e3 : vp_cell (g.2.2.2.2.1 ty) (n, .inr (.inl (σ.2.2.1 o))) = vp_cell (g.2.2.2.2.1 ty) (n, .inr (.inl (σ'.2.2.1 o))) := Option.some.inj e2
  have f1 := arrV_read (g.2.2.2.2.1 ty) (fun j => Value.long (σ.2.2.1 o j)) hk
  have f2 := arrV_read (g.2.2.2.2.1 ty) (fun j => Value.long (σ'.2.2.1 o j)) hk
  rw [vp_cell_l, vp_cell_l] at e3
  rw [e3, f2] at f1
  have f3 : Value.long (σ'.2.2.1 o k) = Value.long (σ.2.2.1 o k) := Option.some.inj f1
  injection f3 with f4
  exact f4.symm
def pk_L (σ σ' : am_S) : Prop := ∀ y, y < 1200 → σ'.2.2.1 72 y = σ.2.2.1 72 y
theorem pk_eqv {σ τ : am_S} (ev : am_eqv g σ τ) (h1 : ax_S σ) (h2 : ax_S τ) : pk_E τ.2.1 σ.2.1 ∧ pk_L τ σ := by
  have A : ∀ {o n : Nat}, ex_sh (z9.2.2.1 o) = some (.inr (.int, n)) → ∀ y, y < n → σ.2.1 o y = τ.2.1 o y := fun {o n} hs y hy => am_eqvI ev (ty := .int) (n := n) rfl (h1.1 o _ hs) (h2.1 o _ hs) hy
  refine ⟨⟨fun y a b => ?_, A (o := 69) (n := 600) rfl, A (o := 71) (n := 500) rfl, fun y hy => ⟨A (o := 73) (n := 100) rfl y hy, A (o := 74) (n := 100) rfl y hy⟩, fun y hy => ⟨A (o := 75) (n := 24) rfl y hy, A (o := 76) (n := 24) rfl y hy, A (o := 77) (n := 24) rfl y hy⟩⟩, fun y hy => am_eqvJ ev (ty := .long) (n := 1200) rfl (h1.1 72 (.inr (.long, 1200)) rfl) (h2.1 72 (.inr (.long, 1200)) rfl) hy⟩
  have h8 : y = 12 ∨ y = 13 ∨ y = 14 ∨ y = 15 ∨ y = 16 ∨ y = 17 ∨ y = 18 ∨ y = 19 := by omega
  rcases h8 with rfl | rfl | rfl | rfl | rfl | rfl | rfl | rfl
  · exact am_eqvF ev (ci := 4) (k := 12) rfl (by decide) (by decide) (h1.1 68 (.inl 4) rfl) (h2.1 68 (.inl 4) rfl)
  · exact am_eqvF ev (ci := 4) (k := 13) rfl (by decide) (by decide) (h1.1 68 (.inl 4) rfl) (h2.1 68 (.inl 4) rfl)
  · exact am_eqvF ev (ci := 4) (k := 14) rfl (by decide) (by decide) (h1.1 68 (.inl 4) rfl) (h2.1 68 (.inl 4) rfl)
  · exact am_eqvF ev (ci := 4) (k := 15) rfl (by decide) (by decide) (h1.1 68 (.inl 4) rfl) (h2.1 68 (.inl 4) rfl)
  · exact am_eqvF ev (ci := 4) (k := 16) rfl (by decide) (by decide) (h1.1 68 (.inl 4) rfl) (h2.1 68 (.inl 4) rfl)
  · exact am_eqvF ev (ci := 4) (k := 17) rfl (by decide) (by decide) (h1.1 68 (.inl 4) rfl) (h2.1 68 (.inl 4) rfl)
  · exact am_eqvF ev (ci := 4) (k := 18) rfl (by decide) (by decide) (h1.1 68 (.inl 4) rfl) (h2.1 68 (.inl 4) rfl)
  · exact am_eqvF ev (ci := 4) (k := 19) rfl (by decide) (by decide) (h1.1 68 (.inl 4) rfl) (h2.1 68 (.inl 4) rfl)
def pk_ok (s : Nat → Int32) (σ : am_S) : Prop := pk_P (pc_h s) s σ ∧ (¬ σ.2.1 68 19 = 0 → pb_K s σ.2.1)
theorem pk_Er (m : Nat → Nat → Int32) : pk_E m m := ⟨fun _ _ _ => rfl, fun _ _ => rfl, fun _ _ => rfl, fun _ _ => ⟨rfl, rfl⟩, fun _ _ => ⟨rfl, rfl, rfl⟩⟩
theorem pk_Et {m m1 m2 : Nat → Nat → Int32} (h : pk_E m m1) (k : pk_E m1 m2) : pk_E m m2 := ⟨fun y a b => (k.1 y a b).trans (h.1 y a b), fun y a => (k.2.1 y a).trans (h.2.1 y a), fun y a => (k.2.2.1 y a).trans (h.2.2.1 y a), fun y a => ⟨(k.2.2.2.1 y a).1.trans (h.2.2.2.1 y a).1, (k.2.2.2.1 y a).2.trans (h.2.2.2.1 y a).2⟩, fun y a => ⟨(k.2.2.2.2 y a).1.trans (h.2.2.2.2 y a).1, (k.2.2.2.2 y a).2.1.trans (h.2.2.2.2 y a).2.1, (k.2.2.2.2 y a).2.2.trans (h.2.2.2.2 y a).2.2⟩⟩
theorem pk_Lt {σ σ1 σ2 : am_S} (h : pk_L σ σ1) (k : pk_L σ1 σ2) : pk_L σ σ2 := fun y a => (k y a).trans (h y a)
theorem pk_okc {s s' : Nat → Int32} (e : pc_E s s') (b : pn_B s) (b6 : pl_B6 s) {σ σ' : am_S} (f : pk_E σ.2.1 σ'.2.1) (fl : pk_L σ σ') (h : pk_ok s σ) : pk_ok s' σ' := ⟨pk_Pc e b.1 f fl h.1, fun n => by rw [f.1 19 (by decide) (by decide)] at n; exact pb_Kc e b b6 f (h.2 n)⟩
theorem pk_ok0 {s : Nat → Int32} {σ : am_S} (h17 : σ.2.1 68 17 = 0) (h18 : σ.2.1 68 18 = 0) (h19 : σ.2.1 68 19 = 0) : pk_ok s σ := ⟨⟨fun n => absurd h17 n, fun n => absurd h18 n⟩, fun n => absurd h19 n⟩
theorem pl_z7 : (∀ k, k < 10 → sx_atl (z9.1 120) (12 + k) = some (.ofNat 0, .ofNat 9, 410)) ∧ ∀ k, k < 10 → sx_atl (z9.1 120) (22 + k) = some (.ofNat 0, .ofNat 3, 411) := by decide +kernel
theorem pn_BM {σe σ : am_S} {m : Nat} (hM : sx_M z9 hd_C σe m 0 σ) : pn_B (σ.2.1 120) := ⟨(pl_BM hM).1, pl_B2M hM, fun k hk => hM.2.2.1 120 (12 + k) _ _ _ (pl_z7.1 k hk), fun k hk => hM.2.2.1 120 (22 + k) _ _ _ (pl_z7.2 k hk), hM.2.2.1 120 54 _ _ _ rfl⟩
theorem pl_B6M {σe σ : am_S} {m : Nat} (hM : sx_M z9 hd_C σe m 0 σ) : pl_B6 (σ.2.1 120) := hM.2.2.1 120 55 _ _ _ rfl
/-- the units that plans are kept in -/
def lw_mK : Nat := 16905424996341287883274873117328531408603114433155888708094742688853564881815195503181352188405030012629580639784228117724235121904085937192017247310814066461068373887968162693399408565645646113697224225315465391761887275498482814668823429219242602292641567401331717570560
def lw_mP : Nat := Nat.lor lw_mX lw_mK
theorem rp_sub {m M : Nat} (h : (Nat.land m lw_mP).beq 0 = true) (hs : (Nat.land lw_mP M).beq M = true) : (Nat.land m M).beq 0 = true := by
  have h0 : m &&& lw_mP = 0 := Nat.eq_of_beq_eq_true h
  have h1 : lw_mP &&& M = M := Nat.eq_of_beq_eq_true hs
  have h2 : m &&& M = 0 := by rw [← h1, ← Nat.and_assoc, h0, Nat.zero_and]
  show (m &&& M).beq 0 = true
  rw [h2]
  rfl
theorem rp_subX {m : Nat} (h : (Nat.land m lw_mP).beq 0 = true) : (Nat.land m lw_mX).beq 0 = true := rp_sub h (by decide +kernel)
theorem rp_subK {m : Nat} (h : (Nat.land m lw_mP).beq 0 = true) : (Nat.land m lw_mK).beq 0 = true := rp_sub h (by decide +kernel)
theorem rp_bit {m u : Nat} (h : (Nat.land m lw_mK).beq 0 = true) (hu : sx_bit lw_mK u = true) : sx_bit m u = false := by
  have h0 : m &&& lw_mK = 0 := Nat.eq_of_beq_eq_true h
  have h1 : (m &&& lw_mK).testBit u = false := by rw [h0]; exact Nat.zero_testBit u
  rw [Nat.testBit_and] at h1
  rw [sx_bit_eq] at hu ⊢
  rw [hu, Bool.and_true] at h1
  exact h1
noncomputable def rp_ck (o a n : Nat) : Bool := (List.range n).all fun k => match sx_atl (z9.1 o) (a + k) with
  | some q => sx_bit lw_mK q.2.2
  | none => false
theorem rp_fr {σe σ : am_S} {m o a n : Nat} (hM : sx_M z9 hd_C σe m 0 σ) (hm : (Nat.land m lw_mK).beq 0 = true) (hc : rp_ck o a n = true) : ∀ k, k < n → σ.2.1 o (a + k) = σe.2.1 o (a + k) := by
  intro k hk
  have q := List.all_eq_true.mp hc k (List.mem_range.mpr hk)
  revert q
  cases h : sx_atl (z9.1 o) (a + k) with
  | none => intro q; cases q
  | some b =>
    intro q
    obtain ⟨lo, hi, u⟩ := b
    exact hM.2.2.2.2.1 o (a + k) lo hi u h (rp_bit hm q)
theorem rp_f0 {σe σ : am_S} {m o n : Nat} (hM : sx_M z9 hd_C σe m 0 σ) (hm : (Nat.land m lw_mK).beq 0 = true) (hc : rp_ck o 0 n = true) : ∀ k, k < n → σ.2.1 o k = σe.2.1 o k := fun k hk => by
  have := rp_fr hM hm hc k hk
  rw [Nat.zero_add] at this
  exact this
theorem rp_ckA : rp_ck 68 12 8 = true ∧ rp_ck 69 0 600 = true ∧ rp_ck 71 0 500 = true ∧ rp_ck 73 0 100 = true ∧ rp_ck 74 0 100 = true ∧ rp_ck 75 0 24 = true ∧ rp_ck 76 0 24 = true ∧ rp_ck 77 0 24 = true := by decide +kernel
theorem rp_fE {σe σ : am_S} {m : Nat} (hM : sx_M z9 hd_C σe m 0 σ) (hm : (Nat.land m lw_mK).beq 0 = true) : pk_E σe.2.1 σ.2.1 ∧ pk_L σe σ := by
  obtain ⟨c1, c2, c3, c4, c5, c6, c7, c8⟩ := rp_ckA
  refine ⟨⟨fun y a b => ?_, rp_f0 hM hm c2, rp_f0 hM hm c3, fun y hy => ⟨rp_f0 hM hm c4 y hy, rp_f0 hM hm c5 y hy⟩, fun y hy => ⟨rp_f0 hM hm c6 y hy, rp_f0 hM hm c7 y hy, rp_f0 hM hm c8 y hy⟩⟩, fun y _ => ?_⟩
  · have := rp_fr hM hm c1 (y - 12) (by omega)
    rw [show 12 + (y - 12) = y by omega] at this
    exact this
  · rw [hM.2.2.2.2.2.2.2.2 (rp_bit hm (by decide +kernel))]
/-- between turns -/
def lw_rp (σ : am_S) : Prop := lw_rw σ ∧ pk_ok (σ.2.1 120) σ
theorem rp_keep {σe σ : am_S} {m : Nat} (hE : sx_M z9 hd_C σe 0 0 σe) (hM : sx_M z9 hd_C σe m 0 σ) (hm : (Nat.land m lw_mP).beq 0 = true) (h : lw_rp σe) : lw_rp σ := by
  have f := rp_fE hM (rp_subK hm)
  exact ⟨rw_keep hE hM (rp_subX hm) h.1, pk_okc (rl_z hM (rp_subX hm) rl_ckF.2.2.2.1) (pn_BM hE) (pl_B6M hE) f.1 f.2 h.2⟩
/-- behind a call that writes what plans are kept in -/
theorem rp_next {σe σ : am_S} {m : Nat} (hE : sx_M z9 hd_C σe 0 0 σe) (hM : sx_M z9 hd_C σe m 0 σ) (hm : (Nat.land m lw_mX).beq 0 = true) (h : lw_rp σe) (p : pk_ok (σe.2.1 120) σ) : lw_rp σ := ⟨rw_keep hE hM hm h.1, pk_okc (rl_z hM hm rl_ckF.2.2.2.1) (pn_BM hE) (pl_B6M hE) (pk_Er _) (fun _ _ => rfl) p⟩
theorem rp_image {σ σ1 σ2 : am_S} {a : Int32} (hM : sx_M z9 hd_C σ 0 0 σ) (h : lw_rp σ) (hM1 : sx_M z9 hd_C σ lw_m_X11_image 0 σ1) (p : lw_imXp a σ σ1) (hM2 : sx_M z9 hd_C σ1 lw_m_X12_image 0 σ2) (q : lw_imMp a σ1 σ2) : lw_rp σ2 := by
  have s0 : ∀ k, k < 62 → σ1.2.1 120 k = σ.2.1 120 k := rl_o0 hM1 (by decide +kernel)
  have s2 : ∀ k, k < 62 → σ2.2.1 120 k = σ1.2.1 120 k := rl_o0 hM2 (by decide +kernel)
  have f1 := rp_fE hM1 (by decide +kernel)
  have f2 := rp_fE hM2 (by decide +kernel)
  exact ⟨rw_image hM h.1 hM1 p hM2 q, pk_okc (fun k hk => (s2 k hk).trans (s0 k hk)) (pn_BM hM) (pl_B6M hM) (pk_Et f1.1 f2.1) (pk_Lt f1.2 f2.2) h.2⟩
def pk_z0 (σ : am_S) : Prop := σ.2.1 68 17 = 0 ∧ σ.2.1 68 18 = 0 ∧ σ.2.1 68 19 = 0
theorem rp_0 {s : Nat → Int32} {σ σ1 : am_S} {m : Nat} (h : pk_z0 σ) (hM1 : sx_M z9 hd_C σ m 0 σ1) (hm : (Nat.land m lw_mK).beq 0 = true) : pk_ok s σ1 := by
  have f := (rp_fE hM1 hm).1
  exact pk_ok0 ((f.1 17 (by decide) (by decide)).trans h.1) ((f.1 18 (by decide) (by decide)).trans h.2.1) ((f.1 19 (by decide) (by decide)).trans h.2.2)
/-- restore: plans are forgotten, or all is as it was -/
def lw_reP (a : Int32) (σ σ1 : am_S) : Prop := pk_z0 σ1 ∨ (pk_E σ.2.1 σ1.2.1 ∧ pk_L σ σ1 ∧ (a = 0 → σ.2.1 86 3 = 0) ∧ (a = 1 → σ.2.1 102 3 = 0))
theorem rp_restore {σ σ1 σ2 : am_S} {a : Int32} (hM : sx_M z9 hd_C σ 0 0 σ) (h : lw_rp σ) (hM1 : sx_M z9 hd_C σ lw_m_X11_restore 0 σ1) (p : lw_reXp a σ σ1 ∧ lw_reP a σ σ1) (hM2 : sx_M z9 hd_C σ1 lw_m_X12_restore 0 σ2) (q : lw_reMp a σ1 σ2) : lw_rp σ2 := by
  refine ⟨rw_restore hM h.1 hM1 p.1 hM2 q, ?_⟩
  have f2 := rp_fE hM2 (by decide +kernel)
  rcases p.2 with z | ⟨f1, l1, p0, p1⟩
  · exact rp_0 z hM2 (by decide +kernel)
  have s0 : ∀ k, k < 62 → σ1.2.1 120 k = σ.2.1 120 k := rl_o0 hM1 (by decide +kernel)
  have gg : ∀ k, k < 2 → σ1.2.1 137 k = σ.2.1 137 k := rl_o0 hM1 (by decide +kernel)
  obtain ⟨-, ⟨h2, h3⟩, -, -⟩ := h.1.1
  refine pk_okc (fun k hk => ?_) (pn_BM hM) (pl_B6M hM) (pk_Et f1 f2.1) (pk_Lt l1 f2.2) h.2
  rcases q with ⟨e, ⟨d1, d2⟩ | ⟨d1, d2⟩⟩ | ⟨e, ⟨d1, d2⟩ | ⟨d1, d2⟩⟩ | ⟨-, -, q1, q2, q3⟩
  · rw [gg 0 (by decide), ← h2] at d1
    exact absurd (p0 e) d1
  · exact (d2 k hk).trans (s0 k hk)
  · rw [gg 1 (by decide), ← h3] at d1
    exact absurd (p1 e) d1
  · exact (d2 k hk).trans (s0 k hk)
  · exact (q1 k (by omega)).trans (s0 k hk)
theorem lw_reX2 (G : sx_G0 g L xs z9 hd_C ex_mt) (hct : lw_hct g) {σ : am_S} (hM : sx_M z9 hd_C σ 0 0 σ) (a : Int32) : am_K g 60 tX11_restore.1 0 0 0 (lv_args 0 [.ref 0, .int a]) [] σ (fun r σ' => ∃ y : Int32, r = some (some (.int y)) ∧ sx_M z9 hd_C σ lw_m_X11_restore 0 σ' ∧ lw_reXp a σ σ' ∧ lw_reP a σ σ') := by
  have A := lw_reX G hct hM a
  by_cases e0 : a = 0
  · subst e0
    refine kr_mono ?_ (am_and A (kr_less (d := 60) (by decide) (Nat.le_refl _) (Nat.le_refl _) (ax_resX_0 G (ax_SM hM))) (fun v σ' h => by rcases h.2 with h | h <;> (have := h.1; cases this; exact Or.inr ⟨_, rfl⟩)) (fun σ' h => by rcases h.2 with h | h <;> (have := h.1; cases this)))
    intro r σ' ⟨⟨y, hr, hM', hp⟩, σ2, ⟨hT2, hh⟩, ev⟩
    have f := pk_eqv ev (ax_SM hM') hT2
    refine ⟨y, hr, hM', hp, ?_⟩
    rcases hh with ⟨-, h0, hF2, hQ2, z17, z18, z19⟩ | ⟨-, h0, e⟩
    · exact Or.inl ⟨(f.1.1 17 (by decide) (by decide)).trans z17, (f.1.1 18 (by decide) (by decide)).trans z18, (f.1.1 19 (by decide) (by decide)).trans z19⟩
    · subst e
      exact Or.inr ⟨f.1, f.2, fun _ => h0, fun e => absurd e (by decide)⟩
  by_cases e1 : a = 1
  · subst e1
    refine kr_mono ?_ (am_and A (kr_less (d := 60) (by decide) (Nat.le_refl _) (Nat.le_refl _) (ax_resX_1 G (ax_SM hM))) (fun v σ' h => by rcases h.2 with h | h <;> (have := h.1; cases this; exact Or.inr ⟨_, rfl⟩)) (fun σ' h => by rcases h.2 with h | h <;> (have := h.1; cases this)))
    intro r σ' ⟨⟨y, hr, hM', hp⟩, σ2, ⟨hT2, hh⟩, ev⟩
    have f := pk_eqv ev (ax_SM hM') hT2
    refine ⟨y, hr, hM', hp, ?_⟩
    rcases hh with ⟨-, h0, hF2, hQ2, z17, z18, z19⟩ | ⟨-, h0, e⟩
    · exact Or.inl ⟨(f.1.1 17 (by decide) (by decide)).trans z17, (f.1.1 18 (by decide) (by decide)).trans z18, (f.1.1 19 (by decide) (by decide)).trans z19⟩
    · subst e
      exact Or.inr ⟨f.1, f.2, fun e => absurd e (by decide), fun _ => h0⟩
  · refine kr_mono ?_ (am_and A (kr_less (d := 60) (by decide) (Nat.le_refl _) (Nat.le_refl _) (ax_reX_n G (σ := σ) e0 e1)) (fun v σ' h => by have := h.1; cases this; exact Or.inr ⟨_, rfl⟩) (fun σ' h => by have := h.1; cases this))
    intro r σ' ⟨⟨y, hr, hM', hp⟩, σ2, ⟨_, e⟩, ev⟩
    subst e
    have f := pk_eqv ev (ax_SM hM') (ax_SM hM)
    exact ⟨y, hr, hM', hp, Or.inr ⟨f.1, f.2, fun e => absurd e e0, fun e => absurd e e1⟩⟩
/-- station: plans are forgotten, or all is as it was -/
def lw_stP (x : (Nat × Nat) ⊕ (Nat × rd_Q)) (σ σ1 : am_S) : Prop := match x with
  | .inl _ => pk_E σ.2.1 σ1.2.1 ∧ pk_L σ σ1
  | .inr _ => pk_z0 σ1
theorem lw_stX7 (G : sx_G0 g L xs z9 hd_C ex_mt) (hct : lw_hct g) {σ : am_S} (hM : sx_M z9 hd_C σ 0 0 σ) {b : Nat → Nat} (hbX : ∀ k, k < 940 → rd_by (σ.2.1 2) k = b k) {n : Nat} (hn : (σ.2.1 1 1).toInt = n) : am_K g 60 tX11_station.1 0 0 0 (lv_args 0 [.ref 0]) [] σ (fun r σ' => ∃ y : Int32, r = some (some (.int y)) ∧ sx_M z9 hd_C σ rc_mS 0 σ' ∧ (σ'.2.1 1 1).toInt = 0 ∧ lw_ans y (rd_all9 b n) ∧ lw_sX (rd_all9 b n) σ σ' ∧ lw_stP (rd_all9 b n) σ σ') := by
  refine kr_mono ?_ (lw_stX6 G hct hM hbX hn)
  intro r σ' ⟨y, h1, h2, h3, h4, h5, h6⟩
  refine ⟨y, h1, h2, h3, h4, h5, ?_⟩
  revert h6
  cases rd_all9 b n with
  | inl e => exact fun h6 => rp_fE (show sx_M z9 hd_C σ rc_mSf 0 σ' from h6) (by decide +kernel)
  | inr z => exact fun h6 => h6
theorem rp_st {σ σ1 σ2 : am_S} {b : Nat → Nat} {N : Nat} (hM : sx_M z9 hd_C σ 0 0 σ) (h : lw_rp σ) (hM1 : sx_M z9 hd_C σ rc_mS 0 σ1) (p : lw_sX (rd_all9 b N) σ σ1 ∧ lw_stP (rd_all9 b N) σ σ1) (hM2 : sx_M z9 hd_C σ1 lw_mR 0 σ2) (q : lw_sM (rd_all9 b N) σ1 σ2) : lw_rp σ2 := by
  refine ⟨rw_st hM h.1 hM1 p.1 hM2 q, ?_⟩
  have f2 := rp_fE hM2 (by decide +kernel)
  have s0 : ∀ k, k < 62 → σ1.2.1 120 k = σ.2.1 120 k := rl_o0 hM1 (by decide +kernel)
  have p2 := p.2
  revert p2 q
  cases rd_all9 b N with
  | inl e => exact fun q p2 => pk_okc (fun k hk => ((show ∀ k, k < 62 → σ2.2.1 120 k = σ1.2.1 120 k from q) k hk).trans (s0 k hk)) (pn_BM hM) (pl_B6M hM) (pk_Et (show pk_E σ.2.1 σ1.2.1 ∧ pk_L σ σ1 from p2).1 f2.1) (pk_Lt (show pk_E σ.2.1 σ1.2.1 ∧ pk_L σ σ1 from p2).2 f2.2) h.2
  | inr z => exact fun _ p2 => rp_0 (show pk_z0 σ1 from p2) hM2 (by decide +kernel)
end PLK
