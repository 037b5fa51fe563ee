/-! exact answers, further (rows written by a program) -/
section AXX
variable {g : am_C} {L : Nat} {xs : Nat → Int32}
/-! plans hang on the first 62 numbers of the STATION alone -/
def pc_E (s s' : Nat → Int32) : Prop := ∀ k, k < 62 → s' k = s k
theorem sd_c {s s' : Nat → Int32} (e : pc_E s s') (b : pl_B s) (t : Int32) : ax_f_sd s' t = ax_f_sd s t := by
  have hn := ax_many6 (s := s) b.2
  have em : ax_f_many s' = ax_f_many s := by rw [ax_f_many, ax_f_many, e 1 (by decide)]
  have g : ∀ (f j : Nat) (k z : Int32), k.toInt = (j : Int) → j + f = 6 → ax_l_sdM s' t f k z = ax_l_sdM s t f k z := by
    intro f
    induction f with
    | zero =>
      intro j k z ek hj
      rw [ax_l_sdM_zero, ax_l_sdM_zero, ax_s_sdM, ax_s_sdM, em, if_pos (Int32.le_iff_toInt_le.mpr (by omega)), if_pos (Int32.le_iff_toInt_le.mpr (by omega))]
    | succ f ih =>
      intro j k z ek hj
      rw [ax_l_sdM_succ, ax_l_sdM_succ, ax_s_sdM, ax_s_sdM, em]
      by_cases q : ax_f_many s ≤ k
      · rw [if_pos q, if_pos q]
      · have q' : ¬ (ax_f_many s).toInt ≤ k.toInt := fun y => q (Int32.le_iff_toInt_le.mpr y)
        have e1 : ax_f_secM s' k k.toInt.toNat = ax_f_secM s k k.toInt.toNat := by rw [ax_f_secM, ax_f_secM, e 1 (by decide), e (42 + k.toInt.toNat) (by omega)]
        have e2 : ax_f_wgtM s' k k.toInt.toNat = ax_f_wgtM s k k.toInt.toNat := by rw [ax_f_wgtM, ax_f_wgtM, e 1 (by decide), e (48 + k.toInt.toNat) (by omega)]
        rw [if_neg q, if_neg q, e1, e2]
        split
        · exact ih (j + 1) _ _ (ax_inc ek (by omega)) (by omega)
        · exact ih (j + 1) _ _ (ax_inc ek (by omega)) (by omega)
  rw [ax_f_sd, ax_f_sd]
  exact g 6 0 0 0 rfl rfl
theorem gn_c {s s' : Nat → Int32} (e : pc_E s s') (b : pl_B s) {a : Int32} (ha : 0 ≤ a.toInt ∧ a.toInt < 10) (c t : Int32) : ax_f_gnM s' a c t = ax_f_gnM s a c t := by
  rw [ax_f_gnM, ax_f_gnM, sd_c e b, e (2 + a.toInt.toNat) (by omega), e 57 (by decide), e 56 (by decide), e (12 + a.toInt.toNat) (by omega), sd_c e b]
theorem bg_c {s s' : Nat → Int32} (e : pc_E s s') (b : pl_B s) {a : Int32} (ha : 0 ≤ a.toInt ∧ a.toInt < 10) (t : Int32) : ax_f_bgM s' a t = ax_f_bgM s a t := by
  rw [ax_f_bgM, ax_f_bgM, gn_c e b ha, gn_c e b ha]
theorem bw_c {s s' : Nat → Int32} (e : pc_E s s') (b : pl_B s) {a : Int32} (ha : 0 ≤ a.toInt ∧ a.toInt < 10) (t : Int32) : ax_f_bwM s' a t = ax_f_bwM s a t := by
  rw [ax_f_bwM, ax_f_bwM, gn_c e b ha, gn_c e b ha]
theorem pn_gc {s s' : Nat → Int32} (e : pc_E s s') (b : pl_B s) {w : Nat} (hw : w < 10) : pn_g s' w = pn_g s w ∧ pn_tk s' w = pn_tk s w ∧ pn_of s' w = pn_of s w := by
  refine ⟨funext fun x => ?_, ?_, ?_⟩
  · unfold pn_g
    have ew : (Int32.ofNat w).toInt = (w : Int) := Int32.toInt_ofNat_of_lt (by omega)
    rw [bg_c e b ⟨by omega, by omega⟩]
  · unfold pn_tk
    rw [e (12 + w) (by omega)]
  · unfold pn_of
    rw [e (22 + w) (by omega)]
theorem pv_c {tk tk' oft oft' : Nat → Nat} {g g' : Nat → Nat → Nat} {wk : Nat} : ∀ (ws : List Nat), (∀ v ∈ ws, tk' v = tk v ∧ oft' v = oft v ∧ g' v = g v) → ∀ t f, pv tk' oft' g' wk ws t f = pv tk oft g wk ws t f := by
  intro ws
  induction ws with
  | nil => intro _ t f; rfl
  | cons w ws ih =>
    intro h t f
    obtain ⟨e1, e2, e3⟩ := h w List.mem_cons_self
    rw [pv_cons, pv_cons, e1, e2, e3]
    exact pv_best_c (fun k _ => by rw [ih (fun v hv => h v (List.mem_cons_of_mem _ hv))])
theorem pv_Uc' {oft oft' : Nat → Nat} : ∀ (ws : List Nat), (∀ v ∈ ws, oft' v = oft v) → pv_U oft' ws = pv_U oft ws := by
  intro ws
  induction ws with
  | nil => intro _; rfl
  | cons w ws ih =>
    intro h
    show oft' w + pv_U oft' ws = oft w + pv_U oft ws
    rw [h w List.mem_cons_self, ih (fun v hv => h v (List.mem_cons_of_mem _ hv))]
theorem pn_vc {s s' : Nat → Int32} (e : pc_E s s') (b : pl_B s) (ws : List Nat) (h : ∀ v ∈ ws, v < 10) (t f : Nat) : pn_v s' ws t f = pn_v s ws t f := by
  have ewk : pn_wk s' = pn_wk s := by unfold pn_wk; rw [e 54 (by decide)]
  show pv (pn_tk s') (pn_of s') (pn_g s') (pn_wk s') ws t f = pv (pn_tk s) (pn_of s) (pn_g s) (pn_wk s) ws t f
  rw [ewk]
  exact pv_c ws (fun v hv => by
    obtain ⟨e1, e2, e3⟩ := pn_gc e b (h v hv)
    exact ⟨e2, e3, e1⟩) t f
theorem pv_Uc {s s' : Nat → Int32} (e : pc_E s s') (b : pl_B s) (ws : List Nat) (h : ∀ v ∈ ws, v < 10) : pv_U (pn_of s') ws = pv_U (pn_of s) ws := pv_Uc' ws (fun v hv => (pn_gc e b (h v hv)).2.2)
theorem pz_trc {s s' : Nat → Int32} (e : pc_E s s') (b : pl_B s) : ∀ (ws : List Nat), (∀ v ∈ ws, v < 10) → ∀ t f, pz_tr s' ws t f = pz_tr s ws t f := by
  have ewk : pn_wk s' = pn_wk s := by unfold pn_wk; rw [e 54 (by decide)]
  intro ws
  induction ws with
  | nil => intro _ t f; exact (show pz_tr s' [] t f = [] from rfl).trans (show [] = pz_tr s [] t f from rfl)
  | cons w ws ih =>
    intro h t f
    obtain ⟨-, e2, -⟩ := pn_gc e b (h w List.mem_cons_self)
    rw [pz_tr_c, pz_tr_c, pn_vc e b (w :: ws) h, e2, ewk, ih (fun v hv => h v (List.mem_cons_of_mem _ hv))]
theorem pz_Wc {s s' : Nat → Int32} (e : pc_E s s') : pz_W s' = pz_W s := by unfold pz_W; rw [e 0 (by decide)]
theorem pz_rowc {s s' : Nat → Int32} (e : pc_E s s') (a u : Nat) : pz_row s' a u = pz_row s a u := by unfold pz_row; rw [e 0 (by decide)]
theorem pk_lc {s s' : Nat → Int32} (e : pc_E s s') (u k : Nat) : pk_l s' u k = pk_l s u k ∧ pk_w s' u k = pk_w s u k := by
  unfold pk_l pk_w
  rw [e 0 (by decide)]
  exact ⟨rfl, rfl⟩
theorem pl_10 {s : Nat → Int32} (b : pl_B s) {ws : List Nat} (h : ∀ v ∈ ws, (v : Int) < (s 0).toInt) : ∀ v ∈ ws, v < 10 := fun v hv => by
  have := h v hv
  have := b.1.2
  omega
/-- the cells that plans are kept in, in range -/
def pk_E (m m' : Nat → Nat → Int32) : Prop := (∀ y, 12 ≤ y → y ≤ 19 → m' 68 y = m 68 y) ∧ (∀ y, y < 600 → m' 69 y = m 69 y) ∧ (∀ y, y < 500 → m' 71 y = m 71 y) ∧ (∀ y, y < 100 → m' 73 y = m 73 y ∧ m' 74 y = m 74 y) ∧ ∀ y, y < 24 → m' 75 y = m 75 y ∧ m' 76 y = m 76 y ∧ m' 77 y = m 77 y
theorem pg_c {s s' : Nat → Int32} (e : pc_E s s') (b : pl_B s) {H : Nat} {m m' : Nat → Nat → Int32} (f : pk_E m m') (h : pg_K s H m) : pg_K s' H m' := by
  obtain ⟨h1, h2, h3, h4⟩ := h
  have h10 := b.1.2
  refine ⟨h1, by rw [f.1 16 (by decide) (by decide)]; exact h2, fun w x q1 q2 => ?_, fun w x q1 q2 => ?_⟩
  · rw [e 0 (by decide)] at q1
    rw [(pn_gc e b (by omega)).1]
    exact h3 w x q1 q2
  · rw [e 0 (by decide)] at q1
    rw [f.2.1 _ (by omega), (pn_gc e b (by omega)).1]
    exact h4 w x q1 q2
theorem pk_rc {s s' : Nat → Int32} (e : pc_E s s') (b : pl_B s) {m m' : Nat → Nat → Int32} (f : pk_E m m') (h : pk_r s m) : pk_r s' m' := by
  intro a l h1 h2
  rw [e 0 (by decide)] at h2
  have h10 := b.1.2
  obtain ⟨f1, f2⟩ := f.2.2.2.1 (a * 10 + l) (by omega)
  rw [f1, f2, e 55 (by decide), pn_vc e b _ (fun v hv => by have := pl_up_m _ _ hv; omega), pn_vc e b _ (fun v hv => by have := pl_dn_m _ _ hv; omega)]
  exact h a l h1 h2
theorem pc_hc {s s' : Nat → Int32} (e : pc_E s s') (b : pl_B s) {ws : List Nat} (hw : ∀ v ∈ ws, v < 10) {T j : Nat} {ch : Int64} (h : pc_h s ws T j ch) : pc_h s' ws T j ch := by
  obtain ⟨N, h1, h2, h3⟩ := h
  exact ⟨N, h1, h2, fun f hf => by rw [pn_vc e b ws hw]; exact h3 f hf⟩
theorem pk_Pc {s s' : Nat → Int32} (e : pc_E s s') (b : pl_B s) {σ σ' : am_S} (f : pk_E σ.2.1 σ'.2.1) (fl : ∀ y, y < 1200 → σ'.2.2.1 72 y = σ.2.2.1 72 y) (h : pk_P (pc_h s) s σ) : pk_P (pc_h s') s' σ' := by
  have h10 := b.1.2
  refine ⟨fun n => ?_, fun n => ?_⟩
  · rw [f.1 17 (by decide) (by decide)] at n
    obtain ⟨⟨H, hg⟩, hr⟩ := h.1 n
    exact ⟨⟨H, pg_c e b f hg⟩, pk_rc e b f hr⟩
  · rw [f.1 18 (by decide) (by decide)] at n
    obtain ⟨n17, hS, H, hg, hc⟩ := h.2 n
    refine ⟨by rw [f.1 17 (by decide) (by decide)]; exact n17, fun UP k q h1 h2 h3 => ?_, H, pg_c e b f hg, fun UP k T h1 h2 h3 => ?_⟩
    · rw [e 0 (by decide)] at h2
      have hw := pk_wW (UP := UP) h2
      have hl := pl_10 b (pk_lm (s := s) (UP := UP) (k := k + 1) (by omega))
      rw [(pk_lc e UP (k + 1)).1, (pk_lc e UP k).2, f.2.2.1 _ (by omega), pn_vc e b _ hl]
      exact hS UP k q h1 h2 h3
    · rw [e 0 (by decide)] at h2
      have hw := pk_wW (UP := UP) h2
      have hl := pl_10 b (pk_lm (s := s) (UP := UP) (k := k + 1) (by omega))
      have h60 := hg.1.1
      rw [(pk_lc e UP (k + 1)).1, (pk_lc e UP k).2, fl _ (by omega), pv_Uc e b _ hl]
      exact pc_hc e b hl (hc UP k T h1 h2 h3)
theorem pb_qc {s s' : Nat → Int32} (e : pc_E s s') (b : pl_B s) : pb_q s' = pb_q s := by
  have h10 := b.1.2
  unfold pb_q
  rw [pz_Wc e]
  by_cases hW : pz_W s = 0
  · have e0 : ∀ v : Nat → Nat, (pv_best v (2 * 0 - 1)).2 = 0 := fun v => rfl
    rw [hW, e0, e0]
  refine congrArg Prod.snd (pv_best_c (fun k hk => ?_))
  unfold pb_v
  rw [pz_rowc e, e 55 (by decide), pn_vc e b _ (fun v hv => ?_)]
  unfold pz_row at hv
  unfold pz_W at hk hW
  split at hv
  · have := pl_up_m _ _ hv; omega
  · have := pl_dn_m _ _ hv; omega
theorem pz_bestc {s s' : Nat → Int32} (e : pc_E s s') (b : pn_B s) : pz_best s' = pz_best s ∧ pb_a s' = pb_a s ∧ pb_u s' = pb_u s := by
  obtain ⟨A9, AU, -⟩ := pb_A b
  have eq := pb_qc e b.1
  have ea : pb_a s' = pb_a s := by unfold pb_a; rw [eq]
  have eu : pb_u s' = pb_u s := by unfold pb_u; rw [eq]
  refine ⟨?_, ea, eu⟩
  unfold pz_best
  rw [ea, eu, pz_rowc e, e 55 (by decide), pz_trc e b.1 _ (pl_10 b.1 (pz_row_m b AU A9).1)]
theorem pb_Kc {s s' : Nat → Int32} (e : pc_E s s') (b : pn_B s) (b6 : pl_B6 s) {m m' : Nat → Nat → Int32} (f : pk_E m m') (h : pb_K s m) : pb_K s' m' := by
  obtain ⟨c1, c2, c3⟩ := pz_bestc e b
  have hok := pz_best_ok b b6
  obtain ⟨h1, h2, h3, h4⟩ := h
  have h10 := b.1.1.2
  refine ⟨by rw [f.1 13 (by decide) (by decide), c2]; exact h1, by rw [f.1 14 (by decide) (by decide), c3]; exact h2, by rw [f.1 12 (by decide) (by decide), c1]; exact h3, fun i hi => ?_⟩
  rw [c1] at hi ⊢
  obtain ⟨w1, t1⟩ := hok.2 i hi
  have h24 := hok.1
  obtain ⟨f5, f6, f7⟩ := f.2.2.2.2 i (by omega)
  have ew : (Int32.ofNat ((pz_best s).getD i (0, 0)).1).toInt = (((pz_best s).getD i (0, 0)).1 : Int) := Int32.toInt_ofNat_of_lt (by omega)
  rw [f5, f6, f7, bw_c e b.1 ⟨by omega, by omega⟩]
  exact h4 i hi
end AXX
