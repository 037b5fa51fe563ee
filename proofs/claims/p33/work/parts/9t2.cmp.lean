section Z12
variable {g : am_C} {L : Nat} {xs : Nat → Int32}
def lw_m_X12_meant : Nat := 1174271291386916613944740298394668513687841274454159935353645485766104512557304221731849499192384351515967488
theorem lw_ct_X12_meant (G : sx_G0 g L xs z9 hd_C ex_mt) (hct : lw_hct g) {σ : am_S} (hM : sx_M z9 hd_C σ 0 0 σ) (a b c : Int32) : am_K g 60 tX12_meant.1 0 0 0 (lv_args 0 [.ref 118, .int a, .int b, .int c]) [] σ (fun r σ' => ∀ v, r = some v → sx_M z9 hd_C σ lw_m_X12_meant 0 σ') := by
  have lo : ∀ x : Int32, (-2147483648 : Int) ≤ 1 * x.toInt + 0 ∧ 1 * x.toInt + 0 ≤ (2147483647 : Int) := fun x => by
    have h1 := Int32.le_toInt x
    have h2 := Int32.toInt_lt x
    omega
  have A := hct 137 tX12_meant k9_222 rfl (List.Mem.head _) (lv_args 0 [.ref 118, .int a, .int b, .int c]) [a.toInt, b.toInt, c.toInt] σ ⟨⟨a, by simp [lv_args, Value.category], rfl⟩, ⟨b, by simp [lv_args, Value.category], rfl⟩, ⟨c, by simp [lv_args, Value.category], rfl⟩, trivial⟩ (fun q hq => by
      have e : q = (0, .inr (some (false, 118))) := List.mem_singleton.mp hq
      subst e
      exact ⟨.ref 118, by simp [lv_args, Value.category], rfl⟩) (fun q hq => by
      have hq' : q ∈ [([((1 : Int), 0)], (-2147483648 : Int), (2147483647 : Int)), ([((1 : Int), 1)], (-2147483648 : Int), (2147483647 : Int)), ([((1 : Int), 2)], (-2147483648 : Int), (2147483647 : Int))] := hq
      simp only [List.mem_cons, List.not_mem_nil, or_false] at hq'
      rcases hq' with rfl | rfl | rfl
      · exact ⟨1 * a.toInt + 0, rfl, (lo a).1, (lo a).2⟩
      · exact ⟨1 * b.toInt + 0, rfl, (lo b).1, (lo b).2⟩
      · exact ⟨1 * c.toInt + 0, rfl, (lo c).1, (lo c).2⟩) hM
  refine kr_mono ?_ (kr_less (d := 60) (by decide) (Nat.le_refl _) (Nat.le_refl _) A)
  intro r σ' p v hv
  subst hv
  exact sx_PostM p (by decide +kernel)
theorem lw_cL (G : sx_G0 g L xs z9 hd_C ex_mt) {σ : am_S} (hM : sx_M z9 hd_C σ 0 0 σ) (h : lw_rw σ) (a b c : Int32) : am_K g 60 tL_meant.1 1 6 0 (lv_args 0 [.ref 0, .int a, .int b, .int c, .ref 138]) [] σ (ax_TL (ax_f_meX σ.2.1 a b c) σ) := kr_less (d := 60) (by decide) (Nat.le_refl _) (Nat.le_refl _) (ax_L_meX G (ax_SM hM) a b c (pl_Bm_of hM) (me_h9 h.1.1 (pl_BM hM).1 (pl_B2M hM)))
theorem lw_cM (G : sx_G0 g L xs z9 hd_C ex_mt) (hct : lw_hct g) {σ : am_S} (hM : sx_M z9 hd_C σ 0 0 σ) (h : lw_rw σ) (a b c : Int32) : am_K g 60 tX12_meant.1 0 0 0 (lv_args 0 [.ref 118, .int a, .int b, .int c]) [] σ (fun r σ' => ∃ y : Int32, r = some (some (.int y)) ∧ sx_M z9 hd_C σ lw_m_X12_meant 0 σ' ∧ (match ax_f_meM (σ.2.1 120) a b c with | some z => y = z ∧ σ'.2.1 118 0 = 0 | none => σ'.2.1 118 0 = 1)) := by
  refine kr_mono ?_ (am_and (lw_ct_X12_meant G hct hM a b c) (kr_less (d := 60) (by decide) (Nat.le_refl _) (Nat.le_refl _) (ax_meM G (ax_SM hM) a b c (pl_BM hM).1 (pl_B2M hM) (pl_B4M hM) h.2.1)) (fun v σ' h => by obtain ⟨y, h, -⟩ := h; cases h; exact Or.inr ⟨_, rfl⟩) (fun σ' h => by obtain ⟨y, h, -⟩ := h; cases h))
  intro r σ' ⟨p1, σ2, ⟨y, hr, hS2, hv⟩, ev⟩
  subst hr
  have hM' := p1 _ rfl
  have e := am_eqvF ev (ci := 12) (k := 0) rfl (by decide) (by decide) (hM'.1 118 (.inl 12) rfl) (hS2.1 118 (.inl 12) rfl)
  refine ⟨y, rfl, hM', ?_⟩
  rw [e]
  exact hv
theorem lw_cE {σ : am_S} (hM : sx_M z9 hd_C σ 0 0 σ) (hl : σ.2.1 1 1 = σ.2.1 118 2) (h : lw_rw σ) (a b c : Int32) : ax_f_meX σ.2.1 a b c = ax_f_meM (σ.2.1 120) a b c := me_eq h.1.1 (pl_BM hM).1 (pl_B2M hM) (pl_B4M hM) h.2.1 a b c
end Z12
