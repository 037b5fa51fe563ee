/-! sentence of either side over all that is kept (written by a program) -/
def sc_ans (y : Int32) : (Nat × Nat) ⊕ Nat → Prop
  | .inl q => y.toInt = -1 - (q.2 : Int)
  | .inr m => y.toInt = ((m : Nat) : Int)
theorem sc_ans1 {b : Nat → Nat} {n : Nat} {y y' : Int32} {x x' : (Nat × Nat) ⊕ Nat} (h : sn_go b n (sn_s0 b n) (.inl x)) (h' : sn_go b n (sn_s0 b n) (.inl x')) (a : sc_ans y x) (a' : sc_ans y' x') : y = y' := by
  have e := sn_start b n h h'
  subst e
  apply Int32.toInt_inj.mp
  cases x with
  | inl e =>
    have h1 : y.toInt = -1 - (e.2 : Int) := a
    have h2 : y'.toInt = -1 - (e.2 : Int) := a'
    omega
  | inr z =>
    have h1 : y.toInt = ((z : Nat) : Int) := a
    have h2 : y'.toInt = ((z : Nat) : Int) := a'
    omega
section ZS
variable {g : am_C} {L : Nat} {xs : Nat → Int32}
def lw_mN : Nat := 8452712498170643941637436558664265704301557216577944354047371344426782440907597751590676094202515006314790319892114058862117610900019773833596086337155035606340794214439522212433393543415092713564459312080184455861702810109907348423431429257490093004309657501131606065152
theorem lw_snX (G : sx_G0 g L xs z9 hd_C ex_mt) (hct : lw_hct g) {σ : am_S} (hM : sx_M z9 hd_C σ 0 0 σ) {b : Nat → Nat} (hbX : ∀ k, k < 940 → rd_by (σ.2.1 2) k = b k) {n : Nat} (hn : (σ.2.1 1 1).toInt = n) : am_K g 60 tX11_sentence.1 0 0 0 (lv_args 0 [.ref 0]) [] σ (fun r σ' => ∃ y : Int32, r = some (some (.int y)) ∧ sx_M z9 hd_C σ sc_mS 0 σ' ∧ (σ'.2.1 1 1).toInt = 0 ∧ ∃ x, sn_go b n (sn_s0 b n) (.inl x) ∧ sc_ans y x) := by
  refine sc_sentence G (fun mi T2 c h1 h2 _ => hct mi T2 c h1 h2) hM hbX hn (by simp [lv_args, Value.category]) ?_ ?_
  · intro r σ' kd at' a1 a2 a3 a4 a5
    exact ⟨r, rfl, a3, a5, _, a1, a2⟩
  · intro r σ' o' a1 a2 a3 a4 a5
    exact ⟨r, rfl, a3, a5, _, a1, a2⟩
theorem lw_snM (G : sx_G0 g L xs z9 hd_C ex_mt) (hct : lw_hct g) {σ : am_S} (hM : sx_M z9 hd_C σ 0 0 σ) {b : Nat → Nat} (hb : ∀ k, b k ≤ 255) (hbX : ∀ k, k < 940 → rd_by (σ.2.1 119) k = b k) {n : Nat} (hn : (σ.2.1 118 2).toInt = n) : am_K g 60 tX12_sentence.1 0 0 0 (lv_args 0 [.ref 118]) [] σ (fun r σ' => ∃ y : Int32, r = some (some (.int y)) ∧ sx_M z9 hd_C σ lw_mN 0 σ' ∧ (σ'.2.1 118 2).toInt = 0 ∧ ∃ x, sn_go b n (sn_s0 b n) (.inl x) ∧ sc_ans y x) := by
  have A := hct 167 tX12_sentence k9_296 rfl (List.Mem.head _) (lv_args 0 [.ref 118]) [] σ trivial (fun q hq => by
      have e : q = (0, .inr (some (false, 118))) := List.mem_singleton.mp hq
      subst e
      exact ⟨.ref 118, by simp [lv_args, Value.category], rfl⟩) (fun q hq => by cases hq) hM
  have B := sn_sent (hd_GK G) (hd_MK hM) hb hbX hn (post := fun r σ' => ∃ y : Int32, r = some (some (.int y)) ∧ ∃ x, sn_go b n (sn_s0 b n) (.inl x) ∧ sc_ans y x) (fun r σ' x a1 a2 a3 a4 => ⟨r, rfl, x, a1, by
    cases x with
    | inl q => exact a2.1
    | inr m => exact a2.1⟩)
  refine kr_mono ?_ (am_and (kr_less (d := 60) (by decide) (Nat.le_refl _) (Nat.le_refl _) A) (kr_less (d := 60) (by decide) (Nat.le_refl _) (Nat.le_refl _) B) (fun v σ' h => by obtain ⟨y, h, -⟩ := h; cases h; exact Or.inr ⟨y, rfl⟩) (fun σ' h => by obtain ⟨y, h, -⟩ := h; cases h))
  intro r σ' ⟨p1, σ2, ⟨y, hr, x, hf, hf2⟩, ev⟩
  subst hr
  refine ⟨y, rfl, sx_PostM p1 (by decide +kernel), ?_, x, hf, hf2⟩
  obtain ⟨p, hp, -, ks, hk, hm⟩ := p1
  have ep := List.mem_singleton.mp hp
  subst ep
  match ks, hk, hm with
  | [v], hk, hm =>
    obtain ⟨m, -, hP⟩ := hm
    obtain ⟨z, hz, z1, z2⟩ := hP ([((1 : Int), 1)], Int.ofNat 0, Int.ofNat 0) (List.Mem.tail _ (List.Mem.head _))
    have hv : v = (σ'.2.1 118 2).toInt := hk.1
    have ez : z = 1 * v + 0 := (Option.some.inj hz).symm
    have z1' : (0 : Int) ≤ z := z1
    have z2' : z ≤ (0 : Int) := z2
    omega
end ZS
