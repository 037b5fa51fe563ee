/-! station, sentence and log of either side over all that is kept: the FAULT (written by a program) -/
def lw_kd : (Nat × Nat) ⊕ (Nat × rd_Q) → Nat
  | .inl e => e.1
  | .inr _ => 0
section ZF
variable {g : am_C} {L : Nat} {xs : Nat → Int32}
def lw_mT6 : Nat := 8452712498170643941637436558664265704301557216577944354047371344426782440907597751590676094202515006314790319892114058862117560952042968777718304728978227886509288232573993986554328614589483120904455143257896927219594061428664780945289625426074585415793713330511423733760
def lw_mS6 : Nat := 8452712498170643941637436558664265704301557216577944354047371344426782440907597751590676094202515006314790319892114058862117610900019773833596086337155035606340794214439522212433393543415092713564459312080184455861702810109907348423431429257490093004309657501131606065152
def lw_mL6 : Nat := 8452712498170643941637436558664265704301557216577944354047371344426782440907597751590676094202515006314790319892114058862117585974808692040924843755562352279749965530959462981160258642507976433325425828798979090706637511974171932473922070784417611059233446568044225626112
theorem lw_stX6 (G : sx_G0 g L xs z9 hd_C ex_mt) (hct : lw_hct g) {σ : am_S} (hM : sx_M z9 hd_C σ 0 0 σ) {b : Nat → Nat} (hbX : ∀ k, k < 940 → rd_by (σ.2.1 2) k = b k) {n : Nat} (hn : (σ.2.1 1 1).toInt = n) : am_K g 60 tX11_station.1 0 0 0 (lv_args 0 [.ref 0]) [] σ (fun r σ' => ∃ y : Int32, r = some (some (.int y)) ∧ sx_M z9 hd_C σ rc_mS 0 σ' ∧ (σ'.2.1 1 1).toInt = 0 ∧ (σ'.2.1 0 16).toInt = (lw_kd (rd_all9 b n) : Nat)) := by
  refine rc_station2 G (fun mi T2 c h1 h2 _ => hct mi T2 c h1 h2) hM hbX hn (by simp [lv_args, Value.category]) ?_ ?_
  · intro r σ' kd at' a1 a2 a3 a4 a5 a6 a7 a8
    exact ⟨r, rfl, a3, a5, by rw [a1]; exact a4⟩
  · intro r σ' l q a1 a2 a3 a4 a5 a6 a7
    exact ⟨r, rfl, a3, a5, by rw [a1]; exact a4⟩
theorem lw_stM6 (G : sx_G0 g L xs z9 hd_C ex_mt) (hct : lw_hct g) {σ : am_S} (hM : sx_M z9 hd_C σ 0 0 σ) {b : Nat → Nat} (hb : ∀ k, b k ≤ 255) (hbX : ∀ k, k < 940 → rd_by (σ.2.1 119) k = b k) {n : Nat} (hn : (σ.2.1 118 2).toInt = n) : am_K g 60 tX12_station.1 0 0 0 (lv_args 0 [.ref 118]) [] σ (fun r σ' => ∃ y : Int32, r = some (some (.int y)) ∧ sx_M z9 hd_C σ lw_mT6 0 σ' ∧ (σ'.2.1 118 2).toInt = 0 ∧ (σ'.2.1 118 13).toInt = (lw_kd (rd_all9 b n) : Nat)) := by
  have A := hct 173 tX12_station k9_238 rfl (List.Mem.head _) (lv_args 0 [.ref 118]) [] σ trivial (fun q hq => by
      have e : q = (0, .inr (some (false, 118))) := List.mem_singleton.mp hq
      subst e
      exact ⟨.ref 118, by simp [lv_args, Value.category], rfl⟩) (fun q hq => by cases hq) hM
  have B := rd_station2 (hd_GK G) (hd_MK hM) hb hbX hn (lw := lv_args 0 [.ref 118]) (by simp [lv_args, Value.category]) (post := fun r σ' => ∃ y : Int32, r = some (some (.int y)) ∧ (∃ m, sx_M zK hd_T σ m 0 σ') ∧ (σ'.2.1 118 13).toInt = (lw_kd (rd_all9 b n) : Nat)) (fun r σ' kd at' a1 a2 a3 a4 => ⟨r, rfl, ⟨_, a3⟩, by rw [a1]; exact a4⟩) (fun r σ' l q a1 a2 a3 a4 a5 a6 a7 => ⟨r, rfl, ⟨_, a3⟩, by rw [a1]; exact a6⟩)
  refine kr_mono ?_ (am_and (kr_less (d := 60) (by decide) (Nat.le_refl _) (Nat.le_refl _) A) (kr_less (d := 60) (by decide) (Nat.le_refl _) (Nat.le_refl _) B) (fun v σ' h => by obtain ⟨y, h, -⟩ := h; cases h; exact Or.inr ⟨y, rfl⟩) (fun σ' h => by obtain ⟨y, h, -⟩ := h; cases h))
  intro r σ' ⟨p1, σ2, ⟨y, hr, ⟨_, hK⟩, hf⟩, ev⟩
  subst hr
  have hM' : sx_M z9 hd_C σ lw_mT6 0 σ' := sx_PostM p1 (by decide +kernel)
  have eF : σ'.2.1 118 13 = σ2.2.1 118 13 := am_eqvF ev (ci := 12) (k := 13) rfl (by decide) (by decide) (hM'.1 118 (.inl 12) rfl) (hK.1 118 (.inl 12) rfl)
  refine ⟨y, rfl, hM', ?_, by rw [eF]; exact hf⟩
  obtain ⟨p, hp, -, ks, hk, hm⟩ := p1
  have ep := List.mem_singleton.mp hp
  subst ep
  match ks, hk, hm with
  | [v], hk, hm =>
    obtain ⟨m, -, hP⟩ := hm
    obtain ⟨z, hz, z1, z2⟩ := hP ([((1 : Int), 1)], Int.ofNat 0, Int.ofNat 0) (List.Mem.tail _ (List.Mem.head _))
    have hv : v = (σ'.2.1 118 2).toInt := hk.1
    have ez : z = 1 * v + 0 := (Option.some.inj hz).symm
    have z1' : (0 : Int) ≤ z := z1
    have z2' : z ≤ (0 : Int) := z2
    omega
theorem lw_snX6 (G : sx_G0 g L xs z9 hd_C ex_mt) (hct : lw_hct g) {σ : am_S} (hM : sx_M z9 hd_C σ 0 0 σ) {b : Nat → Nat} (hbX : ∀ k, k < 940 → rd_by (σ.2.1 2) k = b k) {n : Nat} (hn : (σ.2.1 1 1).toInt = n) : am_K g 60 tX11_sentence.1 0 0 0 (lv_args 0 [.ref 0]) [] σ (fun r σ' => ∃ y : Int32, r = some (some (.int y)) ∧ sx_M z9 hd_C σ sc_mS 0 σ' ∧ (σ'.2.1 1 1).toInt = 0 ∧ ∃ x, sn_go b n (sn_s0 b n) (.inl x) ∧ (σ'.2.1 0 16).toInt = (lz_kd x : Nat)) := by
  refine sc_sentence G (fun mi T2 c h1 h2 _ => hct mi T2 c h1 h2) hM hbX hn (by simp [lv_args, Value.category]) ?_ ?_
  · intro r σ' kd at' a1 a2 a3 a4 a5
    exact ⟨r, rfl, a3, a5, _, a1, a4⟩
  · intro r σ' o' a1 a2 a3 a4 a5
    exact ⟨r, rfl, a3, a5, _, a1, a4⟩
theorem lw_snM6 (G : sx_G0 g L xs z9 hd_C ex_mt) (hct : lw_hct g) {σ : am_S} (hM : sx_M z9 hd_C σ 0 0 σ) {b : Nat → Nat} (hb : ∀ k, b k ≤ 255) (hbX : ∀ k, k < 940 → rd_by (σ.2.1 119) k = b k) {n : Nat} (hn : (σ.2.1 118 2).toInt = n) : am_K g 60 tX12_sentence.1 0 0 0 (lv_args 0 [.ref 118]) [] σ (fun r σ' => ∃ y : Int32, r = some (some (.int y)) ∧ sx_M z9 hd_C σ lw_mS6 0 σ' ∧ (σ'.2.1 118 2).toInt = 0 ∧ ∃ x, sn_go b n (sn_s0 b n) (.inl x) ∧ (σ'.2.1 118 13).toInt = (lz_kd x : Nat)) := by
  have A := hct 167 tX12_sentence k9_296 rfl (List.Mem.head _) (lv_args 0 [.ref 118]) [] σ trivial (fun q hq => by
      have e : q = (0, .inr (some (false, 118))) := List.mem_singleton.mp hq
      subst e
      exact ⟨.ref 118, by simp [lv_args, Value.category], rfl⟩) (fun q hq => by cases hq) hM
  have B := sn_sent (hd_GK G) (hd_MK hM) hb hbX hn (post := fun r σ' => ∃ y : Int32, r = some (some (.int y)) ∧ (∃ m, sx_M zK hd_T σ m 0 σ') ∧ ∃ x, sn_go b n (sn_s0 b n) (.inl x) ∧ (σ'.2.1 118 13).toInt = (lz_kd x : Nat)) (fun r σ' x a1 a2 a3 a4 => ⟨r, rfl, ⟨_, a3⟩, x, a1, by
    cases x with
    | inl q => exact a2.2
    | inr m => exact a2.2⟩)
  refine kr_mono ?_ (am_and (kr_less (d := 60) (by decide) (Nat.le_refl _) (Nat.le_refl _) A) (kr_less (d := 60) (by decide) (Nat.le_refl _) (Nat.le_refl _) B) (fun v σ' h => by obtain ⟨y, h, -⟩ := h; cases h; exact Or.inr ⟨y, rfl⟩) (fun σ' h => by obtain ⟨y, h, -⟩ := h; cases h))
  intro r σ' ⟨p1, σ2, ⟨y, hr, ⟨_, hK⟩, x, hf, hf2⟩, ev⟩
  subst hr
  have hM' : sx_M z9 hd_C σ lw_mS6 0 σ' := sx_PostM p1 (by decide +kernel)
  have eF : σ'.2.1 118 13 = σ2.2.1 118 13 := am_eqvF ev (ci := 12) (k := 13) rfl (by decide) (by decide) (hM'.1 118 (.inl 12) rfl) (hK.1 118 (.inl 12) rfl)
  refine ⟨y, rfl, hM', ?_, x, hf, by rw [eF]; exact hf2⟩
  obtain ⟨p, hp, -, ks, hk, hm⟩ := p1
  have ep := List.mem_singleton.mp hp
  subst ep
  match ks, hk, hm with
  | [v], hk, hm =>
    obtain ⟨m, -, hP⟩ := hm
    obtain ⟨z, hz, z1, z2⟩ := hP ([((1 : Int), 1)], Int.ofNat 0, Int.ofNat 0) (List.Mem.tail _ (List.Mem.head _))
    have hv : v = (σ'.2.1 118 2).toInt := hk.1
    have ez : z = 1 * v + 0 := (Option.some.inj hz).symm
    have z1' : (0 : Int) ≤ z := z1
    have z2' : z ≤ (0 : Int) := z2
    omega
theorem lw_lgX6 (G : sx_G0 g L xs z9 hd_C ex_mt) (hct : lw_hct g) {σ : am_S} (hM : sx_M z9 hd_C σ 0 0 σ) {b : Nat → Nat} (hbX : ∀ k, k < 940 → rd_by (σ.2.1 2) k = b k) {n : Nat} (hn : (σ.2.1 1 1).toInt = n) (v1 : Int32) : am_K g 60 tX11_log.1 0 0 0 (lv_args 0 [.ref 0, .int v1]) [] σ (fun r σ' => ∃ y : Int32, r = some (some (.int y)) ∧ sx_M z9 hd_C σ lc_mS 0 σ' ∧ ((¬ (0 ≤ v1.toInt ∧ v1.toInt ≤ 1) ∧ σ'.2.1 0 16 = σ.2.1 0 16 ∧ σ'.2.1 1 1 = σ.2.1 1 1) ∨ (0 ≤ v1.toInt ∧ v1.toInt ≤ 1) ∧ ∃ x, lz_go b n (lz_s0 b n) (.inl x) ∧ (σ'.2.1 0 16).toInt = (lz_kd x : Nat) ∧ (σ'.2.1 1 1).toInt = 0)) := by
  refine lc_log G (fun mi T2 c h1 h2 _ => hct mi T2 c h1 h2) hM hbX hn (by simp [lv_args, Value.category]) (m1 := v1) (by simp [lv_args, Value.category]) ?_ ?_
  · intro r σ' a1 a2
    exact ⟨r, rfl, sx_M_mask (by decide +kernel) a2, Or.inl ⟨a1, a2.2.2.2.2.1 0 16 _ _ 16 rfl (sx_bit0 _), a2.2.2.2.2.1 1 1 _ _ 18 rfl (sx_bit0 _)⟩⟩
  · intro r σ' x a1 a2 a3 a4 a5
    exact ⟨r, rfl, a3, Or.inr ⟨a1, x, a2, a4, a5⟩⟩
theorem lw_lgM6 (G : sx_G0 g L xs z9 hd_C ex_mt) (hct : lw_hct g) {σ : am_S} (hM : sx_M z9 hd_C σ 0 0 σ) {b : Nat → Nat} (hb : ∀ k, b k ≤ 255) (hbX : ∀ k, k < 940 → rd_by (σ.2.1 119) k = b k) {n : Nat} (hn : (σ.2.1 118 2).toInt = n) (v1 : Int32) : am_K g 60 tX12_log.1 0 0 0 (lv_args 0 [.ref 118, .int v1]) [] σ (fun r σ' => ∃ y : Int32, r = some (some (.int y)) ∧ sx_M z9 hd_C σ lw_mL6 0 σ' ∧ ((¬ (0 ≤ v1.toInt ∧ v1.toInt ≤ 1) ∧ σ'.2.1 118 13 = σ.2.1 118 13 ∧ σ'.2.1 118 2 = σ.2.1 118 2) ∨ (0 ≤ v1.toInt ∧ v1.toInt ≤ 1) ∧ ∃ x, lz_go b n (lz_s0 b n) (.inl x) ∧ (σ'.2.1 118 13).toInt = (lz_kd x : Nat) ∧ (σ'.2.1 118 2).toInt = 0)) := by
  have k9 : (0 : Int) ≤ (σ.2.1 118 2).toInt ∧ (σ.2.1 118 2).toInt ≤ (940 : Int) := hM.2.2.1 118 2 _ _ _ rfl
  have A := hct 133 tX12_log k9_237 rfl (List.Mem.head _) (lv_args 0 [.ref 118, .int v1]) [v1.toInt, (σ.2.1 118 2).toInt] σ ⟨⟨v1, by simp [lv_args, Value.category], rfl⟩, rfl, trivial⟩ (fun q hq => by
      have e : q = (0, .inr (some (false, 118))) := List.mem_singleton.mp hq
      subst e
      exact ⟨.ref 118, by simp [lv_args, Value.category], rfl⟩) (fun q hq => by
      have lo : (-2147483648 : Int) ≤ 1 * v1.toInt + 0 ∧ 1 * v1.toInt + 0 ≤ (2147483647 : Int) := by
        have h1 := Int32.le_toInt v1
        have h2 := Int32.toInt_lt v1
        omega
      have hq' : q ∈ [([((1 : Int), 0)], (Int.negSucc 2147483647), (Int.ofNat 2147483647)), ([((1 : Int), 1)], (Int.ofNat 0), (Int.ofNat 940))] := hq
      simp only [List.mem_cons, List.not_mem_nil, or_false] at hq'
      rcases hq' with rfl | rfl
      · exact ⟨1 * v1.toInt + 0, rfl, lo.1, lo.2⟩
      · exact ⟨1 * (σ.2.1 118 2).toInt + 0, rfl, by show (0 : Int) ≤ _; omega, by show _ ≤ (940 : Int); omega⟩) hM
  have B := lr_log G (fun mi T2 c h1 h2 _ => hct mi T2 c h1 h2) hM hb hbX hn (lw := lv_args 0 [.ref 118, .int v1]) (by simp [lv_args, Value.category]) (m1 := v1) (by simp [lv_args, Value.category]) (post := fun r σ' => ∃ y : Int32, r = some (some (.int y)) ∧ σ'.1[118]? = some (.inl 12) ∧ ((¬ (0 ≤ v1.toInt ∧ v1.toInt ≤ 1) ∧ σ'.2.1 118 13 = σ.2.1 118 13 ∧ σ'.2.1 118 2 = σ.2.1 118 2) ∨ (0 ≤ v1.toInt ∧ v1.toInt ≤ 1) ∧ ∃ x, lz_go b n (lz_s0 b n) (.inl x) ∧ (σ'.2.1 118 13).toInt = (lz_kd x : Nat) ∧ (σ'.2.1 118 2).toInt = 0)) (fun r σ' a1 a2 a3 a4 => ⟨r, rfl, a2, Or.inl ⟨a1, a3, a4⟩⟩) (fun r σ' x a1 a2 a3 a4 a5 => ⟨r, rfl, a5, Or.inr ⟨a1, x, a2, a3, a4⟩⟩)
  refine kr_mono ?_ (am_and (kr_less (d := 60) (by decide) (Nat.le_refl _) (Nat.le_refl _) A) (kr_less (d := 60) (by decide) (Nat.le_refl _) (Nat.le_refl _) B) (fun v σ' h => by obtain ⟨y, h, -⟩ := h; cases h; exact Or.inr ⟨y, rfl⟩) (fun σ' h => by obtain ⟨y, h, -⟩ := h; cases h))
  intro r σ' ⟨p1, σ2, ⟨y, hr, hK, hf⟩, ev⟩
  subst hr
  have hM' : sx_M z9 hd_C σ lw_mL6 0 σ' := sx_PostM p1 (by decide +kernel)
  have eF : σ'.2.1 118 13 = σ2.2.1 118 13 := am_eqvF ev (ci := 12) (k := 13) rfl (by decide) (by decide) (hM'.1 118 (.inl 12) rfl) hK
  have eL : σ'.2.1 118 2 = σ2.2.1 118 2 := am_eqvF ev (ci := 12) (k := 2) rfl (by decide) (by decide) (hM'.1 118 (.inl 12) rfl) hK
  exact ⟨y, rfl, hM', by rw [eF, eL]; exact hf⟩
end ZF
