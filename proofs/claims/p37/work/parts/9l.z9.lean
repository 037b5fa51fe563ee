/-! feed and station over all that is kept (written by a program) -/
theorem hd_MK {σe σ : am_S} {m : Nat} (h : sx_M z9 hd_C σe m 0 σ) : sx_M zK hd_T σe m 0 σ := ⟨h.1, h.2.1, h.2.2.1, h.2.2.2.1, h.2.2.2.2.1, fun c hc => absurd hc List.not_mem_nil, fun c hc => absurd hc List.not_mem_nil, h.2.2.2.2.2.2.2⟩
theorem sx_PostM {env : List Int} {σ σ' : am_S} {ps : List sx_Po} {v : Option Value} {m : Nat} (h : sx_Post z9 hd_C env σ ps (some v) σ') (hm : ∀ p ∈ ps, (Nat.lor p.1 m).beq m = true) : sx_M z9 hd_C σ m 0 σ' := by
  obtain ⟨p, hp, hM, -⟩ := h
  exact sx_M_mask (hm p hp) hM
abbrev lw_hct (g : am_C) : Prop := ∀ (mi : Nat) (T : ex_T) (c : sx_Ct), ex_mt mi = some T → c ∈ k9 mi → sx_Holds g z9 hd_C T c
/-- what an answer is -/
def lw_ans (y : Int32) (x : (Nat × Nat) ⊕ (Nat × rd_Q)) : Prop := match x with
  | .inl e => y.toInt = -1 - (e.2 : Int)
  | .inr z => y.toInt = ((z.1 : Nat) : Int)
theorem lw_ans1 {y y' : Int32} {x : (Nat × Nat) ⊕ (Nat × rd_Q)} (h : lw_ans y x) (h' : lw_ans y' x) : y = y' := by
  apply Int32.toInt_inj.mp
  cases x with
  | inl e =>
    have h1 : y.toInt = -1 - (e.2 : Int) := h
    have h2 : y'.toInt = -1 - (e.2 : Int) := h'
    omega
  | inr z =>
    have h1 : y.toInt = ((z.1 : Nat) : Int) := h
    have h2 : y'.toInt = ((z.1 : Nat) : Int) := h'
    omega
section Z9
variable {g : am_C} {L : Nat} {xs : Nat → Int32}
def lw_mR : Nat := 8452712498170643941637436558664265704301557216577944354047371344426782440907597751590676094202515006314790319892114058862117560952042968777718304728978227886509288232573993986554328614589483120904455143257896927219594061428664780945289625426074585415793713330511423733760
theorem lw_feedX (G : sx_G0 g L xs z9 hd_C ex_mt) (hct : lw_hct g) {σ : am_S} (hM : sx_M z9 hd_C σ 0 0 σ) {n : Nat} (hn : (σ.2.1 1 1).toInt = n) (v1 v2 v3 v4 v5 : Int32) : am_K g 60 tX11_feed.1 0 0 0 (lv_args 0 [.ref 0, .int v1, .int v2, .int v3, .int v4, .int v5]) [] σ (fun r σ' => ∃ y : Int32, r = some (some (.int y)) ∧ sx_M z9 hd_C σ fc_m 0 σ' ∧ ((n ≤ 920 ∧ (σ'.2.1 1 1).toInt = ((n + 20 : Nat) : Int) ∧ fc_T σ' (fc_5 (σ.2.1 2) n v1 v2 v3 v4 v5)) ∨ (921 ≤ n ∧ (σ'.2.1 1 1).toInt = (n : Nat) ∧ fc_T σ' (σ.2.1 2)))) := by
  have k9 : (0 : Int) ≤ (σ.2.1 1 1).toInt ∧ (σ.2.1 1 1).toInt ≤ (940 : Int) := hM.2.2.1 1 1 _ _ _ rfl
  have A := hct 34 tX11_feed k9_48 rfl (List.Mem.head _) (lv_args 0 [.ref 0, .int v1, .int v2, .int v3, .int v4, .int v5]) [v1.toInt, v2.toInt, v3.toInt, v4.toInt, v5.toInt, (σ.2.1 1 1).toInt] σ ⟨⟨v1, by simp [lv_args, Value.category], rfl⟩, ⟨v2, by simp [lv_args, Value.category], rfl⟩, ⟨v3, by simp [lv_args, Value.category], rfl⟩, ⟨v4, by simp [lv_args, Value.category], rfl⟩, ⟨v5, by simp [lv_args, Value.category], rfl⟩, rfl, trivial⟩ (fun q hq => by
      have e : q = (0, .inr (some (false, 0))) := List.mem_singleton.mp hq
      subst e
      exact ⟨.ref 0, by simp [lv_args, Value.category], rfl⟩) (fun q hq => by
      have lo : ∀ x : Int32, (-2147483648 : Int) ≤ 1 * x.toInt + 0 ∧ 1 * x.toInt + 0 ≤ (2147483647 : Int) := fun x => by
        have h1 := Int32.le_toInt x
        have h2 := Int32.toInt_lt x
        omega
      have hq' : q ∈ [([((1 : Int), 0)], (Int.negSucc 2147483647), (Int.ofNat 2147483647)), ([((1 : Int), 1)], (Int.negSucc 2147483647), (Int.ofNat 2147483647)), ([((1 : Int), 2)], (Int.negSucc 2147483647), (Int.ofNat 2147483647)), ([((1 : Int), 3)], (Int.negSucc 2147483647), (Int.ofNat 2147483647)), ([((1 : Int), 4)], (Int.negSucc 2147483647), (Int.ofNat 2147483647)), ([((1 : Int), 5)], (Int.ofNat 0), (Int.ofNat 940))] := hq
      simp only [List.mem_cons, List.not_mem_nil, or_false] at hq'
      rcases hq' with rfl | rfl | rfl | rfl | rfl | rfl
      · exact ⟨1 * v1.toInt + 0, rfl, (lo v1).1, (lo v1).2⟩
      · exact ⟨1 * v2.toInt + 0, rfl, (lo v2).1, (lo v2).2⟩
      · exact ⟨1 * v3.toInt + 0, rfl, (lo v3).1, (lo v3).2⟩
      · exact ⟨1 * v4.toInt + 0, rfl, (lo v4).1, (lo v4).2⟩
      · exact ⟨1 * v5.toInt + 0, rfl, (lo v5).1, (lo v5).2⟩
      · exact ⟨1 * (σ.2.1 1 1).toInt + 0, rfl, by show (0 : Int) ≤ _; omega, by show _ ≤ (940 : Int); omega⟩) hM
  have B := fc_feed (hd_GK G) (hd_MK hM) hn (lw := lv_args 0 [.ref 0, .int v1, .int v2, .int v3, .int v4, .int v5]) (by simp [lv_args, Value.category]) (m1 := v1) (m2 := v2) (m3 := v3) (m4 := v4) (m5 := v5) (by simp [lv_args, Value.category]) (by simp [lv_args, Value.category]) (by simp [lv_args, Value.category]) (by simp [lv_args, Value.category]) (by simp [lv_args, Value.category]) (post := fun r σ' => ∃ y : Int32, r = some (some (.int y)) ∧ sx_M zK hd_T σ fc_mF 0 σ' ∧ ((n ≤ 920 ∧ (σ'.2.1 1 1).toInt = ((n + 20 : Nat) : Int) ∧ fc_T σ' (fc_5 (σ.2.1 2) n v1 v2 v3 v4 v5)) ∨ (921 ≤ n ∧ (σ'.2.1 1 1).toInt = (n : Nat) ∧ fc_T σ' (σ.2.1 2)))) (fun r σ' a1 a2 => ⟨r, rfl, a1, a2⟩)
  refine kr_mono ?_ (am_and (kr_less (d := 60) (by decide) (Nat.le_refl _) (Nat.le_refl _) A) (kr_less (d := 60) (by decide) (Nat.le_refl _) (Nat.le_refl _) B) (fun v σ' h => by obtain ⟨y, h, -⟩ := h; cases h; exact Or.inr ⟨y, rfl⟩) (fun σ' h => by obtain ⟨y, h, -⟩ := h; cases h))
  intro r σ' ⟨p1, σ2, ⟨y, hr, hK, hf⟩, ev⟩
  subst hr
  have hM' : sx_M z9 hd_C σ fc_m 0 σ' := sx_PostM p1 (by decide +kernel)
  have eL : σ'.2.1 1 1 = σ2.2.1 1 1 := am_eqvF ev (ci := 10) (k := 1) rfl (by decide) (by decide) (hM'.1 1 (.inl 10) rfl) (hK.1 1 (.inl 10) rfl)
  have eT : ∀ k, k < 940 → σ'.2.1 2 k = σ2.2.1 2 k := fun k hk => am_eqvI ev (ty := .byte) (n := 940) rfl (hM'.1 2 (.inr (.byte, 940)) rfl) (hK.1 2 (.inr (.byte, 940)) rfl) hk
  refine ⟨y, rfl, hM', ?_⟩
  rcases hf with ⟨h1, h2, h3⟩ | ⟨h1, h2, h3⟩
  · exact Or.inl ⟨h1, by rw [eL]; exact h2, fun k hk => (eT k hk).trans (h3 k hk)⟩
  · exact Or.inr ⟨h1, by rw [eL]; exact h2, fun k hk => (eT k hk).trans (h3 k hk)⟩
theorem lw_feedM (G : sx_G0 g L xs z9 hd_C ex_mt) (hct : lw_hct g) {σ : am_S} (hM : sx_M z9 hd_C σ 0 0 σ) {n : Nat} (hn : (σ.2.1 118 2).toInt = n) (v1 v2 v3 v4 v5 : Int32) : am_K g 60 tX12_feed.1 0 0 0 (lv_args 0 [.ref 118, .int v1, .int v2, .int v3, .int v4, .int v5]) [] σ (fun r σ' => ∃ y : Int32, r = some (some (.int y)) ∧ sx_M z9 hd_C σ fd_mF 0 σ' ∧ ((n ≤ 920 ∧ (σ'.2.1 118 2).toInt = ((n + 20 : Nat) : Int) ∧ fd_T σ' (fd_5 (σ.2.1 119) n v1 v2 v3 v4 v5)) ∨ (921 ≤ n ∧ (σ'.2.1 118 2).toInt = (n : Nat) ∧ fd_T σ' (σ.2.1 119)))) := by
  have k9 : (0 : Int) ≤ (σ.2.1 118 2).toInt ∧ (σ.2.1 118 2).toInt ≤ (940 : Int) := hM.2.2.1 118 2 _ _ _ rfl
  have A := hct 106 tX12_feed k9_155 rfl (List.Mem.head _) (lv_args 0 [.ref 118, .int v1, .int v2, .int v3, .int v4, .int v5]) [v1.toInt, v2.toInt, v3.toInt, v4.toInt, v5.toInt, (σ.2.1 118 2).toInt] σ ⟨⟨v1, by simp [lv_args, Value.category], rfl⟩, ⟨v2, by simp [lv_args, Value.category], rfl⟩, ⟨v3, by simp [lv_args, Value.category], rfl⟩, ⟨v4, by simp [lv_args, Value.category], rfl⟩, ⟨v5, by simp [lv_args, Value.category], rfl⟩, rfl, trivial⟩ (fun q hq => by
      have e : q = (0, .inr (some (false, 118))) := List.mem_singleton.mp hq
      subst e
      exact ⟨.ref 118, by simp [lv_args, Value.category], rfl⟩) (fun q hq => by
      have lo : ∀ x : Int32, (-2147483648 : Int) ≤ 1 * x.toInt + 0 ∧ 1 * x.toInt + 0 ≤ (2147483647 : Int) := fun x => by
        have h1 := Int32.le_toInt x
        have h2 := Int32.toInt_lt x
        omega
      have hq' : q ∈ [([((1 : Int), 0)], (Int.negSucc 2147483647), (Int.ofNat 2147483647)), ([((1 : Int), 1)], (Int.negSucc 2147483647), (Int.ofNat 2147483647)), ([((1 : Int), 2)], (Int.negSucc 2147483647), (Int.ofNat 2147483647)), ([((1 : Int), 3)], (Int.negSucc 2147483647), (Int.ofNat 2147483647)), ([((1 : Int), 4)], (Int.negSucc 2147483647), (Int.ofNat 2147483647)), ([((1 : Int), 5)], (Int.ofNat 0), (Int.ofNat 940))] := hq
      simp only [List.mem_cons, List.not_mem_nil, or_false] at hq'
      rcases hq' with rfl | rfl | rfl | rfl | rfl | rfl
      · exact ⟨1 * v1.toInt + 0, rfl, (lo v1).1, (lo v1).2⟩
      · exact ⟨1 * v2.toInt + 0, rfl, (lo v2).1, (lo v2).2⟩
      · exact ⟨1 * v3.toInt + 0, rfl, (lo v3).1, (lo v3).2⟩
      · exact ⟨1 * v4.toInt + 0, rfl, (lo v4).1, (lo v4).2⟩
      · exact ⟨1 * v5.toInt + 0, rfl, (lo v5).1, (lo v5).2⟩
      · exact ⟨1 * (σ.2.1 118 2).toInt + 0, rfl, by show (0 : Int) ≤ _; omega, by show _ ≤ (940 : Int); omega⟩) hM
  have B := fd_feed (hd_GK G) (hd_MK hM) hn (lw := lv_args 0 [.ref 118, .int v1, .int v2, .int v3, .int v4, .int v5]) (by simp [lv_args, Value.category]) (m1 := v1) (m2 := v2) (m3 := v3) (m4 := v4) (m5 := v5) (by simp [lv_args, Value.category]) (by simp [lv_args, Value.category]) (by simp [lv_args, Value.category]) (by simp [lv_args, Value.category]) (by simp [lv_args, Value.category]) (post := fun r σ' => ∃ y : Int32, r = some (some (.int y)) ∧ sx_M zK hd_T σ fd_mF 0 σ' ∧ ((n ≤ 920 ∧ (σ'.2.1 118 2).toInt = ((n + 20 : Nat) : Int) ∧ fd_T σ' (fd_5 (σ.2.1 119) n v1 v2 v3 v4 v5)) ∨ (921 ≤ n ∧ (σ'.2.1 118 2).toInt = (n : Nat) ∧ fd_T σ' (σ.2.1 119)))) (fun r σ' a1 a2 => ⟨r, rfl, a1, a2⟩)
  refine kr_mono ?_ (am_and (kr_less (d := 60) (by decide) (Nat.le_refl _) (Nat.le_refl _) A) (kr_less (d := 60) (by decide) (Nat.le_refl _) (Nat.le_refl _) B) (fun v σ' h => by obtain ⟨y, h, -⟩ := h; cases h; exact Or.inr ⟨y, rfl⟩) (fun σ' h => by obtain ⟨y, h, -⟩ := h; cases h))
  intro r σ' ⟨p1, σ2, ⟨y, hr, hK, hf⟩, ev⟩
  subst hr
  have hM' : sx_M z9 hd_C σ fd_mF 0 σ' := sx_PostM p1 (by decide +kernel)
  have eL : σ'.2.1 118 2 = σ2.2.1 118 2 := am_eqvF ev (ci := 12) (k := 2) rfl (by decide) (by decide) (hM'.1 118 (.inl 12) rfl) (hK.1 118 (.inl 12) rfl)
  have eT : ∀ k, k < 940 → σ'.2.1 119 k = σ2.2.1 119 k := fun k hk => am_eqvI ev (ty := .byte) (n := 940) rfl (hM'.1 119 (.inr (.byte, 940)) rfl) (hK.1 119 (.inr (.byte, 940)) rfl) hk
  refine ⟨y, rfl, hM', ?_⟩
  rcases hf with ⟨h1, h2, h3⟩ | ⟨h1, h2, h3⟩
  · exact Or.inl ⟨h1, by rw [eL]; exact h2, fun k hk => (eT k hk).trans (h3 k hk)⟩
  · exact Or.inr ⟨h1, by rw [eL]; exact h2, fun k hk => (eT k hk).trans (h3 k hk)⟩
theorem lw_stX (G : sx_G0 g L xs z9 hd_C ex_mt) (hct : lw_hct g) {σ : am_S} (hM : sx_M z9 hd_C σ 0 0 σ) {b : Nat → Nat} (hbX : ∀ k, k < 940 → rd_by (σ.2.1 2) k = b k) {n : Nat} (hn : (σ.2.1 1 1).toInt = n) : am_K g 60 tX11_station.1 0 0 0 (lv_args 0 [.ref 0]) [] σ (fun r σ' => ∃ y : Int32, r = some (some (.int y)) ∧ sx_M z9 hd_C σ rc_mS 0 σ' ∧ (σ'.2.1 1 1).toInt = 0 ∧ lw_ans y (rd_all9 b n)) := by
  refine rc_station2 G (fun mi T2 c h1 h2 _ => hct mi T2 c h1 h2) hM hbX hn (by simp [lv_args, Value.category]) ?_ ?_
  · intro r σ' kd at' a1 a2 a3 a4 a5 a6 a7 a8
    exact ⟨r, rfl, a3, a5, by rw [a1]; exact a2⟩
  · intro r σ' l q a1 a2 a3 a4 a5 a6 a7
    exact ⟨r, rfl, a3, a5, by rw [a1]; exact a2⟩
theorem lw_stM (G : sx_G0 g L xs z9 hd_C ex_mt) (hct : lw_hct g) {σ : am_S} (hM : sx_M z9 hd_C σ 0 0 σ) {b : Nat → Nat} (hb : ∀ k, b k ≤ 255) (hbX : ∀ k, k < 940 → rd_by (σ.2.1 119) k = b k) {n : Nat} (hn : (σ.2.1 118 2).toInt = n) : am_K g 60 tX12_station.1 0 0 0 (lv_args 0 [.ref 118]) [] σ (fun r σ' => ∃ y : Int32, r = some (some (.int y)) ∧ sx_M z9 hd_C σ lw_mR 0 σ' ∧ (σ'.2.1 118 2).toInt = 0 ∧ lw_ans y (rd_all9 b n)) := by
  have A := hct 173 tX12_station k9_238 rfl (List.Mem.head _) (lv_args 0 [.ref 118]) [] σ trivial (fun q hq => by
      have e : q = (0, .inr (some (false, 118))) := List.mem_singleton.mp hq
      subst e
      exact ⟨.ref 118, by simp [lv_args, Value.category], rfl⟩) (fun q hq => by cases hq) hM
  have B := rd_station2 (hd_GK G) (hd_MK hM) hb hbX hn (lw := lv_args 0 [.ref 118]) (by simp [lv_args, Value.category]) (post := fun r _ => ∃ y : Int32, r = some (some (.int y)) ∧ lw_ans y (rd_all9 b n)) (fun r σ' kd at' a1 a2 a3 a4 => ⟨r, rfl, by rw [a1]; exact a2⟩) (fun r σ' l q a1 a2 a3 a4 a5 a6 a7 => ⟨r, rfl, by rw [a1]; exact a2⟩)
  refine kr_mono ?_ (am_and (kr_less (d := 60) (by decide) (Nat.le_refl _) (Nat.le_refl _) A) (kr_less (d := 60) (by decide) (Nat.le_refl _) (Nat.le_refl _) B) (fun v σ' h => by obtain ⟨y, h, -⟩ := h; cases h; exact Or.inr ⟨y, rfl⟩) (fun σ' h => by obtain ⟨y, h, -⟩ := h; cases h))
  intro r σ' ⟨p1, σ2, ⟨y, hr, hf⟩, ev⟩
  subst hr
  refine ⟨y, rfl, sx_PostM p1 (by decide +kernel), ?_, hf⟩
  obtain ⟨p, hp, -, ks, hk, hm⟩ := p1
  have ep := List.mem_singleton.mp hp
  subst ep
  match ks, hk, hm with
  | [v], hk, hm =>
    obtain ⟨m, -, hP⟩ := hm
    obtain ⟨z, hz, z1, z2⟩ := hP ([((1 : Int), 1)], Int.ofNat 0, Int.ofNat 0) (List.Mem.tail _ (List.Mem.head _))
    have hv : v = (σ'.2.1 118 2).toInt := hk.1
    have ez : z = 1 * v + 0 := (Option.some.inj hz).symm
    have z1' : (0 : Int) ≤ z := z1
    have z2' : z ≤ (0 : Int) := z2
    omega
end Z9
