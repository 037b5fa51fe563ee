/-! station, image, restore at the law's level, with what is alike (written by a program) -/
def lw_sX (x : (Nat × Nat) ⊕ (Nat × rd_Q)) (σ σ' : am_S) : Prop := match x with
  | .inl _ => ax_Q 4 4 σ σ'
  | .inr z => pl_R σ'.2.1 4 z.2.2.1
def lw_sM (x : (Nat × Nat) ⊕ (Nat × rd_Q)) (σ σ' : am_S) : Prop := match x with
  | .inl _ => ∀ k, k < 62 → σ'.2.1 120 k = σ.2.1 120 k
  | .inr z => ∀ k, k < 62 → σ'.2.1 120 k = z.2.2.1 k
theorem lw_sM_tr {x : (Nat × Nat) ⊕ (Nat × rd_Q)} {σ σ2 σ' : am_S} (h : lw_sM x σ σ2) (t : ∀ k, k < 62 → σ'.2.1 120 k = σ2.2.1 120 k) : lw_sM x σ σ' := by
  cases x with
  | inl e => exact fun k hk => (t k hk).trans (h k hk)
  | inr z => exact fun k hk => (t k hk).trans (h k hk)
/-- units that a mask leaves alone -/
noncomputable def rl_out (m o a n : Nat) : Bool := (List.range n).all fun k => match sx_atl (z9.1 o) (a + k) with
  | some q => !(sx_bit m q.2.2)
  | none => false
theorem rl_oz {σe σ : am_S} {m o a n : Nat} (hM : sx_M z9 hd_C σe m 0 σ) (hc : rl_out m o a n = true) : ∀ k, k < n → σ.2.1 o (a + k) = σe.2.1 o (a + k) := by
  intro k hk
  have q := List.all_eq_true.mp hc k (List.mem_range.mpr hk)
  revert q
  cases h : sx_atl (z9.1 o) (a + k) with
  | none => intro q; cases q
  | some b =>
    intro q
    obtain ⟨lo, hi, u⟩ := b
    exact hM.2.2.2.2.1 o (a + k) lo hi u h (by simpa using q)
theorem rl_o0 {σe σ : am_S} {m o n : Nat} (hM : sx_M z9 hd_C σe m 0 σ) (hc : rl_out m o 0 n = true) : ∀ k, k < n → σ.2.1 o k = σe.2.1 o k := fun k hk => by
  have := rl_oz hM hc k hk
  rw [Nat.zero_add] at this
  exact this
theorem ax_Qm {σe σ : am_S} {m o : Nat} (hM : sx_M z9 hd_C σe m 0 σ) (hf : rl_out m o 7 4 = true) (hr : ∀ r, r < 7 → rl_out m (o + 1 + r) 0 (rc_ln r) = true) : ax_Q o o σe σ := by
  refine ⟨fun j h1 h2 => ?_, fun r h7 k hk => rl_o0 hM (hr r h7) k hk⟩
  have := rl_oz hM hf (j - 7) (by omega)
  rw [show 7 + (j - 7) = j by omega] at this
  exact this
theorem ax_Qtr {D S : Nat} {σ τ τ' : am_S} (h : ax_Q D S σ τ) (h' : ax_Q D D τ τ') : ax_Q D S σ τ' := ⟨fun j a b => (h'.1 j a b).trans (h.1 j a b), fun r hr k hk => (h'.2 r hr k hk).trans (h.2 r hr k hk)⟩
theorem ax_QF {lo hi o : Nat} {σ τ : am_S} (f : ax_F lo hi σ τ) (hh : o + 7 < lo ∨ hi < o) : ax_Q o o σ τ := ⟨fun j _ _ => f o j (by omega), fun r hr k _ => f (o + 1 + r) k (by omega)⟩
section Z10
variable {g : am_C} {L : Nat} {xs : Nat → Int32}
theorem ax_eQ4 {σ τ : am_S} (ev : am_eqv g σ τ) (h1 : ax_S σ) (h2 : ax_S τ) : ax_Q 4 4 τ σ := by
  refine ⟨fun j a b => ?_, fun r hr k hk => ?_⟩
  · have h4 : j = 7 ∨ j = 8 ∨ j = 9 ∨ j = 10 := by omega
    rcases h4 with rfl | rfl | rfl | rfl
    · exact am_eqvF ev (ci := 9) (k := 7) rfl (by decide) (by decide) (h1.1 4 (.inl 9) rfl) (h2.1 4 (.inl 9) rfl)
    · exact am_eqvF ev (ci := 9) (k := 8) rfl (by decide) (by decide) (h1.1 4 (.inl 9) rfl) (h2.1 4 (.inl 9) rfl)
    · exact am_eqvF ev (ci := 9) (k := 9) rfl (by decide) (by decide) (h1.1 4 (.inl 9) rfl) (h2.1 4 (.inl 9) rfl)
    · exact am_eqvF ev (ci := 9) (k := 10) rfl (by decide) (by decide) (h1.1 4 (.inl 9) rfl) (h2.1 4 (.inl 9) rfl)
  · have h7 : r = 0 ∨ r = 1 ∨ r = 2 ∨ r = 3 ∨ r = 4 ∨ r = 5 ∨ r = 6 := by omega
    rcases h7 with rfl | rfl | rfl | rfl | rfl | rfl | rfl
    · exact am_eqvI ev (ty := .int) (n := 10) rfl (h1.1 5 (.inr (.int, 10)) rfl) (h2.1 5 (.inr (.int, 10)) rfl) hk
    · exact am_eqvI ev (ty := .int) (n := 10) rfl (h1.1 6 (.inr (.int, 10)) rfl) (h2.1 6 (.inr (.int, 10)) rfl) hk
    · exact am_eqvI ev (ty := .int) (n := 10) rfl (h1.1 7 (.inr (.int, 10)) rfl) (h2.1 7 (.inr (.int, 10)) rfl) hk
    · exact am_eqvI ev (ty := .int) (n := 10) rfl (h1.1 8 (.inr (.int, 10)) rfl) (h2.1 8 (.inr (.int, 10)) rfl) hk
    · exact am_eqvI ev (ty := .int) (n := 6) rfl (h1.1 9 (.inr (.int, 6)) rfl) (h2.1 9 (.inr (.int, 6)) rfl) hk
    · exact am_eqvI ev (ty := .int) (n := 6) rfl (h1.1 10 (.inr (.int, 6)) rfl) (h2.1 10 (.inr (.int, 6)) rfl) hk
    · exact am_eqvI ev (ty := .int) (n := 8) rfl (h1.1 11 (.inr (.int, 8)) rfl) (h2.1 11 (.inr (.int, 8)) rfl) hk
theorem ax_eQ87 {σ τ : am_S} (ev : am_eqv g σ τ) (h1 : ax_S σ) (h2 : ax_S τ) : ax_Q 87 87 τ σ := by
  refine ⟨fun j a b => ?_, fun r hr k hk => ?_⟩
  · have h4 : j = 7 ∨ j = 8 ∨ j = 9 ∨ j = 10 := by omega
    rcases h4 with rfl | rfl | rfl | rfl
    · exact am_eqvF ev (ci := 9) (k := 7) rfl (by decide) (by decide) (h1.1 87 (.inl 9) rfl) (h2.1 87 (.inl 9) rfl)
    · exact am_eqvF ev (ci := 9) (k := 8) rfl (by decide) (by decide) (h1.1 87 (.inl 9) rfl) (h2.1 87 (.inl 9) rfl)
    · exact am_eqvF ev (ci := 9) (k := 9) rfl (by decide) (by decide) (h1.1 87 (.inl 9) rfl) (h2.1 87 (.inl 9) rfl)
    · exact am_eqvF ev (ci := 9) (k := 10) rfl (by decide) (by decide) (h1.1 87 (.inl 9) rfl) (h2.1 87 (.inl 9) rfl)
  · have h7 : r = 0 ∨ r = 1 ∨ r = 2 ∨ r = 3 ∨ r = 4 ∨ r = 5 ∨ r = 6 := by omega
    rcases h7 with rfl | rfl | rfl | rfl | rfl | rfl | rfl
    · exact am_eqvI ev (ty := .int) (n := 10) rfl (h1.1 88 (.inr (.int, 10)) rfl) (h2.1 88 (.inr (.int, 10)) rfl) hk
    · exact am_eqvI ev (ty := .int) (n := 10) rfl (h1.1 89 (.inr (.int, 10)) rfl) (h2.1 89 (.inr (.int, 10)) rfl) hk
    · exact am_eqvI ev (ty := .int) (n := 10) rfl (h1.1 90 (.inr (.int, 10)) rfl) (h2.1 90 (.inr (.int, 10)) rfl) hk
    · exact am_eqvI ev (ty := .int) (n := 10) rfl (h1.1 91 (.inr (.int, 10)) rfl) (h2.1 91 (.inr (.int, 10)) rfl) hk
    · exact am_eqvI ev (ty := .int) (n := 6) rfl (h1.1 92 (.inr (.int, 6)) rfl) (h2.1 92 (.inr (.int, 6)) rfl) hk
    · exact am_eqvI ev (ty := .int) (n := 6) rfl (h1.1 93 (.inr (.int, 6)) rfl) (h2.1 93 (.inr (.int, 6)) rfl) hk
    · exact am_eqvI ev (ty := .int) (n := 8) rfl (h1.1 94 (.inr (.int, 8)) rfl) (h2.1 94 (.inr (.int, 8)) rfl) hk
theorem ax_eQ103 {σ τ : am_S} (ev : am_eqv g σ τ) (h1 : ax_S σ) (h2 : ax_S τ) : ax_Q 103 103 τ σ := by
  refine ⟨fun j a b => ?_, fun r hr k hk => ?_⟩
  · have h4 : j = 7 ∨ j = 8 ∨ j = 9 ∨ j = 10 := by omega
    rcases h4 with rfl | rfl | rfl | rfl
    · exact am_eqvF ev (ci := 9) (k := 7) rfl (by decide) (by decide) (h1.1 103 (.inl 9) rfl) (h2.1 103 (.inl 9) rfl)
    · exact am_eqvF ev (ci := 9) (k := 8) rfl (by decide) (by decide) (h1.1 103 (.inl 9) rfl) (h2.1 103 (.inl 9) rfl)
    · exact am_eqvF ev (ci := 9) (k := 9) rfl (by decide) (by decide) (h1.1 103 (.inl 9) rfl) (h2.1 103 (.inl 9) rfl)
    · exact am_eqvF ev (ci := 9) (k := 10) rfl (by decide) (by decide) (h1.1 103 (.inl 9) rfl) (h2.1 103 (.inl 9) rfl)
  · have h7 : r = 0 ∨ r = 1 ∨ r = 2 ∨ r = 3 ∨ r = 4 ∨ r = 5 ∨ r = 6 := by omega
    rcases h7 with rfl | rfl | rfl | rfl | rfl | rfl | rfl
    · exact am_eqvI ev (ty := .int) (n := 10) rfl (h1.1 104 (.inr (.int, 10)) rfl) (h2.1 104 (.inr (.int, 10)) rfl) hk
    · exact am_eqvI ev (ty := .int) (n := 10) rfl (h1.1 105 (.inr (.int, 10)) rfl) (h2.1 105 (.inr (.int, 10)) rfl) hk
    · exact am_eqvI ev (ty := .int) (n := 10) rfl (h1.1 106 (.inr (.int, 10)) rfl) (h2.1 106 (.inr (.int, 10)) rfl) hk
    · exact am_eqvI ev (ty := .int) (n := 10) rfl (h1.1 107 (.inr (.int, 10)) rfl) (h2.1 107 (.inr (.int, 10)) rfl) hk
    · exact am_eqvI ev (ty := .int) (n := 6) rfl (h1.1 108 (.inr (.int, 6)) rfl) (h2.1 108 (.inr (.int, 6)) rfl) hk
    · exact am_eqvI ev (ty := .int) (n := 6) rfl (h1.1 109 (.inr (.int, 6)) rfl) (h2.1 109 (.inr (.int, 6)) rfl) hk
    · exact am_eqvI ev (ty := .int) (n := 8) rfl (h1.1 110 (.inr (.int, 8)) rfl) (h2.1 110 (.inr (.int, 8)) rfl) hk
theorem ax_eA {σ τ : am_S} (ev : am_eqv g σ τ) (h1 : ax_S σ) (h2 : ax_S τ) {o n : Nat} {ty : FieldType} (hty : am_kd ty = 0) (hs : ex_sh (z9.2.2.1 o) = some (.inr (ty, n))) : ∀ k, k < n → σ.2.1 o k = τ.2.1 o k := fun k hk => am_eqvI ev hty (h1.1 o _ hs) (h2.1 o _ hs) hk
theorem ax_eH {σ τ : am_S} (ev : am_eqv g σ τ) (h1 : ax_S σ) (h2 : ax_S τ) : σ.2.1 86 3 = τ.2.1 86 3 ∧ σ.2.1 102 3 = τ.2.1 102 3 := ⟨am_eqvF ev (ci := 1) (k := 3) rfl (by decide) (by decide) (h1.1 86 (.inl 1) rfl) (h2.1 86 (.inl 1) rfl), am_eqvF ev (ci := 1) (k := 3) rfl (by decide) (by decide) (h1.1 102 (.inl 1) rfl) (h2.1 102 (.inl 1) rfl)⟩
def lw_m_X11_image : Nat := 532083839258543256077317559014452585449758779237086524793305313831531112438778674022823182647019570871664640
theorem lw_ct_X11_image (G : sx_G0 g L xs z9 hd_C ex_mt) (hct : lw_hct g) {σ : am_S} (hM : sx_M z9 hd_C σ 0 0 σ) (a : Int32) : am_K g 60 tX11_image.1 0 0 0 (lv_args 0 [.ref 0, .int a]) [] σ (fun r σ' => ∀ v, r = some v → sx_M z9 hd_C σ lw_m_X11_image 0 σ') := by
  have lo : ∀ x : Int32, (-2147483648 : Int) ≤ 1 * x.toInt + 0 ∧ 1 * x.toInt + 0 ≤ (2147483647 : Int) := fun x => by
    have h1 := Int32.le_toInt x
    have h2 := Int32.toInt_lt x
    omega
  have A := hct 38 tX11_image k9_228 rfl (List.Mem.head _) (lv_args 0 [.ref 0, .int a]) [a.toInt] σ ⟨⟨a, by simp [lv_args, Value.category], rfl⟩, trivial⟩ (fun q hq => by
      have e : q = (0, .inr (some (false, 0))) := List.mem_singleton.mp hq
      subst e
      exact ⟨.ref 0, by simp [lv_args, Value.category], rfl⟩) (fun q hq => by
      have hq' : q ∈ [([((1 : Int), 0)], (-2147483648 : Int), (2147483647 : Int))] := hq
      simp only [List.mem_cons, List.not_mem_nil, or_false] at hq'
      rcases hq' with rfl
      · exact ⟨1 * a.toInt + 0, rfl, (lo a).1, (lo a).2⟩) hM
  refine kr_mono ?_ (kr_less (d := 60) (by decide) (Nat.le_refl _) (Nat.le_refl _) A)
  intro r σ' p v hv
  subst hv
  exact sx_PostM p (by decide +kernel)
def lw_m_X12_image : Nat := 28118211215894777600658645449534578195712900226743412220869883157586943837891681560371233510990904611756344981618837131700972450127195796235358937814499187490816
theorem lw_ct_X12_image (G : sx_G0 g L xs z9 hd_C ex_mt) (hct : lw_hct g) {σ : am_S} (hM : sx_M z9 hd_C σ 0 0 σ) (a : Int32) : am_K g 60 tX12_image.1 0 0 0 (lv_args 0 [.ref 118, .int a]) [] σ (fun r σ' => ∀ v, r = some v → sx_M z9 hd_C σ lw_m_X12_image 0 σ') := by
  have lo : ∀ x : Int32, (-2147483648 : Int) ≤ 1 * x.toInt + 0 ∧ 1 * x.toInt + 0 ≤ (2147483647 : Int) := fun x => by
    have h1 := Int32.le_toInt x
    have h2 := Int32.toInt_lt x
    omega
  have A := hct 116 tX12_image k9_297 rfl (List.Mem.head _) (lv_args 0 [.ref 118, .int a]) [a.toInt, (σ.2.1 137 0).toInt, (σ.2.1 137 1).toInt] σ ⟨⟨a, by simp [lv_args, Value.category], rfl⟩, rfl, rfl, trivial⟩ (fun q hq => by
      have e : q = (0, .inr (some (false, 118))) := List.mem_singleton.mp hq
      subst e
      exact ⟨.ref 118, by simp [lv_args, Value.category], rfl⟩) (fun q hq => by
      have hq' : q ∈ [([((1 : Int), 0)], (-2147483648 : Int), (2147483647 : Int)), ([((1 : Int), 1)], (0 : Int), (1 : Int)), ([((1 : Int), 2)], (0 : Int), (1 : Int))] := hq
      simp only [List.mem_cons, List.not_mem_nil, or_false] at hq'
      rcases hq' with rfl | rfl | rfl
      · exact ⟨1 * a.toInt + 0, rfl, (lo a).1, (lo a).2⟩
      · have z : (0 : Int) ≤ (σ.2.1 137 0).toInt ∧ (σ.2.1 137 0).toInt ≤ (1 : Int) := hM.2.2.1 137 0 _ _ _ rfl
        exact ⟨1 * (σ.2.1 137 0).toInt + 0, rfl, by show (0 : Int) ≤ _; omega, by show _ ≤ (1 : Int); omega⟩
      · have z : (0 : Int) ≤ (σ.2.1 137 1).toInt ∧ (σ.2.1 137 1).toInt ≤ (1 : Int) := hM.2.2.1 137 1 _ _ _ rfl
        exact ⟨1 * (σ.2.1 137 1).toInt + 0, rfl, by show (0 : Int) ≤ _; omega, by show _ ≤ (1 : Int); omega⟩) hM
  refine kr_mono ?_ (kr_less (d := 60) (by decide) (Nat.le_refl _) (Nat.le_refl _) A)
  intro r σ' p v hv
  subst hv
  exact sx_PostM p (by decide +kernel)
def lw_m_X11_restore : Nat := 1545991193199618189633827608234837979250502004067043701251760468732674048
theorem lw_ct_X11_restore (G : sx_G0 g L xs z9 hd_C ex_mt) (hct : lw_hct g) {σ : am_S} (hM : sx_M z9 hd_C σ 0 0 σ) (a : Int32) : am_K g 60 tX11_restore.1 0 0 0 (lv_args 0 [.ref 0, .int a]) [] σ (fun r σ' => ∀ v, r = some v → sx_M z9 hd_C σ lw_m_X11_restore 0 σ') := by
  have lo : ∀ x : Int32, (-2147483648 : Int) ≤ 1 * x.toInt + 0 ∧ 1 * x.toInt + 0 ≤ (2147483647 : Int) := fun x => by
    have h1 := Int32.le_toInt x
    have h2 := Int32.toInt_lt x
    omega
  have A := hct 57 tX11_restore k9_230 rfl (List.Mem.head _) (lv_args 0 [.ref 0, .int a]) [a.toInt] σ ⟨⟨a, by simp [lv_args, Value.category], rfl⟩, trivial⟩ (fun q hq => by
      have e : q = (0, .inr (some (false, 0))) := List.mem_singleton.mp hq
      subst e
      exact ⟨.ref 0, by simp [lv_args, Value.category], rfl⟩) (fun q hq => by
      have hq' : q ∈ [([((1 : Int), 0)], (-2147483648 : Int), (2147483647 : Int))] := hq
      simp only [List.mem_cons, List.not_mem_nil, or_false] at hq'
      rcases hq' with rfl
      · exact ⟨1 * a.toInt + 0, rfl, (lo a).1, (lo a).2⟩) hM
  refine kr_mono ?_ (kr_less (d := 60) (by decide) (Nat.le_refl _) (Nat.le_refl _) A)
  intro r σ' p v hv
  subst hv
  exact sx_PostM p (by decide +kernel)
def lw_m_X12_restore : Nat := 2772669363592832927080676254131767371104868160447732579027262183655094577306421415727678316597754875853121566972217494083060367360
theorem lw_ct_X12_restore (G : sx_G0 g L xs z9 hd_C ex_mt) (hct : lw_hct g) {σ : am_S} (hM : sx_M z9 hd_C σ 0 0 σ) (a : Int32) : am_K g 60 tX12_restore.1 0 0 0 (lv_args 0 [.ref 118, .int a]) [] σ (fun r σ' => ∀ v, r = some v → sx_M z9 hd_C σ lw_m_X12_restore 0 σ') := by
  have lo : ∀ x : Int32, (-2147483648 : Int) ≤ 1 * x.toInt + 0 ∧ 1 * x.toInt + 0 ≤ (2147483647 : Int) := fun x => by
    have h1 := Int32.le_toInt x
    have h2 := Int32.toInt_lt x
    omega
  have A := hct 157 tX12_restore k9_298 rfl (List.Mem.head _) (lv_args 0 [.ref 118, .int a]) [a.toInt, (σ.2.1 137 0).toInt, (σ.2.1 137 1).toInt] σ ⟨⟨a, by simp [lv_args, Value.category], rfl⟩, rfl, rfl, trivial⟩ (fun q hq => by
      have e : q = (0, .inr (some (false, 118))) := List.mem_singleton.mp hq
      subst e
      exact ⟨.ref 118, by simp [lv_args, Value.category], rfl⟩) (fun q hq => by
      have hq' : q ∈ [([((1 : Int), 0)], (-2147483648 : Int), (2147483647 : Int)), ([((1 : Int), 1)], (0 : Int), (1 : Int)), ([((1 : Int), 2)], (0 : Int), (1 : Int))] := hq
      simp only [List.mem_cons, List.not_mem_nil, or_false] at hq'
      rcases hq' with rfl | rfl | rfl
      · exact ⟨1 * a.toInt + 0, rfl, (lo a).1, (lo a).2⟩
      · have z : (0 : Int) ≤ (σ.2.1 137 0).toInt ∧ (σ.2.1 137 0).toInt ≤ (1 : Int) := hM.2.2.1 137 0 _ _ _ rfl
        exact ⟨1 * (σ.2.1 137 0).toInt + 0, rfl, by show (0 : Int) ≤ _; omega, by show _ ≤ (1 : Int); omega⟩
      · have z : (0 : Int) ≤ (σ.2.1 137 1).toInt ∧ (σ.2.1 137 1).toInt ≤ (1 : Int) := hM.2.2.1 137 1 _ _ _ rfl
        exact ⟨1 * (σ.2.1 137 1).toInt + 0, rfl, by show (0 : Int) ≤ _; omega, by show _ ≤ (1 : Int); omega⟩) hM
  refine kr_mono ?_ (kr_less (d := 60) (by decide) (Nat.le_refl _) (Nat.le_refl _) A)
  intro r σ' p v hv
  subst hv
  exact sx_PostM p (by decide +kernel)
def lw_sP (x : (Nat × Nat) ⊕ (Nat × rd_Q)) (σ σ' : am_S) : Prop := match x with
  | .inl _ => sx_M z9 hd_C σ rc_mSf 0 σ'
  | .inr _ => σ'.2.1 68 17 = 0 ∧ σ'.2.1 68 18 = 0 ∧ σ'.2.1 68 19 = 0
/-- the station, with what comes of the place -/
theorem lw_stX6 (G : sx_G0 g L xs z9 hd_C ex_mt) (hct : lw_hct g) {σ : am_S} (hM : sx_M z9 hd_C σ 0 0 σ) {b : Nat → Nat} (hbX : ∀ k, k < 940 → rd_by (σ.2.1 2) k = b k) {n : Nat} (hn : (σ.2.1 1 1).toInt = n) : am_K g 60 tX11_station.1 0 0 0 (lv_args 0 [.ref 0]) [] σ (fun r σ' => ∃ y : Int32, r = some (some (.int y)) ∧ sx_M z9 hd_C σ rc_mS 0 σ' ∧ (σ'.2.1 1 1).toInt = 0 ∧ lw_ans y (rd_all9 b n) ∧ lw_sX (rd_all9 b n) σ σ' ∧ lw_sP (rd_all9 b n) σ σ') := by
  refine rc_station2 G (fun mi T2 c h1 h2 _ => hct mi T2 c h1 h2) hM hbX hn (by simp [lv_args, Value.category]) ?_ ?_
  · intro r σ' kd at' a1 a2 a3 a4 a5 a6 a7 a8
    exact ⟨r, rfl, a3, a5, by rw [a1]; exact a2, by rw [a1]; exact ⟨fun j h1 h2 => a7 j h1 h2, fun r hr k hk => a6 r hr k hk⟩, by rw [a1]; exact a8⟩
  · intro r σ' l q a1 a2 a3 a4 a5 a6 a7
    exact ⟨r, rfl, a3, a5, by rw [a1]; exact a2, by rw [a1]; exact ⟨a6.1, a6.2.1, a6.2.2.1, fun r hr k hk => (a6.2.2.2 r hr).2 k hk⟩, by rw [a1]; exact a7⟩
theorem lw_stX5 (G : sx_G0 g L xs z9 hd_C ex_mt) (hct : lw_hct g) {σ : am_S} (hM : sx_M z9 hd_C σ 0 0 σ) {b : Nat → Nat} (hbX : ∀ k, k < 940 → rd_by (σ.2.1 2) k = b k) {n : Nat} (hn : (σ.2.1 1 1).toInt = n) : am_K g 60 tX11_station.1 0 0 0 (lv_args 0 [.ref 0]) [] σ (fun r σ' => ∃ y : Int32, r = some (some (.int y)) ∧ sx_M z9 hd_C σ rc_mS 0 σ' ∧ (σ'.2.1 1 1).toInt = 0 ∧ lw_ans y (rd_all9 b n) ∧ lw_sX (rd_all9 b n) σ σ') := kr_mono (fun r σ' ⟨y, h1, h2, h3, h4, h5, _⟩ => ⟨y, h1, h2, h3, h4, h5⟩) (lw_stX6 G hct hM hbX hn)
theorem lw_stM5 (G : sx_G0 g L xs z9 hd_C ex_mt) (hct : lw_hct g) {σ : am_S} (hM : sx_M z9 hd_C σ 0 0 σ) {b : Nat → Nat} (hb : ∀ k, b k ≤ 255) (hbX : ∀ k, k < 940 → rd_by (σ.2.1 119) k = b k) {n : Nat} (hn : (σ.2.1 118 2).toInt = n) : am_K g 60 tX12_station.1 0 0 0 (lv_args 0 [.ref 118]) [] σ (fun r σ' => (∃ y : Int32, r = some (some (.int y)) ∧ sx_M z9 hd_C σ lw_mR 0 σ' ∧ (σ'.2.1 118 2).toInt = 0 ∧ lw_ans y (rd_all9 b n)) ∧ lw_sM (rd_all9 b n) σ σ') := by
  have A := lw_stM G hct hM hb hbX hn
  have B := rd_station2 (hd_GK G) (hd_MK hM) hb hbX hn (lw := lv_args 0 [.ref 118]) (by simp [lv_args, Value.category]) (post := fun r σ' => (∃ y : Int32, r = some (some (.int y))) ∧ sx_M zK hd_T σ rd_mS 0 σ' ∧ lw_sM (rd_all9 b n) σ σ') (fun r σ' kd at' a1 a2 a3 a4 => ⟨⟨r, rfl⟩, sx_M_mask (by decide +kernel) a3, by rw [a1]; exact hd_frz (o := 120) (n := 62) (by decide +kernel) a3⟩) (fun r σ' l q a1 a2 a3 a4 a5 a6 a7 => ⟨⟨r, rfl⟩, a3, by rw [a1]; exact a4⟩)
  refine kr_mono ?_ (am_and A (kr_less (d := 60) (by decide) (Nat.le_refl _) (Nat.le_refl _) B) (fun v σ' h => by obtain ⟨⟨y, h⟩, -⟩ := h; cases h; exact Or.inr ⟨y, rfl⟩) (fun σ' h => by obtain ⟨⟨y, h⟩, -⟩ := h; cases h))
  intro r σ' ⟨⟨y, hr, hM', hz, ha⟩, σ2, ⟨_, hK, hs⟩, ev⟩
  exact ⟨⟨y, hr, hM', hz, ha⟩, lw_sM_tr hs (fun k hk => am_eqvI ev (ty := .int) (n := 277) rfl (hM'.1 120 (.inr (.int, 277)) rfl) (hK.1 120 (.inr (.int, 277)) rfl) (by omega))⟩
theorem lw_imX0 (G : sx_G0 g L xs z9 hd_C ex_mt) (hct : lw_hct g) {σ : am_S} (hM : sx_M z9 hd_C σ 0 0 σ) : am_K g 60 tX11_image.1 0 0 0 (lv_args 0 [.ref 0, .int 0]) [] σ (fun r σ' => r = some (some (.int 1)) ∧ sx_M z9 hd_C σ lw_m_X11_image 0 σ' ∧ ax_Q 4 4 σ σ' ∧ ax_Q 87 4 σ σ' ∧ ax_Q 103 103 σ σ' ∧ σ'.2.1 86 3 = 1 ∧ σ'.2.1 102 3 = σ.2.1 102 3) := by
  refine kr_mono ?_ (am_and (lw_ct_X11_image G hct hM 0) (kr_less (d := 60) (by decide) (Nat.le_refl _) (Nat.le_refl _) (ax_imgX_0 G (ax_SM hM))) (fun v σ' h => by have := h.1; cases this; exact Or.inr ⟨_, rfl⟩) (fun σ' h => by have := h.1; cases this))
  intro r σ' ⟨p1, σ2, ⟨hr, hT2, hF2, hQ2, hh2⟩, ev⟩
  subst hr
  have hM' := p1 _ rfl
  have hS' := ax_SM hM'
  have hH := ax_eH ev hS' hT2
  exact ⟨rfl, hM', ax_Qtr (ax_QF hF2 (by decide)) (ax_eQ4 ev hS' hT2), ax_Qtr hQ2 (ax_eQ87 ev hS' hT2), ax_Qtr (ax_QF hF2 (by decide)) (ax_eQ103 ev hS' hT2), hH.1.trans hh2, hH.2.trans (hF2 102 3 (by decide))⟩
theorem lw_imM0 (G : sx_G0 g L xs z9 hd_C ex_mt) (hct : lw_hct g) {σ : am_S} (hM : sx_M z9 hd_C σ 0 0 σ) : am_K g 60 tX12_image.1 0 0 0 (lv_args 0 [.ref 118, .int 0]) [] σ (fun r σ' => r = some (some (.int 1)) ∧ sx_M z9 hd_C σ lw_m_X12_image 0 σ' ∧ (∀ k, k < 62 → σ'.2.1 136 (0 + k) = σ.2.1 120 k) ∧ (∀ k, k < 62 → σ'.2.1 136 (277 + k) = σ.2.1 136 (277 + k)) ∧ σ'.2.1 137 0 = 1 ∧ σ'.2.1 137 1 = σ.2.1 137 1) := by
  refine kr_mono ?_ (am_and (lw_ct_X12_image G hct hM 0) (kr_less (d := 60) (by decide) (Nat.le_refl _) (Nat.le_refl _) (ax_imM_0 G (ax_SM hM))) (fun v σ' h => by have := h.1; cases this; exact Or.inr ⟨_, rfl⟩) (fun σ' h => by have := h.1; cases this))
  intro r σ' ⟨p1, σ2, ⟨hr, a1, a2, a3, a4, a5, hT2⟩, ev⟩
  subst hr
  have hM' := p1 _ rfl
  have hS' := ax_SM hM'
  have e6 := ax_eA ev hS' hT2 (o := 136) (n := 554) (ty := .int) rfl rfl
  have e7 := ax_eA ev hS' hT2 (o := 137) (n := 2) (ty := .boolean) rfl rfl
  exact ⟨rfl, hM', fun k hk => (e6 _ (by omega)).trans (a1 k (by omega)), fun k hk => (e6 _ (by omega)).trans (a2 k (by omega)), (e7 0 (by decide)).trans a3, (e7 1 (by decide)).trans a4⟩
theorem lw_imX1 (G : sx_G0 g L xs z9 hd_C ex_mt) (hct : lw_hct g) {σ : am_S} (hM : sx_M z9 hd_C σ 0 0 σ) : am_K g 60 tX11_image.1 0 0 0 (lv_args 0 [.ref 0, .int 1]) [] σ (fun r σ' => r = some (some (.int 1)) ∧ sx_M z9 hd_C σ lw_m_X11_image 0 σ' ∧ ax_Q 4 4 σ σ' ∧ ax_Q 103 4 σ σ' ∧ ax_Q 87 87 σ σ' ∧ σ'.2.1 102 3 = 1 ∧ σ'.2.1 86 3 = σ.2.1 86 3) := by
  refine kr_mono ?_ (am_and (lw_ct_X11_image G hct hM 1) (kr_less (d := 60) (by decide) (Nat.le_refl _) (Nat.le_refl _) (ax_imgX_1 G (ax_SM hM))) (fun v σ' h => by have := h.1; cases this; exact Or.inr ⟨_, rfl⟩) (fun σ' h => by have := h.1; cases this))
  intro r σ' ⟨p1, σ2, ⟨hr, hT2, hF2, hQ2, hh2⟩, ev⟩
  subst hr
  have hM' := p1 _ rfl
  have hS' := ax_SM hM'
  have hH := ax_eH ev hS' hT2
  exact ⟨rfl, hM', ax_Qtr (ax_QF hF2 (by decide)) (ax_eQ4 ev hS' hT2), ax_Qtr hQ2 (ax_eQ103 ev hS' hT2), ax_Qtr (ax_QF hF2 (by decide)) (ax_eQ87 ev hS' hT2), hH.2.trans hh2, hH.1.trans (hF2 86 3 (by decide))⟩
theorem lw_imM1 (G : sx_G0 g L xs z9 hd_C ex_mt) (hct : lw_hct g) {σ : am_S} (hM : sx_M z9 hd_C σ 0 0 σ) : am_K g 60 tX12_image.1 0 0 0 (lv_args 0 [.ref 118, .int 1]) [] σ (fun r σ' => r = some (some (.int 1)) ∧ sx_M z9 hd_C σ lw_m_X12_image 0 σ' ∧ (∀ k, k < 62 → σ'.2.1 136 (277 + k) = σ.2.1 120 k) ∧ (∀ k, k < 62 → σ'.2.1 136 (0 + k) = σ.2.1 136 (0 + k)) ∧ σ'.2.1 137 1 = 1 ∧ σ'.2.1 137 0 = σ.2.1 137 0) := by
  refine kr_mono ?_ (am_and (lw_ct_X12_image G hct hM 1) (kr_less (d := 60) (by decide) (Nat.le_refl _) (Nat.le_refl _) (ax_imM_1 G (ax_SM hM))) (fun v σ' h => by have := h.1; cases this; exact Or.inr ⟨_, rfl⟩) (fun σ' h => by have := h.1; cases this))
  intro r σ' ⟨p1, σ2, ⟨hr, a1, a2, a3, a4, a5, hT2⟩, ev⟩
  subst hr
  have hM' := p1 _ rfl
  have hS' := ax_SM hM'
  have e6 := ax_eA ev hS' hT2 (o := 136) (n := 554) (ty := .int) rfl rfl
  have e7 := ax_eA ev hS' hT2 (o := 137) (n := 2) (ty := .boolean) rfl rfl
  exact ⟨rfl, hM', fun k hk => (e6 _ (by omega)).trans (a1 k (by omega)), fun k hk => (e6 _ (by omega)).trans (a2 k (by omega)), (e7 1 (by decide)).trans a3, (e7 0 (by decide)).trans a4⟩
theorem ax_Qr (D : Nat) (σ : am_S) : ax_Q D D σ σ := ⟨fun _ _ _ => rfl, fun _ _ _ _ => rfl⟩
theorem lw_reX0 (G : sx_G0 g L xs z9 hd_C ex_mt) (hct : lw_hct g) {σ : am_S} (hM : sx_M z9 hd_C σ 0 0 σ) : am_K g 60 tX11_restore.1 0 0 0 (lv_args 0 [.ref 0, .int 0]) [] σ (fun r σ' => (∃ y : Int32, r = some (some (.int y))) ∧ sx_M z9 hd_C σ lw_m_X11_restore 0 σ' ∧ ((¬ σ.2.1 86 3 = 0 ∧ ax_Q 4 87 σ σ') ∨ (σ.2.1 86 3 = 0 ∧ ax_Q 4 4 σ σ')) ∧ ax_Q 87 87 σ σ' ∧ ax_Q 103 103 σ σ' ∧ σ'.2.1 86 3 = σ.2.1 86 3 ∧ σ'.2.1 102 3 = σ.2.1 102 3) := by
  refine kr_mono ?_ (am_and (lw_ct_X11_restore G hct hM 0) (kr_less (d := 60) (by decide) (Nat.le_refl _) (Nat.le_refl _) (ax_resX_0 G (ax_SM hM))) (fun v σ' h => by rcases h.2 with h | h <;> (have := h.1; cases this; exact Or.inr ⟨_, rfl⟩)) (fun σ' h => by rcases h.2 with h | h <;> (have := h.1; cases this)))
  intro r σ' ⟨p1, σ2, ⟨hT2, hh⟩, ev⟩
  rcases hh with ⟨hr, h0, hF2, hQ2, -⟩ | ⟨hr, h0, e⟩
  · subst hr
    have hM' := p1 _ rfl
    have hS' := ax_SM hM'
    have hH := ax_eH ev hS' hT2
    exact ⟨⟨_, rfl⟩, hM', Or.inl ⟨h0, ax_Qtr hQ2 (ax_eQ4 ev hS' hT2)⟩, ax_Qtr (ax_QF hF2 (by decide)) (ax_eQ87 ev hS' hT2), ax_Qtr (ax_QF hF2 (by decide)) (ax_eQ103 ev hS' hT2), hH.1.trans (hF2 86 3 (by decide)), hH.2.trans (hF2 102 3 (by decide))⟩
  · subst hr
    have hM' := p1 _ rfl
    have hS' := ax_SM hM'
    rw [e] at ev hT2
    have hH := ax_eH ev hS' hT2
    exact ⟨⟨_, rfl⟩, hM', Or.inr ⟨h0, ax_eQ4 ev hS' hT2⟩, ax_eQ87 ev hS' hT2, ax_eQ103 ev hS' hT2, hH.1, hH.2⟩
theorem lw_reM0 (G : sx_G0 g L xs z9 hd_C ex_mt) (hct : lw_hct g) {σ : am_S} (hM : sx_M z9 hd_C σ 0 0 σ) : am_K g 60 tX12_restore.1 0 0 0 (lv_args 0 [.ref 118, .int 0]) [] σ (fun r σ' => (∃ y : Int32, r = some (some (.int y))) ∧ sx_M z9 hd_C σ lw_m_X12_restore 0 σ' ∧ ((¬ σ.2.1 137 0 = 0 ∧ ∀ k, k < 62 → σ'.2.1 120 k = σ.2.1 136 (0 + k)) ∨ (σ.2.1 137 0 = 0 ∧ ∀ k, k < 62 → σ'.2.1 120 k = σ.2.1 120 k))) := by
  refine kr_mono ?_ (am_and (lw_ct_X12_restore G hct hM 0) (kr_less (d := 60) (by decide) (Nat.le_refl _) (Nat.le_refl _) (ax_reM_0 G (ax_SM hM))) (fun v σ' h => by rcases h with h | h <;> (have := h.1; cases this; exact Or.inr ⟨_, rfl⟩)) (fun σ' h => by rcases h with h | h <;> (have := h.1; cases this)))
  intro r σ' ⟨p1, σ2, hh, ev⟩
  rcases hh with ⟨hr, h0, a1, a2, hT2⟩ | ⟨hr, h0, a2, hT2⟩
  · subst hr
    have hM' := p1 _ rfl
    have e := ax_eA ev (ax_SM hM') hT2 (o := 120) (n := 277) (ty := .int) rfl rfl
    exact ⟨⟨_, rfl⟩, hM', Or.inl ⟨h0, fun k hk => (e k (by omega)).trans (a1 k (by omega))⟩⟩
  · subst hr
    have hM' := p1 _ rfl
    have e := ax_eA ev (ax_SM hM') hT2 (o := 120) (n := 277) (ty := .int) rfl rfl
    exact ⟨⟨_, rfl⟩, hM', Or.inr ⟨h0, fun k hk => (e k (by omega)).trans (a2 120 k (by decide))⟩⟩
theorem lw_reX1 (G : sx_G0 g L xs z9 hd_C ex_mt) (hct : lw_hct g) {σ : am_S} (hM : sx_M z9 hd_C σ 0 0 σ) : am_K g 60 tX11_restore.1 0 0 0 (lv_args 0 [.ref 0, .int 1]) [] σ (fun r σ' => (∃ y : Int32, r = some (some (.int y))) ∧ sx_M z9 hd_C σ lw_m_X11_restore 0 σ' ∧ ((¬ σ.2.1 102 3 = 0 ∧ ax_Q 4 103 σ σ') ∨ (σ.2.1 102 3 = 0 ∧ ax_Q 4 4 σ σ')) ∧ ax_Q 87 87 σ σ' ∧ ax_Q 103 103 σ σ' ∧ σ'.2.1 86 3 = σ.2.1 86 3 ∧ σ'.2.1 102 3 = σ.2.1 102 3) := by
  refine kr_mono ?_ (am_and (lw_ct_X11_restore G hct hM 1) (kr_less (d := 60) (by decide) (Nat.le_refl _) (Nat.le_refl _) (ax_resX_1 G (ax_SM hM))) (fun v σ' h => by rcases h.2 with h | h <;> (have := h.1; cases this; exact Or.inr ⟨_, rfl⟩)) (fun σ' h => by rcases h.2 with h | h <;> (have := h.1; cases this)))
  intro r σ' ⟨p1, σ2, ⟨hT2, hh⟩, ev⟩
  rcases hh with ⟨hr, h0, hF2, hQ2, -⟩ | ⟨hr, h0, e⟩
  · subst hr
    have hM' := p1 _ rfl
    have hS' := ax_SM hM'
    have hH := ax_eH ev hS' hT2
    exact ⟨⟨_, rfl⟩, hM', Or.inl ⟨h0, ax_Qtr hQ2 (ax_eQ4 ev hS' hT2)⟩, ax_Qtr (ax_QF hF2 (by decide)) (ax_eQ87 ev hS' hT2), ax_Qtr (ax_QF hF2 (by decide)) (ax_eQ103 ev hS' hT2), hH.1.trans (hF2 86 3 (by decide)), hH.2.trans (hF2 102 3 (by decide))⟩
  · subst hr
    have hM' := p1 _ rfl
    have hS' := ax_SM hM'
    rw [e] at ev hT2
    have hH := ax_eH ev hS' hT2
    exact ⟨⟨_, rfl⟩, hM', Or.inr ⟨h0, ax_eQ4 ev hS' hT2⟩, ax_eQ87 ev hS' hT2, ax_eQ103 ev hS' hT2, hH.1, hH.2⟩
theorem lw_reM1 (G : sx_G0 g L xs z9 hd_C ex_mt) (hct : lw_hct g) {σ : am_S} (hM : sx_M z9 hd_C σ 0 0 σ) : am_K g 60 tX12_restore.1 0 0 0 (lv_args 0 [.ref 118, .int 1]) [] σ (fun r σ' => (∃ y : Int32, r = some (some (.int y))) ∧ sx_M z9 hd_C σ lw_m_X12_restore 0 σ' ∧ ((¬ σ.2.1 137 1 = 0 ∧ ∀ k, k < 62 → σ'.2.1 120 k = σ.2.1 136 (277 + k)) ∨ (σ.2.1 137 1 = 0 ∧ ∀ k, k < 62 → σ'.2.1 120 k = σ.2.1 120 k))) := by
  refine kr_mono ?_ (am_and (lw_ct_X12_restore G hct hM 1) (kr_less (d := 60) (by decide) (Nat.le_refl _) (Nat.le_refl _) (ax_reM_1 G (ax_SM hM))) (fun v σ' h => by rcases h with h | h <;> (have := h.1; cases this; exact Or.inr ⟨_, rfl⟩)) (fun σ' h => by rcases h with h | h <;> (have := h.1; cases this)))
  intro r σ' ⟨p1, σ2, hh, ev⟩
  rcases hh with ⟨hr, h0, a1, a2, hT2⟩ | ⟨hr, h0, a2, hT2⟩
  · subst hr
    have hM' := p1 _ rfl
    have e := ax_eA ev (ax_SM hM') hT2 (o := 120) (n := 277) (ty := .int) rfl rfl
    exact ⟨⟨_, rfl⟩, hM', Or.inl ⟨h0, fun k hk => (e k (by omega)).trans (a1 k (by omega))⟩⟩
  · subst hr
    have hM' := p1 _ rfl
    have e := ax_eA ev (ax_SM hM') hT2 (o := 120) (n := 277) (ty := .int) rfl rfl
    exact ⟨⟨_, rfl⟩, hM', Or.inr ⟨h0, fun k hk => (e k (by omega)).trans (a2 120 k (by decide))⟩⟩
theorem lw_imXn (G : sx_G0 g L xs z9 hd_C ex_mt) (hct : lw_hct g) {σ : am_S} (hM : sx_M z9 hd_C σ 0 0 σ) {a : Int32} (h0 : ¬ a = 0) (h1 : ¬ a = 1) : am_K g 60 tX11_image.1 0 0 0 (lv_args 0 [.ref 0, .int a]) [] σ (fun r σ' => (∃ y : Int32, r = some (some (.int y))) ∧ sx_M z9 hd_C σ lw_m_X11_image 0 σ' ∧ ax_Q 4 4 σ σ' ∧ ax_Q 87 87 σ σ' ∧ ax_Q 103 103 σ σ' ∧ σ'.2.1 86 3 = σ.2.1 86 3 ∧ σ'.2.1 102 3 = σ.2.1 102 3) := by
  refine kr_mono ?_ (am_and (lw_ct_X11_image G hct hM a) (kr_less (d := 60) (by decide) (Nat.le_refl _) (Nat.le_refl _) (ax_imX_n G h0 h1)) (fun v σ' h => by have := h.1; cases this; exact Or.inr ⟨_, rfl⟩) (fun σ' h => by have := h.1; cases this))
  intro r σ' ⟨p1, σ2, ⟨hr, e⟩, ev⟩
  subst hr
  have hM' := p1 _ rfl
  have hS' := ax_SM hM'
  rw [e] at ev
  have hT2 := ax_SM hM
  have hH := ax_eH ev hS' hT2
  exact ⟨⟨_, rfl⟩, hM', ax_eQ4 ev hS' hT2, ax_eQ87 ev hS' hT2, ax_eQ103 ev hS' hT2, hH.1, hH.2⟩
theorem lw_imMn (G : sx_G0 g L xs z9 hd_C ex_mt) (hct : lw_hct g) {σ : am_S} (hM : sx_M z9 hd_C σ 0 0 σ) {a : Int32} (h0 : ¬ a = 0) (h1 : ¬ a = 1) : am_K g 60 tX12_image.1 0 0 0 (lv_args 0 [.ref 118, .int a]) [] σ (fun r σ' => (∃ y : Int32, r = some (some (.int y))) ∧ sx_M z9 hd_C σ lw_m_X12_image 0 σ' ∧ (∀ k, k < 277 → σ'.2.1 120 k = σ.2.1 120 k) ∧ (∀ k, k < 554 → σ'.2.1 136 k = σ.2.1 136 k) ∧ ∀ k, k < 2 → σ'.2.1 137 k = σ.2.1 137 k) := by
  refine kr_mono ?_ (am_and (lw_ct_X12_image G hct hM a) (kr_less (d := 60) (by decide) (Nat.le_refl _) (Nat.le_refl _) (ax_imM_n G (ax_SM hM) h0 h1)) (fun v σ' h => by have := h.1; cases this; exact Or.inr ⟨_, rfl⟩) (fun σ' h => by have := h.1; cases this))
  intro r σ' ⟨p1, σ2, ⟨hr, e, hT2⟩, ev⟩
  subst hr
  have hM' := p1 _ rfl
  have hS' := ax_SM hM'
  exact ⟨⟨_, rfl⟩, hM', fun k hk => (ax_eA ev hS' hT2 (o := 120) (n := 277) (ty := .int) rfl rfl k hk).trans (e 120 k (by decide)), fun k hk => (ax_eA ev hS' hT2 (o := 136) (n := 554) (ty := .int) rfl rfl k hk).trans (e 136 k (by decide)), fun k hk => (ax_eA ev hS' hT2 (o := 137) (n := 2) (ty := .boolean) rfl rfl k hk).trans (e 137 k (by decide))⟩
theorem lw_reXn (G : sx_G0 g L xs z9 hd_C ex_mt) (hct : lw_hct g) {σ : am_S} (hM : sx_M z9 hd_C σ 0 0 σ) {a : Int32} (h0 : ¬ a = 0) (h1 : ¬ a = 1) : am_K g 60 tX11_restore.1 0 0 0 (lv_args 0 [.ref 0, .int a]) [] σ (fun r σ' => (∃ y : Int32, r = some (some (.int y))) ∧ sx_M z9 hd_C σ lw_m_X11_restore 0 σ' ∧ ax_Q 4 4 σ σ' ∧ ax_Q 87 87 σ σ' ∧ ax_Q 103 103 σ σ' ∧ σ'.2.1 86 3 = σ.2.1 86 3 ∧ σ'.2.1 102 3 = σ.2.1 102 3) := by
  refine kr_mono ?_ (am_and (lw_ct_X11_restore G hct hM a) (kr_less (d := 60) (by decide) (Nat.le_refl _) (Nat.le_refl _) (ax_reX_n G h0 h1)) (fun v σ' h => by have := h.1; cases this; exact Or.inr ⟨_, rfl⟩) (fun σ' h => by have := h.1; cases this))
  intro r σ' ⟨p1, σ2, ⟨hr, e⟩, ev⟩
  subst hr
  have hM' := p1 _ rfl
  have hS' := ax_SM hM'
  rw [e] at ev
  have hT2 := ax_SM hM
  have hH := ax_eH ev hS' hT2
  exact ⟨⟨_, rfl⟩, hM', ax_eQ4 ev hS' hT2, ax_eQ87 ev hS' hT2, ax_eQ103 ev hS' hT2, hH.1, hH.2⟩
theorem lw_reMn (G : sx_G0 g L xs z9 hd_C ex_mt) (hct : lw_hct g) {σ : am_S} (hM : sx_M z9 hd_C σ 0 0 σ) {a : Int32} (h0 : ¬ a = 0) (h1 : ¬ a = 1) : am_K g 60 tX12_restore.1 0 0 0 (lv_args 0 [.ref 118, .int a]) [] σ (fun r σ' => (∃ y : Int32, r = some (some (.int y))) ∧ sx_M z9 hd_C σ lw_m_X12_restore 0 σ' ∧ (∀ k, k < 277 → σ'.2.1 120 k = σ.2.1 120 k) ∧ (∀ k, k < 554 → σ'.2.1 136 k = σ.2.1 136 k) ∧ ∀ k, k < 2 → σ'.2.1 137 k = σ.2.1 137 k) := by
  refine kr_mono ?_ (am_and (lw_ct_X12_restore G hct hM a) (kr_less (d := 60) (by decide) (Nat.le_refl _) (Nat.le_refl _) (ax_reM_n G (ax_SM hM) h0 h1)) (fun v σ' h => by have := h.1; cases this; exact Or.inr ⟨_, rfl⟩) (fun σ' h => by have := h.1; cases this))
  intro r σ' ⟨p1, σ2, ⟨hr, e, hT2⟩, ev⟩
  subst hr
  have hM' := p1 _ rfl
  have hS' := ax_SM hM'
  exact ⟨⟨_, rfl⟩, hM', fun k hk => (ax_eA ev hS' hT2 (o := 120) (n := 277) (ty := .int) rfl rfl k hk).trans (e 120 k (by decide)), fun k hk => (ax_eA ev hS' hT2 (o := 136) (n := 554) (ty := .int) rfl rfl k hk).trans (e 136 k (by decide)), fun k hk => (ax_eA ev hS' hT2 (o := 137) (n := 2) (ty := .boolean) rfl rfl k hk).trans (e 137 k (by decide))⟩
theorem rl_im0 {σ σ1 σ2 : am_S} (hM : sx_M z9 hd_C σ 0 0 σ) (h : lw_rl σ) (hM1 : sx_M z9 hd_C σ lw_m_X11_image 0 σ1) (Q4 : ax_Q 4 4 σ σ1) (QI : ax_Q 87 4 σ σ1) (QO : ax_Q 103 103 σ σ1) (hh : σ1.2.1 86 3 = 1) (ho : σ1.2.1 102 3 = σ.2.1 102 3) (hM2 : sx_M z9 hd_C σ1 lw_m_X12_image 0 σ2) (r1 : ∀ k, k < 62 → σ2.2.1 136 (0 + k) = σ1.2.1 120 k) (r2 : ∀ k, k < 62 → σ2.2.1 136 (277 + k) = σ1.2.1 136 (277 + k)) (m1 : σ2.2.1 137 0 = 1) (m2 : σ2.2.1 137 1 = σ1.2.1 137 1) : lw_rl σ2 := by
  obtain ⟨h1, ⟨h2, h3⟩, h4, h5⟩ := h
  obtain ⟨b1, b2, b3⟩ := pl_BM hM
  have q4 := ax_Qm hM2 (o := 4) (by decide +kernel) (by decide +kernel)
  have q87 := ax_Qm hM2 (o := 87) (by decide +kernel) (by decide +kernel)
  have q103 := ax_Qm hM2 (o := 103) (by decide +kernel) (by decide +kernel)
  have s0 : ∀ k, k < 62 → σ1.2.1 120 k = σ.2.1 120 k := rl_o0 hM1 (by decide +kernel)
  have s2 : ∀ k, k < 62 → σ2.2.1 120 k = σ1.2.1 120 k := rl_o0 hM2 (by decide +kernel)
  have k0 : ∀ k, k < 62 → σ1.2.1 136 (277 + k) = σ.2.1 136 (277 + k) := rl_oz hM1 (by decide +kernel)
  have gg : ∀ k, k < 2 → σ1.2.1 137 k = σ.2.1 137 k := rl_o0 hM1 (by decide +kernel)
  have u : σ2.2.1 86 3 = σ1.2.1 86 3 := rl_oz hM2 (o := 86) (a := 3) (n := 1) (by decide +kernel) 0 (by decide)
  have v : σ2.2.1 102 3 = σ1.2.1 102 3 := rl_oz hM2 (o := 102) (a := 3) (n := 1) (by decide +kernel) 0 (by decide)
  have go := gg 1 (by decide)
  refine ⟨pl_Q h1 b1 (ax_Qtr Q4 q4) (fun k hk => (s2 k hk).trans (s0 k hk)), ⟨?_, ?_⟩, fun n => ?_, fun n => ?_⟩
  · rw [u, hh, m1]
  · rw [v, ho, h3, m2, go]
  · exact pl_Q h1 b1 (ax_Qtr QI q87) (fun k hk => (r1 k hk).trans (s0 k hk))
  · rw [m2, go] at n
    exact pl_Q (h5 n) b3 (ax_Qtr QO q103) (fun k hk => (r2 k hk).trans (k0 k hk))
theorem rl_re0 {σ σ1 σ2 : am_S} (hM : sx_M z9 hd_C σ 0 0 σ) (h : lw_rl σ) (hM1 : sx_M z9 hd_C σ lw_m_X11_restore 0 σ1) (hc : (¬ σ.2.1 86 3 = 0 ∧ ax_Q 4 87 σ σ1) ∨ (σ.2.1 86 3 = 0 ∧ ax_Q 4 4 σ σ1)) (QA : ax_Q 87 87 σ σ1) (QB : ax_Q 103 103 σ σ1) (hA : σ1.2.1 86 3 = σ.2.1 86 3) (hB : σ1.2.1 102 3 = σ.2.1 102 3) (hM2 : sx_M z9 hd_C σ1 lw_m_X12_restore 0 σ2) (hr : (¬ σ1.2.1 137 0 = 0 ∧ ∀ k, k < 62 → σ2.2.1 120 k = σ1.2.1 136 (0 + k)) ∨ (σ1.2.1 137 0 = 0 ∧ ∀ k, k < 62 → σ2.2.1 120 k = σ1.2.1 120 k)) : lw_rl σ2 := by
  obtain ⟨h1, ⟨h2, h3⟩, h4, h5⟩ := h
  obtain ⟨b1, b2, b3⟩ := pl_BM hM
  have q4 := ax_Qm hM2 (o := 4) (by decide +kernel) (by decide +kernel)
  have q87 := ax_Qm hM2 (o := 87) (by decide +kernel) (by decide +kernel)
  have q103 := ax_Qm hM2 (o := 103) (by decide +kernel) (by decide +kernel)
  have s0 : ∀ k, k < 62 → σ1.2.1 120 k = σ.2.1 120 k := rl_o0 hM1 (by decide +kernel)
  have k0 : ∀ k, k < 62 → σ1.2.1 136 (0 + k) = σ.2.1 136 (0 + k) := rl_oz hM1 (by decide +kernel)
  have k1 : ∀ k, k < 62 → σ1.2.1 136 (277 + k) = σ.2.1 136 (277 + k) := rl_oz hM1 (by decide +kernel)
  have j0 : ∀ k, k < 62 → σ2.2.1 136 (0 + k) = σ1.2.1 136 (0 + k) := rl_oz hM2 (by decide +kernel)
  have j1 : ∀ k, k < 62 → σ2.2.1 136 (277 + k) = σ1.2.1 136 (277 + k) := rl_oz hM2 (by decide +kernel)
  have gg : ∀ k, k < 2 → σ1.2.1 137 k = σ.2.1 137 k := rl_o0 hM1 (by decide +kernel)
  have gh : ∀ k, k < 2 → σ2.2.1 137 k = σ1.2.1 137 k := rl_o0 hM2 (by decide +kernel)
  have u : σ2.2.1 86 3 = σ1.2.1 86 3 := rl_oz hM2 (o := 86) (a := 3) (n := 1) (by decide +kernel) 0 (by decide)
  have v : σ2.2.1 102 3 = σ1.2.1 102 3 := rl_oz hM2 (o := 102) (a := 3) (n := 1) (by decide +kernel) 0 (by decide)
  have g0 := gg 0 (by decide)
  have g1 := gg 1 (by decide)
  have z0 := gh 0 (by decide)
  have z1 := gh 1 (by decide)
  refine ⟨?_, ⟨?_, ?_⟩, fun n => ?_, fun n => ?_⟩
  · rcases hc with ⟨c1, c2⟩ | ⟨c1, c2⟩
    · rcases hr with ⟨d1, d2⟩ | ⟨d1, d2⟩
      · rw [h2] at c1
        exact pl_Q (h4 c1) b2 (ax_Qtr c2 q4) (fun k hk => (d2 k hk).trans (k0 k hk))
      · rw [h2, ← g0] at c1
        exact absurd d1 c1
    · rcases hr with ⟨d1, d2⟩ | ⟨d1, d2⟩
      · rw [h2, ← g0] at c1
        exact absurd c1 d1
      · exact pl_Q h1 b1 (ax_Qtr c2 q4) (fun k hk => (d2 k hk).trans (s0 k hk))
  · rw [u, hA, h2, z0, g0]
  · rw [v, hB, h3, z1, g1]
  · rw [z0, g0] at n
    exact pl_Q (h4 n) b2 (ax_Qtr QA q87) (fun k hk => (j0 k hk).trans (k0 k hk))
  · rw [z1, g1] at n
    exact pl_Q (h5 n) b3 (ax_Qtr QB q103) (fun k hk => (j1 k hk).trans (k1 k hk))
theorem rl_im1 {σ σ1 σ2 : am_S} (hM : sx_M z9 hd_C σ 0 0 σ) (h : lw_rl σ) (hM1 : sx_M z9 hd_C σ lw_m_X11_image 0 σ1) (Q4 : ax_Q 4 4 σ σ1) (QI : ax_Q 103 4 σ σ1) (QO : ax_Q 87 87 σ σ1) (hh : σ1.2.1 102 3 = 1) (ho : σ1.2.1 86 3 = σ.2.1 86 3) (hM2 : sx_M z9 hd_C σ1 lw_m_X12_image 0 σ2) (r1 : ∀ k, k < 62 → σ2.2.1 136 (277 + k) = σ1.2.1 120 k) (r2 : ∀ k, k < 62 → σ2.2.1 136 (0 + k) = σ1.2.1 136 (0 + k)) (m1 : σ2.2.1 137 1 = 1) (m2 : σ2.2.1 137 0 = σ1.2.1 137 0) : lw_rl σ2 := by
  obtain ⟨h1, ⟨h2, h3⟩, h4, h5⟩ := h
  obtain ⟨b1, b2, b3⟩ := pl_BM hM
  have q4 := ax_Qm hM2 (o := 4) (by decide +kernel) (by decide +kernel)
  have q87 := ax_Qm hM2 (o := 87) (by decide +kernel) (by decide +kernel)
  have q103 := ax_Qm hM2 (o := 103) (by decide +kernel) (by decide +kernel)
  have s0 : ∀ k, k < 62 → σ1.2.1 120 k = σ.2.1 120 k := rl_o0 hM1 (by decide +kernel)
  have s2 : ∀ k, k < 62 → σ2.2.1 120 k = σ1.2.1 120 k := rl_o0 hM2 (by decide +kernel)
  have k0 : ∀ k, k < 62 → σ1.2.1 136 (0 + k) = σ.2.1 136 (0 + k) := rl_oz hM1 (by decide +kernel)
  have gg : ∀ k, k < 2 → σ1.2.1 137 k = σ.2.1 137 k := rl_o0 hM1 (by decide +kernel)
  have u : σ2.2.1 86 3 = σ1.2.1 86 3 := rl_oz hM2 (o := 86) (a := 3) (n := 1) (by decide +kernel) 0 (by decide)
  have v : σ2.2.1 102 3 = σ1.2.1 102 3 := rl_oz hM2 (o := 102) (a := 3) (n := 1) (by decide +kernel) 0 (by decide)
  have go := gg 0 (by decide)
  refine ⟨pl_Q h1 b1 (ax_Qtr Q4 q4) (fun k hk => (s2 k hk).trans (s0 k hk)), ⟨?_, ?_⟩, fun n => ?_, fun n => ?_⟩
  · rw [u, ho, h2, m2, go]
  · rw [v, hh, m1]
  · rw [m2, go] at n
    exact pl_Q (h4 n) b2 (ax_Qtr QO q87) (fun k hk => (r2 k hk).trans (k0 k hk))
  · exact pl_Q h1 b1 (ax_Qtr QI q103) (fun k hk => (r1 k hk).trans (s0 k hk))
theorem rl_re1 {σ σ1 σ2 : am_S} (hM : sx_M z9 hd_C σ 0 0 σ) (h : lw_rl σ) (hM1 : sx_M z9 hd_C σ lw_m_X11_restore 0 σ1) (hc : (¬ σ.2.1 102 3 = 0 ∧ ax_Q 4 103 σ σ1) ∨ (σ.2.1 102 3 = 0 ∧ ax_Q 4 4 σ σ1)) (QA : ax_Q 87 87 σ σ1) (QB : ax_Q 103 103 σ σ1) (hA : σ1.2.1 86 3 = σ.2.1 86 3) (hB : σ1.2.1 102 3 = σ.2.1 102 3) (hM2 : sx_M z9 hd_C σ1 lw_m_X12_restore 0 σ2) (hr : (¬ σ1.2.1 137 1 = 0 ∧ ∀ k, k < 62 → σ2.2.1 120 k = σ1.2.1 136 (277 + k)) ∨ (σ1.2.1 137 1 = 0 ∧ ∀ k, k < 62 → σ2.2.1 120 k = σ1.2.1 120 k)) : lw_rl σ2 := by
  obtain ⟨h1, ⟨h2, h3⟩, h4, h5⟩ := h
  obtain ⟨b1, b2, b3⟩ := pl_BM hM
  have q4 := ax_Qm hM2 (o := 4) (by decide +kernel) (by decide +kernel)
  have q87 := ax_Qm hM2 (o := 87) (by decide +kernel) (by decide +kernel)
  have q103 := ax_Qm hM2 (o := 103) (by decide +kernel) (by decide +kernel)
  have s0 : ∀ k, k < 62 → σ1.2.1 120 k = σ.2.1 120 k := rl_o0 hM1 (by decide +kernel)
  have k0 : ∀ k, k < 62 → σ1.2.1 136 (0 + k) = σ.2.1 136 (0 + k) := rl_oz hM1 (by decide +kernel)
  have k1 : ∀ k, k < 62 → σ1.2.1 136 (277 + k) = σ.2.1 136 (277 + k) := rl_oz hM1 (by decide +kernel)
  have j0 : ∀ k, k < 62 → σ2.2.1 136 (0 + k) = σ1.2.1 136 (0 + k) := rl_oz hM2 (by decide +kernel)
  have j1 : ∀ k, k < 62 → σ2.2.1 136 (277 + k) = σ1.2.1 136 (277 + k) := rl_oz hM2 (by decide +kernel)
  have gg : ∀ k, k < 2 → σ1.2.1 137 k = σ.2.1 137 k := rl_o0 hM1 (by decide +kernel)
  have gh : ∀ k, k < 2 → σ2.2.1 137 k = σ1.2.1 137 k := rl_o0 hM2 (by decide +kernel)
  have u : σ2.2.1 86 3 = σ1.2.1 86 3 := rl_oz hM2 (o := 86) (a := 3) (n := 1) (by decide +kernel) 0 (by decide)
  have v : σ2.2.1 102 3 = σ1.2.1 102 3 := rl_oz hM2 (o := 102) (a := 3) (n := 1) (by decide +kernel) 0 (by decide)
  have g0 := gg 0 (by decide)
  have g1 := gg 1 (by decide)
  have z0 := gh 0 (by decide)
  have z1 := gh 1 (by decide)
  refine ⟨?_, ⟨?_, ?_⟩, fun n => ?_, fun n => ?_⟩
  · rcases hc with ⟨c1, c2⟩ | ⟨c1, c2⟩
    · rcases hr with ⟨d1, d2⟩ | ⟨d1, d2⟩
      · rw [h3] at c1
        exact pl_Q (h5 c1) b3 (ax_Qtr c2 q4) (fun k hk => (d2 k hk).trans (k1 k hk))
      · rw [h3, ← g1] at c1
        exact absurd d1 c1
    · rcases hr with ⟨d1, d2⟩ | ⟨d1, d2⟩
      · rw [h3, ← g1] at c1
        exact absurd c1 d1
      · exact pl_Q h1 b1 (ax_Qtr c2 q4) (fun k hk => (d2 k hk).trans (s0 k hk))
  · rw [u, hA, h2, z0, g0]
  · rw [v, hB, h3, z1, g1]
  · rw [z0, g0] at n
    exact pl_Q (h4 n) b2 (ax_Qtr QA q87) (fun k hk => (j0 k hk).trans (k0 k hk))
  · rw [z1, g1] at n
    exact pl_Q (h5 n) b3 (ax_Qtr QB q103) (fun k hk => (j1 k hk).trans (k1 k hk))
theorem rl_n_image {σ σ1 σ2 : am_S} (hM : sx_M z9 hd_C σ 0 0 σ) (h : lw_rl σ) (hM1 : sx_M z9 hd_C σ lw_m_X11_image 0 σ1) (Q4 : ax_Q 4 4 σ σ1) (QA : ax_Q 87 87 σ σ1) (QB : ax_Q 103 103 σ σ1) (hA : σ1.2.1 86 3 = σ.2.1 86 3) (hB : σ1.2.1 102 3 = σ.2.1 102 3) (hM2 : sx_M z9 hd_C σ1 lw_m_X12_image 0 σ2) (r0 : ∀ k, k < 277 → σ2.2.1 120 k = σ1.2.1 120 k) (r1 : ∀ k, k < 554 → σ2.2.1 136 k = σ1.2.1 136 k) (r2 : ∀ k, k < 2 → σ2.2.1 137 k = σ1.2.1 137 k) : lw_rl σ2 := by
  obtain ⟨h1, ⟨h2, h3⟩, h4, h5⟩ := h
  obtain ⟨b1, b2, b3⟩ := pl_BM hM
  have q4 := ax_Qm hM2 (o := 4) (by decide +kernel) (by decide +kernel)
  have q87 := ax_Qm hM2 (o := 87) (by decide +kernel) (by decide +kernel)
  have q103 := ax_Qm hM2 (o := 103) (by decide +kernel) (by decide +kernel)
  have s0 : ∀ k, k < 62 → σ1.2.1 120 k = σ.2.1 120 k := rl_o0 hM1 (by decide +kernel)
  have k0 : ∀ k, k < 62 → σ1.2.1 136 (0 + k) = σ.2.1 136 (0 + k) := rl_oz hM1 (by decide +kernel)
  have k1 : ∀ k, k < 62 → σ1.2.1 136 (277 + k) = σ.2.1 136 (277 + k) := rl_oz hM1 (by decide +kernel)
  have gg : ∀ k, k < 2 → σ1.2.1 137 k = σ.2.1 137 k := rl_o0 hM1 (by decide +kernel)
  have u : σ2.2.1 86 3 = σ1.2.1 86 3 := rl_oz hM2 (o := 86) (a := 3) (n := 1) (by decide +kernel) 0 (by decide)
  have v : σ2.2.1 102 3 = σ1.2.1 102 3 := rl_oz hM2 (o := 102) (a := 3) (n := 1) (by decide +kernel) 0 (by decide)
  have g0 := gg 0 (by decide)
  have g1 := gg 1 (by decide)
  have z0 := r2 0 (by decide)
  have z1 := r2 1 (by decide)
  refine ⟨pl_Q h1 b1 (ax_Qtr Q4 q4) (fun k hk => (r0 k (by omega)).trans (s0 k hk)), ⟨?_, ?_⟩, fun n => ?_, fun n => ?_⟩
  · rw [u, hA, h2, z0, g0]
  · rw [v, hB, h3, z1, g1]
  · rw [z0, g0] at n
    exact pl_Q (h4 n) b2 (ax_Qtr QA q87) (fun k hk => (r1 _ (by omega)).trans (k0 k hk))
  · rw [z1, g1] at n
    exact pl_Q (h5 n) b3 (ax_Qtr QB q103) (fun k hk => (r1 _ (by omega)).trans (k1 k hk))
theorem rl_n_restore {σ σ1 σ2 : am_S} (hM : sx_M z9 hd_C σ 0 0 σ) (h : lw_rl σ) (hM1 : sx_M z9 hd_C σ lw_m_X11_restore 0 σ1) (Q4 : ax_Q 4 4 σ σ1) (QA : ax_Q 87 87 σ σ1) (QB : ax_Q 103 103 σ σ1) (hA : σ1.2.1 86 3 = σ.2.1 86 3) (hB : σ1.2.1 102 3 = σ.2.1 102 3) (hM2 : sx_M z9 hd_C σ1 lw_m_X12_restore 0 σ2) (r0 : ∀ k, k < 277 → σ2.2.1 120 k = σ1.2.1 120 k) (r1 : ∀ k, k < 554 → σ2.2.1 136 k = σ1.2.1 136 k) (r2 : ∀ k, k < 2 → σ2.2.1 137 k = σ1.2.1 137 k) : lw_rl σ2 := by
  obtain ⟨h1, ⟨h2, h3⟩, h4, h5⟩ := h
  obtain ⟨b1, b2, b3⟩ := pl_BM hM
  have q4 := ax_Qm hM2 (o := 4) (by decide +kernel) (by decide +kernel)
  have q87 := ax_Qm hM2 (o := 87) (by decide +kernel) (by decide +kernel)
  have q103 := ax_Qm hM2 (o := 103) (by decide +kernel) (by decide +kernel)
  have s0 : ∀ k, k < 62 → σ1.2.1 120 k = σ.2.1 120 k := rl_o0 hM1 (by decide +kernel)
  have k0 : ∀ k, k < 62 → σ1.2.1 136 (0 + k) = σ.2.1 136 (0 + k) := rl_oz hM1 (by decide +kernel)
  have k1 : ∀ k, k < 62 → σ1.2.1 136 (277 + k) = σ.2.1 136 (277 + k) := rl_oz hM1 (by decide +kernel)
  have gg : ∀ k, k < 2 → σ1.2.1 137 k = σ.2.1 137 k := rl_o0 hM1 (by decide +kernel)
  have u : σ2.2.1 86 3 = σ1.2.1 86 3 := rl_oz hM2 (o := 86) (a := 3) (n := 1) (by decide +kernel) 0 (by decide)
  have v : σ2.2.1 102 3 = σ1.2.1 102 3 := rl_oz hM2 (o := 102) (a := 3) (n := 1) (by decide +kernel) 0 (by decide)
  have g0 := gg 0 (by decide)
  have g1 := gg 1 (by decide)
  have z0 := r2 0 (by decide)
  have z1 := r2 1 (by decide)
  refine ⟨pl_Q h1 b1 (ax_Qtr Q4 q4) (fun k hk => (r0 k (by omega)).trans (s0 k hk)), ⟨?_, ?_⟩, fun n => ?_, fun n => ?_⟩
  · rw [u, hA, h2, z0, g0]
  · rw [v, hB, h3, z1, g1]
  · rw [z0, g0] at n
    exact pl_Q (h4 n) b2 (ax_Qtr QA q87) (fun k hk => (r1 _ (by omega)).trans (k0 k hk))
  · rw [z1, g1] at n
    exact pl_Q (h5 n) b3 (ax_Qtr QB q103) (fun k hk => (r1 _ (by omega)).trans (k1 k hk))
end Z10
