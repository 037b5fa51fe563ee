/-! the SENTENCE of the reference: what its codes keep to, so that a run over them finds what it takes off its stack -/
def hd_dp (f : Nat → Int32) : Nat → Int
  | 0 => 0
  | c + 1 => if f (3 * c) = 20 then hd_dp f c else if f (3 * c) = 21 ∨ f (3 * c) = 22 then hd_dp f c - 1 else hd_dp f c + 1
def hd_ok (f : Nat → Int32) : Nat → Prop
  | 0 => True
  | c + 1 => hd_ok f c ∧ (f (3 * c) = 20 → 1 ≤ hd_dp f c) ∧ (f (3 * c) = 21 ∨ f (3 * c) = 22 → 2 ≤ hd_dp f c)
/-- how many of those that join two stand on the stack -/
def hd_bn (f : Nat → Int32) : Nat → Int
  | 0 => 0
  | t + 1 => hd_bn f t + (if f t = 21 ∨ f t = 22 then 1 else 0)
theorem hd_dp_congr {f f' : Nat → Int32} : ∀ {c : Nat}, (∀ k, k < 3 * c → f' k = f k) → hd_dp f' c = hd_dp f c
  | 0, _ => rfl
  | c + 1, h => by
    have ih := hd_dp_congr (c := c) (fun k hk => h k (by omega))
    unfold hd_dp
    rw [h (3 * c) (by omega), ih]
theorem hd_ok_congr {f f' : Nat → Int32} : ∀ {c : Nat}, (∀ k, k < 3 * c → f' k = f k) → hd_ok f c → hd_ok f' c
  | 0, _, _ => trivial
  | c + 1, h, ⟨h1, h2, h3⟩ => by
    have h' : ∀ k, k < 3 * c → f' k = f k := fun k hk => h k (by omega)
    refine ⟨hd_ok_congr h' h1, ?_, ?_⟩
    · rw [h (3 * c) (by omega), hd_dp_congr h']; exact h2
    · rw [h (3 * c) (by omega), hd_dp_congr h']; exact h3
theorem hd_bn_congr {f f' : Nat → Int32} : ∀ {t : Nat}, (∀ k, k < t → f' k = f k) → hd_bn f' t = hd_bn f t
  | 0, _ => rfl
  | t + 1, h => by
    unfold hd_bn
    rw [h t (by omega), hd_bn_congr (t := t) (fun k hk => h k (by omega))]
theorem hd_bn_pos {f : Nat → Int32} : ∀ {t : Nat}, 0 ≤ hd_bn f t
  | 0 => Int.le_refl _
  | t + 1 => by
    have := hd_bn_pos (f := f) (t := t)
    unfold hd_bn
    split <;> omega
theorem hd_dp_in {f : Nat → Int32} : ∀ {c : Nat}, hd_ok f c → 0 ≤ hd_dp f c ∧ hd_dp f c ≤ c
  | 0, _ => ⟨Int.le_refl _, Int.le_refl _⟩
  | c + 1, ⟨h1, h2, h3⟩ => by
    have ih := hd_dp_in h1
    unfold hd_dp
    split
    · omega
    · split
      · rename_i _ hq
        have := h3 hq
        omega
      · omega
theorem hd_ok_le {f : Nat → Int32} : ∀ {c d : Nat}, d ≤ c → hd_ok f c → hd_ok f d := by
  intro c
  induction c with
  | zero => intro d h1 h2; rw [Nat.le_zero.mp h1]; exact h2
  | succ c ih =>
    intro d h1 h2
    rcases Nat.lt_or_ge d (c + 1) with h | h
    · exact ih (by omega) h2.1
    · rw [show d = c + 1 by omega]; exact h2
/-- a STATION, an object's state: of the windows and stands that are there each has a price, a weight; the SENTENCE's codes -/
def hd_W (f : Nat → Int32) : Prop := hd_ok (fun k => f (97 + k)) (min (f 96).toInt.toNat 60)
def hd_C (i : Nat) (σ : am_S) : Prop := match i with
  | 8 => hd_W (σ.2.1 120)
  | 9 => hd_W (σ.2.1 136)
  | 10 => hd_W (fun k => σ.2.1 136 (277 + k))
  | _ => True
theorem hd_W_congr {f f' : Nat → Int32} (h : ∀ k, 96 ≤ k → k < 277 → f' k = f k) (hw : hd_W f) : hd_W f' := by
  unfold hd_W at hw ⊢
  rw [h 96 (by omega) (by omega)]
  exact hd_ok_congr (fun k hk => h (97 + k) (by omega) (by have := Nat.min_le_right (f 96).toInt.toNat 60; omega)) hw
theorem hd_W_zero {f : Nat → Int32} (h : (f 96).toInt = 0) : hd_W f := by
  unfold hd_W
  rw [h]
  exact trivial
def hd_T : Nat → am_S → Prop := fun _ _ => True
/-- the memory's kinds alone -/
noncomputable def zK : sx_Z := (z9.1, z9.2.1, z9.2.2.1, z9.2.2.2.1, [], [], z9.2.2.2.2.2.2)
theorem hd_zu : z9.2.2.2.2.2.1 = [(8, 120, 96, 277), (9, 136, 96, 277), (10, 136, 373, 554)] := rfl
theorem hd_zc : z9.2.2.2.2.1 = [(0, 120, 0, 2, 10), (1, 120, 1, 48, 6), (2, 121, 0, 2, 10), (3, 121, 1, 48, 6), (4, 136, 0, 2, 10), (5, 136, 1, 48, 6), (6, 136, 277, 279, 10), (7, 136, 278, 325, 6)] := rfl
theorem hd_u3 {P : Nat × Nat × Nat × Nat → Prop} (h1 : P (8, 120, 96, 277)) (h2 : P (9, 136, 96, 277)) (h3 : P (10, 136, 373, 554)) : ∀ c ∈ z9.2.2.2.2.2.1, P c := by
  intro c hc
  rw [hd_zu] at hc
  simp only [List.mem_cons, List.not_mem_nil, or_false] at hc
  rcases hc with rfl | rfl | rfl
  · exact h1
  · exact h2
  · exact h3
theorem hd_c8 {P : sx_Cl → Prop} (h0 : P (0, 120, 0, 2, 10)) (h1 : P (1, 120, 1, 48, 6)) (h2 : P (2, 121, 0, 2, 10)) (h3 : P (3, 121, 1, 48, 6)) (h4 : P (4, 136, 0, 2, 10)) (h5 : P (5, 136, 1, 48, 6)) (h6 : P (6, 136, 277, 279, 10)) (h7 : P (7, 136, 278, 325, 6)) : ∀ c ∈ z9.2.2.2.2.1, P c := by
  intro c hc
  rw [hd_zc] at hc
  simp only [List.mem_cons, List.not_mem_nil, or_false] at hc
  rcases hc with rfl | rfl | rfl | rfl | rfl | rfl | rfl | rfl <;> assumption
theorem hd_CsOk : sx_CsOk z9 hd_C := by
  refine hd_u3 ?_ ?_ ?_
  · intro σ σ' h hw
    exact hd_W_congr h hw
  · intro σ σ' h hw
    exact hd_W_congr h hw
  · intro σ σ' h hw
    exact hd_W_congr (f := fun k => σ.2.1 136 (277 + k)) (f' := fun k => σ'.2.1 136 (277 + k)) (fun k h1 h2 => h (277 + k) (by show 373 ≤ 277 + k; omega) (by show 277 + k < 554; omega)) hw
theorem hd_CsOk2 : sx_CsOk2 z9 hd_C := by
  refine ⟨hd_u3 (by decide) (by decide) (by decide), hd_u3 (fun σ h => hd_W_zero h) (fun σ h => hd_W_zero h) (fun σ h => hd_W_zero (f := fun k => σ.2.1 136 (277 + k)) h), ?_⟩
  have key : ∀ (f f' : Nat → Int32), (∀ j, j < 181 → f' (96 + j) = f (96 + j)) → hd_W f → hd_W f' := fun f f' h hw => hd_W_congr (fun k h1 h2 => by
    have := h (k - 96) (by omega)
    rw [show 96 + (k - 96) = k by omega] at this
    exact this) hw
  refine hd_u3 ?_ ?_ ?_
  · refine hd_u3 ?_ ?_ ?_
    · exact fun σ _ h hw => hw
    · exact fun σ _ h hw => key (σ.2.1 136) (σ.2.1 120) h hw
    · exact fun σ _ h hw => key (fun k => σ.2.1 136 (277 + k)) (σ.2.1 120) (fun j hj => by have := h j hj; rw [show 277 + (96 + j) = 373 + j by omega]; exact this) hw
  · refine hd_u3 ?_ ?_ ?_
    · exact fun σ _ h hw => key (σ.2.1 120) (σ.2.1 136) h hw
    · exact fun σ _ h hw => hw
    · exact fun σ _ h hw => key (fun k => σ.2.1 136 (277 + k)) (σ.2.1 136) (fun j hj => by have := h j hj; rw [show 277 + (96 + j) = 373 + j by omega]; exact this) hw
  · refine hd_u3 ?_ ?_ ?_
    · exact fun σ _ h hw => key (σ.2.1 120) (fun k => σ.2.1 136 (277 + k)) (fun j hj => by have := h j hj; rw [show 277 + (96 + j) = 373 + j by omega]; exact this) hw
    · exact fun σ _ h hw => key (σ.2.1 136) (fun k => σ.2.1 136 (277 + k)) (fun j hj => by have := h j hj; rw [show 277 + (96 + j) = 373 + j by omega]; exact this) hw
    · exact fun σ _ h hw => hw
theorem hd_Zok : sx_Zok z9 := by
  unfold sx_Zok
  exact hd_c8 (by decide) (by decide) (by decide) (by decide) (by decide) (by decide) (by decide) (by decide)
/-! words, facts, stacks -/
theorem hd_p0 {env : List Int} : sx_P env [] := fun q hq => by cases hq
theorem hd_p1 {env : List Int} {w : Nat} {x lo hi : Int} {fa : sx_Fa} (h : env[w]? = some x) (h1 : lo ≤ x) (h2 : x ≤ hi) (t : sx_P env fa) : sx_P env (([(.ofNat 1, w)], lo, hi) :: fa) := by
  have e : sx_ea env [(.ofNat 1, w)] = some (.ofNat 1 * x + 0) := sx_ea_mk h rfl
  have ex : (Int.ofNat 1 : Int) * x + 0 = x := by rw [Int.add_zero]; exact Int.one_mul x
  rw [ex] at e
  exact t.cons e h1 h2
theorem hd_pf {env : List Int} {l : sx_A} {v lo hi : Int} {fa : sx_Fa} (h : sx_ea env l = some v) (h1 : lo ≤ v) (h2 : v ≤ hi) (t : sx_P env fa) : sx_P env ((l, lo, hi) :: fa) := t.cons h h1 h2
theorem hd_refs {lw : List (Nat × Value)} {o : Nat} (h : (0, Value.ref o) ∈ lw) : sx_Refs lw [(0, .inr (some (false, o)))] := by
  intro q hq
  rw [List.mem_singleton.mp hq]
  exact ⟨_, h, rfl⟩
theorem hd_ref0 {lw : List (Nat × Value)} {o : Nat} {t : sx_L} (h : sx_Refs lw ((0, .inr (some (false, o))) :: t)) : (0, Value.ref o) ∈ lw := by
  obtain ⟨v, h1, h2⟩ := h _ List.mem_cons_self
  have e : v = .ref o := h2
  rw [← e]
  exact h1
theorem hd_src0 {lw : List (Nat × Value)} {σ : am_S} {vs : List Int} (h : sx_Srcs lw σ [] vs) : vs = [] := by
  cases vs with
  | nil => rfl
  | cons => exact h.elim
theorem hd_srcs {lw : List (Nat × Value)} {σ : am_S} {key : Nat} {l : List (Nat ⊕ Nat)} {vs : List Int} (h : sx_Srcs lw σ (.inr key :: l) vs) : ∃ m, vs = (σ.2.1 (key / 65536) (key % 65536)).toInt :: m ∧ sx_Srcs lw σ l m := by
  cases vs with
  | nil => exact h.elim
  | cons v m => exact ⟨m, by rw [show v = _ from h.1], h.2⟩
theorem hd_srcl {lw : List (Nat × Value)} {σ : am_S} {i : Nat} {l : List (Nat ⊕ Nat)} {vs : List Int} (h : sx_Srcs lw σ (.inl i :: l) vs) : ∃ n m, vs = n.toInt :: m ∧ (i, Value.int n) ∈ lw ∧ sx_Srcs lw σ l m := by
  cases vs with
  | nil => exact h.elim
  | cons v m =>
    obtain ⟨⟨n, n1, n2⟩, h2⟩ := h
    exact ⟨n, m, by rw [n2], n1, h2⟩
theorem hd_keys {σ : am_S} {ks : List Int} (h : sx_Keys σ [] ks) : ks = [] := by
  cases ks with
  | nil => rfl
  | cons => exact h.elim
theorem hd_keyc {σ : am_S} {key : Nat} {l : List Nat} {ks : List Int} (h : sx_Keys σ (key :: l) ks) : ∃ m, ks = (σ.2.1 (key / 65536) (key % 65536)).toInt :: m ∧ sx_Keys σ l m := by
  cases ks with
  | nil => exact h.elim
  | cons v m => exact ⟨m, by rw [show v = _ from h.1], h.2⟩
theorem hd_st0 {sw : List Value} {ws : List Int} (h : sg_St [] sw ws) : sw = [] ∧ ws = [] := by
  match sw, ws, h with
  | [], [], _ => exact ⟨rfl, rfl⟩
theorem hd_sti {s : List sg_S} {sw : List Value} {ws : List Int} (h : sg_St (none :: s) sw ws) : ∃ n sw' ws', sw = .int n :: sw' ∧ ws = n.toInt :: ws' ∧ sg_St s sw' ws' := by
  match sw, ws, h with
  | x :: sw, v :: ws, h =>
    obtain ⟨⟨n, n1, n2⟩, h2⟩ := h
    exact ⟨n, sw, ws, by rw [n1], by rw [n2], h2⟩
theorem hd_str {s : List sg_S} {o : Nat} {sw : List Value} {ws : List Int} (h : sg_St (some (false, o) :: s) sw ws) : ∃ sw', sw = .ref o :: sw' ∧ sg_St s sw' ws := by
  match sw, ws, h with
  | x :: sw, ws, h => exact ⟨sw, by rw [show x = .ref o from h.1], h.2⟩
