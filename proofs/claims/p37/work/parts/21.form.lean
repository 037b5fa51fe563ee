/-! A SECOND EXECUTOR, over a memory of which only kinds are known: ints are linear forms over words whose values are a list (env); what is known of them: intervals of linear forms. -/
abbrev sx_A : Type := List (Int × Nat)
abbrev sx_e : Type := Int × sx_A
abbrev sx_Fa : Type := List (sx_A × Int × Int)
def sx_ea (env : List Int) : sx_A → Option Int
  | [] => some 0
  | (a, w) :: l => match env[w]? with
    | some x => (match sx_ea env l with
      | some y => some (a * x + y)
      | none => none)
    | none => none
def sx_ev (env : List Int) (e : sx_e) : Option Int := match sx_ea env e.2 with
  | some y => some (e.1 + y)
  | none => none
def sx_P (env : List Int) (fa : sx_Fa) : Prop := ∀ q ∈ fa, ∃ v, sx_ea env q.1 = some v ∧ q.2.1 ≤ v ∧ v ≤ q.2.2
theorem sx_ea_cons {env : List Int} {a : Int} {w : Nat} {l : sx_A} {v : Int} (h : sx_ea env ((a, w) :: l) = some v) : ∃ x y, env[w]? = some x ∧ sx_ea env l = some y ∧ v = a * x + y := by
  unfold sx_ea at h
  cases hx : env[w]? with
  | none => rw [hx] at h; cases h
  | some x =>
    rw [hx] at h
    cases hy : sx_ea env l with
    | none => rw [hy] at h; cases h
    | some y => rw [hy] at h; cases h; exact ⟨x, y, rfl, rfl, rfl⟩
theorem sx_ea_mk {env : List Int} {a : Int} {w : Nat} {l : sx_A} {x y : Int} (h1 : env[w]? = some x) (h2 : sx_ea env l = some y) : sx_ea env ((a, w) :: l) = some (a * x + y) := by
  rw [sx_ea, h1, h2]
theorem sx_ev_of {env : List Int} {e : sx_e} {y : Int} (h : sx_ea env e.2 = some y) : sx_ev env e = some (e.1 + y) := by unfold sx_ev; rw [h]
theorem sx_ev_to {env : List Int} {e : sx_e} {v : Int} (h : sx_ev env e = some v) : sx_ea env e.2 = some (v - e.1) := by
  unfold sx_ev at h
  cases hy : sx_ea env e.2 with
  | none => rw [hy] at h; cases h
  | some y => rw [hy] at h; cases h; rw [show e.1 + y - e.1 = y by omega]
theorem sx_get_app {env : List Int} {w : Nat} {x : Int} (ext : List Int) (h : env[w]? = some x) : (env ++ ext)[w]? = some x := by
  rw [List.getElem?_append_left (List.getElem?_eq_some_iff.mp h).1]; exact h
theorem sx_ea_app {env : List Int} (ext : List Int) {l : sx_A} : ∀ {v : Int}, sx_ea env l = some v → sx_ea (env ++ ext) l = some v := by
  induction l with
  | nil => intro v h; exact h
  | cons q l ih =>
    obtain ⟨a, w⟩ := q
    intro v h
    obtain ⟨x, y, h1, h2, rfl⟩ := sx_ea_cons h
    exact sx_ea_mk (sx_get_app ext h1) (ih h2)
theorem sx_ev_app {env : List Int} (ext : List Int) {e : sx_e} {v : Int} (h : sx_ev env e = some v) : sx_ev (env ++ ext) e = some v := by
  have h1 := sx_ea_app ext (sx_ev_to h)
  rw [sx_ev_of h1]
  congr 1
  omega
theorem sx_P.app {env : List Int} {fa : sx_Fa} (ext : List Int) (h : sx_P env fa) : sx_P (env ++ ext) fa := by
  intro q hq
  obtain ⟨v, h1, h2⟩ := h q hq
  exact ⟨v, sx_ea_app ext h1, h2⟩
theorem sx_P.cons {env : List Int} {fa : sx_Fa} {l : sx_A} {lo hi v : Int} (h : sx_P env fa) (h1 : sx_ea env l = some v) (h2 : lo ≤ v) (h3 : v ≤ hi) : sx_P env ((l, lo, hi) :: fa) := by
  intro q hq
  rcases List.mem_cons.mp hq with rfl | hq
  · exact ⟨v, h1, h2, h3⟩
  · exact h q hq
/-! numbers as the kernel likes them -/
def sx_ile (a b : Int) : Bool := match a with
  | .ofNat m => (match b with
    | .ofNat n => m.ble n
    | .negSucc _ => false)
  | .negSucc m => (match b with
    | .ofNat _ => true
    | .negSucc n => n.ble m)
theorem sx_ile_iff {a b : Int} : sx_ile a b = true ↔ a ≤ b := by
  cases a with
  | ofNat m =>
    cases b with
    | ofNat n =>
      show m.ble n = true ↔ (m : Int) ≤ (n : Int)
      rw [Nat.ble_eq]
      omega
    | negSucc n =>
      show false = true ↔ (m : Int) ≤ Int.negSucc n
      simp
      omega
  | negSucc m =>
    cases b with
    | ofNat n =>
      show true = true ↔ Int.negSucc m ≤ (n : Int)
      simp
      omega
    | negSucc n =>
      show n.ble m = true ↔ Int.negSucc m ≤ Int.negSucc n
      rw [Nat.ble_eq]
      omega
theorem sx_ile_not {a b : Int} : sx_ile a b = false ↔ b < a := by
  rw [← Bool.not_eq_true, sx_ile_iff]
  omega
def sx_ieq (a b : Int) : Bool := match a with
  | .ofNat m => (match b with
    | .ofNat n => m.beq n
    | .negSucc _ => false)
  | .negSucc m => (match b with
    | .ofNat _ => false
    | .negSucc n => m.beq n)
theorem sx_ieq_iff {a b : Int} : sx_ieq a b = true ↔ a = b := by
  cases a with
  | ofNat m =>
    cases b with
    | ofNat n =>
      show m.beq n = true ↔ _
      rw [Nat.beq_eq]
      exact ⟨fun h => by rw [h], fun h => Int.ofNat.inj h⟩
    | negSucc n => exact ⟨fun h => (by cases h), fun h => (by cases h)⟩
  | negSucc m =>
    cases b with
    | ofNat n => exact ⟨fun h => (by cases h), fun h => (by cases h)⟩
    | negSucc n =>
      show m.beq n = true ↔ _
      rw [Nat.beq_eq]
      exact ⟨fun h => by rw [h], fun h => Int.negSucc.inj h⟩
def sx_isneg (a : Int) : Bool := match a with
  | .ofNat _ => false
  | .negSucc _ => true
theorem sx_isneg_t {a : Int} (h : sx_isneg a = true) : a < 0 := by
  cases a with
  | ofNat m => cases h
  | negSucc m => omega
theorem sx_isneg_f {a : Int} (h : sx_isneg a = false) : 0 ≤ a := by
  cases a with
  | ofNat m => exact Int.natCast_nonneg m
  | negSucc m => cases h
noncomputable def sx_max (a b : Int) (K : Int → Bool) : Bool := bif sx_ile a b then K b else K a
noncomputable def sx_min (a b : Int) (K : Int → Bool) : Bool := bif sx_ile a b then K a else K b
theorem sx_max_ok {a b : Int} {K : Int → Bool} (h : sx_max a b K = true) : ∃ c, (c = a ∨ c = b) ∧ a ≤ c ∧ b ≤ c ∧ K c = true := by
  unfold sx_max at h
  cases hb : sx_ile a b with
  | true => rw [hb] at h; exact ⟨b, Or.inr rfl, sx_ile_iff.mp hb, Int.le_refl _, h⟩
  | false => rw [hb] at h; exact ⟨a, Or.inl rfl, Int.le_refl _, Int.le_of_lt (sx_ile_not.mp hb), h⟩
theorem sx_min_ok {a b : Int} {K : Int → Bool} (h : sx_min a b K = true) : ∃ c, (c = a ∨ c = b) ∧ c ≤ a ∧ c ≤ b ∧ K c = true := by
  unfold sx_min at h
  cases hb : sx_ile a b with
  | true => rw [hb] at h; exact ⟨a, Or.inl rfl, Int.le_refl _, sx_ile_iff.mp hb, h⟩
  | false => rw [hb] at h; exact ⟨b, Or.inr rfl, Int.le_of_lt (sx_ile_not.mp hb), Int.le_refl _, h⟩
/-! sums of forms -/
noncomputable def sx_ins (a : Int) (w : Nat) (l : sx_A) (K : sx_A → Bool) : Bool :=
  List.rec (motive := fun _ => (sx_A → Bool) → Bool) (fun K => K [(a, w)])
    (fun q t ih K => bif q.2.beq w then ex_fI (q.1 + a) (fun s => bif sx_ieq s 0 then K t else K ((s, w) :: t)) else bif w.blt q.2 then K ((a, w) :: q :: t) else ih (fun r => K (q :: r))) l K
theorem sx_ins_ok {a : Int} {w : Nat} {l : sx_A} : ∀ {K : sx_A → Bool}, sx_ins a w l K = true → ∃ r, K r = true ∧ ∀ (env : List Int) (x y : Int), env[w]? = some x → sx_ea env l = some y → sx_ea env r = some (a * x + y) := by
  induction l with
  | nil => intro K h; exact ⟨_, h, fun env x y h1 h2 => sx_ea_mk h1 h2⟩
  | cons q t ih =>
    intro K h
    have h' : (bif q.2.beq w then ex_fI (q.1 + a) (fun s => bif sx_ieq s 0 then K t else K ((s, w) :: t)) else bif w.blt q.2 then K ((a, w) :: q :: t) else sx_ins a w t (fun r => K (q :: r))) = true := h
    cases hb : q.2.beq w with
    | true =>
      rw [hb, cond_true, ex_fI_eq] at h'
      have hw := Nat.eq_of_beq_eq_true hb
      cases hz : sx_ieq (q.1 + a) 0 with
      | true =>
        rw [hz] at h'
        refine ⟨t, h', fun env x y h1 h2 => ?_⟩
        obtain ⟨x', y', e1, e2, e3⟩ := sx_ea_cons (a := q.1) (w := q.2) h2
        rw [hw] at e1
        cases Option.some.inj (h1.symm.trans e1)
        have e4 := sx_ieq_iff.mp hz
        rw [e2, e3, ← Int.add_assoc, ← Int.add_mul, Int.add_comm a, e4, Int.zero_mul, Int.zero_add]
      | false =>
        rw [hz] at h'
        refine ⟨_, h', fun env x y h1 h2 => ?_⟩
        obtain ⟨x', y', e1, e2, e3⟩ := sx_ea_cons (a := q.1) (w := q.2) h2
        rw [hw] at e1
        cases Option.some.inj (h1.symm.trans e1)
        rw [sx_ea_mk h1 e2, e3, ← Int.add_assoc, ← Int.add_mul, Int.add_comm a]
    | false =>
      rw [hb, cond_false] at h'
      cases hl : w.blt q.2 with
      | true => rw [hl] at h'; exact ⟨_, h', fun env x y h1 h2 => sx_ea_mk h1 h2⟩
      | false =>
        rw [hl] at h'
        obtain ⟨r, h3, h4⟩ := ih h'
        refine ⟨_, h3, fun env x y h1 h2 => ?_⟩
        obtain ⟨x', y', e1, e2, e3⟩ := sx_ea_cons (a := q.1) (w := q.2) h2
        rw [show q = (q.1, q.2) from rfl, sx_ea_mk e1 (h4 env x y' h1 e2), e3]
        congr 1
        omega
noncomputable def sx_axpy (k : Int) (l2 l1 : sx_A) (K : sx_A → Bool) : Bool := List.rec (motive := fun _ => sx_A → Bool) K (fun q _ ih l1 => ex_fI (k * q.1) fun c => sx_ins c q.2 l1 ih) l2 l1
theorem sx_axpy_ok {k : Int} {l2 : sx_A} : ∀ {l1 : sx_A} {K : sx_A → Bool}, sx_axpy k l2 l1 K = true → ∃ r, K r = true ∧ ∀ (env : List Int) (x y : Int), sx_ea env l2 = some x → sx_ea env l1 = some y → sx_ea env r = some (k * x + y) := by
  induction l2 with
  | nil =>
    intro l1 K h
    refine ⟨l1, h, fun env x y h1 h2 => ?_⟩
    cases h1
    rw [h2, Int.mul_zero, Int.zero_add]
  | cons q t ih =>
    intro l1 K h
    have h' : (ex_fI (k * q.1) fun c => sx_ins c q.2 l1 (fun l => sx_axpy k t l K)) = true := h
    rw [ex_fI_eq] at h'
    obtain ⟨r1, h1, h2⟩ := sx_ins_ok h'
    obtain ⟨r, h3, h4⟩ := ih h1
    refine ⟨r, h3, fun env x y e1 e2 => ?_⟩
    obtain ⟨x', y', f1, f2, f3⟩ := sx_ea_cons (a := q.1) (w := q.2) e1
    rw [h4 env y' _ f2 (h2 env x' y f1 e2), f3, Int.mul_add, Int.mul_assoc]
    congr 1
    omega
/-- e1 + k e2 -/
noncomputable def sx_lin (k : Int) (e2 e1 : sx_e) (K : sx_e → Bool) : Bool := ex_fI (e1.1 + k * e2.1) fun c => sx_axpy k e2.2 e1.2 fun r => K (c, r)
theorem sx_lin_ok {k : Int} {e2 e1 : sx_e} {K : sx_e → Bool} (h : sx_lin k e2 e1 K = true) : ∃ r, K r = true ∧ ∀ (env : List Int) (x y : Int), sx_ev env e2 = some x → sx_ev env e1 = some y → sx_ev env r = some (k * x + y) := by
  unfold sx_lin at h
  rw [ex_fI_eq] at h
  obtain ⟨r, h1, h2⟩ := sx_axpy_ok h
  refine ⟨_, h1, fun env x y e1' e2' => ?_⟩
  rw [sx_ev_of (e := (_, r)) (h2 env _ _ (sx_ev_to e1') (sx_ev_to e2'))]
  congr 1
  show e1.1 + k * e2.1 + (k * (x - e2.1) + (y - e1.1)) = k * x + y
  rw [Int.mul_sub]
  omega
noncomputable def sx_negA (l : sx_A) (K : sx_A → Bool) : Bool := List.rec (motive := fun _ => (sx_A → Bool) → Bool) (fun K => K []) (fun q _ ih K => ex_fI (-q.1) fun a => ih fun r => K ((a, q.2) :: r)) l K
theorem sx_negA_ok {l : sx_A} : ∀ {K : sx_A → Bool}, sx_negA l K = true → ∃ r, K r = true ∧ ∀ (env : List Int) (x : Int), sx_ea env l = some x → sx_ea env r = some (-x) := by
  induction l with
  | nil => intro K h; exact ⟨[], h, fun env x h1 => by cases h1; rfl⟩
  | cons q t ih =>
    intro K h
    have h' : (ex_fI (-q.1) fun a => sx_negA t fun r => K ((a, q.2) :: r)) = true := h
    rw [ex_fI_eq] at h'
    obtain ⟨r, h1, h2⟩ := ih h'
    refine ⟨_, h1, fun env x e1 => ?_⟩
    obtain ⟨x', y', f1, f2, f3⟩ := sx_ea_cons (a := q.1) (w := q.2) e1
    rw [sx_ea_mk f1 (h2 env y' f2), f3, Int.neg_mul]
    congr 1
    omega
/-! bounds -/
noncomputable def sx_wb (fa : sx_Fa) (w : Nat) (K : Int → Int → Bool) : Bool := List.rec (motive := fun _ => Bool) false (fun q _ ih => match q.1 with
  | [(c, v)] => bif v.beq w && sx_ieq c 1 then K q.2.1 q.2.2 else ih
  | _ => ih) fa
section SX
variable {env : List Int} {fa : sx_Fa}
theorem sx_P.tail {q : sx_A × Int × Int} (h : sx_P env (q :: fa)) : sx_P env fa := fun z hz => h z (List.mem_cons_of_mem _ hz)
theorem sx_wb_ok (hp : sx_P env fa) {w : Nat} {K : Int → Int → Bool} (h : sx_wb fa w K = true) : ∃ lo hi x, env[w]? = some x ∧ lo ≤ x ∧ x ≤ hi ∧ K lo hi = true := by
  induction fa with
  | nil => cases h
  | cons q t ih =>
    have h' : (match q.1 with
      | [(c, v)] => bif v.beq w && sx_ieq c 1 then K q.2.1 q.2.2 else sx_wb t w K
      | _ => sx_wb t w K) = true := h
    split at h'
    · rename_i c v hq
      cases hb : (v.beq w && sx_ieq c 1) with
      | true =>
        rw [hb] at h'
        rw [Bool.and_eq_true] at hb
        have hv := Nat.eq_of_beq_eq_true hb.1
        have hc := sx_ieq_iff.mp hb.2
        obtain ⟨x, e1, e2, e3⟩ := hp q List.mem_cons_self
        rw [hq, hv, hc] at e1
        obtain ⟨x', y', f1, f2, f3⟩ := sx_ea_cons e1
        cases f2
        rw [Int.one_mul, Int.add_zero] at f3
        subst f3
        exact ⟨_, _, _, f1, e2, e3, h'⟩
      | false => rw [hb] at h'; exact ih hp.tail h'
    · exact ih hp.tail h'
noncomputable def sx_ab (fa : sx_Fa) (l : sx_A) (K : Int → Int → Bool) : Bool := List.rec (motive := fun _ => (Int → Int → Bool) → Bool) (fun K => K 0 0) (fun q _ ih K => sx_wb fa q.2 fun lo hi => ih fun lo2 hi2 => bif sx_isneg q.1 then ex_fI (q.1 * hi + lo2) fun a => ex_fI (q.1 * lo + hi2) fun b => K a b else ex_fI (q.1 * lo + lo2) fun a => ex_fI (q.1 * hi + hi2) fun b => K a b) l K
theorem sx_ab_ok (hp : sx_P env fa) {l : sx_A} : ∀ {K : Int → Int → Bool}, sx_ab fa l K = true → ∃ lo hi v, sx_ea env l = some v ∧ lo ≤ v ∧ v ≤ hi ∧ K lo hi = true := by
  induction l with
  | nil => intro K h; exact ⟨0, 0, 0, rfl, Int.le_refl _, Int.le_refl _, h⟩
  | cons q t ih =>
    intro K h
    have h' : (sx_wb fa q.2 fun lo hi => sx_ab fa t fun lo2 hi2 => bif sx_isneg q.1 then ex_fI (q.1 * hi + lo2) fun a => ex_fI (q.1 * lo + hi2) fun b => K a b else ex_fI (q.1 * lo + lo2) fun a => ex_fI (q.1 * hi + hi2) fun b => K a b) = true := h
    obtain ⟨lo, hi, x, h1, h2, h3, h4⟩ := sx_wb_ok hp h'
    obtain ⟨lo2, hi2, y, g1, g2, g3, g4⟩ := ih h4
    have e := sx_ea_mk (a := q.1) h1 g1
    cases hn : sx_isneg q.1 with
    | true =>
      rw [hn, cond_true, ex_fI_eq, ex_fI_eq] at g4
      have hq := sx_isneg_t hn
      refine ⟨_, _, _, e, ?_, ?_, g4⟩
      · have := Int.mul_le_mul_of_nonpos_left (Int.le_of_lt hq) h3
        omega
      · have := Int.mul_le_mul_of_nonpos_left (Int.le_of_lt hq) h2
        omega
    | false =>
      rw [hn, cond_false, ex_fI_eq, ex_fI_eq] at g4
      have hq := sx_isneg_f hn
      refine ⟨_, _, _, e, ?_, ?_, g4⟩
      · have := Int.mul_le_mul_of_nonneg_left h2 hq
        omega
      · have := Int.mul_le_mul_of_nonneg_left h3 hq
        omega
def sx_sameA : sx_A → sx_A → Bool
  | [], [] => true
  | q :: l, r :: m => q.2.beq r.2 && (sx_ieq q.1 r.1 && sx_sameA l m)
  | _, _ => false
theorem sx_sameA_eq {l m : sx_A} (h : sx_sameA l m = true) : l = m := by
  induction l generalizing m with
  | nil =>
    cases m with
    | nil => rfl
    | cons r m => cases h
  | cons q l ih =>
    cases m with
    | nil => cases h
    | cons r m =>
      simp only [sx_sameA, Bool.and_eq_true] at h
      have h1 := Nat.eq_of_beq_eq_true h.1
      have h2 := sx_ieq_iff.mp h.2.1
      rw [ih h.2.2]
      congr 1
      exact Prod.ext h2 h1
noncomputable def sx_find (fa : sx_Fa) (l : sx_A) (K1 : Int → Int → Bool) (K0 : Bool) : Bool := List.rec (motive := fun _ => Bool) K0 (fun q _ ih => bif sx_sameA q.1 l then K1 q.2.1 q.2.2 else ih) fa
theorem sx_find_ok (hp : sx_P env fa) {l : sx_A} {K1 : Int → Int → Bool} {K0 : Bool} (h : sx_find fa l K1 K0 = true) : (∃ lo hi v, sx_ea env l = some v ∧ lo ≤ v ∧ v ≤ hi ∧ K1 lo hi = true) ∨ K0 = true := by
  induction fa with
  | nil => exact Or.inr h
  | cons q t ih =>
    have h' : (bif sx_sameA q.1 l then K1 q.2.1 q.2.2 else sx_find t l K1 K0) = true := h
    cases hs : sx_sameA q.1 l with
    | true =>
      rw [hs] at h'
      obtain ⟨v, e1, e2, e3⟩ := hp q List.mem_cons_self
      rw [sx_sameA_eq hs] at e1
      exact Or.inl ⟨_, _, v, e1, e2, e3, h'⟩
    | false => rw [hs] at h'; exact ih hp.tail h'
noncomputable def sx_pb (fa : sx_Fa) (l : sx_A) (K : Int → Int → Bool) : Bool := match l with
  | q :: r :: t => sx_ab fa (q :: r :: t) fun lo hi => sx_find fa (q :: r :: t) (fun a b => sx_max lo a fun x => sx_min hi b fun y => K x y) (K lo hi)
  | l => sx_ab fa l K
theorem sx_pb_ok (hp : sx_P env fa) {l : sx_A} {K : Int → Int → Bool} (h : sx_pb fa l K = true) : ∃ lo hi v, sx_ea env l = some v ∧ lo ≤ v ∧ v ≤ hi ∧ K lo hi = true := by
  unfold sx_pb at h
  split at h
  · obtain ⟨lo, hi, v, h1, h2, h3, h4⟩ := sx_ab_ok hp h
    rcases sx_find_ok hp h4 with ⟨a, b, v', e1, e2, e3, e4⟩ | e
    · cases Option.some.inj (h1.symm.trans e1)
      obtain ⟨x, d1, -, -, d4⟩ := sx_max_ok e4
      obtain ⟨y, c1, -, -, c4⟩ := sx_min_ok d4
      exact ⟨x, y, v, h1, by omega, by omega, c4⟩
    · exact ⟨lo, hi, v, h1, h2, h3, e⟩
  · exact sx_ab_ok hp h
/-- bounds of a form's linear part -/
noncomputable def sx_lb (fa : sx_Fa) (l : sx_A) (K : Int → Int → Bool) : Bool := match l with
  | [] => K 0 0
  | (a, w) :: t => bif sx_isneg a then sx_negA ((a, w) :: t) fun l' => sx_pb fa l' fun lo hi => ex_fI (-hi) fun x => ex_fI (-lo) fun y => K x y else sx_pb fa ((a, w) :: t) K
theorem sx_neg_some {l : sx_A} {r : sx_A} {v : Int} (h : ∀ (env : List Int) (x : Int), sx_ea env l = some x → sx_ea env r = some (-x)) (hr : sx_ea env r = some v) (hl : ∃ x, sx_ea env l = some x) : sx_ea env l = some (-v) := by
  obtain ⟨x, hx⟩ := hl
  have := h env x hx
  rw [hr] at this
  cases this
  rw [hx, Int.neg_neg]
theorem sx_lb_ok (hp : sx_P env fa) {l : sx_A} (hl : ∃ x, sx_ea env l = some x) {K : Int → Int → Bool} (h : sx_lb fa l K = true) : ∃ lo hi v, sx_ea env l = some v ∧ lo ≤ v ∧ v ≤ hi ∧ K lo hi = true := by
  unfold sx_lb at h
  split at h
  · exact ⟨0, 0, 0, rfl, Int.le_refl _, Int.le_refl _, h⟩
  · rename_i a w t
    cases hn : sx_isneg a with
    | true =>
      rw [hn, cond_true] at h
      obtain ⟨r, h1, h2⟩ := sx_negA_ok h
      obtain ⟨lo, hi, v, e1, e2, e3, e4⟩ := sx_pb_ok hp h1
      rw [ex_fI_eq, ex_fI_eq] at e4
      exact ⟨-hi, -lo, -v, sx_neg_some h2 e1 hl, by omega, by omega, e4⟩
    | false => rw [hn] at h; exact sx_pb_ok hp h
/-- a form is at most 0 -/
noncomputable def sx_hi (fa : sx_Fa) (e : sx_e) : Bool := sx_lb fa e.2 fun _ hi => sx_ile (e.1 + hi) 0
theorem sx_hi_ok (hp : sx_P env fa) {e : sx_e} {v : Int} (hv : sx_ev env e = some v) (h : sx_hi fa e = true) : v ≤ 0 := by
  obtain ⟨lo, hi, x, h1, h2, h3, h4⟩ := sx_lb_ok hp ⟨_, sx_ev_to hv⟩ h
  have := sx_ile_iff.mp h4
  rw [sx_ev_to hv] at h1
  cases h1
  omega
noncomputable def sx_any (fa : sx_Fa) (F : sx_A → Int → Int → Bool) : Bool := List.rec (motive := fun _ => Bool) false (fun q _ ih => match q.1 with
  | a :: b :: t => F (a :: b :: t) q.2.1 q.2.2 || ih
  | _ => ih) fa
theorem sx_any_ok (hp : sx_P env fa) {F : sx_A → Int → Int → Bool} (h : sx_any fa F = true) : ∃ l lo hi v, sx_ea env l = some v ∧ lo ≤ v ∧ v ≤ hi ∧ F l lo hi = true := by
  induction fa with
  | nil => cases h
  | cons q t ih =>
    have h' : (match q.1 with
      | a :: b :: u => F (a :: b :: u) q.2.1 q.2.2 || sx_any t F
      | _ => sx_any t F) = true := h
    split at h'
    · rename_i a b u hq
      rcases (Bool.or_eq_true _ _).mp h' with h1 | h1
      · obtain ⟨v, e1, e2, e3⟩ := hp q List.mem_cons_self
        rw [hq] at e1
        exact ⟨_, _, _, v, e1, e2, e3, h1⟩
      · exact ih hp.tail h1
    · exact ih hp.tail h'
noncomputable def sx_le0 (n : Nat) (fa : sx_Fa) (e : sx_e) : Bool := Nat.rec (motive := fun _ => sx_e → Bool) (fun e => sx_hi fa e) (fun _ ih e => sx_hi fa e || sx_any fa fun l lo hi => (sx_axpy (-1) l e.2 fun r => ex_fI (e.1 + hi) fun c => ih (c, r)) || (sx_axpy 1 l e.2 fun r => ex_fI (e.1 - lo) fun c => ih (c, r))) n e
theorem sx_le0_ok (hp : sx_P env fa) (n : Nat) : ∀ {e : sx_e} {v : Int}, sx_ev env e = some v → sx_le0 n fa e = true → v ≤ 0 := by
  induction n with
  | zero => intro e v hv h; exact sx_hi_ok hp hv h
  | succ n ih =>
    intro e v hv h
    have h' : (sx_hi fa e || sx_any fa fun l lo hi => (sx_axpy (-1) l e.2 fun r => ex_fI (e.1 + hi) fun c => sx_le0 n fa (c, r)) || (sx_axpy 1 l e.2 fun r => ex_fI (e.1 - lo) fun c => sx_le0 n fa (c, r))) = true := h
    rcases (Bool.or_eq_true _ _).mp h' with h1 | h1
    · exact sx_hi_ok hp hv h1
    · obtain ⟨l, lo, hi, x, e1, e2, e3, e4⟩ := sx_any_ok hp h1
      rcases (Bool.or_eq_true _ _).mp e4 with h2 | h2
      · obtain ⟨r, h3, h4⟩ := sx_axpy_ok h2
        rw [ex_fI_eq] at h3
        have := ih (sx_ev_of (e := (e.1 + hi, r)) (h4 env _ _ e1 (sx_ev_to hv))) h3
        simp only at this
        omega
      · obtain ⟨r, h3, h4⟩ := sx_axpy_ok h2
        rw [ex_fI_eq] at h3
        have := ih (sx_ev_of (e := (e.1 - lo, r)) (h4 env _ _ e1 (sx_ev_to hv))) h3
        simp only at this
        omega
/-- the last word of a form -/
noncomputable def sx_lastA (l : sx_A) (K : Int → Nat → Bool) : Bool := List.rec (motive := fun _ => Bool) false (fun q t ih => match t with
  | [] => K q.1 q.2
  | _ :: _ => ih) l
theorem sx_lastA_ok {K : Int → Nat → Bool} {l : sx_A} (h : sx_lastA l K = true) : ∃ a w, K a w = true := by
  induction l with
  | nil => cases h
  | cons q t ih =>
    cases t with
    | nil => exact ⟨q.1, q.2, h⟩
    | cons r t => exact ih h
/-- a form is at most 0: its last word goes by a fact, and so on -/
noncomputable def sx_chain (n : Nat) (fa : sx_Fa) (e : sx_e) : Bool := Nat.rec (motive := fun _ => sx_e → Bool) (fun e => sx_hi fa e) (fun _ ih e => sx_hi fa e || sx_lastA e.2 fun a w => sx_any fa fun l lo hi => sx_lastA l fun b v => bif v.beq w && sx_ieq (a % b) 0 then ex_fI (a / b) fun k => sx_axpy (-k) l e.2 fun r => (bif sx_isneg k then ex_fI (e.1 + k * lo) fun c => ih (c, r) else ex_fI (e.1 + k * hi) fun c => ih (c, r)) else false) n e
theorem sx_chain_ok (hp : sx_P env fa) (n : Nat) : ∀ {e : sx_e} {v : Int}, sx_ev env e = some v → sx_chain n fa e = true → v ≤ 0 := by
  induction n with
  | zero => intro e v hv h; exact sx_hi_ok hp hv h
  | succ n ih =>
    intro e v hv h
    have h' : (sx_hi fa e || sx_lastA e.2 fun a w => sx_any fa fun l lo hi => sx_lastA l fun b v => bif v.beq w && sx_ieq (a % b) 0 then ex_fI (a / b) fun k => sx_axpy (-k) l e.2 fun r => (bif sx_isneg k then ex_fI (e.1 + k * lo) fun c => sx_chain n fa (c, r) else ex_fI (e.1 + k * hi) fun c => sx_chain n fa (c, r)) else false) = true := h
    rcases (Bool.or_eq_true _ _).mp h' with h1 | h1
    · exact sx_hi_ok hp hv h1
    · obtain ⟨a, w, h2⟩ := sx_lastA_ok h1
      obtain ⟨l, lo, hi, x, e1, e2, e3, e4⟩ := sx_any_ok hp h2
      obtain ⟨b, u, h3⟩ := sx_lastA_ok e4
      cases hb : (u.beq w && sx_ieq (a % b) 0) with
      | false => rw [hb] at h3; cases h3
      | true =>
        rw [hb, cond_true, ex_fI_eq] at h3
        obtain ⟨r, h4, h5⟩ := sx_axpy_ok h3
        have h6 := h5 env _ _ e1 (sx_ev_to hv)
        cases hn : sx_isneg (a / b) with
        | true =>
          rw [hn, cond_true, ex_fI_eq] at h4
          have h7 := ih (sx_ev_of (e := (e.1 + a / b * lo, r)) h6) h4
          have h8 : a / b * x ≤ a / b * lo := Int.mul_le_mul_of_nonpos_left (Int.le_of_lt (sx_isneg_t hn)) e2
          simp only [Int.neg_mul] at h7
          omega
        | false =>
          rw [hn, cond_false, ex_fI_eq] at h4
          have h7 := ih (sx_ev_of (e := (e.1 + a / b * hi, r)) h6) h4
          have h8 : a / b * x ≤ a / b * hi := Int.mul_le_mul_of_nonneg_left e3 (sx_isneg_f hn)
          simp only [Int.neg_mul] at h7
          omega
noncomputable def sx_leq0 (fa : sx_Fa) (e : sx_e) : Bool := sx_le0 2 fa e || sx_chain 8 fa e
/-- one that is surely above 0 isn't looked for long -/
noncomputable def sx_leq (fa : sx_Fa) (e : sx_e) : Bool := bif (sx_lb fa e.2 fun lo _ => ex_fI (e.1 + lo) fun c => sx_ile 1 c) then false else sx_leq0 fa e
theorem sx_leq0_ok (hp : sx_P env fa) {e : sx_e} {v : Int} (hv : sx_ev env e = some v) (h : sx_leq0 fa e = true) : v ≤ 0 := by
  rcases (Bool.or_eq_true _ _).mp h with h1 | h1
  · exact sx_le0_ok hp 2 hv h1
  · exact sx_chain_ok hp 8 hv h1
theorem sx_leq_ok (hp : sx_P env fa) {e : sx_e} {v : Int} (hv : sx_ev env e = some v) (h : sx_leq fa e = true) : v ≤ 0 := by
  unfold sx_leq at h
  cases hb : (sx_lb fa e.2 fun lo _ => ex_fI (e.1 + lo) fun c => sx_ile 1 c) with
  | true => rw [hb] at h; cases h
  | false => rw [hb] at h; exact sx_leq0_ok hp hv h
/-- what a word lies between is known more tightly; if that can't be, there is nothing to show -/
noncomputable def sx_tight (fa : sx_Fa) (w : Nat) (lo hi : Int) (K : sx_Fa → Bool) : Bool := sx_wb fa w fun p q => bif sx_ile lo p && sx_ile q hi then K fa else ex_fI lo fun lo => ex_fI hi fun hi => sx_max lo p fun x => sx_min hi q fun y => bif sx_ile x y then K (([(.ofNat 1, w)], x, y) :: fa) else true
theorem sx_one {env : List Int} {w : Nat} {v : Int} (h : env[w]? = some v) : sx_ea env [(.ofNat 1, w)] = some v := by
  rw [sx_ea_mk h rfl]
  congr 1
  show 1 * v + 0 = v
  omega
theorem sx_tight_ok (hp : sx_P env fa) {w : Nat} {lo hi v : Int} (hv : env[w]? = some v) (h1 : lo ≤ v) (h2 : v ≤ hi) {K : sx_Fa → Bool} (h : sx_tight fa w lo hi K = true) : ∃ fa', sx_P env fa' ∧ K fa' = true := by
  obtain ⟨p, q, v', e1, e2, e3, e4⟩ := sx_wb_ok hp h
  cases Option.some.inj (hv.symm.trans e1)
  cases hb : (sx_ile lo p && sx_ile q hi) with
  | true => rw [hb] at e4; exact ⟨fa, hp, e4⟩
  | false =>
    rw [hb, cond_false, ex_fI_eq, ex_fI_eq] at e4
    obtain ⟨x, d1, -, -, d4⟩ := sx_max_ok e4
    obtain ⟨y, c1, -, -, c4⟩ := sx_min_ok d4
    rw [sx_ile_iff.mpr (show x ≤ y by omega)] at c4
    exact ⟨_, hp.cons (sx_one hv) (by omega) (by omega), c4⟩
/-- each word of a fact, out of the others -/
noncomputable def sx_prop (l0 : sx_A) (x y : Int) (ts : sx_A) (fa : sx_Fa) (K : sx_Fa → Bool) : Bool := List.rec (motive := fun _ => sx_Fa → Bool) K (fun q _ ih fa => bif sx_ieq q.1 1 then (sx_ins (-1) q.2 l0 fun r => sx_ab fa r fun lo hi => sx_tight fa q.2 (x - hi) (y - lo) ih) else bif sx_ieq q.1 (-1) then (sx_ins 1 q.2 l0 fun r => sx_ab fa r fun lo hi => sx_tight fa q.2 (lo - y) (hi - x) ih) else ih fa) ts fa
theorem sx_prop_ok {l0 : sx_A} {x y v : Int} (hv : sx_ea env l0 = some v) (h1 : x ≤ v) (h2 : v ≤ y) : ∀ {ts : sx_A} {fa : sx_Fa} {K : sx_Fa → Bool}, sx_P env fa → (∃ u, sx_ea env ts = some u) → sx_prop l0 x y ts fa K = true → ∃ fa', sx_P env fa' ∧ K fa' = true := by
  intro ts
  induction ts with
  | nil => intro fa K hp _ h; exact ⟨fa, hp, h⟩
  | cons q t ih =>
    intro fa K hp hu h
    obtain ⟨u, hu⟩ := hu
    obtain ⟨xw, ut, e1, e2, -⟩ := sx_ea_cons (a := q.1) (w := q.2) hu
    have h' : (bif sx_ieq q.1 1 then (sx_ins (-1) q.2 l0 fun r => sx_ab fa r fun lo hi => sx_tight fa q.2 (x - hi) (y - lo) fun fa => sx_prop l0 x y t fa K) else bif sx_ieq q.1 (-1) then (sx_ins 1 q.2 l0 fun r => sx_ab fa r fun lo hi => sx_tight fa q.2 (lo - y) (hi - x) fun fa => sx_prop l0 x y t fa K) else sx_prop l0 x y t fa K) = true := h
    cases hb : sx_ieq q.1 1 with
    | true =>
      rw [hb, cond_true] at h'
      obtain ⟨r, g1, g2⟩ := sx_ins_ok h'
      obtain ⟨lo, hi, z, z1, z2, z3, z4⟩ := sx_ab_ok hp g1
      rw [g2 env xw v e1 hv] at z1
      cases z1
      obtain ⟨fa', k1, k2⟩ := sx_tight_ok hp e1 (by omega) (by omega) z4
      exact ih k1 ⟨ut, e2⟩ k2
    | false =>
      rw [hb, cond_false] at h'
      cases hc : sx_ieq q.1 (-1) with
      | true =>
        rw [hc, cond_true] at h'
        obtain ⟨r, g1, g2⟩ := sx_ins_ok h'
        obtain ⟨lo, hi, z, z1, z2, z3, z4⟩ := sx_ab_ok hp g1
        rw [g2 env xw v e1 hv] at z1
        cases z1
        obtain ⟨fa', k1, k2⟩ := sx_tight_ok hp e1 (by omega) (by omega) z4
        exact ih k1 ⟨ut, e2⟩ k2
      | false =>
        rw [hc] at h'
        exact ih hp ⟨ut, e2⟩ h'
noncomputable def sx_has (w : Nat) (l : sx_A) : Bool := List.rec (motive := fun _ => Bool) false (fun q _ ih => q.2.beq w || ih) l
/-- all facts of more words that tell of a word, once more -/
noncomputable def sx_repr (w : Nat) (all : sx_Fa) (fa : sx_Fa) (K : sx_Fa → Bool) : Bool := List.rec (motive := fun _ => sx_Fa → Bool) K (fun q _ ih fa => match q.1 with
  | a :: b :: t => bif sx_has w (a :: b :: t) then sx_prop (a :: b :: t) q.2.1 q.2.2 (a :: b :: t) fa ih else ih fa
  | _ => ih fa) all fa
theorem sx_repr_ok {w : Nat} : ∀ {all : sx_Fa} {fa : sx_Fa} {K : sx_Fa → Bool}, sx_P env all → sx_P env fa → sx_repr w all fa K = true → ∃ fa', sx_P env fa' ∧ K fa' = true := by
  intro all
  induction all with
  | nil => intro fa K _ hp h; exact ⟨fa, hp, h⟩
  | cons q t ih =>
    intro fa K ha hp h
    have h' : (match q.1 with
      | a :: b :: u => bif sx_has w (a :: b :: u) then sx_prop (a :: b :: u) q.2.1 q.2.2 (a :: b :: u) fa (fun fa => sx_repr w t fa K) else sx_repr w t fa K
      | _ => sx_repr w t fa K) = true := h
    split at h'
    · rename_i a b u hq
      cases hb : sx_has w (a :: b :: u) with
      | true =>
        rw [hb, cond_true] at h'
        obtain ⟨v, v1, v2, v3⟩ := ha q List.mem_cons_self
        rw [hq] at v1
        obtain ⟨fa', k1, k2⟩ := sx_prop_ok v1 v2 v3 hp ⟨v, v1⟩ h'
        exact ih ha.tail k1 k2
      | false => rw [hb] at h'; exact ih ha.tail hp h'
    · exact ih ha.tail hp h'
noncomputable def sx_after (fa : sx_Fa) (l : sx_A) (x y : Int) (K : sx_Fa → Bool) : Bool := match l with
  | [(a, w)] => bif sx_ieq a 1 then sx_repr w fa (([(a, w)], x, y) :: fa) K else K (([(a, w)], x, y) :: fa)
  | l => sx_prop l x y l ((l, x, y) :: fa) K
theorem sx_after_ok (hp : sx_P env fa) {l : sx_A} {x y v : Int} (hv : sx_ea env l = some v) (h1 : x ≤ v) (h2 : v ≤ y) {K : sx_Fa → Bool} (h : sx_after fa l x y K = true) : ∃ fa', sx_P env fa' ∧ K fa' = true := by
  unfold sx_after at h
  split at h
  · rename_i a w
    cases hb : sx_ieq a 1 with
    | true => rw [hb] at h; exact sx_repr_ok hp (hp.cons hv h1 h2) h
    | false => rw [hb] at h; exact ⟨_, hp.cons hv h1 h2, h⟩
  · exact sx_prop_ok hv h1 h2 (hp.cons hv h1 h2) ⟨v, hv⟩ h
/-- what a linear part lies between is known anew; if that can't be, there is nothing to show -/
noncomputable def sx_fact1 (fa : sx_Fa) (l : sx_A) (lo hi : Int) (K : sx_Fa → Bool) : Bool := sx_pb fa l fun a b => sx_max lo a fun x => sx_min hi b fun y => bif sx_ile x y then sx_after fa l x y K else true
theorem sx_fact1_ok (hp : sx_P env fa) {l : sx_A} {lo hi v : Int} (hv : sx_ea env l = some v) (h1 : lo ≤ v) (h2 : v ≤ hi) {K : sx_Fa → Bool} (h : sx_fact1 fa l lo hi K = true) : ∃ fa', sx_P env fa' ∧ K fa' = true := by
  obtain ⟨a, b, v', e1, e2, e3, e4⟩ := sx_pb_ok hp h
  cases Option.some.inj (hv.symm.trans e1)
  obtain ⟨x, d1, -, -, d4⟩ := sx_max_ok e4
  obtain ⟨y, c1, -, -, c4⟩ := sx_min_ok d4
  have hxy : x ≤ v := by omega
  have hyx : v ≤ y := by omega
  rw [sx_ile_iff.mpr (show x ≤ y by omega)] at c4
  exact sx_after_ok hp hv hxy hyx c4
theorem sx_divB {a x lo hi : Int} (ha : 0 < a) (h1 : lo ≤ a * x) (h2 : a * x ≤ hi) : -((-lo) / a) ≤ x ∧ x ≤ hi / a := by
  refine ⟨?_, Int.le_ediv_of_mul_le ha (by rw [Int.mul_comm]; exact h2)⟩
  have h3 : -x ≤ (-lo) / a := Int.le_ediv_of_mul_le ha (by rw [Int.neg_mul, Int.mul_comm]; omega)
  omega
/-- the first coefficient is positive; of one word alone: what is known of the word itself -/
noncomputable def sx_factp (fa : sx_Fa) (l : sx_A) (lo hi : Int) (K : sx_Fa → Bool) : Bool := match l with
  | [(a, w)] => bif sx_ile a 1 then sx_fact1 fa [(a, w)] lo hi K else ex_fI (-((-lo) / a)) fun x => ex_fI (hi / a) fun y => sx_fact1 fa [(.ofNat 1, w)] x y K
  | l => sx_fact1 fa l lo hi K
theorem sx_factp_ok (hp : sx_P env fa) {l : sx_A} {lo hi v : Int} (hv : sx_ea env l = some v) (h1 : lo ≤ v) (h2 : v ≤ hi) {K : sx_Fa → Bool} (h : sx_factp fa l lo hi K = true) : ∃ fa', sx_P env fa' ∧ K fa' = true := by
  unfold sx_factp at h
  split at h
  · rename_i a w
    cases hb : sx_ile a 1 with
    | true => rw [hb] at h; exact sx_fact1_ok hp hv h1 h2 h
    | false =>
      rw [hb, cond_false, ex_fI_eq, ex_fI_eq] at h
      have ha := sx_ile_not.mp hb
      obtain ⟨x, y, e1, e2, e3⟩ := sx_ea_cons hv
      cases e2
      rw [Int.add_zero] at e3
      subst e3
      have := sx_divB (a := a) (x := x) (by omega) h1 h2
      refine sx_fact1_ok hp (l := [(.ofNat 1, w)]) (v := x) ?_ this.1 this.2 h
      rw [sx_ea_mk e1 rfl]
      congr 1
      show 1 * x + 0 = x
      omega
  · exact sx_fact1_ok hp hv h1 h2 h
noncomputable def sx_fact (fa : sx_Fa) (l : sx_A) (lo hi : Int) (K : sx_Fa → Bool) : Bool := match l with
  | [] => bif sx_ile lo 0 && sx_ile 0 hi then K fa else true
  | (a, w) :: t => bif sx_isneg a then sx_negA ((a, w) :: t) fun l' => ex_fI (-hi) fun x => ex_fI (-lo) fun y => sx_factp fa l' x y K else ex_fI lo fun x => ex_fI hi fun y => sx_factp fa ((a, w) :: t) x y K
theorem sx_fact_ok (hp : sx_P env fa) {l : sx_A} {lo hi v : Int} (hv : sx_ea env l = some v) (h1 : lo ≤ v) (h2 : v ≤ hi) {K : sx_Fa → Bool} (h : sx_fact fa l lo hi K = true) : ∃ fa', sx_P env fa' ∧ K fa' = true := by
  unfold sx_fact at h
  split at h
  · cases hv
    rw [sx_ile_iff.mpr h1, sx_ile_iff.mpr h2] at h
    exact ⟨fa, hp, h⟩
  · rename_i a w t
    cases hn : sx_isneg a with
    | true =>
      rw [hn, cond_true] at h
      obtain ⟨r, h3, h4⟩ := sx_negA_ok h
      rw [ex_fI_eq, ex_fI_eq] at h3
      exact sx_factp_ok hp (h4 env _ hv) (by omega) (by omega) h3
    | false => rw [hn, cond_false, ex_fI_eq, ex_fI_eq] at h; exact sx_factp_ok hp hv h1 h2 h
/-! forks -/
noncomputable def sx_lt0 (fa : sx_Fa) (d : sx_e) (Kt Kf : sx_Fa → Bool) : Bool := sx_lb fa d.2 fun lo hi => bif sx_ile (d.1 + hi + 1) 0 then Kt fa else bif sx_ile 0 (d.1 + lo) then Kf fa else
  ex_fI (d.1 + 1) fun d1 => bif sx_le0 1 fa (d1, d.2) then Kt fa else sx_negA d.2 fun m => ex_fI (-d.1) fun c => bif sx_le0 1 fa (c, m) then Kf fa else sx_fact fa d.2 lo (-1 - d.1) Kt && sx_fact fa d.2 (-d.1) hi Kf
theorem sx_lt0_ok (hp : sx_P env fa) {d : sx_e} {v : Int} (hv : sx_ev env d = some v) {Kt Kf : sx_Fa → Bool} (h : sx_lt0 fa d Kt Kf = true) : ∃ fa', sx_P env fa' ∧ ((v < 0 ∧ Kt fa' = true) ∨ (¬ v < 0 ∧ Kf fa' = true)) := by
  have hx := sx_ev_to hv
  obtain ⟨lo, hi, x, h1, h2, h3, h4⟩ := sx_lb_ok hp ⟨_, hx⟩ h
  rw [hx] at h1
  cases h1
  cases e1 : sx_ile (d.1 + hi + 1) 0 with
  | true =>
    rw [e1] at h4
    have := sx_ile_iff.mp e1
    exact ⟨fa, hp, Or.inl ⟨by omega, h4⟩⟩
  | false =>
    rw [e1, cond_false] at h4
    cases e2 : sx_ile 0 (d.1 + lo) with
    | true =>
      rw [e2] at h4
      have := sx_ile_iff.mp e2
      exact ⟨fa, hp, Or.inr ⟨by omega, h4⟩⟩
    | false =>
      rw [e2, cond_false, ex_fI_eq] at h4
      cases e3 : sx_le0 1 fa (d.1 + 1, d.2) with
      | true =>
        rw [e3] at h4
        have := sx_le0_ok hp 1 (e := (d.1 + 1, d.2)) (sx_ev_of (e := (d.1 + 1, d.2)) hx) e3
        simp only at this
        exact ⟨fa, hp, Or.inl ⟨by omega, h4⟩⟩
      | false =>
        rw [e3, cond_false] at h4
        obtain ⟨m, h5, h6⟩ := sx_negA_ok h4
        rw [ex_fI_eq] at h5
        cases e4 : sx_le0 1 fa (-d.1, m) with
        | true =>
          rw [e4] at h5
          have := sx_le0_ok hp 1 (e := (-d.1, m)) (sx_ev_of (e := (-d.1, m)) (h6 env _ hx)) e4
          simp only at this
          exact ⟨fa, hp, Or.inr ⟨by omega, h5⟩⟩
        | false =>
          rw [e4, cond_false, Bool.and_eq_true] at h5
          by_cases hlt : v < 0
          · obtain ⟨fa', a, b⟩ := sx_fact_ok hp hx h2 (by omega) h5.1
            exact ⟨fa', a, Or.inl ⟨hlt, b⟩⟩
          · obtain ⟨fa', a, b⟩ := sx_fact_ok hp hx (by omega) h3 h5.2
            exact ⟨fa', a, Or.inr ⟨hlt, b⟩⟩
noncomputable def sx_eq0 (fa : sx_Fa) (d : sx_e) (Kt Kf : sx_Fa → Bool) : Bool := sx_lb fa d.2 fun lo hi => bif sx_ile (d.1 + hi + 1) 0 then Kf fa else bif sx_ile 1 (d.1 + lo) then Kf fa else bif sx_ieq lo hi then Kt fa else
  sx_fact fa d.2 (-d.1) (-d.1) Kt && (bif sx_ieq (d.1 + lo) 0 then sx_fact fa d.2 (lo + 1) hi Kf else bif sx_ieq (d.1 + hi) 0 then sx_fact fa d.2 lo (hi - 1) Kf else bif (sx_ile 3 (hi - lo) && sx_ile (hi - lo) 10) || ((sx_ile 1000 (hi - lo) && sx_ile (hi - lo) 5000) || sx_ile 2147483648 (hi - lo)) then sx_fact fa d.2 lo (-1 - d.1) Kf && sx_fact fa d.2 (1 - d.1) hi Kf else Kf fa)
theorem sx_eq0_ok (hp : sx_P env fa) {d : sx_e} {v : Int} (hv : sx_ev env d = some v) {Kt Kf : sx_Fa → Bool} (h : sx_eq0 fa d Kt Kf = true) : ∃ fa', sx_P env fa' ∧ ((v = 0 ∧ Kt fa' = true) ∨ (¬ v = 0 ∧ Kf fa' = true)) := by
  have hx := sx_ev_to hv
  obtain ⟨lo, hi, x, h1, h2, h3, h4⟩ := sx_lb_ok hp ⟨_, hx⟩ h
  rw [hx] at h1
  cases h1
  cases e1 : sx_ile (d.1 + hi + 1) 0 with
  | true =>
    rw [e1] at h4
    have := sx_ile_iff.mp e1
    exact ⟨fa, hp, Or.inr ⟨by omega, h4⟩⟩
  | false =>
    rw [e1, cond_false] at h4
    have e1' := sx_ile_not.mp e1
    cases e2 : sx_ile 1 (d.1 + lo) with
    | true =>
      rw [e2] at h4
      have := sx_ile_iff.mp e2
      exact ⟨fa, hp, Or.inr ⟨by omega, h4⟩⟩
    | false =>
      rw [e2, cond_false] at h4
      have e2' := sx_ile_not.mp e2
      cases e3 : sx_ieq lo hi with
      | true =>
        rw [e3] at h4
        have := sx_ieq_iff.mp e3
        exact ⟨fa, hp, Or.inl ⟨by omega, h4⟩⟩
      | false =>
        rw [e3, cond_false, Bool.and_eq_true] at h4
        by_cases hz : v = 0
        · obtain ⟨fa', a, b⟩ := sx_fact_ok hp hx (by omega) (by omega) h4.1
          exact ⟨fa', a, Or.inl ⟨hz, b⟩⟩
        · have h5 := h4.2
          cases e4 : sx_ieq (d.1 + lo) 0 with
          | true =>
            rw [e4] at h5
            have := sx_ieq_iff.mp e4
            obtain ⟨fa', a, b⟩ := sx_fact_ok hp hx (by omega) h3 h5
            exact ⟨fa', a, Or.inr ⟨hz, b⟩⟩
          | false =>
            rw [e4, cond_false] at h5
            cases e5 : sx_ieq (d.1 + hi) 0 with
            | true =>
              rw [e5] at h5
              have := sx_ieq_iff.mp e5
              obtain ⟨fa', a, b⟩ := sx_fact_ok hp hx h2 (by omega) h5
              exact ⟨fa', a, Or.inr ⟨hz, b⟩⟩
            | false =>
              rw [e5, cond_false] at h5
              cases e6 : ((sx_ile 3 (hi - lo) && sx_ile (hi - lo) 10) || ((sx_ile 1000 (hi - lo) && sx_ile (hi - lo) 5000) || sx_ile 2147483648 (hi - lo))) with
              | false => rw [e6] at h5; exact ⟨fa, hp, Or.inr ⟨hz, h5⟩⟩
              | true =>
                rw [e6, cond_true, Bool.and_eq_true] at h5
                by_cases hlt : v < 0
                · obtain ⟨fa', a, b⟩ := sx_fact_ok hp hx h2 (by omega) h5.1
                  exact ⟨fa', a, Or.inr ⟨hz, b⟩⟩
                · obtain ⟨fa', a, b⟩ := sx_fact_ok hp hx (by omega) h3 h5.2
                  exact ⟨fa', a, Or.inr ⟨hz, b⟩⟩
noncomputable def sx_cmp0 (fa : sx_Fa) (r : Nat) (d : sx_e) (Kt Kf : sx_Fa → Bool) : Bool := match r with
  | 0 => sx_eq0 fa d Kt Kf
  | 1 => sx_eq0 fa d Kf Kt
  | 2 => sx_lt0 fa d Kt Kf
  | 3 => sx_lt0 fa d Kf Kt
  | 4 => sx_lin (-1) d (0, []) fun d => sx_lt0 fa d Kt Kf
  | _ => sx_lin (-1) d (0, []) fun d => sx_lt0 fa d Kf Kt
theorem sx_cmp0_ok (hp : sx_P env fa) {r : Nat} {d : sx_e} {x y : Int} (hv : sx_ev env d = some (x - y)) {Kt Kf : sx_Fa → Bool} (h : sx_cmp0 fa r d Kt Kf = true) : ∃ fa', sx_P env fa' ∧ ((ex_rel r x y ∧ Kt fa' = true) ∨ (¬ ex_rel r x y ∧ Kf fa' = true)) := by
  unfold sx_cmp0 at h
  split at h
  · obtain ⟨fa', a, b | b⟩ := sx_eq0_ok hp hv h
    · exact ⟨fa', a, Or.inl ⟨by simp only [ex_rel]; omega, b.2⟩⟩
    · exact ⟨fa', a, Or.inr ⟨by simp only [ex_rel]; omega, b.2⟩⟩
  · obtain ⟨fa', a, b | b⟩ := sx_eq0_ok hp hv h
    · exact ⟨fa', a, Or.inr ⟨by simp only [ex_rel]; omega, b.2⟩⟩
    · exact ⟨fa', a, Or.inl ⟨by simp only [ex_rel]; omega, b.2⟩⟩
  · obtain ⟨fa', a, b | b⟩ := sx_lt0_ok hp hv h
    · exact ⟨fa', a, Or.inl ⟨by simp only [ex_rel]; omega, b.2⟩⟩
    · exact ⟨fa', a, Or.inr ⟨by simp only [ex_rel]; omega, b.2⟩⟩
  · obtain ⟨fa', a, b | b⟩ := sx_lt0_ok hp hv h
    · exact ⟨fa', a, Or.inr ⟨by simp only [ex_rel]; omega, b.2⟩⟩
    · exact ⟨fa', a, Or.inl ⟨by simp only [ex_rel]; omega, b.2⟩⟩
  · obtain ⟨d', h1, h2⟩ := sx_lin_ok h
    obtain ⟨fa', a, b | b⟩ := sx_lt0_ok hp (h2 env _ 0 hv rfl) h1
    · exact ⟨fa', a, Or.inl ⟨by simp only [ex_rel]; omega, b.2⟩⟩
    · exact ⟨fa', a, Or.inr ⟨by simp only [ex_rel]; omega, b.2⟩⟩
  · rename_i h0 h1 h2 h3 h4
    obtain ⟨d', h5, h6⟩ := sx_lin_ok h
    obtain ⟨fa', a, b⟩ := sx_lt0_ok hp (h6 env _ 0 hv rfl) h5
    refine ⟨fa', a, ?_⟩
    match r, h0, h1, h2, h3, h4 with
    | r + 5, _, _, _, _, _ =>
      rcases b with b | b
      · exact Or.inr ⟨by simp only [ex_rel]; omega, b.2⟩
      · exact Or.inl ⟨by simp only [ex_rel]; omega, b.2⟩
noncomputable def sx_cmp (fa : sx_Fa) (r : Nat) (x y : sx_e) (Kt Kf : sx_Fa → Bool) : Bool := sx_lin (-1) y x fun d => sx_cmp0 fa r d Kt Kf
theorem sx_cmp_ok (hp : sx_P env fa) {r : Nat} {e1 e2 : sx_e} {x y : Int} (hx : sx_ev env e1 = some x) (hy : sx_ev env e2 = some y) {Kt Kf : sx_Fa → Bool} (h : sx_cmp fa r e1 e2 Kt Kf = true) : ∃ fa', sx_P env fa' ∧ ((ex_rel r x y ∧ Kt fa' = true) ∨ (¬ ex_rel r x y ∧ Kf fa' = true)) := by
  obtain ⟨d, h1, h2⟩ := sx_lin_ok h
  refine sx_cmp0_ok hp ?_ h1
  rw [h2 env _ _ hy hx]
  congr 1
  omega
end SX
