/-! what the second executor's states mean -/
def sx_val (env : List Int) (v : sx_V) (x : Value) : Prop := match v with
  | .inl e => ∃ n : Int32, x = .int n ∧ sx_ev env e = some n.toInt
  | .inr none => ∃ j : Int64, x = .long j
  | .inr (some (false, o)) => x = .ref o
  | .inr (some (true, k)) => x = .retAddr k
def sx_LV (env : List Int) : sx_L → List (Nat × Value) → Prop
  | [], [] => True
  | q :: l, x :: m => q.1 = x.1 ∧ sx_val env q.2 x.2 ∧ sx_LV env l m
  | _, _ => False
def sx_SV (env : List Int) : List sx_V → List Value → Prop
  | [], [] => True
  | v :: l, x :: m => sx_val env v x ∧ sx_SV env l m
  | _, _ => False
theorem sx_val.app {env : List Int} (ext : List Int) {v : sx_V} {x : Value} (h : sx_val env v x) : sx_val (env ++ ext) v x := by
  match v, h with
  | .inl e, ⟨n, h1, h2⟩ => exact ⟨n, h1, sx_ev_app ext h2⟩
  | .inr none, h => exact h
  | .inr (some (false, o)), h => exact h
  | .inr (some (true, k)), h => exact h
theorem sx_LV.app {env : List Int} (ext : List Int) : ∀ {l : sx_L} {m : List (Nat × Value)}, sx_LV env l m → sx_LV (env ++ ext) l m
  | [], [], _ => trivial
  | _ :: _, _ :: _, ⟨h1, h2, h3⟩ => ⟨h1, h2.app ext, sx_LV.app ext h3⟩
  | [], _ :: _, h => h.elim
  | _ :: _, [], h => h.elim
theorem sx_SV.app {env : List Int} (ext : List Int) : ∀ {l : List sx_V} {m : List Value}, sx_SV env l m → sx_SV (env ++ ext) l m
  | [], [], _ => trivial
  | _ :: _, _ :: _, ⟨h2, h3⟩ => ⟨h2.app ext, sx_SV.app ext h3⟩
  | [], _ :: _, h => h.elim
  | _ :: _, [], h => h.elim
theorem sx_SV.cons {env : List Int} {v : sx_V} {l : List sx_V} {m : List Value} (h : sx_SV env (v :: l) m) : ∃ x m', m = x :: m' ∧ sx_val env v x ∧ sx_SV env l m' := by
  cases m with
  | nil => exact h.elim
  | cons x m => exact ⟨x, m, rfl, h.1, h.2⟩
theorem sx_SV.nil {env : List Int} {m : List Value} (h : sx_SV env [] m) : m = [] := by
  cases m with
  | nil => rfl
  | cons x m => exact h.elim
theorem sx_val_cat {env : List Int} {v : sx_V} {x : Value} (h : sx_val env v x) : x.category = sx_cat v := by
  match v, h with
  | .inl e, ⟨n, h1, h2⟩ => rw [h1]; rfl
  | .inr none, ⟨j, h⟩ => rw [h]; rfl
  | .inr (some (false, o)), h => rw [show x = .ref o from h]; rfl
  | .inr (some (true, k)), h => rw [show x = .retAddr k from h]; rfl
theorem sx_fnd_ok {env : List Int} {i : Nat} {v : sx_V} : ∀ {lv : sx_L} {lw : List (Nat × Value)}, sx_LV env lv lw → sx_fnd lv i = some v → ∃ (j : Nat) (x : Value), lw[j]? = some (i, x) ∧ sx_val env v x := by
  intro lv
  induction lv with
  | nil => intro lw _ h; cases h
  | cons q lv ih =>
    intro lw hl h
    cases lw with
    | nil => exact hl.elim
    | cons y lw =>
      have h' : (bif q.1.beq i then some q.2 else sx_fnd lv i) = some v := h
      cases hb : q.1.beq i with
      | true =>
        rw [hb] at h'
        cases h'
        refine ⟨0, y.2, ?_, hl.2.1⟩
        rw [← Nat.eq_of_beq_eq_true hb, hl.1]
        rfl
      | false =>
        rw [hb] at h'
        obtain ⟨j, x, h1, h2⟩ := ih hl.2.2 h'
        exact ⟨j + 1, x, h1, h2⟩
theorem sx_fil_ok {env : List Int} {i : Nat} : ∀ {lv : sx_L} {lw : List (Nat × Value)} {K : sx_L → Bool}, sx_LV env lv lw → sx_fil lv i K = true → ∃ r, sx_LV env r (lw.filter (fun q => !(q.1 == i) && !(q.1 + 1 == i && q.2.category == 2))) ∧ K r = true := by
  intro lv
  induction lv with
  | nil =>
    intro lw K hl h
    cases lw with
    | nil => exact ⟨[], trivial, h⟩
    | cons y lw => exact hl.elim
  | cons q lv ih =>
    intro lw K hl h
    cases lw with
    | nil => exact hl.elim
    | cons y lw =>
      have h' : (bif (!(q.1 == i) && !(q.1 + 1 == i && sx_cat q.2 == 2)) then sx_fil lv i (fun r => K (q :: r)) else sx_fil lv i K) = true := h
      have hc : (!(y.1 == i) && !(y.1 + 1 == i && y.2.category == 2)) = (!(q.1 == i) && !(q.1 + 1 == i && sx_cat q.2 == 2)) := by rw [sx_val_cat hl.2.1, hl.1]
      cases hb : (!(q.1 == i) && !(q.1 + 1 == i && sx_cat q.2 == 2)) with
      | true =>
        rw [hb] at h' hc
        obtain ⟨r, e1, e2⟩ := ih hl.2.2 h'
        refine ⟨q :: r, ?_, e2⟩
        simp only [List.filter_cons]
        rw [if_pos hc]
        exact ⟨hl.1, hl.2.1, e1⟩
      | false =>
        rw [hb] at h' hc
        obtain ⟨r, e1, e2⟩ := ih hl.2.2 h'
        refine ⟨r, ?_, e2⟩
        simp only [List.filter_cons]
        rw [if_neg (by rw [hc]; decide)]
        exact e1
theorem sx_fil2_ok {env : List Int} {i : Nat} : ∀ {lv : sx_L} {lw : List (Nat × Value)} {K : sx_L → Bool}, sx_LV env lv lw → sx_fil2 lv i K = true → ∃ r, sx_LV env r (lw.filter (fun q => !(q.1 == i) && (!(q.1 == i + 1) && !(q.1 + 1 == i && q.2.category == 2)))) ∧ K r = true := by
  intro lv
  induction lv with
  | nil =>
    intro lw K hl h
    cases lw with
    | nil => exact ⟨[], trivial, h⟩
    | cons y lw => exact hl.elim
  | cons q lv ih =>
    intro lw K hl h
    cases lw with
    | nil => exact hl.elim
    | cons y lw =>
      have h' : (bif (!(q.1 == i) && (!(q.1 == i + 1) && !(q.1 + 1 == i && sx_cat q.2 == 2))) then sx_fil2 lv i (fun r => K (q :: r)) else sx_fil2 lv i K) = true := h
      have hc : (!(y.1 == i) && (!(y.1 == i + 1) && !(y.1 + 1 == i && y.2.category == 2))) = (!(q.1 == i) && (!(q.1 == i + 1) && !(q.1 + 1 == i && sx_cat q.2 == 2))) := by rw [sx_val_cat hl.2.1, hl.1]
      cases hb : (!(q.1 == i) && (!(q.1 == i + 1) && !(q.1 + 1 == i && sx_cat q.2 == 2))) with
      | true =>
        rw [hb] at h' hc
        obtain ⟨r, e1, e2⟩ := ih hl.2.2 h'
        refine ⟨q :: r, ?_, e2⟩
        simp only [List.filter_cons]
        rw [if_pos hc]
        exact ⟨hl.1, hl.2.1, e1⟩
      | false =>
        rw [hb] at h' hc
        obtain ⟨r, e1, e2⟩ := ih hl.2.2 h'
        refine ⟨r, ?_, e2⟩
        simp only [List.filter_cons]
        rw [if_neg (by rw [hc]; decide)]
        exact e1
theorem sx_SV_append {env : List Int} {b : List sx_V} {y : List Value} : ∀ {a : List sx_V} {x : List Value}, sx_SV env a x → sx_SV env b y → sx_SV env (a ++ b) (x ++ y)
  | [], [], _, h => h
  | _ :: _, _ :: _, ⟨h1, h2⟩, h => ⟨h1, sx_SV_append h2 h⟩
  | [], _ :: _, h, _ => h.elim
  | _ :: _, [], h, _ => h.elim
theorem sx_pop_ok {env : List Int} {n : Nat} {K : List sx_V → List sx_V → Bool} : ∀ {st acc : List sx_V} {sw aw : List Value}, sx_SV env st sw → sx_SV env acc aw → sx_pop n st acc K = true → ∃ as rest xs ys, xs.length = n ∧ sw = xs.reverse ++ ys ∧ sx_SV env as (xs ++ aw) ∧ sx_SV env rest ys ∧ K as rest = true := by
  induction n with
  | zero => intro st acc sw aw hs ha h; exact ⟨acc, st, [], sw, rfl, rfl, ha, hs, h⟩
  | succ n ih =>
    intro st acc sw aw hs ha h
    match st, hs, h with
    | v :: st, hs, h =>
      have h' : sx_pop n st (v :: acc) K = true := h
      obtain ⟨x, sw', rfl, h1, h2⟩ := hs.cons
      obtain ⟨as, rest, xs, ys, e1, e2, e3, e4, e5⟩ := ih (acc := v :: acc) (aw := x :: aw) h2 ⟨h1, ha⟩ h'
      refine ⟨as, rest, xs ++ [x], ys, by simp [e1], by simp [e2], by simpa using e3, e4, e5⟩
theorem sx_args_ok {env : List Int} : ∀ {as : List sx_V} {xs : List Value} {i : Nat} {K : sx_L → Bool}, sx_SV env as xs → sx_args i as K = true → ∃ l, sx_LV env l (lv_args i xs) ∧ K l = true := by
  intro as
  induction as with
  | nil =>
    intro xs i K hs h
    rw [hs.nil]
    exact ⟨[], trivial, h⟩
  | cons v as ih =>
    intro xs i K hs h
    obtain ⟨x, xs, rfl, h1, h2⟩ := hs.cons
    have h' : (bif sx_cat v == 2 then ex_fN (i + 2) fun i2 => sx_args i2 as (fun r => K ((i, v) :: r)) else ex_fN (i + 1) fun i2 => sx_args i2 as (fun r => K ((i, v) :: r))) = true := h
    rw [ex_fN_eq, ex_fN_eq] at h'
    show ∃ l, sx_LV env l ((i, x) :: lv_args (if x.category = 2 then i + 2 else i + 1) xs) ∧ K l = true
    rw [sx_val_cat h1]
    by_cases hc : sx_cat v = 2
    · rw [if_pos hc]
      rw [show (sx_cat v == 2) = true by rw [hc]; rfl] at h'
      obtain ⟨l, e1, e2⟩ := ih h2 h'
      exact ⟨(i, v) :: l, ⟨rfl, h1, e1⟩, e2⟩
    · rw [if_neg hc]
      rw [show (sx_cat v == 2) = false from beq_eq_false_iff_ne.mpr hc] at h'
      obtain ⟨l, e1, e2⟩ := ih h2 h'
      exact ⟨(i, v) :: l, ⟨rfl, h1, e1⟩, e2⟩
theorem sx_cats_ok {env : List Int} : ∀ {l : List sx_V} {m : List Value}, sx_SV env l m → (m.map fun v => v.category).sum = sx_cats l
  | [], [], _ => rfl
  | v :: l, x :: m, ⟨h1, h2⟩ => by
    have := sx_cats_ok h2
    simp only [List.map_cons, List.sum_cons, this, sx_val_cat h1]
    rfl
  | [], _ :: _, h => h.elim
  | _ :: _, [], h => h.elim
theorem sx_sl_ok {env : List Int} : ∀ {l : List sx_V} {m : List Value}, sx_SV env l m → (lg_sl m).length = sx_cats l
  | [], [], _ => rfl
  | v :: l, x :: m, ⟨h1, h2⟩ => by
    have e : sx_cats (v :: l) = sx_cat v + sx_cats l := rfl
    rw [e, ← sx_sl_ok h2]
    simp only [lg_sl, List.flatMap_cons, List.length_append]
    congr 1
    match v, h1 with
    | .inl e, ⟨n, h, _⟩ => rw [h]; rfl
    | .inr none, ⟨j, h⟩ => rw [h]; rfl
    | .inr (some (false, o)), h => rw [show x = .ref o from h]; rfl
    | .inr (some (true, k)), h => rw [show x = .retAddr k from h]; rfl
  | [], _ :: _, h => h.elim
  | _ :: _, [], h => h.elim
/-! bits -/
theorem sx_bit_eq (m n : Nat) : sx_bit m n = m.testBit n := by
  unfold sx_bit Nat.testBit
  show ((1 &&& (m >>> n)).beq 1) = ((1 &&& (m >>> n)) != 0)
  rw [Nat.one_and_eq_mod_two]
  rcases Nat.mod_two_eq_zero_or_one (m >>> n) with h | h <;> rw [h] <;> rfl
theorem sx_bit_set (m u v : Nat) : sx_bit (Nat.lor m (Nat.shiftLeft 1 u)) v = (sx_bit m v || decide (u = v)) := by
  rw [sx_bit_eq, sx_bit_eq]
  show (m ||| (1 <<< u)).testBit v = _
  rw [Nat.testBit_or, Nat.testBit_shiftLeft]
  congr 1
  by_cases h : u = v
  · subst h; simp
  · rw [decide_eq_false h]
    by_cases h2 : u ≤ v
    · rw [decide_eq_true (show v ≥ u from h2), Bool.true_and]
      rw [show v - u = (v - u - 1) + 1 by omega, Nat.testBit_succ]
      simp
    · rw [decide_eq_false (show ¬ v ≥ u from h2), Bool.false_and]
theorem sx_bit_or (m n v : Nat) : sx_bit (Nat.lor m n) v = (sx_bit m v || sx_bit n v) := by
  rw [sx_bit_eq, sx_bit_eq, sx_bit_eq]
  exact Nat.testBit_or m n v
/-! segments -/
theorem sx_at_ok {K : Int → Int → Nat → Bool} : ∀ {sg : sx_Sg} {k : Nat}, sx_at sg k K = true → ∃ lo hi u, sx_atl sg k = some (lo, hi, u) ∧ K lo hi u = true := by
  intro sg
  induction sg with
  | nil => intro k h; cases h
  | cons q t ih =>
    intro k h
    obtain ⟨n, lo, hi, u⟩ := q
    have h' : (bif k.blt n then K lo hi u else ex_fN (k - n) fun k => sx_at t k K) = true := h
    rw [ex_fN_eq] at h'
    unfold sx_atl
    cases hb : k.blt n with
    | true =>
      rw [hb] at h'
      rw [if_pos (ex_blt hb)]
      exact ⟨lo, hi, u, rfl, h'⟩
    | false =>
      rw [hb] at h'
      rw [if_neg (fun z => by have := (Nat.blt_eq (x := k) (y := n)).mpr z; rw [hb] at this; cases this)]
      exact ih h'
theorem sx_blt_f {a b : Nat} (h : a.blt b = false) : b ≤ a := by
  rcases Nat.lt_or_ge a b with z | z
  · have := (Nat.blt_eq (x := a) (y := b)).mpr z
    rw [h] at this
    cases this
  · exact z
theorem sx_over_ok {F : Int → Int → Nat → Bool} : ∀ {sg : sx_Sg} {a b j : Nat}, a ≤ j → j ≤ b → sx_over sg a b F = true → ∃ lo hi u, sx_atl sg j = some (lo, hi, u) ∧ F lo hi u = true := by
  intro sg
  induction sg with
  | nil => intro a b j _ _ h; cases h
  | cons q t ih =>
    intro a b j ha hb h
    obtain ⟨n, lo, hi, u⟩ := q
    have h' : ((bif a.blt n then F lo hi u else true) && (bif b.blt n then true else ex_fN (a - n) fun a => ex_fN (b - n) fun b => sx_over t a b F)) = true := h
    rw [ex_fN_eq, ex_fN_eq, Bool.and_eq_true] at h'
    unfold sx_atl
    by_cases hj : j < n
    · rw [if_pos hj]
      have h1 := h'.1
      rw [(Nat.blt_eq (x := a) (y := n)).mpr (by omega)] at h1
      exact ⟨lo, hi, u, rfl, h1⟩
    · rw [if_neg hj]
      have h2 := h'.2
      cases hbn : b.blt n with
      | true => have := ex_blt hbn; omega
      | false => rw [hbn] at h2; exact ih (by omega) (by omega) h2
theorem sx_hull_ok1 {K : Int → Int → Bool} : ∀ {sg : sx_Sg} {b j : Nat} {lo0 hi0 : Int}, sx_hullr K sg 0 b (some (lo0, hi0)) = true → ∃ lo hi, lo ≤ lo0 ∧ hi0 ≤ hi ∧ K lo hi = true ∧ (j ≤ b → ∃ l h u, sx_atl sg j = some (l, h, u) ∧ lo ≤ l ∧ h ≤ hi) := by
  intro sg
  induction sg with
  | nil => intro b j lo0 hi0 h; cases h
  | cons q t ih =>
    intro b j lo0 hi0 h
    obtain ⟨n, ql, qh, u⟩ := q
    have h0 : (sx_min lo0 ql fun lo => sx_max hi0 qh fun hi => bif b.blt n then K lo hi else ex_fN (b - n) fun b => sx_hullr K t 0 b (some (lo, hi))) = true := h
    obtain ⟨x, x1, x2, x3, h1⟩ := sx_min_ok h0
    obtain ⟨y, y1, y2, y3, h2⟩ := sx_max_ok h1
    rw [ex_fN_eq] at h2
    cases hb : b.blt n with
    | true =>
      rw [hb] at h2
      have hbn := ex_blt hb
      refine ⟨x, y, x2, y2, h2, fun hj => ?_⟩
      unfold sx_atl
      rw [if_pos (by omega)]
      exact ⟨ql, qh, u, rfl, x3, y3⟩
    | false =>
      rw [hb] at h2
      have hbn := sx_blt_f hb
      obtain ⟨lo, hi, a1, a2, a3, a4⟩ := ih (j := j - n) h2
      refine ⟨lo, hi, Int.le_trans a1 x2, Int.le_trans y2 a2, a3, fun hj => ?_⟩
      unfold sx_atl
      by_cases hjn : j < n
      · rw [if_pos hjn]
        exact ⟨ql, qh, u, rfl, Int.le_trans a1 x3, Int.le_trans y3 a2⟩
      · rw [if_neg hjn]
        exact a4 (by omega)
theorem sx_hull_ok {K : Int → Int → Bool} : ∀ {sg : sx_Sg} {a b j : Nat}, a ≤ j → j ≤ b → sx_hull sg a b K = true → ∃ lo hi l h u, sx_atl sg j = some (l, h, u) ∧ lo ≤ l ∧ h ≤ hi ∧ K lo hi = true := by
  intro sg
  induction sg with
  | nil => intro a b j _ _ h; cases h
  | cons q t ih =>
    intro a b j ha hb h
    obtain ⟨n, ql, qh, u⟩ := q
    have h' : (bif a.blt n then (bif b.blt n then K ql qh else ex_fN (b - n) fun b => sx_hullr K t 0 b (some (ql, qh))) else ex_fN (a - n) fun a => ex_fN (b - n) fun b => sx_hull t a b K) = true := h
    rw [ex_fN_eq, ex_fN_eq, ex_fN_eq] at h'
    cases han : a.blt n with
    | true =>
      rw [han, cond_true] at h'
      have han' := ex_blt han
      cases hbn : b.blt n with
      | true =>
        rw [hbn] at h'
        have hbn' := ex_blt hbn
        refine ⟨ql, qh, ql, qh, u, ?_, Int.le_refl _, Int.le_refl _, h'⟩
        unfold sx_atl
        rw [if_pos (by omega)]
      | false =>
        rw [hbn] at h'
        have hbn' := sx_blt_f hbn
        obtain ⟨lo, hi, a1, a2, a3, a4⟩ := sx_hull_ok1 (j := j - n) h'
        unfold sx_atl
        by_cases hjn : j < n
        · rw [if_pos hjn]
          exact ⟨lo, hi, ql, qh, u, rfl, a1, a2, a3⟩
        · rw [if_neg hjn]
          obtain ⟨l, h', u', b1, b2, b3⟩ := a4 (by omega)
          exact ⟨lo, hi, l, h', u', b1, b2, b3, a3⟩
    | false =>
      rw [han] at h'
      have han' := sx_blt_f han
      unfold sx_atl
      rw [if_neg (by omega)]
      exact ih (by omega) (by omega) h'
theorem sx_units_ok {K : Nat → Bool} : ∀ {sg : sx_Sg} {a b md j : Nat}, a ≤ j → j ≤ b → sx_units sg a b md K = true → ∃ md', K md' = true ∧ (∀ v, sx_bit md v = true → sx_bit md' v = true) ∧ ∀ lo hi u, sx_atl sg j = some (lo, hi, u) → sx_bit md' u = true := by
  intro sg
  induction sg with
  | nil => intro a b md j _ _ h; cases h
  | cons q t ih =>
    intro a b md j ha hb h
    obtain ⟨n, ql, qh, u⟩ := q
    have h' : ((bif a.blt n then ex_fN (Nat.lor md (Nat.shiftLeft 1 u)) else ex_fN md) fun md => bif b.blt n then K md else ex_fN (a - n) fun a => ex_fN (b - n) fun b => sx_units t a b md K) = true := h
    have main : ∀ md1, (∀ v, sx_bit md v = true → sx_bit md1 v = true) → (a < n → sx_bit md1 u = true) → (bif b.blt n then K md1 else ex_fN (a - n) fun a => ex_fN (b - n) fun b => sx_units t a b md1 K) = true → ∃ md', K md' = true ∧ (∀ v, sx_bit md v = true → sx_bit md' v = true) ∧ ∀ lo hi u', sx_atl ((n, ql, qh, u) :: t) j = some (lo, hi, u') → sx_bit md' u' = true := by
      intro md1 m1 m2 hk
      rw [ex_fN_eq, ex_fN_eq] at hk
      cases hbn : b.blt n with
      | true =>
        rw [hbn] at hk
        have hbn' := ex_blt hbn
        refine ⟨md1, hk, m1, fun lo hi u' e => ?_⟩
        unfold sx_atl at e
        rw [if_pos (by omega)] at e
        cases e
        exact m2 (by omega)
      | false =>
        rw [hbn] at hk
        have hbn' := sx_blt_f hbn
        by_cases hjn : j < n
        · obtain ⟨md', e1, e2, -⟩ := ih (j := b - n) (by omega) (Nat.le_refl _) hk
          refine ⟨md', e1, fun v hv => e2 v (m1 v hv), fun lo hi u' e => ?_⟩
          unfold sx_atl at e
          rw [if_pos hjn] at e
          cases e
          exact e2 _ (m2 (by omega))
        · obtain ⟨md', e1, e2, e3⟩ := ih (j := j - n) (by omega) (by omega) hk
          refine ⟨md', e1, fun v hv => e2 v (m1 v hv), fun lo hi u' e => ?_⟩
          unfold sx_atl at e
          rw [if_neg hjn] at e
          exact e3 lo hi u' e
    cases han : a.blt n with
    | true =>
      rw [han] at h'
      simp only [cond_true] at h'
      rw [ex_fN_eq] at h'
      exact main _ (fun v hv => by rw [sx_bit_set, hv]; rfl) (fun _ => by rw [sx_bit_set, decide_eq_true rfl, Bool.or_true]) h'
    | false =>
      rw [han] at h'
      simp only [cond_false] at h'
      rw [ex_fN_eq] at h'
      have := sx_blt_f han
      exact main _ (fun v hv => hv) (fun z => by omega) h'
/-! the memory -/
def sx_c0 (c : sx_Cl) (σ : am_S) : Prop := ∀ j : Nat, j < c.2.2.2.2 → (j : Int) < (σ.2.1 c.2.1 c.2.2.1).toInt → 1 ≤ (σ.2.1 c.2.1 (c.2.2.2.1 + j)).toInt
def sx_M (Z : sx_Z) (Cs : Nat → am_S → Prop) (σe : am_S) (md xm : Nat) (σ : am_S) : Prop :=
  (∀ (o : Nat) (h : am_sh), ex_sh (Z.2.2.1 o) = some h → σ.1[o]? = some h) ∧
  (∀ o k r : Nat, Z.2.2.2.1 o k = some r → σ.2.2.2 o k = .ref r) ∧
  (∀ (o k : Nat) (lo hi : Int) (u : Nat), sx_atl (Z.1 o) k = some (lo, hi, u) → lo ≤ (σ.2.1 o k).toInt ∧ (σ.2.1 o k).toInt ≤ hi) ∧
  (∀ (o k : Nat) (lo hi : Int) (u : Nat), sx_atl (Z.1 o) k = some (lo, hi, u) → ((Z.2.1 o).1 ≠ 0 → (σ.2.1 o k).toInt ≤ ((k % (Z.2.1 o).1 : Nat) : Int)) ∧ ((Z.2.1 o).2.1 ≠ 0 → (σ.2.1 o k).toInt + ((Z.2.1 o).2.1 : Int) * (k : Int) ≤ (Z.2.1 o).2.2)) ∧
  (∀ (o k : Nat) (lo hi : Int) (u : Nat), sx_atl (Z.1 o) k = some (lo, hi, u) → sx_bit md u = false → σ.2.1 o k = σe.2.1 o k) ∧
  (∀ c ∈ Z.2.2.2.2.1, sx_bit xm c.1 = false → sx_c0 c σ) ∧
  (∀ c ∈ Z.2.2.2.2.2.1, sx_bit xm c.1 = false → Cs c.1 σ) ∧
  (sx_bit md 900 = false → σ.2.2.1 = σe.2.2.1) ∧ (sx_bit md 901 = false → σ.2.2.1 72 = σe.2.2.1 72)
def sx_R (Z : sx_Z) (Cs : Nat → am_S → Prop) (σe : am_S) (env : List Int) (me : sx_Me) (σ : am_S) : Prop :=
  env.length = me.1 ∧ (∀ q ∈ me.2.2.2.1, sx_ev env q.2 = some (σ.2.1 (q.1 / 65536) (q.1 % 65536)).toInt) ∧ sx_P env me.2.2.2.2 ∧ sx_M Z Cs σe me.2.1 me.2.2.1 σ
/-- what is asked of the other clauses: they hang on their slots alone -/
def sx_CsOk (Z : sx_Z) (Cs : Nat → am_S → Prop) : Prop := ∀ c ∈ Z.2.2.2.2.2.1, ∀ σ σ' : am_S, (∀ k, c.2.2.1 ≤ k → k < c.2.2.2 → σ'.2.1 c.2.1 k = σ.2.1 c.2.1 k) → Cs c.1 σ → Cs c.1 σ'
