/-! ints with unknown words, intervals, forks -/
def ex_bin (o : Nat) (x y : Int32) : Int32 := match o with
  | 0 => x + y
  | 1 => x - y
  | 2 => x * y
  | 3 => x &&& y
  | 4 => x ||| y
  | 5 => x ^^^ y
  | 6 => x <<< (y &&& 31)
  | 7 => x >>> (y &&& 31)
  | 8 => (x.toUInt32 >>> (y.toUInt32 &&& Int32.toUInt32 31)).toInt32
  | 9 => x / y
  | 10 => x - x / y * y
  | _ => x.toInt8.toInt32
def ex_i (ρ : Nat → Int32) : ex_F → Int32
  | .nest n .nil => Int32.ofInt n
  | .tag k .line => ρ k
  | .tag o (.append a b) => ex_bin o (ex_i ρ a) (ex_i ρ b)
  | _ => 0
def ex_ev (ρ : Nat → Int32) : ex_V → Value
  | .inl e => .int (ex_i ρ e)
  | .inr (.inl n) => .long (Int64.ofNat n)
  | .inr (.inr (.inl o)) => .ref o
  | .inr (.inr (.inr (some k))) => .retAddr k
  | .inr (.inr (.inr none)) => .null
def ex_P (ρ : Nat → Int32) (pa : ex_Pa) : Prop := ∀ q ∈ pa, q.2.1 ≤ (ex_i ρ q.1).toInt ∧ (ex_i ρ q.1).toInt ≤ q.2.2
theorem ex_P.cons {ρ : Nat → Int32} {pa : ex_Pa} {e : ex_F} {lo hi : Int} (h : ex_P ρ pa) (h1 : lo ≤ (ex_i ρ e).toInt) (h2 : (ex_i ρ e).toInt ≤ hi) : ex_P ρ ((e, lo, hi) :: pa) := by
  intro q hq
  rcases List.mem_cons.mp hq with rfl | hq
  · exact ⟨h1, h2⟩
  · exact h q hq
def ex_same : ex_F → ex_F → Bool
  | .nil, .nil => true
  | .line, .line => true
  | .nest a x, .nest b y => decide (a = b) && ex_same x y
  | .tag a x, .tag b y => a.beq b && ex_same x y
  | .append a x, .append b y => ex_same a b && ex_same x y
  | _, _ => false
theorem ex_same_eq {a b : ex_F} (h : ex_same a b = true) : a = b := by
  induction a generalizing b with
  | nil => cases b <;> simp [ex_same] at h ⊢
  | line => cases b <;> simp [ex_same] at h ⊢
  | nest n x ih =>
    cases b <;> simp [ex_same] at h
    rw [h.1, ih h.2]
  | tag n x ih =>
    cases b <;> simp [ex_same] at h
    rw [h.1, ih h.2]
  | append x y ih1 ih2 =>
    cases b <;> simp [ex_same] at h
    rw [ih1 h.1, ih2 h.2]
  | align x => cases b <;> simp [ex_same] at h
  | text x => cases b <;> simp [ex_same] at h
  | group x y => cases b <;> simp [ex_same] at h
/-- what is known of any int, and of one cut by a mask -/
def ex_dv (e : ex_F) (K : Int → Int → Bool) : Bool := match e with
  | .tag 3 (.append _ (.nest (.ofNat c) .nil)) => bif decide (c < 2147483648) then K 0 (.ofNat c) else K (-2147483648) 2147483647
  | _ => K (-2147483648) 2147483647
noncomputable def ex_iv (pa : ex_Pa) (e : ex_F) (K : Int → Int → Bool) : Bool := List.rec (motive := fun _ => Bool) (ex_dv e K) (fun q _ ih => bif ex_same q.1 e then K q.2.1 q.2.2 else ih) pa
theorem ex_and_le (x : Int32) {c : Nat} (hc : c < 2147483648) : 0 ≤ (x &&& Int32.ofInt (.ofNat c)).toInt ∧ (x &&& Int32.ofInt (.ofNat c)).toInt ≤ c := by
  have e1 : (x &&& Int32.ofInt (.ofNat c)).toInt = (x.toBitVec &&& BitVec.ofNat 32 c).toInt := by
    show (x.toBitVec &&& (Int32.ofInt (c : Int)).toBitVec).toInt = _
    rw [Int32.ofInt_eq_ofNat]; rfl
  have e2 : (x.toBitVec &&& BitVec.ofNat 32 c).toNat ≤ c := by
    rw [BitVec.toNat_and]
    refine Nat.le_trans Nat.and_le_right ?_
    rw [BitVec.toNat_ofNat]
    exact Nat.mod_le _ _
  have e3 : (x.toBitVec &&& BitVec.ofNat 32 c).toInt = ((x.toBitVec &&& BitVec.ofNat 32 c).toNat : Int) := by
    rw [BitVec.toInt_eq_toNat_of_lt]
    omega
  rw [e1, e3]
  omega
section EX
variable {ρ : Nat → Int32} {pa : ex_Pa}
theorem ex_dv_ok {e : ex_F} {K : Int → Int → Bool} (h : ex_dv e K = true) : ∃ lo hi, lo ≤ (ex_i ρ e).toInt ∧ (ex_i ρ e).toInt ≤ hi ∧ K lo hi = true := by
  have full : K (-2147483648) 2147483647 = true → ∃ lo hi, lo ≤ (ex_i ρ e).toInt ∧ (ex_i ρ e).toInt ≤ hi ∧ K lo hi = true := fun hk =>
    ⟨_, _, by have := Int32.le_toInt (ex_i ρ e); omega, by have := Int32.toInt_lt (ex_i ρ e); omega, hk⟩
  unfold ex_dv at h
  split at h
  · rename_i a c
    by_cases hc : c < 2147483648
    · rw [decide_eq_true hc] at h
      have := ex_and_le (ex_i ρ a) hc
      exact ⟨_, _, this.1, this.2, h⟩
    · rw [decide_eq_false hc] at h
      exact full h
  · exact full h
theorem ex_iv_ok (hp : ex_P ρ pa) {e : ex_F} {K : Int → Int → Bool} (h : ex_iv pa e K = true) : ∃ lo hi, lo ≤ (ex_i ρ e).toInt ∧ (ex_i ρ e).toInt ≤ hi ∧ K lo hi = true := by
  induction pa with
  | nil => exact ex_dv_ok h
  | cons q pa ih =>
    have h' : (bif ex_same q.1 e then K q.2.1 q.2.2 else ex_iv pa e K) = true := h
    cases hs : ex_same q.1 e with
    | true =>
      rw [hs] at h'
      have := hp q List.mem_cons_self
      rw [ex_same_eq hs] at this
      exact ⟨_, _, this.1, this.2, h'⟩
    | false =>
      rw [hs] at h'
      exact ih (fun z hz => hp z (List.mem_cons_of_mem _ hz)) h'
noncomputable def ex_all (n : Nat) (lo : Int) (K : Int → Bool) : Bool := Nat.rec (motive := fun _ => Int → Bool) (fun _ => true) (fun _ ih v => ex_fI v fun v => K v && ih (v + 1)) n lo
theorem ex_all_ok {K : Int → Bool} (n : Nat) : ∀ {lo : Int}, ex_all n lo K = true → ∀ v : Int, lo ≤ v → v < lo + n → K v = true := by
  induction n with
  | zero => intro lo _ v h1 h2; omega
  | succ n ih =>
    intro lo h v h1 h2
    have h' : (ex_fI lo fun v => K v && ex_all n (v + 1) K) = true := h
    rw [ex_fI_eq, Bool.and_eq_true] at h'
    by_cases e : v = lo
    · rw [e]; exact h'.1
    · exact ih h'.2 v (by omega) (by omega)
/-- an operand: a number where its interval is small -/
noncomputable def ex_opd (pa : ex_Pa) (e : ex_F) (K : ex_Pa → ex_F → Bool) : Bool := match e with
  | .nest n .nil => K pa (.nest n .nil)
  | _ => ex_iv pa e fun lo hi => bif decide (lo = hi) then K pa (.nest lo .nil) else bif decide (hi - lo ≤ 64) then ex_all ((hi - lo).toNat + 1) lo (fun v => K ((e, v, v) :: pa) (.nest v .nil)) else K pa e
theorem ex_of_toInt {x : Int32} {n : Int} (h : x.toInt = n) : Int32.ofInt n = x := by rw [← h, Int32.ofInt_toInt]
theorem ex_opd_ok (hp : ex_P ρ pa) {e : ex_F} {K : ex_Pa → ex_F → Bool} (h : ex_opd pa e K = true) : ∃ pa' e', ex_P ρ pa' ∧ ex_i ρ e' = ex_i ρ e ∧ K pa' e' = true := by
  unfold ex_opd at h
  split at h
  · exact ⟨_, _, hp, rfl, h⟩
  · obtain ⟨lo, hi, h1, h2, h3⟩ := ex_iv_ok hp h
    by_cases e1 : lo = hi
    · rw [decide_eq_true e1] at h3
      exact ⟨_, .nest lo .nil, hp, ex_of_toInt (x := ex_i ρ e) (n := lo) (by omega), h3⟩
    · rw [decide_eq_false e1] at h3
      by_cases e2 : hi - lo ≤ 64
      · rw [decide_eq_true e2] at h3
        simp only [cond_true, cond_false] at h3
        have := ex_all_ok _ h3 (ex_i ρ e).toInt h1 (by omega)
        exact ⟨_, .nest (ex_i ρ e).toInt .nil, hp.cons (e := e) (Int.le_refl _) (Int.le_refl _), ex_of_toInt rfl, this⟩
      · rw [decide_eq_false e2] at h3
        exact ⟨_, _, hp, rfl, h3⟩
/-- a number, by trying all -/
noncomputable def ex_conc (pa : ex_Pa) (e : ex_F) (K : ex_Pa → Int → Bool) : Bool := match e with
  | .nest n .nil => K pa n
  | _ => ex_iv pa e fun lo hi => bif decide (lo = hi) then K pa lo else bif decide (hi - lo ≤ 64) then ex_all ((hi - lo).toNat + 1) lo (fun v => K ((e, v, v) :: pa) v) else false
theorem ex_conc_ok (hp : ex_P ρ pa) {e : ex_F} {K : ex_Pa → Int → Bool} (h : ex_conc pa e K = true) : ∃ pa' n, ex_P ρ pa' ∧ ex_i ρ e = Int32.ofInt n ∧ K pa' n = true := by
  unfold ex_conc at h
  split at h
  · exact ⟨_, _, hp, rfl, h⟩
  · obtain ⟨lo, hi, h1, h2, h3⟩ := ex_iv_ok hp h
    by_cases e1 : lo = hi
    · rw [decide_eq_true e1] at h3
      exact ⟨_, lo, hp, (ex_of_toInt (x := ex_i ρ e) (n := lo) (by omega)).symm, h3⟩
    · rw [decide_eq_false e1] at h3
      by_cases e2 : hi - lo ≤ 64
      · rw [decide_eq_true e2] at h3
        simp only [cond_true, cond_false] at h3
        have := ex_all_ok _ h3 (ex_i ρ e).toInt h1 (by omega)
        exact ⟨_, (ex_i ρ e).toInt, hp.cons (e := e) (Int.le_refl _) (Int.le_refl _), (ex_of_toInt rfl).symm, this⟩
      · rw [decide_eq_false e2] at h3
        cases h3
noncomputable def ex_fold (o : Nat) (a b : ex_F) (K : ex_F → Bool) : Bool := match a with
  | .nest x .nil => (match b with
    | .nest y .nil => ex_fI (ex_bin o (Int32.ofInt x) (Int32.ofInt y)).toInt fun z => K (.nest z .nil)
    | _ => K (.tag o (.append a b)))
  | _ => K (.tag o (.append a b))
theorem ex_fold_ok {o : Nat} {a b : ex_F} {K : ex_F → Bool} (h : ex_fold o a b K = true) : ∃ e, ex_i ρ e = ex_bin o (ex_i ρ a) (ex_i ρ b) ∧ K e = true := by
  unfold ex_fold at h
  split at h
  · split at h
    · rw [ex_fI_eq] at h
      exact ⟨.nest _ .nil, Int32.ofInt_toInt _, h⟩
    · exact ⟨_, rfl, h⟩
  · exact ⟨_, rfl, h⟩
/-- below k, or not -/
noncomputable def ex_lt3 (pa : ex_Pa) (e : ex_F) (k : Int) (Kt Kf : ex_Pa → Bool) : Bool := match e with
  | .nest n .nil => bif decide ((Int32.ofInt n).toInt < k) then Kt pa else Kf pa
  | _ => ex_iv pa e fun lo hi => bif decide (hi < k) then Kt pa else bif decide (k ≤ lo) then Kf pa else ex_fI k fun k => (ex_fI (k - 1) fun k1 => Kt ((e, lo, k1) :: pa)) && Kf ((e, k, hi) :: pa)
theorem ex_lt3_ok (hp : ex_P ρ pa) {e : ex_F} {k : Int} {Kt Kf : ex_Pa → Bool} (h : ex_lt3 pa e k Kt Kf = true) : ∃ pa', ex_P ρ pa' ∧ (((ex_i ρ e).toInt < k ∧ Kt pa' = true) ∨ (¬ (ex_i ρ e).toInt < k ∧ Kf pa' = true)) := by
  unfold ex_lt3 at h
  split at h
  · rename_i n
    by_cases e1 : (Int32.ofInt n).toInt < k
    · rw [decide_eq_true e1] at h
      exact ⟨_, hp, Or.inl ⟨e1, h⟩⟩
    · rw [decide_eq_false e1] at h
      exact ⟨_, hp, Or.inr ⟨e1, h⟩⟩
  · obtain ⟨lo, hi, h1, h2, h3⟩ := ex_iv_ok hp h
    by_cases e1 : hi < k
    · rw [decide_eq_true e1] at h3
      exact ⟨_, hp, Or.inl ⟨by omega, h3⟩⟩
    · rw [decide_eq_false e1] at h3
      by_cases e2 : k ≤ lo
      · rw [decide_eq_true e2] at h3
        exact ⟨_, hp, Or.inr ⟨by omega, h3⟩⟩
      · rw [decide_eq_false e2] at h3
        simp only [cond_false, ex_fI_eq, Bool.and_eq_true] at h3
        by_cases e3 : (ex_i ρ e).toInt < k
        · exact ⟨_, hp.cons h1 (by omega), Or.inl ⟨e3, h3.1⟩⟩
        · exact ⟨_, hp.cons (by omega) h2, Or.inr ⟨e3, h3.2⟩⟩
/-- k, or not -/
noncomputable def ex_eq3 (pa : ex_Pa) (e : ex_F) (k : Int) (Kt Kf : ex_Pa → Bool) : Bool := match e with
  | .nest n .nil => bif decide ((Int32.ofInt n).toInt = k) then Kt pa else Kf pa
  | _ => ex_iv pa e fun lo hi => bif decide (hi < k) then Kf pa else bif decide (k < lo) then Kf pa else bif decide (lo = hi) then Kt pa else ex_fI k fun k => Kt ((e, k, k) :: pa) && ((bif decide (lo < k) then (ex_fI (k - 1) fun k1 => Kf ((e, lo, k1) :: pa)) else true) && (bif decide (k < hi) then (ex_fI (k + 1) fun k1 => Kf ((e, k1, hi) :: pa)) else true))
theorem ex_eq3_ok (hp : ex_P ρ pa) {e : ex_F} {k : Int} {Kt Kf : ex_Pa → Bool} (h : ex_eq3 pa e k Kt Kf = true) : ∃ pa', ex_P ρ pa' ∧ (((ex_i ρ e).toInt = k ∧ Kt pa' = true) ∨ (¬ (ex_i ρ e).toInt = k ∧ Kf pa' = true)) := by
  unfold ex_eq3 at h
  split at h
  · rename_i n
    by_cases e1 : (Int32.ofInt n).toInt = k
    · rw [decide_eq_true e1] at h
      exact ⟨_, hp, Or.inl ⟨e1, h⟩⟩
    · rw [decide_eq_false e1] at h
      exact ⟨_, hp, Or.inr ⟨e1, h⟩⟩
  · obtain ⟨lo, hi, h1, h2, h3⟩ := ex_iv_ok hp h
    by_cases e1 : hi < k
    · rw [decide_eq_true e1] at h3
      exact ⟨_, hp, Or.inr ⟨by omega, h3⟩⟩
    · rw [decide_eq_false e1] at h3
      by_cases e2 : k < lo
      · rw [decide_eq_true e2] at h3
        exact ⟨_, hp, Or.inr ⟨by omega, h3⟩⟩
      · rw [decide_eq_false e2] at h3
        by_cases e3 : lo = hi
        · rw [decide_eq_true e3] at h3
          exact ⟨_, hp, Or.inl ⟨by omega, h3⟩⟩
        · rw [decide_eq_false e3] at h3
          simp only [cond_false, ex_fI_eq, Bool.and_eq_true] at h3
          obtain ⟨a1, a2, a3⟩ := h3
          by_cases e4 : (ex_i ρ e).toInt = k
          · exact ⟨_, hp.cons (Int.le_of_eq e4.symm) (Int.le_of_eq e4), Or.inl ⟨e4, a1⟩⟩
          · by_cases e5 : (ex_i ρ e).toInt < k
            · rw [decide_eq_true (show lo < k by omega)] at a2
              exact ⟨_, hp.cons h1 (by omega), Or.inr ⟨e4, a2⟩⟩
            · rw [decide_eq_true (show k < hi by omega)] at a3
              exact ⟨_, hp.cons (by omega) h2, Or.inr ⟨e4, a3⟩⟩
def ex_rel (r : Nat) (x y : Int) : Prop := match r with
  | 0 => x = y
  | 1 => ¬ x = y
  | 2 => x < y
  | 3 => y ≤ x
  | 4 => y < x
  | _ => x ≤ y
noncomputable def ex_cmpk (pa : ex_Pa) (r : Nat) (e : ex_F) (k : Int) (Kt Kf : ex_Pa → Bool) : Bool := match r with
  | 0 => ex_eq3 pa e k Kt Kf
  | 1 => ex_eq3 pa e k Kf Kt
  | 2 => ex_lt3 pa e k Kt Kf
  | 3 => ex_lt3 pa e k Kf Kt
  | 4 => ex_lt3 pa e (k + 1) Kf Kt
  | _ => ex_lt3 pa e (k + 1) Kt Kf
theorem ex_cmpk_ok (hp : ex_P ρ pa) {r : Nat} {e : ex_F} {k : Int} {Kt Kf : ex_Pa → Bool} (h : ex_cmpk pa r e k Kt Kf = true) : ∃ pa', ex_P ρ pa' ∧ ((ex_rel r (ex_i ρ e).toInt k ∧ Kt pa' = true) ∨ (¬ ex_rel r (ex_i ρ e).toInt k ∧ Kf pa' = true)) := by
  unfold ex_cmpk at h
  split at h
  · exact ex_eq3_ok hp h
  · obtain ⟨pa', a, b | b⟩ := ex_eq3_ok hp h
    · exact ⟨pa', a, Or.inr ⟨fun z => z b.1, b.2⟩⟩
    · exact ⟨pa', a, Or.inl b⟩
  · exact ex_lt3_ok hp h
  · obtain ⟨pa', a, b | b⟩ := ex_lt3_ok hp h
    · exact ⟨pa', a, Or.inr ⟨by simp only [ex_rel]; omega, b.2⟩⟩
    · exact ⟨pa', a, Or.inl ⟨by simp only [ex_rel]; omega, b.2⟩⟩
  · obtain ⟨pa', a, b | b⟩ := ex_lt3_ok hp h
    · exact ⟨pa', a, Or.inr ⟨by simp only [ex_rel]; omega, b.2⟩⟩
    · exact ⟨pa', a, Or.inl ⟨by simp only [ex_rel]; omega, b.2⟩⟩
  · rename_i h0 h1 h2 h3 h4
    obtain ⟨pa', a, b⟩ := ex_lt3_ok hp h
    refine ⟨pa', a, ?_⟩
    match r, h0, h1, h2, h3, h4 with
    | r + 5, _, _, _, _, _ =>
      rcases b with b | b
      · exact Or.inl ⟨by simp only [ex_rel]; omega, b.2⟩
      · exact Or.inr ⟨by simp only [ex_rel]; omega, b.2⟩
/-- the relation, turned round -/
def ex_turn (r : Nat) : Nat := match r with
  | 0 => 0
  | 1 => 1
  | 2 => 4
  | 3 => 5
  | 4 => 2
  | _ => 3
theorem ex_turn_ok (r : Nat) (x y : Int) : ex_rel (ex_turn r) x y ↔ ex_rel r y x := by
  match r with
  | 0 => exact eq_comm
  | 1 => exact not_congr eq_comm
  | 2 => exact Iff.rfl
  | 3 => exact Iff.rfl
  | 4 => exact Iff.rfl
  | r + 5 => exact Iff.rfl
noncomputable def ex_cmp (pa : ex_Pa) (r : Nat) (x y : ex_F) (Kt Kf : ex_Pa → Bool) : Bool := match y with
  | .nest n .nil => ex_fI (Int32.ofInt n).toInt fun k => ex_cmpk pa r x k Kt Kf
  | _ => match x with
    | .nest n .nil => ex_fI (Int32.ofInt n).toInt fun k => ex_cmpk pa (ex_turn r) y k Kt Kf
    | _ => bif ex_same x y then ex_cmpk pa r (.nest 0 .nil) 0 Kt Kf else false
theorem ex_cmp_ok (hp : ex_P ρ pa) {r : Nat} {x y : ex_F} {Kt Kf : ex_Pa → Bool} (h : ex_cmp pa r x y Kt Kf = true) : ∃ pa', ex_P ρ pa' ∧ ((ex_rel r (ex_i ρ x).toInt (ex_i ρ y).toInt ∧ Kt pa' = true) ∨ (¬ ex_rel r (ex_i ρ x).toInt (ex_i ρ y).toInt ∧ Kf pa' = true)) := by
  unfold ex_cmp at h
  split at h
  · rw [ex_fI_eq] at h
    exact ex_cmpk_ok hp h
  · split at h
    · rw [ex_fI_eq] at h
      obtain ⟨pa', a, b⟩ := ex_cmpk_ok hp h
      simp only [ex_turn_ok] at b
      exact ⟨pa', a, b⟩
    · cases hs : ex_same x y with
      | true =>
        rw [hs] at h
        have h' : ex_cmpk pa r (.nest 0 .nil) 0 Kt Kf = true := h
        obtain ⟨pa', a, b⟩ := ex_cmpk_ok hp h'
        refine ⟨pa', a, ?_⟩
        have hz : ∀ z : Int, ex_rel r z z ↔ ex_rel r (ex_i ρ (.nest 0 .nil)).toInt 0 := by
          intro z
          match r with
          | 0 => exact ⟨fun _ => rfl, fun _ => rfl⟩
          | 1 => exact ⟨fun w => absurd rfl w, fun w => absurd rfl w⟩
          | 2 => exact ⟨fun w => absurd w (Int.lt_irrefl _), fun w => absurd w (Int.lt_irrefl _)⟩
          | 3 => exact ⟨fun _ => Int.le_refl _, fun _ => Int.le_refl _⟩
          | 4 => exact ⟨fun w => absurd w (Int.lt_irrefl _), fun w => absurd w (Int.lt_irrefl _)⟩
          | r + 5 => exact ⟨fun _ => Int.le_refl _, fun _ => Int.le_refl _⟩
        rw [← ex_same_eq hs, hz]
        exact b
      | false => rw [hs] at h; cases h
end EX
