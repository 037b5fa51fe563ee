/-! what the executor says true of, is so: pieces -/
def ex_lv (ρ : Nat → Int32) (lv : ex_L) : List (Nat × Value) := lv.map (fun q => (q.1, ex_ev ρ q.2))
def ex_okF (mt : Nat → Option ex_T) (T : ex_T) (cd : List ex_E) : Prop := ex_tok mt T = true ∧ ∀ e ∈ cd, ex_chk mt T e = true
def ex_C (g : am_C) (ρ : Nat → Int32) (mt : Nat → Option ex_T) (K : ex_K) (Q : List ex_Fr → Option (Option Value) → am_S → Prop) : Prop :=
  am_G g ∧ (∃ (L : Nat) (xs : Nat → Int32), g.2.2.2.2.2.2 = am_X L xs ∧ L ≤ 3072 ∧ (∀ k, k < 100 → ρ k = xs k) ∧ ρ 100 = Int32.ofNat L) ∧
  (∀ mi T, mt mi = some T → ex_tok mt T = true) ∧
  (∀ (T : ex_T) (cd : List ex_E) (pc d mc ms : Nat) (lv : ex_L) (st : List ex_V) (fs : List ex_Fr) (me : ex_Me) (pa : ex_Pa) (σ : am_S), K T cd pc d mc ms lv st fs me pa = true → ex_okF mt T cd → ex_P ρ pa → ex_R ρ me σ → am_K g d T.1 mc ms pc (ex_lv ρ lv) (st.map (ex_ev ρ)) σ (Q fs)) ∧
  (∀ σ, Q [] (some (some (.int 1))) σ) ∧
  (∀ (T : ex_T) (cd : List ex_E) (pc d mc ms : Nat) (lv : ex_L) (st : List ex_V) (fs : List ex_Fr) (v : Option ex_V) (me : ex_Me) (pa : ex_Pa) (σ : am_S), K T cd pc d mc ms lv (v.toList ++ st) fs me pa = true → ex_P ρ pa → ex_R ρ me σ → Q ((T, cd, pc, d, mc, ms, lv, st) :: fs) (some (v.map (ex_ev ρ))) σ) ∧
  (∀ (f : ex_Fr) (T : ex_T) (cd : List ex_E) (pc d mc ms : Nat) (lv : ex_L) (st : List ex_V) (fs : List ex_Fr) (me : ex_Me) (pa : ex_Pa) (σ : am_S), f.1.1.2.2.2.2 ≠ [] → K T cd pc d mc ms lv (.inl (.nest 1 .nil) :: st) fs me pa = true → ex_P ρ pa → ex_R ρ me σ → Q (f :: (T, cd, pc, d, mc, ms, lv, st) :: fs) none σ) ∧
  (∀ (T : ex_T) (cd : List ex_E) (pc d mc ms : Nat) (lv : ex_L) (st : List ex_V) (fs : List ex_Fr) (v : Option Value) (σ : am_S), Q ((T, cd, pc, d, mc, ms, lv, st) :: fs) (some v) σ → ex_okF mt T cd → am_K g d T.1 mc ms pc (ex_lv ρ lv) (v.toList ++ st.map (ex_ev ρ)) σ (Q fs)) ∧
  (∀ (f : ex_Fr) (fs : List ex_Fr) (σ : am_S), Q (f :: fs) none σ → f.1.1.2.2.2.2 ≠ [] ∧ Q fs (some (some (.int 1))) σ)
theorem ex_fnd_ok {lv : ex_L} {i : Nat} {v : ex_V} (h : ex_fnd lv i = some v) : ∃ j : Nat, lv[j]? = some (i, v) := by
  induction lv with
  | nil => cases h
  | cons q lv ih =>
    have h' : (bif q.1.beq i then some q.2 else ex_fnd lv i) = some v := h
    cases hb : q.1.beq i with
    | true =>
      rw [hb] at h'
      cases h'
      exact ⟨0, by rw [← Nat.eq_of_beq_eq_true hb]; rfl⟩
    | false =>
      rw [hb] at h'
      obtain ⟨j, hj⟩ := ih h'
      exact ⟨j + 1, hj⟩
theorem ex_lv_at {ρ : Nat → Int32} {lv : ex_L} {j i : Nat} {v : ex_V} (h : lv[j]? = some (i, v)) : (ex_lv ρ lv)[j]? = some (i, ex_ev ρ v) := by
  simp [ex_lv, h]
theorem ex_cat_ok (ρ : Nat → Int32) (v : ex_V) : (ex_ev ρ v).category = ex_cat v := by
  match v with
  | .inl _ => rfl
  | .inr (.inl _) => rfl
  | .inr (.inr (.inl _)) => rfl
  | .inr (.inr (.inr (some _))) => rfl
  | .inr (.inr (.inr none)) => rfl
theorem ex_fil_ok {ρ : Nat → Int32} {lv : ex_L} {i : Nat} {K : ex_L → Bool} (h : ex_fil lv i K = true) : ∃ r, (ex_lv ρ lv).filter (fun q => !(q.1 == i) && !(q.1 + 1 == i && q.2.category == 2)) = ex_lv ρ r ∧ K r = true := by
  induction lv generalizing K with
  | nil => exact ⟨[], rfl, h⟩
  | cons q lv ih =>
    have h' : (bif (!(q.1 == i) && !(q.1 + 1 == i && ex_cat q.2 == 2)) then ex_fil lv i (fun r => K (q :: r)) else ex_fil lv i K) = true := h
    have hc : (!(q.1 == i) && !(q.1 + 1 == i && (ex_ev ρ q.2).category == 2)) = (!(q.1 == i) && !(q.1 + 1 == i && ex_cat q.2 == 2)) := by rw [ex_cat_ok]
    cases hb : (!(q.1 == i) && !(q.1 + 1 == i && ex_cat q.2 == 2)) with
    | true =>
      rw [hb] at h' hc
      obtain ⟨r, e1, e2⟩ := ih h'
      refine ⟨q :: r, ?_, e2⟩
      have e3 : ex_lv ρ (q :: lv) = (q.1, ex_ev ρ q.2) :: ex_lv ρ lv := rfl
      rw [e3]
      simp only [List.filter_cons]
      rw [if_pos hc, e1]
      rfl
    | false =>
      rw [hb] at h' hc
      obtain ⟨r, e1, e2⟩ := ih h'
      refine ⟨r, ?_, e2⟩
      have e3 : ex_lv ρ (q :: lv) = (q.1, ex_ev ρ q.2) :: ex_lv ρ lv := rfl
      rw [e3]
      simp only [List.filter_cons]
      rw [if_neg (by rw [hc]; decide), e1]
theorem ex_pop_ok {n : Nat} {K : List ex_V → List ex_V → Bool} : ∀ {st acc : List ex_V}, ex_pop n st acc K = true → ∃ as rest, as.length = n ∧ st = as.reverse ++ rest ∧ K (as ++ acc) rest = true := by
  induction n with
  | zero => intro st acc h; exact ⟨[], st, rfl, rfl, h⟩
  | succ n ih =>
    intro st acc h
    match st, h with
    | v :: st, h =>
      have h' : ex_pop n st (v :: acc) K = true := h
      obtain ⟨as, rest, h1, h2, h3⟩ := ih h'
      refine ⟨as ++ [v], rest, by simp [h1], by simp [h2], by simpa using h3⟩
theorem ex_args_ok {ρ : Nat → Int32} {as : List ex_V} : ∀ {i : Nat} {K : ex_L → Bool}, ex_args i as K = true → ∃ l, lv_args i (as.map (ex_ev ρ)) = ex_lv ρ l ∧ K l = true := by
  induction as with
  | nil => intro i K h; exact ⟨[], rfl, h⟩
  | cons v as ih =>
    intro i K h
    have h' : (bif ex_cat v == 2 then ex_fN (i + 2) fun i2 => ex_args i2 as (fun r => K ((i, v) :: r)) else ex_fN (i + 1) fun i2 => ex_args i2 as (fun r => K ((i, v) :: r))) = true := h
    rw [ex_fN_eq, ex_fN_eq] at h'
    show ∃ l, (i, ex_ev ρ v) :: lv_args (if (ex_ev ρ v).category = 2 then i + 2 else i + 1) (as.map (ex_ev ρ)) = ex_lv ρ l ∧ K l = true
    rw [ex_cat_ok]
    by_cases hc : ex_cat v = 2
    · rw [if_pos hc]
      rw [show (ex_cat v == 2) = true by rw [hc]; rfl] at h'
      obtain ⟨l, e1, e2⟩ := ih h'
      exact ⟨(i, v) :: l, by rw [e1]; rfl, e2⟩
    · rw [if_neg hc]
      rw [show (ex_cat v == 2) = false from beq_eq_false_iff_ne.mpr hc] at h'
      obtain ⟨l, e1, e2⟩ := ih h'
      exact ⟨(i, v) :: l, by rw [e1]; rfl, e2⟩
theorem ex_cats_ok (ρ : Nat → Int32) (l : List ex_V) : ((l.map (ex_ev ρ)).map fun v => v.category).sum = ex_cats l := by
  induction l with
  | nil => rfl
  | cons v l ih =>
    simp only [List.map_cons, List.sum_cons, ih, ex_cat_ok]
    rfl
theorem ex_sl_ok (ρ : Nat → Int32) (l : List ex_V) : (lg_sl (l.map (ex_ev ρ))).length = ex_cats l := by
  induction l with
  | nil => rfl
  | cons v l ih =>
    have e : ex_cats (v :: l) = ex_cat v + ex_cats l := rfl
    rw [e, ← ih]
    simp only [lg_sl, List.map_cons, List.flatMap_cons, List.length_append, ex_cat_ok]
    congr 1
    match v with
    | .inl _ => rfl
    | .inr (.inl _) => rfl
    | .inr (.inr (.inl _)) => rfl
    | .inr (.inr (.inr (some _))) => rfl
    | .inr (.inr (.inr none)) => rfl
/-! the memory -/
section MEM
variable {ρ : Nat → Int32} {me : ex_Me} {σ : am_S} {o k : Nat}
theorem ex_R.wrI (h : ex_R ρ me σ) (ho : o < 65535) (hk : k < 65535) {e : ex_F} {x : Int32} (hx : ex_i ρ e = x) : ex_R ρ (me.1, me.2.1, me.2.2.1, ex_wr me.2.2.2.1 o k e, me.2.2.2.2.1, me.2.2.2.2.2) (σ.1, am_up σ.2.1 o k x, σ.2.2.1, σ.2.2.2) := by
  refine ⟨h.1, h.2.1, fun a b ha hb => ⟨?_, (h.2.2 a b ha hb).2.1, (h.2.2 a b ha hb).2.2⟩⟩
  show am_up σ.2.1 o k x a b = ex_i ρ (ex_rd (ex_wr me.2.2.2.1 o k e) a b)
  rw [ex_rd_wr ho hk ha hb]
  unfold am_up
  split
  · exact hx.symm
  · exact (h.2.2 a b ha hb).1
theorem ex_R.wrJ (h : ex_R ρ me σ) (ho : o < 65535) (hk : k < 65535) {e : ex_F} {x : Int64} (hx : ex_j e = x) : ex_R ρ (me.1, me.2.1, me.2.2.1, me.2.2.2.1, ex_wr me.2.2.2.2.1 o k e, me.2.2.2.2.2) (σ.1, σ.2.1, am_up σ.2.2.1 o k x, σ.2.2.2) := by
  refine ⟨h.1, h.2.1, fun a b ha hb => ⟨(h.2.2 a b ha hb).1, ?_, (h.2.2 a b ha hb).2.2⟩⟩
  show am_up σ.2.2.1 o k x a b = ex_j (ex_rd (ex_wr me.2.2.2.2.1 o k e) a b)
  rw [ex_rd_wr ho hk ha hb]
  unfold am_up
  split
  · exact hx.symm
  · exact (h.2.2 a b ha hb).2.1
theorem ex_R.wrR (h : ex_R ρ me σ) (ho : o < 65535) (hk : k < 65535) {e : ex_F} {x : Value} (hx : ex_rv e = x) : ex_R ρ (me.1, me.2.1, me.2.2.1, me.2.2.2.1, me.2.2.2.2.1, ex_wr me.2.2.2.2.2 o k e) (σ.1, σ.2.1, σ.2.2.1, am_up σ.2.2.2 o k x) := by
  refine ⟨h.1, h.2.1, fun a b ha hb => ⟨(h.2.2 a b ha hb).1, (h.2.2 a b ha hb).2.1, ?_⟩⟩
  show am_up σ.2.2.2 o k x a b = ex_rv (ex_rd (ex_wr me.2.2.2.2.2 o k e) a b)
  rw [ex_rd_wr ho hk ha hb]
  unfold am_up
  split
  · exact hx.symm
  · exact (h.2.2 a b ha hb).2.2
theorem ex_isO_ok (h : ex_R ρ me σ) {ci : Nat} (hb : ex_isO me o ci = true) : o < 65535 ∧ σ.1[o]? = some (.inl ci) := by
  unfold ex_isO at hb
  rw [Bool.and_eq_true] at hb
  have ho : o < 65535 := by simpa using hb.1
  refine ⟨ho, ?_⟩
  have h2 := hb.2
  split at h2
  · rename_i c hc
    rw [← Nat.eq_of_beq_eq_true h2]
    exact h.2.1 o _ ho (by rw [hc]; rfl)
  · cases h2
theorem ex_isA_ok (h : ex_R ρ me σ) {K : Nat → Nat → Bool} (hb : ex_isA me o K = true) : o < 65535 ∧ ∃ t n, σ.1[o]? = some (.inr (ex_ty t, n)) ∧ K t n = true := by
  unfold ex_isA at hb
  rw [Bool.and_eq_true] at hb
  have ho : o < 65535 := by simpa using hb.1
  refine ⟨ho, ?_⟩
  have h2 := hb.2
  split at h2
  · rename_i t n hc
    exact ⟨t, n, h.2.1 o _ ho (by rw [hc]; rfl), h2⟩
  · cases h2
theorem ex_ofNat_lt {j : Nat} (h : j < 2 ^ 31) : (Int32.ofInt (.ofNat j)).toNatClampNeg = j ∧ ¬ Int32.ofInt (.ofNat j) < 0 := by
  have e : Int32.ofInt (.ofNat j) = Int32.ofNat j := Int32.ofInt_eq_ofNat
  rw [e]
  refine ⟨Int32.toNatClampNeg_ofNat_of_lt h, ?_⟩
  rw [Int32.lt_iff_toInt_lt, Int32.toInt_ofNat_of_lt h]
  show ¬ (j : Int) < 0
  omega
theorem ex_ix_ok {pa : ex_Pa} (hp : ex_P ρ pa) {i : ex_F} {n : Nat} {K : ex_Pa → Nat → Bool} (h : ex_ix pa i n K = true) : ∃ pa' j, ex_P ρ pa' ∧ vp_in (ex_i ρ i) n ∧ (ex_i ρ i).toNatClampNeg = j ∧ j < n ∧ j < 65535 ∧ K pa' j = true := by
  obtain ⟨pa', v, h1, h2, h3⟩ := ex_conc_ok hp h
  cases v with
  | negSucc j => cases h3
  | ofNat j =>
    simp only at h3
    cases hb : (j.blt n && j.blt 65535) with
    | false => rw [hb] at h3; cases h3
    | true =>
      rw [hb] at h3
      rw [Bool.and_eq_true] at hb
      have j1 : j < n := by simpa using hb.1
      have j2 : j < 65535 := by simpa using hb.2
      have := ex_ofNat_lt (j := j) (by omega)
      rw [h2]
      refine ⟨pa', j, h1, ?_, this.1, j1, j2, h3⟩
      unfold vp_in
      rw [this.1]
      rintro (q | q)
      · exact this.2 q
      · omega
end MEM
