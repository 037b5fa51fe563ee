/-! exact answers, further (rows written by a program) -/
section AXX
variable {g : am_C} {L : Nat} {xs : Nat → Int32}
/-! choices: two bits each in a long -/
def pc_h (s : Nat → Int32) (ws : List Nat) (T j : Nat) (ch : Int64) : Prop := ∃ N : Nat, N < 4 ^ j ∧ ch = Int64.ofNat N ∧ ∀ f, f < j → N / 4 ^ f % 4 = (pn_v s ws T f).2
theorem pc_h0 (s : Nat → Int32) (ws : List Nat) (T : Nat) : pc_h s ws T 0 0 := ⟨0, by decide, rfl, fun f h => absurd h (Nat.not_lt_zero f)⟩
theorem pc_sh : ∀ c, c < 4 → ∀ j, j < 25 → (Int32.ofNat c).toInt64 <<< ((2 * Int32.ofNat j).toInt64 &&& 63) = Int64.ofNat (c * 4 ^ j) := by decide +kernel
theorem pc_p4 (j : Nat) : 4 ^ j = 2 ^ (2 * j) := by rw [Nat.pow_mul]
theorem pc_or {N c j : Nat} (h : N < 4 ^ j) : Int64.ofNat N ||| Int64.ofNat (c * 4 ^ j) = Int64.ofNat (N + c * 4 ^ j) := by
  have e1 : Int64.ofNat N ||| Int64.ofNat (c * 4 ^ j) = Int64.ofNat (N ||| c * 4 ^ j) := by
    apply Int64.toBitVec_inj.1
    show BitVec.ofNat 64 N ||| BitVec.ofNat 64 (c * 4 ^ j) = BitVec.ofNat 64 (N ||| c * 4 ^ j)
    rw [BitVec.ofNat_or]
  rw [pc_p4] at h
  have e2 := Nat.two_pow_add_eq_or_of_lt h c
  rw [e1, pc_p4, Nat.or_comm, Nat.mul_comm c, ← e2, Nat.add_comm]
theorem pc_dg {N c j f : Nat} (h : f < j) : (N + c * 4 ^ j) / 4 ^ f % 4 = N / 4 ^ f % 4 := by
  obtain ⟨i, rfl⟩ : ∃ i, j = f + (i + 1) := ⟨j - f - 1, by omega⟩
  have e : c * 4 ^ (f + (i + 1)) = 4 ^ f * (4 * (c * 4 ^ i)) := by
    rw [Nat.pow_add, Nat.pow_succ]
    generalize 4 ^ f = x
    generalize 4 ^ i = y
    rw [Nat.mul_comm c, Nat.mul_assoc, Nat.mul_comm y 4, Nat.mul_assoc, Nat.mul_comm y c]
  rw [e, Nat.add_mul_div_left _ _ (Nat.pow_pos (by decide)), Nat.add_mul_mod_self_left]
theorem pc_dj {N c j : Nat} (h : N < 4 ^ j) (hc : c < 4) : (N + c * 4 ^ j) / 4 ^ j % 4 = c := by
  rw [Nat.mul_comm c, Nat.add_mul_div_left _ _ (Nat.pow_pos (by decide)), Nat.div_eq_of_lt h, Nat.zero_add, Nat.mod_eq_of_lt hc]
theorem pc_hS {s : Nat → Int32} (b : pn_B s) (w : Nat) (ws : List Nat) (T j : Nat) (ch : Int64) (fx fo : Int32) (hw : w < 10) (hj : j ≤ 24) (h : pc_h s (w :: ws) T j ch) (ef : fx.toInt = (j : Int)) (eo : fo.toInt = ((pn_v s (w :: ws) T j).2 : Int)) : pc_h s (w :: ws) T (j + 1) (ch ||| (fo.toInt64 <<< ((2 * fx).toInt64 &&& 63))) := by
  obtain ⟨N, h1, h2, h3⟩ := h
  have hc : (pn_v s (w :: ws) T j).2 ≤ 3 := by
    have e := pv_best_arg (fun n => pv_S (pn_g s w) (pn_tk s w) T n + (pn_v s ws (T + n * pn_tk s w + pn_wk s) (j - n)).1) (min j (pn_of s w))
    have l := (pn_lim b hw).1
    show (pv_best (fun n => pv_S (pn_g s w) (pn_tk s w) T n + (pn_v s ws (T + n * pn_tk s w + pn_wk s) (j - n)).1) (min j (pn_of s w))).2 ≤ 3
    exact Nat.le_trans e (Nat.le_trans (Nat.min_le_right _ _) l)
  have e : fo.toInt64 <<< ((2 * fx).toInt64 &&& 63) = Int64.ofNat ((pn_v s (w :: ws) T j).2 * 4 ^ j) := by
    rw [ch_ofN ef, ch_ofN eo]
    exact pc_sh _ (by omega) j (by omega)
  refine ⟨N + (pn_v s (w :: ws) T j).2 * 4 ^ j, ?_, by rw [h2, e, pc_or h1], fun f hf => ?_⟩
  · have hm : (pn_v s (w :: ws) T j).2 * 4 ^ j ≤ 3 * 4 ^ j := Nat.mul_le_mul_right _ hc
    rw [Nat.pow_succ]
    omega
  · by_cases e2 : f = j
    · subst e2
      exact pc_dj h1 (by omega)
    · rw [pc_dg (by omega)]
      exact h3 f (by omega)
theorem pc_am : ∀ f, f < 25 → (2 * Int32.ofNat f).toInt64.toUInt64 &&& Int64.toUInt64 63 = UInt64.ofNat (2 * f) := by decide +kernel
theorem pc_a3 (M : Nat) : Int32.ofNat M &&& Int64.toInt32 3 = Int32.ofNat (M % 4) := by
  apply Int32.toBitVec_inj.1
  show BitVec.ofNat 32 M &&& BitVec.ofNat 32 3 = BitVec.ofNat 32 (M % 4)
  rw [← BitVec.ofNat_and]
  exact congrArg _ (Nat.and_two_pow_sub_one_eq_mod M 2)
/-- what chosenSales reads -/
theorem pc_rd {s : Nat → Int32} {ws : List Nat} {T j F : Nat} {ch : Int64} {fx : Int32} (h : pc_h s ws T j ch) (hj : j ≤ 25) (hF : F < j) (ef : fx.toInt = (F : Int)) : (((ch.toUInt64 >>> ((2 * fx).toInt64.toUInt64 &&& Int64.toUInt64 63)).toInt64 &&& 3).toInt32).toInt = ((pn_v s ws T F).2 : Int) := by
  obtain ⟨N, h1, h2, h3⟩ := h
  have hN : N < 2 ^ 64 := Nat.lt_of_lt_of_le h1 (Nat.le_trans (Nat.pow_le_pow_right (by decide) hj) (by decide))
  have e1 : ch.toUInt64 >>> ((2 * fx).toInt64.toUInt64 &&& Int64.toUInt64 63) = UInt64.ofNat (N / 4 ^ F) := by
    rw [ch_ofN ef, pc_am F (by omega), h2, Int64.toUInt64_ofNat']
    apply UInt64.toNat_inj.1
    have hd : N / 4 ^ F < 2 ^ 64 := Nat.lt_of_le_of_lt (Nat.div_le_self _ _) hN
    rw [UInt64.toNat_shiftRight, UInt64.toNat_ofNat', UInt64.toNat_ofNat', UInt64.toNat_ofNat', Nat.mod_eq_of_lt hN, Nat.mod_eq_of_lt (by omega : 2 * F < 2 ^ 64), Nat.mod_eq_of_lt (by omega : 2 * F < 64), Nat.mod_eq_of_lt hd, Nat.shiftRight_eq_div_pow, pc_p4]
  rw [e1, UInt64.toInt64_ofNat', Int64.toInt32_and, Int64.toInt32_ofNat', pc_a3, h3 F hF]
  have l : (pn_v s ws T F).2 < 4 := by rw [← h3 F hF]; exact Nat.mod_lt _ (by decide)
  exact Int32.toInt_ofNat_of_lt (by omega)
/-! the best plan: which way -/
def pb_v (s : Nat → Int32) (q : Nat) : Nat := (pn_v s (pz_row s (q / 2) (1 - q % 2)) 0 (s 55).toInt.toNat).1
/-- what the scan has found among the first q ways -/
def pb_I (c : Bool) (s : Nat → Int32) (q : Nat) (mo a u : Int32) : Prop := (q = 0 ∧ mo.toInt = -1 ∧ (c = true → a.toInt = 0 ∧ u.toInt = 1)) ∨ ∃ k, q = k + 1 ∧ mo.toInt = ((pv_best (pb_v s) k).1 : Int) ∧ a.toInt = (((pv_best (pb_v s) k).2 / 2 : Nat) : Int) ∧ u.toInt = ((1 - (pv_best (pb_v s) k).2 % 2 : Nat) : Int)
theorem pb_Is {c : Bool} {s : Nat → Int32} {q : Nat} {mo a u x w v : Int32} (h : pb_I c s q mo a u) (ex : x.toInt = (pb_v s q : Int)) (ew : w.toInt = ((q / 2 : Nat) : Int)) (ev : v.toInt = ((1 - q % 2 : Nat) : Int)) : (mo.toInt < x.toInt → pb_I c s (q + 1) x w v) ∧ (¬ mo.toInt < x.toInt → pb_I c s (q + 1) mo a u) := by
  refine ⟨fun l => Or.inr ⟨q, rfl, ?_⟩, fun l => Or.inr ⟨q, rfl, ?_⟩⟩
  · rcases h with ⟨rfl, -, -⟩ | ⟨k, rfl, h1, -, -⟩
    · exact ⟨ex, ew, ev⟩
    · rw [pv_best, if_pos (by omega)]
      exact ⟨ex, ew, ev⟩
  · rcases h with ⟨rfl, h1, -⟩ | ⟨k, rfl, h1, h2, h3⟩
    · exact absurd (by omega) l
    · rw [pv_best, if_neg (by omega)]
      exact ⟨h1, h2, h3⟩
def pb_q (s : Nat → Int32) : Nat := (pv_best (pb_v s) (2 * pz_W s - 1)).2
def pb_a (s : Nat → Int32) : Nat := pb_q s / 2
def pb_u (s : Nat → Int32) : Nat := 1 - pb_q s % 2
theorem pb_end {c : Bool} {s : Nat → Int32} {mo a u : Int32} (h : pb_I c s (2 * pz_W s) mo a u) (hc : c = true ∨ 1 ≤ pz_W s) : a.toInt = (pb_a s : Int) ∧ u.toInt = (pb_u s : Int) := by
  unfold pb_a pb_u pb_q
  rcases h with ⟨h0, -, h1⟩ | ⟨k, hk, -, h2, h3⟩
  · have hW : pz_W s = 0 := by omega
    have hc1 : c = true := by
      rcases hc with e | e
      · exact e
      · omega
    rw [hW]
    obtain ⟨h4, h5⟩ := h1 hc1
    have e0 : (pv_best (pb_v s) (2 * 0 - 1)).2 = 0 := rfl
    rw [h4, h5, e0]
    exact ⟨by decide, by decide⟩
  · have e : 2 * pz_W s - 1 = k := by omega
    rw [e]
    exact ⟨h2, h3⟩
theorem pb_aW {s : Nat → Int32} (h : 1 ≤ pz_W s) : pb_a s < pz_W s := by
  have e := pv_best_arg (pb_v s) (2 * pz_W s - 1)
  unfold pb_a pb_q
  omega
theorem pb_u1 (s : Nat → Int32) : pb_u s ≤ 1 := by
  unfold pb_u
  omega
/-! the best plan: its sales -/
def pz_rep (w t tk : Nat) : Nat → List (Nat × Nat)
  | 0 => []
  | n + 1 => pz_rep w t tk n ++ [(w, t + n * tk)]
def pz_tr (s : Nat → Int32) : List Nat → Nat → Nat → List (Nat × Nat)
  | [], _, _ => []
  | w :: ws, t, f => pz_rep w t (pn_tk s w) (pn_v s (w :: ws) t f).2 ++ pz_tr s ws (t + (pn_v s (w :: ws) t f).2 * pn_tk s w + pn_wk s) (f - (pn_v s (w :: ws) t f).2)
theorem pz_tr_c (s : Nat → Int32) (w : Nat) (ws : List Nat) (t f : Nat) : pz_tr s (w :: ws) t f = pz_rep w t (pn_tk s w) (pn_v s (w :: ws) t f).2 ++ pz_tr s ws (t + (pn_v s (w :: ws) t f).2 * pn_tk s w + pn_wk s) (f - (pn_v s (w :: ws) t f).2) := rfl
def pz_best (s : Nat → Int32) : List (Nat × Nat) := pz_tr s (pz_row s (pb_a s) (pb_u s)) 0 (s 55).toInt.toNat
theorem pn_v2 {s : Nat → Int32} (b : pn_B s) {w : Nat} (hw : w < 10) (ws : List Nat) (t f : Nat) : (pn_v s (w :: ws) t f).2 ≤ f ∧ (pn_v s (w :: ws) t f).2 ≤ 3 := by
  have e := pv_best_arg (fun n => pv_S (pn_g s w) (pn_tk s w) t n + (pn_v s ws (t + n * pn_tk s w + pn_wk s) (f - n)).1) (min f (pn_of s w))
  have l := (pn_lim b hw).1
  have e' : (pn_v s (w :: ws) t f).2 ≤ min f (pn_of s w) := e
  omega
/-- what remains of the way behind the first k windows -/
def br_n (s : Nat → Int32) (U A : Nat) : Nat := if U = 1 then pz_W s - A else A + 1
def br_w (U A k : Nat) : Nat := if U = 1 then A + k else A - k
def br (s : Nat → Int32) (U A k : Nat) : List Nat := if U = 1 then pl_up (pz_W s - A - k) (A + k) else pl_dn (A + 1 - k) (A - k)
theorem br_0 (s : Nat → Int32) (U A : Nat) : br s U A 0 = pz_row s A U := by
  unfold br pz_row pz_W
  split <;> rfl
theorem br_S {s : Nat → Int32} {U A k : Nat} (hA : A < pz_W s) (hk : k < br_n s U A) : br s U A k = br_w U A k :: br s U A (k + 1) ∧ br s U A k = pz_row s (br_w U A k) U ∧ br_w U A k < pz_W s := by
  unfold br_n at hk
  unfold br br_w pz_row
  by_cases e : U = 1
  · rw [if_pos e] at hk
    simp only [if_pos e]
    refine ⟨?_, ?_, by omega⟩
    · rw [show pz_W s - A - k = (pz_W s - A - (k + 1)) + 1 by omega]
      rfl
    · rw [show pz_W s - A - k = (s 0).toInt.toNat - (A + k) by unfold pz_W; omega]
  · rw [if_neg e] at hk
    simp only [if_neg e]
    refine ⟨?_, ?_, by omega⟩
    · rw [show A + 1 - k = (A + 1 - (k + 1)) + 1 by omega, show A - (k + 1) = A - k - 1 by omega]
      rfl
    · rw [show A + 1 - k = A - k + 1 by omega]
theorem br_end {s : Nat → Int32} {U A k : Nat} (hk : k = br_n s U A) : br s U A k = [] := by
  unfold br_n at hk
  unfold br
  by_cases e : U = 1
  · rw [if_pos e] at hk
    rw [if_pos e, show pz_W s - A - k = 0 by omega]
    rfl
  · rw [if_neg e] at hk
    rw [if_neg e, show A + 1 - k = 0 by omega]
    rfl
theorem br_ix {U A k : Nat} {a st i : Int32} (hU : U ≤ 1) (ea : a.toInt = (A : Int)) (est : st.toInt = (if U = 1 then 1 else -1)) (ei : i.toInt = (k : Int)) (h10 : A < 10) (hk : k ≤ 10) (hd : ¬ U = 1 → k ≤ A) : (a + i * st).toInt = (br_w U A k : Int) := by
  unfold br_w
  by_cases e : U = 1
  · rw [if_pos e] at est ⊢
    have m : i.toInt * st.toInt = (k : Int) := by rw [est, ei, Int.mul_one]
    have e1 := sx_mulI i st (by rw [m]; show (-2147483648 : Int) ≤ _; omega) (by rw [m]; show _ ≤ (2147483647 : Int); omega)
    rw [sx_addI a (i * st) (by show (-2147483648 : Int) ≤ _; omega) (by show _ ≤ (2147483647 : Int); omega)]
    omega
  · rw [if_neg e] at est ⊢
    have h := hd e
    have m : i.toInt * st.toInt = -(k : Int) := by rw [est, ei, Int.mul_neg, Int.mul_one]
    have e1 := sx_mulI i st (by rw [m]; show (-2147483648 : Int) ≤ _; omega) (by rw [m]; show _ ≤ (2147483647 : Int); omega)
    rw [sx_addI a (i * st) (by show (-2147483648 : Int) ≤ _; omega) (by show _ ≤ (2147483647 : Int); omega)]
    omega
/-- the sales that are noted -/
def pb_L (s : Nat → Int32) (l : List (Nat × Nat)) (m : Nat → Nat → Int32) : Prop := (m 68 12).toInt = (l.length : Int) ∧ ∀ i, i < l.length → (m 75 i).toInt = ((l.getD i (0, 0)).1 : Int) ∧ (m 76 i).toInt = ((l.getD i (0, 0)).2 : Int) ∧ m 77 i = ax_f_bwM s (Int32.ofNat (l.getD i (0, 0)).1) (Int32.ofNat (l.getD i (0, 0)).2)
theorem gd_l {α : Type} {l : List α} {x d : α} {i : Nat} (h : i < l.length) : (l ++ [x]).getD i d = l.getD i d := by
  rw [List.getD_eq_getElem?_getD, List.getD_eq_getElem?_getD, List.getElem?_append_left h]
theorem gd_r {α : Type} (l : List α) (x d : α) : (l ++ [x]).getD l.length d = x := by
  rw [List.getD_eq_getElem?_getD, List.getElem?_append_right (Nat.le_refl _), Nat.sub_self]
  rfl
theorem pb_L1 {s : Nat → Int32} {l : List (Nat × Nat)} {m m' : Nat → Nat → Int32} {w t : Nat} (h : pb_L s l m) (e12 : (m' 68 12).toInt = ((l.length + 1 : Nat) : Int)) (e5 : (m' 75 l.length).toInt = (w : Int)) (e6 : (m' 76 l.length).toInt = (t : Int)) (e7 : m' 77 l.length = ax_f_bwM s (Int32.ofNat w) (Int32.ofNat t)) (f : ∀ x i, (x = 75 ∨ x = 76 ∨ x = 77) → i < l.length → m' x i = m x i) : pb_L s (l ++ [(w, t)]) m' := by
  refine ⟨by rw [List.length_append]; exact e12, fun i hi => ?_⟩
  rw [List.length_append] at hi
  have hi' : i < l.length + 1 := hi
  by_cases e : i = l.length
  · subst e
    rw [gd_r]
    exact ⟨e5, e6, e7⟩
  · have hl : i < l.length := by omega
    rw [gd_l hl, f 75 i (Or.inl rfl) hl, f 76 i (Or.inr (Or.inl rfl)) hl, f 77 i (Or.inr (Or.inr rfl)) hl]
    exact h.2 i hl
end AXX
