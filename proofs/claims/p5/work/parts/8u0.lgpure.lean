/-! LOG: the pure middle of both readers -/
def lz_ws : Nat → List Nat
  | 0 => [116, 114, 97, 105, 110]
  | 1 => [97, 116]
  | 2 => [102, 114, 117, 105, 116]
  | 3 => [99, 111, 105, 110]
  | 4 => [117, 112]
  | 5 => [100, 111, 119, 110]
  | _ => [119, 97, 105, 116, 115]
def lz_wl (k i : Nat) : Nat := (lz_ws k).getD i 0
/-- the token is the word of that number -/
def lz_isk (b : Nat → Nat) (k : Nat) (t : rd_K) : Bool := rd_isw b (lz_wl k) (lz_ws k).length t
def lz_dd (b : Nat → Nat) (t : rd_K) : Int := (if lz_isk b 0 t = true then 0 else (if lz_isk b 1 t = true then 1 else (if lz_isk b 2 t = true then 2 else (if lz_isk b 3 t = true then 3 else (if lz_isk b 4 t = true then 4 else (if lz_isk b 5 t = true then 5 else (if lz_isk b 6 t = true then 6 else -1)))))))
theorem lz_dd6 {b : Nat → Nat} {t : rd_K} : -1 ≤ lz_dd b t ∧ lz_dd b t ≤ 6 := by
  unfold lz_dd
  repeat' split
  all_goals omega
theorem lz_isk1 {b : Nat → Nat} {k : Nat} {t : rd_K} (h : lz_isk b k t = true) : t.1 = 1 := by
  unfold lz_isk rd_isw at h
  rw [Bool.and_eq_true, beq_iff_eq] at h
  exact h.1
theorem lz_dd1 {b : Nat → Nat} {t : rd_K} (h : 0 ≤ lz_dd b t) : t.1 = 1 := by
  unfold lz_dd at h
  by_cases h0 : lz_isk b 0 t = true
  · exact lz_isk1 h0
  rw [if_neg h0] at h
  by_cases h1 : lz_isk b 1 t = true
  · exact lz_isk1 h1
  rw [if_neg h1] at h
  by_cases h2 : lz_isk b 2 t = true
  · exact lz_isk1 h2
  rw [if_neg h2] at h
  by_cases h3 : lz_isk b 3 t = true
  · exact lz_isk1 h3
  rw [if_neg h3] at h
  by_cases h4 : lz_isk b 4 t = true
  · exact lz_isk1 h4
  rw [if_neg h4] at h
  by_cases h5 : lz_isk b 5 t = true
  · exact lz_isk1 h5
  rw [if_neg h5] at h
  by_cases h6 : lz_isk b 6 t = true
  · exact lz_isk1 h6
  rw [if_neg h6] at h
  omega
abbrev lz_X : Type := ((Nat × Nat) ⊕ Nat) ⊕ (Nat × rd_K)
def lz_nx (b : Nat → Nat) (n : Nat) (t : rd_K) : rd_K := rd_tok b n 400 t.2.2.2.1
def lz_lo (w : Int) : Nat := if w = 6 then 1 else 0
def lz_hi (w : Int) : Nat := if w = 1 then 9 else 60
/-- a line, up to its semicolon; l are behind it -/
def lz_one (b : Nat → Nat) (n l : Nat) (t : rd_K) : (Nat × Nat) ⊕ rd_K :=
  if lz_dd b t < 0 then .inl (1, t.2.1)
  else if l = 40 then .inl (4, t.2.1)
  else if 1 < lz_dd b t ∧ lz_dd b t < 6 then .inr (lz_nx b n t)
  else if rd_tkf (lz_nx b n t) (lz_lo (lz_dd b t)) (lz_hi (lz_dd b t)) = 0 then .inr (lz_nx b n (lz_nx b n t))
  else .inl (rd_tkf (lz_nx b n t) (lz_lo (lz_dd b t)) (lz_hi (lz_dd b t)), (lz_nx b n t).2.1)
def lz_end (b : Nat → Nat) (n l : Nat) : (Nat × Nat) ⊕ rd_K → lz_X
  | .inl e => .inl (.inl e)
  | .inr t1 => if rd_sgf t1 59 = 0 then .inr (l + 1, lz_nx b n t1) else .inl (.inl (1, t1.2.1))
def lz_st (b : Nat → Nat) (n : Nat) : lz_X → lz_X
  | .inl r => .inl r
  | .inr (l, t) => if t.1 = 0 then .inl (.inr l) else lz_end b n l (lz_one b n l t)
def lz_it (b : Nat → Nat) (n : Nat) : Nat → lz_X → lz_X
  | 0, x => x
  | k + 1, x => lz_it b n k (lz_st b n x)
theorem lz_it_l (b : Nat → Nat) (n : Nat) (r : (Nat × Nat) ⊕ Nat) : ∀ k, lz_it b n k (.inl r) = .inl r := by
  intro k
  induction k with
  | zero => rfl
  | succ k ih => exact ih
theorem lz_it_add (b : Nat → Nat) (n : Nat) : ∀ (j k : Nat) (x : lz_X), lz_it b n (j + k) x = lz_it b n k (lz_it b n j x) := by
  intro j
  induction j with
  | zero => intro k x; rw [Nat.zero_add]; rfl
  | succ j ih =>
    intro k x
    rw [show j + 1 + k = (j + k) + 1 by omega]
    exact ih k (lz_st b n x)
def lz_go (b : Nat → Nat) (n : Nat) (x y : lz_X) : Prop := ∃ k, lz_it b n k x = y
theorem lz_go_r {b : Nat → Nat} {n : Nat} (x : lz_X) : lz_go b n x x := ⟨0, rfl⟩
theorem lz_go_t {b : Nat → Nat} {n : Nat} {x y z : lz_X} (h : lz_go b n x y) (h' : lz_go b n y z) : lz_go b n x z := by
  obtain ⟨j, hj⟩ := h
  obtain ⟨k, hk⟩ := h'
  exact ⟨j + k, by rw [lz_it_add, hj]; exact hk⟩
theorem lz_go_1 {b : Nat → Nat} {n : Nat} {x y : lz_X} (h : lz_st b n x = y) : lz_go b n x y := ⟨1, h⟩
theorem lz_u {b : Nat → Nat} {n : Nat} {x : lz_X} {r r' : (Nat × Nat) ⊕ Nat} (h : lz_go b n x (.inl r)) (h' : lz_go b n x (.inl r')) : r = r' := by
  obtain ⟨k, hk⟩ := h
  obtain ⟨k', hk'⟩ := h'
  have e1 : lz_it b n (k + k') x = .inl r := by rw [lz_it_add, hk, lz_it_l]
  have e2 : lz_it b n (k' + k) x = .inl r' := by rw [lz_it_add, hk', lz_it_l]
  rw [show k + k' = k' + k by omega, e2] at e1
  cases e1
  rfl
theorem lz_z {b : Nat → Nat} {n l : Nat} {t : rd_K} (h : t.1 = 0) : lz_go b n (.inr (l, t)) (.inl (.inr l)) := lz_go_1 (by show (if t.1 = 0 then _ else _) = _; rw [if_pos h])
theorem lz_s {b : Nat → Nat} {n l : Nat} {t : rd_K} (h : t.1 ≠ 0) {y : (Nat × Nat) ⊕ rd_K} (e : lz_one b n l t = y) : lz_go b n (.inr (l, t)) (lz_end b n l y) := lz_go_1 (by show (if t.1 = 0 then _ else _) = _; rw [if_neg h, e])
theorem lz_o1 {b : Nat → Nat} {n l : Nat} {t : rd_K} (h : lz_dd b t < 0) : lz_one b n l t = .inl (1, t.2.1) := by unfold lz_one; rw [if_pos h]
theorem lz_o4 {b : Nat → Nat} {n l : Nat} {t : rd_K} (h : 0 ≤ lz_dd b t) (h4 : l = 40) : lz_one b n l t = .inl (4, t.2.1) := by unfold lz_one; rw [if_neg (by omega), if_pos h4]
theorem lz_om {b : Nat → Nat} {n l : Nat} {t : rd_K} (h4 : l ≠ 40) (hm : 1 < lz_dd b t ∧ lz_dd b t < 6) : lz_one b n l t = .inr (lz_nx b n t) := by unfold lz_one; rw [if_neg (by omega), if_neg h4, if_pos hm]
theorem lz_on {b : Nat → Nat} {n l : Nat} {t : rd_K} (h : 0 ≤ lz_dd b t) (h4 : l ≠ 40) (hm : ¬ (1 < lz_dd b t ∧ lz_dd b t < 6)) (ht : rd_tkf (lz_nx b n t) (lz_lo (lz_dd b t)) (lz_hi (lz_dd b t)) = 0) : lz_one b n l t = .inr (lz_nx b n (lz_nx b n t)) := by unfold lz_one; rw [if_neg (by omega), if_neg h4, if_neg hm, if_pos ht]
theorem lz_of {b : Nat → Nat} {n l : Nat} {t : rd_K} (h : 0 ≤ lz_dd b t) (h4 : l ≠ 40) (hm : ¬ (1 < lz_dd b t ∧ lz_dd b t < 6)) (ht : rd_tkf (lz_nx b n t) (lz_lo (lz_dd b t)) (lz_hi (lz_dd b t)) ≠ 0) : lz_one b n l t = .inl (rd_tkf (lz_nx b n t) (lz_lo (lz_dd b t)) (lz_hi (lz_dd b t)), (lz_nx b n t).2.1) := by unfold lz_one; rw [if_neg (by omega), if_neg h4, if_neg hm, if_neg ht]
/-- where a fault may be -/
def lz_in (b : Nat → Nat) (n : Nat) : lz_X → Prop
  | .inl (.inl q) => q.2 ≤ 940
  | .inl (.inr _) => True
  | .inr (_, t) => rd_gd b n 400 t
theorem lz_gx {b : Nat → Nat} {n : Nat} {t : rd_K} (h : rd_gd b n 400 t) : rd_gd b n 400 (lz_nx b n t) := (rd_gd_x h).1
theorem lz_ga {b : Nat → Nat} {n : Nat} {t : rd_K} (hn : n ≤ 940) (h : rd_gd b n 400 t) : t.2.1 ≤ 940 := by
  rcases (rd_gd_n h).2.1 with q | q <;> omega
theorem lz_st_in {b : Nat → Nat} {n : Nat} (hn : n ≤ 940) : ∀ x : lz_X, lz_in b n x → lz_in b n (lz_st b n x)
  | .inl _, h => h
  | .inr (l, t), h => by
    have h' : rd_gd b n 400 t := h
    show lz_in b n (if t.1 = 0 then .inl (.inr l) else lz_end b n l (lz_one b n l t))
    by_cases t0 : t.1 = 0
    · rw [if_pos t0]; exact True.intro
    rw [if_neg t0]
    have fin : ∀ t1, rd_gd b n 400 t1 → lz_in b n (lz_end b n l (.inr t1)) := by
      intro t1 g1
      show lz_in b n (if rd_sgf t1 59 = 0 then .inr (l + 1, lz_nx b n t1) else .inl (.inl (1, t1.2.1)))
      by_cases hs : rd_sgf t1 59 = 0
      · rw [if_pos hs]; exact lz_gx g1
      · rw [if_neg hs]; exact lz_ga hn g1
    unfold lz_one
    by_cases h0 : lz_dd b t < 0
    · rw [if_pos h0]; exact lz_ga hn h'
    rw [if_neg h0]
    by_cases h4 : l = 40
    · rw [if_pos h4]; exact lz_ga hn h'
    rw [if_neg h4]
    by_cases hm : 1 < lz_dd b t ∧ lz_dd b t < 6
    · rw [if_pos hm]; exact fin _ (lz_gx h')
    rw [if_neg hm]
    by_cases ht : rd_tkf (lz_nx b n t) (lz_lo (lz_dd b t)) (lz_hi (lz_dd b t)) = 0
    · rw [if_pos ht]; exact fin _ (lz_gx (lz_gx h'))
    · rw [if_neg ht]; exact lz_ga hn (lz_gx h')
theorem lz_it_in {b : Nat → Nat} {n : Nat} (hn : n ≤ 940) : ∀ (k : Nat) (x : lz_X), lz_in b n x → lz_in b n (lz_it b n k x)
  | 0, _, h => h
  | k + 1, x, h => lz_it_in hn k (lz_st b n x) (lz_st_in hn x h)
theorem lz_go_in {b : Nat → Nat} {n : Nat} (hn : n ≤ 940) {x y : lz_X} (h : lz_go b n x y) (hx : lz_in b n x) : lz_in b n y := by
  obtain ⟨k, rfl⟩ := h
  exact lz_it_in hn k x hx
abbrev lz_s0 (b : Nat → Nat) (n : Nat) : lz_X := .inr (0, rd_tok b n 400 0)
