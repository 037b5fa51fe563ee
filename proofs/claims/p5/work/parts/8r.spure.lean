/-! SENTENCE: the pure middle of both readers: a machine over tokens; brackets and nots that are open: true a not, false a bracket -/
def sn_ws : Nat → List Nat
  | 0 => [110, 111, 116]
  | 1 => [111, 112, 101, 110]
  | 2 => [102, 97, 105, 114]
  | 3 => [97, 104, 101, 97, 100]
  | 4 => [112, 114, 105, 99, 101]
  | 5 => [116, 97, 107, 101, 115]
  | 6 => [98, 111, 117, 103, 104, 116]
  | 7 => [110, 117, 109, 98, 101, 114]
  | 8 => [97, 110, 100]
  | _ => [111, 114]
def sn_wl (k i : Nat) : Nat := (sn_ws k).getD i 0
/-- the token is the word of that number -/
def sn_isk (b : Nat → Nat) (k : Nat) (t : rd_K) : Bool := rd_isw b (sn_wl k) (sn_ws k).length t
/-- which of open, fair, ahead, price, takes, bought, number -/
def sn_lf (b : Nat → Nat) (t : rd_K) : Int := (if sn_isk b 1 t = true then 0 else (if sn_isk b 2 t = true then 1 else (if sn_isk b 3 t = true then 2 else (if sn_isk b 4 t = true then 3 else (if sn_isk b 5 t = true then 4 else (if sn_isk b 6 t = true then 5 else (if sn_isk b 7 t = true then 6 else -1)))))))
/-- frames, ones, token; is a whole one read -/
abbrev sn_S : Type := Bool × List Bool × Nat × rd_K
abbrev sn_X : Type := ((Nat × Nat) ⊕ Nat) ⊕ sn_S
def sn_nx (b : Nat → Nat) (n : Nat) (t : rd_K) : rd_K := rd_tok b n 200 t.2.2.2.1
/-- one of: not, bracket, a plain word, a comparison -/
def sn_one (b : Nat → Nat) (n : Nat) (F : List Bool) (ones : Nat) (t : rd_K) : sn_X :=
  if sn_isk b 0 t = true ∨ rd_sgf t 40 = 0 ∨ 0 ≤ sn_lf b t then
    (if ones = 20 ∨ 8 < F.length + 1 then .inl (.inl (4, t.2.1))
    else if sn_isk b 0 t = true then .inr (false, true :: F, ones + 1, sn_nx b n t)
    else if rd_sgf t 40 = 0 then .inr (false, false :: F, ones + 1, sn_nx b n t)
    else if sn_lf b t < 3 then .inr (true, F, ones + 1, sn_nx b n t)
    else if (sn_nx b n t).1 = 3 ∧ 60 ≤ (sn_nx b n t).2.2.2.2 ∧ (sn_nx b n t).2.2.2.2 ≤ 62 then
      (if (sn_nx b n (sn_nx b n t)).1 = 2 then .inr (true, F, ones + 1, sn_nx b n (sn_nx b n (sn_nx b n t))) else .inl (.inl (1, (sn_nx b n (sn_nx b n t)).2.1)))
    else .inl (.inl (1, (sn_nx b n t).2.1)))
  else .inl (.inl (1, t.2.1))
/-- behind a whole one -/
def sn_beh (b : Nat → Nat) (n : Nat) (F : List Bool) (ones : Nat) (t : rd_K) : sn_X := match F with
  | true :: F => .inr (true, F, ones, t)
  | [] => if sn_isk b 8 t = true ∨ sn_isk b 9 t = true then .inr (false, [], ones, sn_nx b n t) else if t.1 = 0 then .inl (.inr ones) else .inl (.inl (1, t.2.1))
  | false :: F => if sn_isk b 8 t = true ∨ sn_isk b 9 t = true then .inr (false, false :: F, ones, sn_nx b n t) else if rd_sgf t 41 = 0 then .inr (true, F, ones, sn_nx b n t) else .inl (.inl (1, t.2.1))
def sn_st (b : Nat → Nat) (n : Nat) (x : sn_X) : sn_X := match x with
  | .inl r => .inl r
  | .inr (true, F, ones, t) => sn_beh b n F ones t
  | .inr (false, F, ones, t) => sn_one b n F ones t
def sn_it (b : Nat → Nat) (n : Nat) : Nat → sn_X → sn_X
  | 0, x => x
  | k + 1, x => sn_it b n k (sn_st b n x)
theorem sn_it_l (b : Nat → Nat) (n : Nat) (r : (Nat × Nat) ⊕ Nat) : ∀ k, sn_it b n k (.inl r) = .inl r := by
  intro k
  induction k with
  | zero => rfl
  | succ k ih => exact ih
theorem sn_it_add (b : Nat → Nat) (n : Nat) : ∀ (j k : Nat) (x : sn_X), sn_it b n (j + k) x = sn_it b n k (sn_it b n j x) := by
  intro j
  induction j with
  | zero => intro k x; rw [Nat.zero_add]; rfl
  | succ j ih =>
    intro k x
    rw [show j + 1 + k = (j + k) + 1 by omega]
    exact ih k (sn_st b n x)
/-- it comes to an end there -/
def sn_to (b : Nat → Nat) (n : Nat) (x : sn_X) (r : (Nat × Nat) ⊕ Nat) : Prop := ∃ k, sn_it b n k x = .inl r
theorem sn_to_u {b : Nat → Nat} {n : Nat} {x : sn_X} {r r' : (Nat × Nat) ⊕ Nat} (h : sn_to b n x r) (h' : sn_to b n x r') : r = r' := by
  obtain ⟨k, hk⟩ := h
  obtain ⟨k', hk'⟩ := h'
  have e1 : sn_it b n (k + k') x = .inl r := by rw [sn_it_add, hk, sn_it_l]
  have e2 : sn_it b n (k' + k) x = .inl r' := by rw [sn_it_add, hk', sn_it_l]
  rw [show k + k' = k' + k by omega, e2] at e1
  cases e1
  rfl
theorem sn_to_s {b : Nat → Nat} {n : Nat} {x : sn_X} {r : (Nat × Nat) ⊕ Nat} (h : sn_to b n (sn_st b n x) r) : sn_to b n x r := by
  obtain ⟨k, hk⟩ := h
  exact ⟨k + 1, hk⟩
theorem sn_to_i {b : Nat → Nat} {n : Nat} {x y : sn_X} {r : (Nat × Nat) ⊕ Nat} {k : Nat} (e : sn_it b n k x = y) (h : sn_to b n y r) : sn_to b n x r := by
  obtain ⟨j, hj⟩ := h
  exact ⟨k + j, by rw [sn_it_add, e]; exact hj⟩
/-- from x to y in some steps -/
def sn_go (b : Nat → Nat) (n : Nat) (x y : sn_X) : Prop := ∃ k, sn_it b n k x = y
theorem sn_go_r {b : Nat → Nat} {n : Nat} (x : sn_X) : sn_go b n x x := ⟨0, rfl⟩
theorem sn_go_t {b : Nat → Nat} {n : Nat} {x y z : sn_X} (h : sn_go b n x y) (h' : sn_go b n y z) : sn_go b n x z := by
  obtain ⟨j, hj⟩ := h
  obtain ⟨k, hk⟩ := h'
  exact ⟨j + k, by rw [sn_it_add, hj]; exact hk⟩
theorem sn_go_1 {b : Nat → Nat} {n : Nat} {x y : sn_X} (h : sn_st b n x = y) : sn_go b n x y := ⟨1, h⟩
theorem sn_go_to {b : Nat → Nat} {n : Nat} {x : sn_X} {r : (Nat × Nat) ⊕ Nat} (h : sn_go b n x (.inl r)) : sn_to b n x r := h
theorem sn_start (b : Nat → Nat) (n : Nat) {r r' : (Nat × Nat) ⊕ Nat} (h : sn_go b n (.inr (false, [], 0, rd_tok b n 200 0)) (.inl r)) (h' : sn_go b n (.inr (false, [], 0, rd_tok b n 200 0)) (.inl r')) : r = r' := sn_to_u h h'
