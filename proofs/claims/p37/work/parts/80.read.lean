/-! READING, in pure words: the bytes b of a tape, n of them, at most 'most' of them for this kind of text -/
def rd_by (t : Nat → Int32) (k : Nat) : Nat := (t k &&& 255).toInt.toNat
def rd_blk (c : Nat) : Bool := c == 32 || c == 10
def rd_ltr (c : Nat) : Bool := Nat.ble 97 c && Nat.ble c 122
def rd_dgt (c : Nat) : Bool := Nat.ble 48 c && Nat.ble c 57
def rd_sgn (c : Nat) : Bool := c == 59 || c == 40 || c == 41 || (Nat.ble 60 c && Nat.ble c 62)
/-- behind the blanks -/
def rd_sk (b : Nat → Nat) (n : Nat) : Nat → Nat → Nat
  | 0, p => p
  | f + 1, p => if p < n ∧ rd_blk (b p) = true then rd_sk b n f (p + 1) else p
/-- behind the run of letters and digits -/
def rd_rn (b : Nat → Nat) (n : Nat) : Nat → Nat → Nat
  | 0, p => p
  | f + 1, p => if p < n ∧ (rd_ltr (b p) || rd_dgt (b p)) = true then rd_rn b n f (p + 1) else p
/-- all of these, from p on -/
def rd_all (P : Nat → Bool) (b : Nat → Nat) : Nat → Nat → Bool
  | 0, _ => true
  | m + 1, p => P (b p) && rd_all P b m (p + 1)
/-- the number that m digits from p on are, on top of v -/
def rd_nm (b : Nat → Nat) : Nat → Nat → Nat → Nat
  | 0, _, v => v
  | m + 1, p, v => rd_nm b m (p + 1) (10 * v + b p - 48)
/-- kind (0 the end, 1 a word, 2 a number, 3 a sign, 4 none), place, bytes, place behind it, the number or the sign -/
abbrev rd_K : Type := Nat × Nat × Nat × Nat × Nat
def rd_tok (b : Nat → Nat) (n most p : Nat) : rd_K :=
  if most < n ∧ most ≤ rd_sk b n (n - p) p then (4, most, 0, rd_sk b n (n - p) p, 0)
  else if n ≤ rd_sk b n (n - p) p then (0, rd_sk b n (n - p) p, 0, rd_sk b n (n - p) p, 0)
  else if (rd_ltr (b (rd_sk b n (n - p) p)) || rd_dgt (b (rd_sk b n (n - p) p))) = true then
    (if rd_all rd_ltr b (rd_rn b n (n - rd_sk b n (n - p) p) (rd_sk b n (n - p) p) - rd_sk b n (n - p) p) (rd_sk b n (n - p) p) = true ∧ rd_rn b n (n - rd_sk b n (n - p) p) (rd_sk b n (n - p) p) - rd_sk b n (n - p) p ≤ 7 then 1
      else if rd_all rd_dgt b (rd_rn b n (n - rd_sk b n (n - p) p) (rd_sk b n (n - p) p) - rd_sk b n (n - p) p) (rd_sk b n (n - p) p) = true ∧ rd_rn b n (n - rd_sk b n (n - p) p) (rd_sk b n (n - p) p) - rd_sk b n (n - p) p ≤ 3 then 2 else 4,
     rd_sk b n (n - p) p, rd_rn b n (n - rd_sk b n (n - p) p) (rd_sk b n (n - p) p) - rd_sk b n (n - p) p, rd_rn b n (n - rd_sk b n (n - p) p) (rd_sk b n (n - p) p), rd_nm b (rd_rn b n (n - rd_sk b n (n - p) p) (rd_sk b n (n - p) p) - rd_sk b n (n - p) p) (rd_sk b n (n - p) p) 0)
  else (if rd_sgn (b (rd_sk b n (n - p) p)) = true then 3 else 4, rd_sk b n (n - p) p, 0, rd_sk b n (n - p) p + 1, b (rd_sk b n (n - p) p))
theorem rd_sk_eq {b : Nat → Nat} {n p : Nat} (h : p < n) (hb : rd_blk (b p) = true) : rd_sk b n (n - p) p = rd_sk b n (n - (p + 1)) (p + 1) := by
  obtain ⟨m, hm⟩ : ∃ m, n - p = m + 1 := ⟨n - p - 1, by omega⟩
  rw [hm]
  show (if p < n ∧ rd_blk (b p) = true then rd_sk b n m (p + 1) else p) = _
  rw [if_pos ⟨h, hb⟩, show n - (p + 1) = m by omega]
theorem rd_sk_at {b : Nat → Nat} {n p : Nat} (h : ¬ (p < n ∧ rd_blk (b p) = true)) : rd_sk b n (n - p) p = p := by
  cases hm : n - p with
  | zero => rfl
  | succ m =>
    show (if p < n ∧ rd_blk (b p) = true then rd_sk b n m (p + 1) else p) = _
    rw [if_neg h]
theorem rd_rn_eq {b : Nat → Nat} {n p : Nat} (h : p < n) (hb : (rd_ltr (b p) || rd_dgt (b p)) = true) : rd_rn b n (n - p) p = rd_rn b n (n - (p + 1)) (p + 1) := by
  obtain ⟨m, hm⟩ : ∃ m, n - p = m + 1 := ⟨n - p - 1, by omega⟩
  rw [hm]
  show (if p < n ∧ (rd_ltr (b p) || rd_dgt (b p)) = true then rd_rn b n m (p + 1) else p) = _
  rw [if_pos ⟨h, hb⟩, show n - (p + 1) = m by omega]
theorem rd_rn_at {b : Nat → Nat} {n p : Nat} (h : ¬ (p < n ∧ (rd_ltr (b p) || rd_dgt (b p)) = true)) : rd_rn b n (n - p) p = p := by
  cases hm : n - p with
  | zero => rfl
  | succ m =>
    show (if p < n ∧ (rd_ltr (b p) || rd_dgt (b p)) = true then rd_rn b n m (p + 1) else p) = _
    rw [if_neg h]
theorem rd_sk_in {b : Nat → Nat} {n : Nat} : ∀ {f p : Nat}, p ≤ rd_sk b n f p ∧ (p ≤ n → rd_sk b n f p ≤ n)
  | 0, p => ⟨Nat.le_refl _, fun h => h⟩
  | f + 1, p => by
    show p ≤ (if p < n ∧ rd_blk (b p) = true then rd_sk b n f (p + 1) else p) ∧ (p ≤ n → (if p < n ∧ rd_blk (b p) = true then rd_sk b n f (p + 1) else p) ≤ n)
    by_cases h : p < n ∧ rd_blk (b p) = true
    · rw [if_pos h]
      have := rd_sk_in (b := b) (n := n) (f := f) (p := p + 1)
      exact ⟨by omega, fun _ => this.2 (by omega)⟩
    · rw [if_neg h]
      exact ⟨Nat.le_refl _, fun h => h⟩
theorem rd_rn_in {b : Nat → Nat} {n : Nat} : ∀ {f p : Nat}, p ≤ rd_rn b n f p ∧ (p ≤ n → rd_rn b n f p ≤ n)
  | 0, p => ⟨Nat.le_refl _, fun h => h⟩
  | f + 1, p => by
    show p ≤ (if p < n ∧ (rd_ltr (b p) || rd_dgt (b p)) = true then rd_rn b n f (p + 1) else p) ∧ (p ≤ n → (if p < n ∧ (rd_ltr (b p) || rd_dgt (b p)) = true then rd_rn b n f (p + 1) else p) ≤ n)
    by_cases h : p < n ∧ (rd_ltr (b p) || rd_dgt (b p)) = true
    · rw [if_pos h]
      have := rd_rn_in (b := b) (n := n) (f := f) (p := p + 1)
      exact ⟨by omega, fun _ => this.2 (by omega)⟩
    · rw [if_neg h]
      exact ⟨Nat.le_refl _, fun h => h⟩
