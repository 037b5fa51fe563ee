/-! a run of letters and digits, one more at its end -/
theorem rd_nm_snoc (b : Nat → Nat) : ∀ (j s v : Nat), rd_nm b (j + 1) s v = 10 * rd_nm b j s v + b (s + j) - 48
  | 0, s, v => rfl
  | j + 1, s, v => by
    show rd_nm b (j + 1) (s + 1) (10 * v + b s - 48) = 10 * rd_nm b j (s + 1) (10 * v + b s - 48) + b (s + (j + 1)) - 48
    rw [rd_nm_snoc b j (s + 1) (10 * v + b s - 48), show s + 1 + j = s + (j + 1) by omega]
theorem rd_wd_snoc (b : Nat → Nat) : ∀ (j s : Nat) (w : Int64), rd_wd b (j + 1) s w = ((rd_wd b j s w <<< ((8 : Int32).toInt64 &&& 63)) ||| Int64.ofNat (b (s + j)))
  | 0, s, w => rfl
  | j + 1, s, w => by
    show rd_wd b (j + 1) (s + 1) ((w <<< ((8 : Int32).toInt64 &&& 63)) ||| Int64.ofNat (b s)) = ((rd_wd b j (s + 1) ((w <<< ((8 : Int32).toInt64 &&& 63)) ||| Int64.ofNat (b s)) <<< ((8 : Int32).toInt64 &&& 63)) ||| Int64.ofNat (b (s + (j + 1))))
    rw [rd_wd_snoc b j (s + 1), show s + 1 + j = s + (j + 1) by omega]
theorem rd_all_snoc (P : Nat → Bool) (b : Nat → Nat) : ∀ (j s : Nat), rd_all P b (j + 1) s = (rd_all P b j s && P (b (s + j)))
  | 0, s => by
    show (P (b s) && true) = (true && P (b (s + 0)))
    rw [Bool.and_true, Bool.true_and]
    rfl
  | j + 1, s => by
    show (P (b s) && rd_all P b (j + 1) (s + 1)) = ((P (b s) && rd_all P b j (s + 1)) && P (b (s + (j + 1))))
    rw [rd_all_snoc P b j (s + 1), Bool.and_assoc, show s + 1 + j = s + (j + 1) by omega]
theorem rd_nm_le {b : Nat → Nat} (hb : ∀ k, b k ≤ 255) : ∀ (j s v : Nat), rd_nm b j s v ≤ 10 ^ j * v + 207 * (10 ^ j - 1)
  | 0, s, v => by show v ≤ _; omega
  | j + 1, s, v => by
    show rd_nm b j (s + 1) (10 * v + b s - 48) ≤ _
    have h := rd_nm_le hb j (s + 1) (10 * v + b s - 48)
    have h2 := hb s
    have h3 : 10 ^ j * (10 * v + b s - 48) ≤ 10 ^ j * (10 * v + 207) := Nat.mul_le_mul_left _ (by omega)
    have h4 : 1 ≤ 10 ^ j := Nat.one_le_pow _ _ (by decide)
    rw [Nat.pow_succ]
    rw [Nat.mul_add] at h3
    have h5 : 10 ^ j * (10 * v) = 10 ^ j * 10 * v := by rw [Nat.mul_assoc]
    rw [h5] at h3
    omega
