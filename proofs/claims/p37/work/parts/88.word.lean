/-! words: seven letters at most in a long, and which word it is -/
/-- the same number, in base 256 -/
def rd_v (b : Nat → Nat) : Nat → Nat → Nat → Nat
  | 0, _, v => v
  | m + 1, p, v => rd_v b m (p + 1) (256 * v + b p)
theorem rd_v_snoc (b : Nat → Nat) : ∀ (j s v : Nat), rd_v b (j + 1) s v = 256 * rd_v b j s v + b (s + j)
  | 0, s, v => rfl
  | j + 1, s, v => by
    show rd_v b (j + 1) (s + 1) (256 * v + b s) = 256 * rd_v b j (s + 1) (256 * v + b s) + b (s + (j + 1))
    rw [rd_v_snoc b j (s + 1), show s + 1 + j = s + (j + 1) by omega]
theorem rd_v_lt {b : Nat → Nat} (hb : ∀ k, b k ≤ 255) : ∀ (j s : Nat), rd_v b j s 0 < 256 ^ j
  | 0, s => by show 0 < 1; omega
  | j + 1, s => by
    rw [rd_v_snoc, Nat.pow_succ]
    have := rd_v_lt hb j s
    have := hb (s + j)
    omega
theorem rd_or8 {w : Int64} {v c : Nat} (hw : w.toBitVec.toNat = v) (hv : v < 256 ^ 6) (hc : c ≤ 255) : ((w <<< ((8 : Int32).toInt64 &&& 63)) ||| Int64.ofNat c).toBitVec.toNat = 256 * v + c := by
  have e8 : ((8 : Int32).toInt64 &&& 63) = (8 : Int64) := by decide
  rw [e8, Int64.toBitVec_or, Int64.toBitVec_shiftLeft, BitVec.toNat_or]
  have e1 : ((8 : Int64).toBitVec.smod 64) = 8#64 := by decide
  rw [e1]
  have e2 : (w.toBitVec <<< (8#64)).toNat = v <<< 8 := by
    rw [BitVec.shiftLeft_eq', BitVec.toNat_shiftLeft, hw, show (8#64).toNat = 8 from rfl, Nat.shiftLeft_eq]
    exact Nat.mod_eq_of_lt (by omega)
  have e3 : (Int64.ofNat c).toBitVec.toNat = c := by
    rw [Int64.toBitVec_ofNat', BitVec.toNat_ofNat]
    exact Nat.mod_eq_of_lt (by omega)
  rw [e2, e3, ← Nat.shiftLeft_add_eq_or_of_lt (by omega), Nat.shiftLeft_eq]
  omega
theorem rd_wd_v {b : Nat → Nat} (hb : ∀ k, b k ≤ 255) : ∀ (j s : Nat), j ≤ 7 → (rd_wd b j s 0).toBitVec.toNat = rd_v b j s 0
  | 0, s, _ => rfl
  | j + 1, s, h => by
    rw [rd_wd_snoc, rd_v_snoc]
    refine rd_or8 (rd_wd_v hb j s (by omega)) (Nat.lt_of_lt_of_le (rd_v_lt hb j s) (Nat.pow_le_pow_right (by decide) (by omega))) (hb _)
/-- L letters of c there -/
def rd_eqs (b c : Nat → Nat) : Nat → Nat → Nat → Bool
  | 0, _, _ => true
  | m + 1, s, t => b s == c t && rd_eqs b c m (s + 1) (t + 1)
theorem rd_eqs_snoc (b c : Nat → Nat) : ∀ (j s t : Nat), rd_eqs b c (j + 1) s t = (rd_eqs b c j s t && b (s + j) == c (t + j))
  | 0, s, t => by
    show (b s == c t && true) = (true && b (s + 0) == c (t + 0))
    rw [Bool.and_true, Bool.true_and]
    rfl
  | j + 1, s, t => by
    show (b s == c t && rd_eqs b c (j + 1) (s + 1) (t + 1)) = ((b s == c t && rd_eqs b c j (s + 1) (t + 1)) && b (s + (j + 1)) == c (t + (j + 1)))
    rw [rd_eqs_snoc b c j (s + 1) (t + 1), Bool.and_assoc, show s + 1 + j = s + (j + 1) by omega, show t + 1 + j = t + (j + 1) by omega]
theorem rd_v_inj {b c : Nat → Nat} : ∀ (m k s t : Nat), (∀ i, i < m → 1 ≤ b (s + i) ∧ b (s + i) ≤ 255) → (∀ i, i < k → 1 ≤ c (t + i) ∧ c (t + i) ≤ 255) → (rd_v b m s 0 = rd_v c k t 0 ↔ m = k ∧ rd_eqs b c m s t = true)
  | 0, 0, s, t, _, _ => ⟨fun _ => ⟨rfl, rfl⟩, fun _ => rfl⟩
  | 0, k + 1, s, t, _, h2 => by
    rw [rd_v_snoc]
    have := h2 k (by omega)
    have e : rd_v b 0 s 0 = 0 := rfl
    rw [e]
    exact ⟨fun h => by omega, fun h => by omega⟩
  | m + 1, 0, s, t, h1, _ => by
    rw [rd_v_snoc]
    have := h1 m (by omega)
    have e : rd_v c 0 t 0 = 0 := rfl
    rw [e]
    exact ⟨fun h => by omega, fun h => by omega⟩
  | m + 1, k + 1, s, t, h1, h2 => by
    rw [rd_v_snoc, rd_v_snoc, rd_eqs_snoc, Bool.and_eq_true, beq_iff_eq]
    have a := h1 m (by omega)
    have a2 := h2 k (by omega)
    have ih := rd_v_inj (b := b) (c := c) m k s t (fun i hi => h1 i (by omega)) (fun i hi => h2 i (by omega))
    constructor
    · intro h
      have e1 : rd_v b m s 0 = rd_v c k t 0 := by omega
      obtain ⟨e2, e3⟩ := ih.mp e1
      subst e2
      exact ⟨rfl, e3, by omega⟩
    · intro ⟨h3, h4, h5⟩
      have e2 : m = k := by omega
      subst e2
      have := ih.mpr ⟨rfl, h4⟩
      omega
/-- the token is this word of L letters -/
def rd_isw (b c : Nat → Nat) (L : Nat) (t : rd_K) : Bool := t.1 == 1 && (t.2.2.1 == L && rd_eqs b c L t.2.1 0)
/-- what is known of a token that is a word -/
def rd_wok (b : Nat → Nat) (t : rd_K) : Prop := t.1 = 1 → t.2.2.1 ≤ 7 ∧ ∀ i, i < t.2.2.1 → 1 ≤ b (t.2.1 + i)
theorem rd_all_at {P : Nat → Bool} {b : Nat → Nat} : ∀ {m s : Nat}, rd_all P b m s = true → ∀ i, i < m → P (b (s + i)) = true
  | 0, _, _, i, hi => absurd hi (Nat.not_lt_zero _)
  | m + 1, s, h, i, hi => by
    have h' : (P (b s) && rd_all P b m (s + 1)) = true := h
    rw [Bool.and_eq_true] at h'
    cases i with
    | zero => exact h'.1
    | succ i =>
      have := rd_all_at h'.2 i (by omega)
      rw [show s + 1 + i = s + (i + 1) by omega] at this
      exact this
theorem rd_tk1_ok {b : Nat → Nat} {n most s : Nat} : rd_wok b (rd_tk1 b n most s) := by
  unfold rd_tk1
  split
  · intro h; cases h
  · split
    · intro h; cases h
    · split
      · unfold rd_tk2
        intro h
        have h' : (if rd_all rd_ltr b (rd_rn b n (n - s) s - s) s = true ∧ rd_rn b n (n - s) s - s ≤ 7 then 1 else if rd_all rd_dgt b (rd_rn b n (n - s) s - s) s = true ∧ rd_rn b n (n - s) s - s ≤ 3 then 2 else 4) = 1 := h
        split at h'
        · rename_i q
          refine ⟨q.2, fun i hi => ?_⟩
          have := rd_ltr_iff.mp (rd_all_at q.1 i hi)
          show 1 ≤ b (s + i)
          omega
        · split at h' <;> cases h'
      · intro h
        have h' : (if rd_sgn (b s) = true then 3 else 4 : Nat) = 1 := h
        split at h' <;> cases h'
theorem rd_tok_ok {b : Nat → Nat} {n most p : Nat} : rd_wok b (rd_tok b n most p) := rd_tk1_ok (s := rd_sk b n (n - p) p)
theorem rd_cmp_eq {x y : Int64} : lg_cmp x y = 0 ↔ x = y := by
  unfold lg_cmp
  by_cases h : x > y
  · rw [if_pos h]
    refine ⟨fun h2 => absurd h2 (by decide), fun h2 => ?_⟩
    subst h2
    have := Int64.lt_iff_toInt_lt.mp h
    omega
  · rw [if_neg h]
    by_cases e : x = y
    · rw [if_pos e]
      exact ⟨fun _ => e, fun _ => rfl⟩
    · rw [if_neg e]
      exact ⟨fun q => absurd q (by decide), fun q => absurd q e⟩
section RW
variable {g : am_C} {L : Nat} {xs : Nat → Int32}
/-- isWord: the long that is asked for is that word -/
theorem rd_isWord (G : sx_G0 g L xs zK hd_T ex_mt) {σ : am_S} (hM : sx_M zK hd_T σ 0 0 σ) {b c : Nat → Nat} {Lc : Nat} {t : rd_K} (hb : ∀ k, b k ≤ 255) (hN : rd_N σ b t) (ht : rd_wok b t) {w : Int64} (hw : w.toBitVec.toNat = rd_v c Lc 0 0) (hc : ∀ i, i < Lc → 1 ≤ c i ∧ c i ≤ 255) {lw : List (Nat × Value)} (hl : (0, Value.ref 118) ∈ lw) (hl1 : (1, Value.long w) ∈ lw) {d : Nat} {post : Option (Option Value) → am_S → Prop} (k : ∀ r : Int32, r.toInt = (if rd_isw b c Lc t = true then 1 else 0) → post (some (some (.int r))) σ) : am_K g d tX12_isWord.1 0 0 0 lw [] σ post := by
  obtain ⟨i0, hi0⟩ := List.getElem?_of_mem hl
  obtain ⟨i1, hi1⟩ := List.getElem?_of_mem hl1
  have no : ¬ rd_isw b c Lc t = true → am_K g d tX12_isWord.1 0 0 21 lw [] σ post := by
    intro h
    refine kr_iconst rd_d_X12_isWord_21 (v := 0) rfl ?_
    refine kr_ireturn rd_d_X12_isWord_22 (ty := .boolean) rfl rfl (k 0 ?_)
    rw [if_neg h]
    rfl
  refine kr_aload_n i0 rd_d_X12_isWord_0 hi0 ?_
  refine kr_getf G.1 (rd_FL rd_k_X12_isWord_1).1 rd_d_X12_isWord_1 (hM.1 118 (.inl 12) rfl) (v := .int (σ.2.1 118 9)) (by unfold am_fa; rw [(rd_FL rd_k_X12_isWord_1).2]; rfl) ?_
  refine kr_iconst rd_d_X12_isWord_4 (v := 1) rfl ?_
  refine kr_icmp_ne (tgt := 21) rd_d_X12_isWord_5 rfl ?_ ?_
  · intro h
    refine no (fun q => h (Int32.toInt_inj.mp ?_))
    unfold rd_isw at q
    rw [Bool.and_eq_true, beq_iff_eq] at q
    have h1 := hN.1
    rw [q.1] at h1
    exact h1
  · intro h
    have t1 : t.1 = 1 := by
      have h1 := hN.1
      rw [h] at h1
      have : (1 : Int32).toInt = 1 := rfl
      omega
    have hwd := hN.2.2.2.2 t1
    obtain ⟨t7, tl⟩ := ht t1
    have key : σ.2.2.1 118 15 = w ↔ rd_isw b c Lc t = true := by
      have e1 := rd_wd_v hb t.2.2.1 t.2.1 t7
      have e2 := rd_v_inj (b := b) (c := c) t.2.2.1 Lc t.2.1 0 (fun i hi => ⟨tl i hi, hb _⟩) (fun i hi => by rw [Nat.zero_add]; exact hc i hi)
      unfold rd_isw
      rw [Bool.and_eq_true, Bool.and_eq_true, beq_iff_eq, beq_iff_eq]
      constructor
      · intro q
        rw [hwd] at q
        rw [q, hw] at e1
        obtain ⟨e3, e4⟩ := e2.mp e1.symm
        rw [e3] at e4
        exact ⟨t1, e3, e4⟩
      · intro ⟨_, q2, q3⟩
        have e3 := e2.mpr ⟨q2, by rw [q2]; exact q3⟩
        rw [hwd]
        apply Int64.toBitVec_inj.mp
        apply BitVec.eq_of_toNat_eq
        rw [e1, hw, e3]
    refine kr_aload_n i0 rd_d_X12_isWord_8 hi0 ?_
    refine kr_getf G.1 (rd_FL rd_k_X12_isWord_9).1 rd_d_X12_isWord_9 (hM.1 118 (.inl 12) rfl) (v := .long (σ.2.2.1 118 15)) (by unfold am_fa; rw [(rd_FL rd_k_X12_isWord_9).2]; rfl) ?_
    refine kr_lload_n i1 rd_d_X12_isWord_12 hi1 ?_
    refine kr_lcmp rd_d_X12_isWord_13 ?_
    refine kr_if_ne (tgt := 21) rd_d_X12_isWord_14 rfl ?_ ?_
    · intro h2
      refine no (fun q => h2 ?_)
      rw [key.mpr q]
      exact rd_cmp_eq.mpr rfl
    · intro h2
      have q := key.mp (rd_cmp_eq.mp h2)
      refine kr_iconst rd_d_X12_isWord_17 (v := 1) rfl ?_
      refine kr_goto (tgt := 22) rd_d_X12_isWord_18 rfl ?_
      refine kr_ireturn rd_d_X12_isWord_22 (ty := .boolean) rfl rfl (k 1 ?_)
      rw [if_pos q]
      rfl
end RW
