/-! tokens go on -/
theorem rd_tok_nx {b : Nat → Nat} {n most p : Nat} (hp : p ≤ n) : p ≤ (rd_tok b n most p).2.2.2.1 ∧ (rd_tok b n most p).2.2.2.1 ≤ n ∧ (((rd_tok b n most p).1 = 1 ∨ (rd_tok b n most p).1 = 2 ∨ (rd_tok b n most p).1 = 3) → p + 1 ≤ (rd_tok b n most p).2.2.2.1) ∧ ((rd_tok b n most p).2.1 ≤ n ∨ (rd_tok b n most p).2.1 ≤ most) := by
  have et : rd_tok b n most p = rd_tk1 b n most (rd_sk b n (n - p) p) := rfl
  have hs := rd_sk_in (b := b) (n := n) (f := n - p) (p := p)
  have hs1 := hs.1
  have hs2 := hs.2 hp
  clear hs
  rw [et]
  generalize rd_sk b n (n - p) p = s at hs1 hs2 ⊢
  unfold rd_tk1
  split
  · dsimp only
    omega
  · split
    · dsimp only
      omega
    · split
      · rename_i h1 h2 h3
        have e := rd_rn_eq (b := b) (n := n) (p := s) (by omega) h3
        have i1 := (rd_rn_in (b := b) (n := n) (f := n - (s + 1)) (p := s + 1)).1
        have i2 := (rd_rn_in (b := b) (n := n) (f := n - (s + 1)) (p := s + 1)).2 (by omega)
        rw [e]
        generalize rd_rn b n (n - (s + 1)) (s + 1) = z at i1 i2 ⊢
        exact ⟨by show p ≤ z; omega, i2, fun _ => by show p + 1 ≤ z; omega, Or.inl hs2⟩
      · exact ⟨by show p ≤ s + 1; omega, by show s + 1 ≤ n; omega, fun _ => by show p + 1 ≤ s + 1; omega, Or.inl hs2⟩
/-- a token of this text -/
def rd_gd (b : Nat → Nat) (n most : Nat) (t : rd_K) : Prop := ∃ p, p ≤ n ∧ t = rd_tok b n most p
theorem rd_gd_n {b : Nat → Nat} {n most : Nat} {t : rd_K} (h : rd_gd b n most t) : t.2.2.2.1 ≤ n ∧ (t.2.1 ≤ n ∨ t.2.1 ≤ most) ∧ rd_wok b t := by
  obtain ⟨p, hp, rfl⟩ := h
  have := rd_tok_nx (b := b) (most := most) hp
  exact ⟨this.2.1, this.2.2.2, rd_tok_ok⟩
theorem rd_gd_x {b : Nat → Nat} {n most : Nat} {t : rd_K} (h : rd_gd b n most t) : rd_gd b n most (rd_tok b n most t.2.2.2.1) ∧ t.2.2.2.1 ≤ (rd_tok b n most t.2.2.2.1).2.2.2.1 ∧ (((rd_tok b n most t.2.2.2.1).1 = 1 ∨ (rd_tok b n most t.2.2.2.1).1 = 2 ∨ (rd_tok b n most t.2.2.2.1).1 = 3) → t.2.2.2.1 + 1 ≤ (rd_tok b n most t.2.2.2.1).2.2.2.1) := by
  have h1 := (rd_gd_n h).1
  have := rd_tok_nx (b := b) (most := most) h1
  exact ⟨⟨_, h1, rfl⟩, this.1, this.2.2.1⟩
def rd_Ok (b : Nat → Nat) (n most p : Nat) (x : (Nat × Nat) ⊕ rd_Q) : Prop := (∀ q1, x = .inr q1 → ∃ p', p ≤ p' ∧ p' ≤ n ∧ q1.1 = rd_tok b n most p') ∧ (∀ kd at', x = .inl (kd, at') → at' ≤ n ∨ at' ≤ most)
theorem rd_Ok_gd {b : Nat → Nat} {n most p : Nat} {x : (Nat × Nat) ⊕ rd_Q} (h : rd_Ok b n most p x) {q1 : rd_Q} (e : x = .inr q1) : rd_gd b n most q1.1 ∧ p ≤ q1.1.2.2.2.1 ∧ (q1.1.1 = 3 → p + 1 ≤ q1.1.2.2.2.1) := by
  obtain ⟨p', h1, h2, h3⟩ := h.1 q1 e
  have := rd_tok_nx (b := b) (most := most) h2
  rw [h3]
  exact ⟨⟨p', h2, rfl⟩, Nat.le_trans h1 this.1, fun h4 => Nat.le_trans (Nat.succ_le_succ h1) (this.2.2.1 (Or.inr (Or.inr h4)))⟩
theorem rd_Ok_l {b : Nat → Nat} {n most p kd : Nat} {t : rd_K} (h : rd_gd b n most t) : rd_Ok b n most p (.inl (kd, t.2.1)) := ⟨fun q1 e => (by cases e), fun kd' at' e => by cases e; exact (rd_gd_n h).2.1⟩
theorem rd_Ok_put {b : Nat → Nat} {n most p slot lo hi : Nat} {q : rd_Q} (h : rd_gd b n most q.1) (hp : q.1.1 = 2 → p ≤ q.1.2.2.2.1) : rd_Ok b n most p (rd_put1 b n most q slot lo hi) := by
  unfold rd_put1
  split
  · rename_i h0
    have k2 : q.1.1 = 2 := by
      unfold rd_tkf at h0
      split at h0
      · rename_i e; exact e
      · cases h0
    refine ⟨fun q1 e => ?_, fun kd at' e => by cases e⟩
    cases e
    exact ⟨_, hp k2, (rd_gd_n h).1, rfl⟩
  · exact rd_Ok_l h
theorem rd_Ok_bd {b : Nat → Nat} {n most p : Nat} {x : (Nat × Nat) ⊕ rd_Q} {f : rd_Q → (Nat × Nat) ⊕ rd_Q} (h : rd_Ok b n most p x) (hf : ∀ q, x = .inr q → (∃ p', p ≤ p' ∧ p' ≤ n ∧ q.1 = rd_tok b n most p') → rd_gd b n most q.1 → p ≤ q.1.2.2.2.1 → rd_Ok b n most p (f q)) : rd_Ok b n most p (rd_bd x f) := by
  cases x with
  | inl e => exact ⟨fun q1 h' => (by cases h'), fun kd at' h' => h.2 kd at' (by cases h'; rfl)⟩
  | inr q => exact hf q rfl (h.1 q rfl) (rd_Ok_gd h rfl).1 (rd_Ok_gd h rfl).2.1
theorem rd_line_ok {b : Nat → Nat} {n most : Nat} {q : rd_Q} (h : rd_gd b n most q.1) : rd_Ok b n most (q.1.2.2.2.1 + 1) (rd_line b n most q) := by
  have hx := rd_gd_x h
  have hx2 : (rd_tok b n most q.1.2.2.2.1).1 = 2 → q.1.2.2.2.1 + 1 ≤ (rd_tok b n most q.1.2.2.2.1).2.2.2.1 := fun e => hx.2.2 (Or.inr (Or.inl e))
  unfold rd_line
  split
  · split
    · exact rd_Ok_l h
    · unfold rd_lineW
      refine rd_Ok_bd (rd_Ok_put (q := rd_nx b n most q) hx.1 hx2) fun q1 _ _ g1 p1 => rd_Ok_bd (rd_Ok_put g1 (fun _ => p1)) fun q2 _ _ g2 p2 => rd_Ok_bd (rd_Ok_put g2 (fun _ => p2)) fun q3 _ _ g3 p3 => rd_Ok_bd (rd_Ok_put g3 (fun _ => p3)) fun q4 _ x4 _ _ => ⟨fun q' e => by cases e; exact x4, fun kd at' e => by cases e⟩
  · split
    · split
      · exact rd_Ok_l h
      · unfold rd_lineT
        split
        · rename_i h0
          have k2 : (rd_nx b n most q).1.1 = 2 := by
            unfold rd_tkf at h0
            split at h0
            · rename_i e; exact e
            · cases h0
          have hp := hx2 k2
          split
          · exact rd_Ok_l (t := (rd_nx b n most q).1) hx.1
          · have hy := rd_gd_x (t := (rd_nx b n most q).1) hx.1
            exact rd_Ok_bd (rd_Ok_put hy.1 (fun _ => Nat.le_trans hp hy.2.1)) fun q2 _ x2 _ _ => ⟨fun q' e => by cases e; exact x2, fun kd at' e => by cases e⟩
        · exact rd_Ok_l (t := (rd_nx b n most q).1) hx.1
    · split
      · exact rd_Ok_l h
      · unfold rd_lineS
        split
        · exact rd_Ok_l h
        · exact rd_Ok_put (q := (rd_tok b n most q.1.2.2.2.1, q.2.1, q.2.2 ||| ((1 : Int32) <<< (Int32.ofNat (rd_wh b q.1).toNat &&& 31)))) hx.1 hx2
/-- the STATION's text: lines till the end -/
def rd_stn (b : Nat → Nat) (n most : Nat) : Nat → Nat → rd_Q → (Nat × Nat) ⊕ (Nat × rd_Q)
  | 0, l, q => .inr (l, q)
  | f + 1, l, q => if q.1.1 = 0 then .inr (l, q) else (match rd_line b n most q with
    | .inl e => .inl e
    | .inr q1 => if rd_sgf q1.1 59 = 0 then rd_stn b n most f (l + 1) (rd_nx b n most q1) else .inl (1, q1.1.2.1))
def rd_h0 (k : Nat) : Int32 := Int32.ofNat (if k < 54 then 0 else [1, 12, 6, 6, 0, 6, 3, 1].getD (k - 54) 0)
/-- all of it, from the first token on -/
def rd_all9 (b : Nat → Nat) (n : Nat) : (Nat × Nat) ⊕ (Nat × rd_Q) := rd_stn b n 900 (n + 1) 0 (rd_tok b n 900 0, rd_h0, 0)
