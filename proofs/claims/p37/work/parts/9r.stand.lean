/-! stand: the class's answer is the reference's -/
theorem ax_isIn_v {a n : Int32} (h1 : 1 ≤ n.toInt ∧ n.toInt ≤ 10) (h : 0 ≤ a.toInt ∧ a.toInt < n.toInt) : ¬ ax_f_isIn a 0 (n - 1) = 0 := by
  have z0 : (0 : Int32).toInt = 0 := rfl
  have z1 : (1 : Int32).toInt = 1 := rfl
  have e := sx_subI n 1 (by show (-2147483648 : Int) ≤ _; omega) (by show _ ≤ (2147483647 : Int); omega)
  have g1 : ¬ a < 0 := fun q => by have := Int32.lt_iff_toInt_lt.mp q; omega
  have g2 : ¬ n - 1 < a := fun q => by have := Int32.lt_iff_toInt_lt.mp q; omega
  rw [ax_f_isIn, if_neg g1, if_neg g2]
  decide
theorem ax_isIn_f {a n : Int32} (h1 : 0 ≤ n.toInt ∧ n.toInt ≤ 10) (h : ¬ (0 ≤ a.toInt ∧ a.toInt < n.toInt)) : ax_f_isIn a 0 (n - 1) = 0 := by
  have z0 : (0 : Int32).toInt = 0 := rfl
  have z1 : (1 : Int32).toInt = 1 := rfl
  have e := sx_subI n 1 (by show (-2147483648 : Int) ≤ _; omega) (by show _ ≤ (2147483647 : Int); omega)
  rw [ax_f_isIn]
  by_cases g1 : a < 0
  · rw [if_pos g1]
  · rw [if_neg g1]
    have g1' : ¬ a.toInt < 0 := fun q => g1 (Int32.lt_iff_toInt_lt.mpr (by omega))
    have g2 : n - 1 < a := Int32.lt_iff_toInt_lt.mpr (by omega)
    rw [if_pos g2]
theorem pl_many {m : Nat → Nat → Int32} {o : Nat} {s : Nat → Int32} (h : pl_R m o s) (b : pl_B s) : (ax_f_many s).toInt = (m o 8).toInt := by
  have z1 : (1 : Int32).toInt = 1 := rfl
  obtain ⟨h1, h2, h3, h4⟩ := h
  obtain ⟨-, b3, b4⟩ := b
  rw [ax_f_many, ax_f_gr]
  split
  · rename_i q
    have := Int32.le_iff_toInt_le.mp q
    rw [h3 (by omega)]
  · rename_i q
    have q' : ¬ (1 : Int32).toInt ≤ (s 1).toInt := fun w => q (Int32.le_iff_toInt_le.mpr w)
    rw [(h2 (by omega)).1]
    rfl
theorem pl_sec {m : Nat → Nat → Int32} {s : Nat → Int32} (h : pl_R m 4 s) (b : pl_B s) {a : Int32} {j : Nat} (e : a.toInt = j) (hj : (j : Int) < (ax_f_many s).toInt) : ax_f_secX m a = ax_f_secM s a j ∧ ax_f_wgtX m a = ax_f_wgtM s a j := by
  have hN := pl_many h b
  have hn := ax_many6 (s := s) b.2
  obtain ⟨h1, h2, h3, h4⟩ := h
  obtain ⟨-, b3, b4⟩ := b
  have z0 : (0 : Int32).toInt = 0 := rfl
  rw [ax_f_secX, ax_f_wgtX, ax_f_secM, ax_f_wgtM, ax_ent_in (k := j) (by decide) e (by omega), ax_ent_in (k := j) (by decide) e (by omega)]
  by_cases q : s 1 = 0
  · rw [if_pos q, if_pos q]
    have q0 : (s 1).toInt = 0 := by rw [q]; rfl
    obtain ⟨a1, a2, a3⟩ := h2 q0
    have : j = 0 := by omega
    subst this
    exact ⟨Int32.toInt_inj.mp (by rw [a2]; rfl), Int32.toInt_inj.mp (by rw [a3]; rfl)⟩
  · rw [if_neg q, if_neg q]
    have q0 : (s 1).toInt ≠ 0 := fun z => q (Int32.toInt_inj.mp (by omega))
    have := h3 q0
    exact ⟨h4 4 (by decide) j (by show j < (s 1).toInt.toNat; omega), h4 5 (by decide) j (by show j < (s 1).toInt.toNat; omega)⟩
theorem st_eq {m : Nat → Nat → Int32} {s : Nat → Int32} (h : pl_R m 4 s) (hb : pl_B s) (a b : Int32) : ax_f_stX m a b = ax_f_stM s a b := by
  have z0 : (0 : Int32).toInt = 0 := rfl
  have z1 : (1 : Int32).toInt = 1 := rfl
  have hN := pl_many h hb
  have hn := ax_many6 (s := s) hb.2
  by_cases hin : 0 ≤ a.toInt ∧ a.toInt < (ax_f_many s).toInt
  · have g1 : ¬ a < 0 := fun q => by have := Int32.lt_iff_toInt_lt.mp q; omega
    have g2 : ¬ m 4 8 ≤ a := fun q => by have := Int32.le_iff_toInt_le.mp q; omega
    obtain ⟨p1, p2⟩ := pl_sec h hb (a := a) (j := a.toInt.toNat) (by omega) (by omega)
    rw [ax_f_stX, ax_f_stM, if_neg g1, if_neg g2, if_neg (ax_isIn_v ⟨hn.1, by omega⟩ hin), p1, p2]
    by_cases e0 : b = 0
    · subst e0
      rw [if_neg (by decide), if_pos (by decide), if_pos rfl, if_pos rfl]
    · by_cases e1 : b = 1
      · subst e1
        rw [if_neg (by decide), if_pos (by decide), if_neg (by decide), if_neg (by decide), if_pos rfl]
      · rw [if_neg (c := b = 0) (fun q => e0 q), if_neg (c := b = 0) (fun q => e0 q), if_neg (c := b = 1) (fun q => e1 q)]
        by_cases q1 : b < 0
        · rw [if_pos q1]
        · rw [if_neg q1]
          have g3 : ¬ b ≤ 1 := fun q => by
            have k1 := Int32.le_iff_toInt_le.mp q
            have k2 : ¬ b.toInt < 0 := fun z => q1 (Int32.lt_iff_toInt_lt.mpr (by omega))
            have k3 : b.toInt = 0 ∨ b.toInt = 1 := by omega
            rcases k3 with k3 | k3
            · exact e0 (Int32.toInt_inj.mp (by omega))
            · exact e1 (Int32.toInt_inj.mp (by omega))
          rw [if_neg g3]
  · rw [ax_f_stX, ax_f_stM, if_pos (ax_isIn_f ⟨by omega, by omega⟩ hin)]
    by_cases g1 : a < 0
    · rw [if_pos g1]
    · have g1' : ¬ a.toInt < 0 := fun q => g1 (Int32.lt_iff_toInt_lt.mpr (by omega))
      have g2 : m 4 8 ≤ a := Int32.le_iff_toInt_le.mpr (by omega)
      rw [if_neg g1, if_pos g2]
