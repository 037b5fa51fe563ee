/-! image and restore, exactly as far as the STATION goes (rows written by a program) -/
theorem rd_FPk {T : ex_T} {pc i ci k kd p : Nat} (hl : ex_lk ex_mt T pc (.putfield i) [ci, k, kd, p] = true) : am_FP T.1.1.cls T.1.1.name i ci k := by
  unfold ex_lk at hl
  simp only at hl
  split at hl
  · rename_i C1 U N hc
    rw [Bool.and_eq_true, Bool.and_eq_true, Bool.and_eq_true, decide_eq_true_eq, decide_eq_true_eq] at hl
    obtain ⟨l1, l2, l3, l4⟩ := hl
    refine ⟨C1, U, N, hc, l1, l2, ?_⟩
    split at l3
    · rename_i hfin
      exact Or.inl ⟨hfin, ex_flk_ok l3⟩
    · rename_i hfin
      simp only [Bool.and_eq_true, decide_eq_true_eq] at l3
      exact Or.inr ⟨hfin, ex_mem_ok l3.1, l3.2.1, l3.2.2⟩
  · cases hl
/-- nothing is written but in the cells lo to hi -/
def ax_F (lo hi : Nat) (σ τ : am_S) : Prop := ∀ o k, ¬ (lo ≤ o ∧ o ≤ hi) → τ.2.1 o k = σ.2.1 o k
theorem ax_F0 (lo hi : Nat) (σ : am_S) : ax_F lo hi σ σ := fun _ _ _ => rfl
theorem ax_Fcat {lo hi lo' hi' : Nat} {σ τ τ' : am_S} (h : ax_F lo hi σ τ) (h' : ax_F lo' hi' τ τ') (a : lo ≤ lo') (b : hi' ≤ hi) : ax_F lo hi σ τ' := fun o k q => (h' o k (fun z => q ⟨Nat.le_trans a z.1, Nat.le_trans z.2 b⟩)).trans (h o k q)
/-- the STATION at D is the one that was at S -/
def ax_Q (D S : Nat) (σ τ : am_S) : Prop := (∀ j, 7 ≤ j → j < 11 → τ.2.1 D j = σ.2.1 S j) ∧ ∀ r, r < 7 → ∀ k, k < rc_ln r → τ.2.1 (D + 1 + r) k = σ.2.1 (S + 1 + r) k
theorem ax_Qf {D S lo hi : Nat} {σ τ τ' : am_S} (h : ax_Q D S σ τ) (f : ax_F lo hi τ τ') (hh : D + 7 < lo ∨ hi < D) : ax_Q D S σ τ' := ⟨fun j a b => (f D j (by omega)).trans (h.1 j a b), fun r hr k hk => (f (D + 1 + r) k (by omega)).trans (h.2 r hr k hk)⟩
def ax_cp (m : Nat → Nat → Int32) (D S n : Nat) : Nat → Nat → Int32 := fun o k => if o = D ∧ k < n then m S k else m o k
theorem ax_cp0 (m : Nat → Nat → Int32) (D S : Nat) : ax_cp m D S 0 = m := by
  funext o k
  unfold ax_cp
  rw [if_neg (fun h => Nat.not_lt_zero _ h.2)]
theorem ax_cp_o {m : Nat → Nat → Int32} {D S n o k : Nat} (h : o ≠ D) : ax_cp m D S n o k = m o k := if_neg (fun q => h q.1)
theorem ax_cp_d {m : Nat → Nat → Int32} {D S n k : Nat} (h : k < n) : ax_cp m D S n D k = m S k := if_pos ⟨rfl, h⟩
theorem ax_cp_n {m : Nat → Nat → Int32} {D S n k : Nat} (h : ¬ k < n) : ax_cp m D S n D k = m D k := if_neg (fun q => h q.2)
theorem ax_cpS (m : Nat → Nat → Int32) {D S : Nat} (h : S ≠ D) (n : Nat) : am_up (ax_cp m D S n) D n (ax_cp m D S n S n) = ax_cp m D S (n + 1) := by
  rw [ax_cp_o h]
  funext o k
  by_cases a : o = D
  · subst a
    by_cases b : k = n
    · subst b
      rw [am_up_s, ax_cp_d (Nat.lt_succ_self _)]
    · rw [am_up_n _ _ (fun q => b q.2)]
      by_cases c : k < n
      · rw [ax_cp_d c, ax_cp_d (by omega)]
      · rw [ax_cp_n c, ax_cp_n (by omega)]
  · rw [am_up_o _ _ a, ax_cp_o a, ax_cp_o a]
theorem rd_d_X9_copyFrom_0 : decode tX9_copyFrom.1.2.1 0 = .ok (.aload_n 1, 1) := by decide +kernel
theorem rd_d_X9_copyFrom_1 : decode tX9_copyFrom.1.2.1 1 = .ok (.getfield 9, 3) := by decide +kernel
theorem rd_k_X9_copyFrom_1 : ex_lk ex_mt tX9_copyFrom 1 (.getfield 9) [9, 0, 2, 65649] = true := by decide +kernel
theorem rd_d_X9_copyFrom_4 : decode tX9_copyFrom.1.2.1 4 = .ok (.aload_n 0, 1) := by decide +kernel
theorem rd_d_X9_copyFrom_5 : decode tX9_copyFrom.1.2.1 5 = .ok (.getfield 9, 3) := by decide +kernel
theorem rd_k_X9_copyFrom_5 : ex_lk ex_mt tX9_copyFrom 5 (.getfield 9) [9, 0, 2, 65649] = true := by decide +kernel
theorem rd_d_X9_copyFrom_11 : decode tX9_copyFrom.1.2.1 11 = .ok (.aload_n 1, 1) := by decide +kernel
theorem rd_d_X9_copyFrom_12 : decode tX9_copyFrom.1.2.1 12 = .ok (.getfield 15, 3) := by decide +kernel
theorem rd_k_X9_copyFrom_12 : ex_lk ex_mt tX9_copyFrom 12 (.getfield 15) [9, 1, 2, 65650] = true := by decide +kernel
theorem rd_d_X9_copyFrom_15 : decode tX9_copyFrom.1.2.1 15 = .ok (.aload_n 0, 1) := by decide +kernel
theorem rd_d_X9_copyFrom_16 : decode tX9_copyFrom.1.2.1 16 = .ok (.getfield 15, 3) := by decide +kernel
theorem rd_k_X9_copyFrom_16 : ex_lk ex_mt tX9_copyFrom 16 (.getfield 15) [9, 1, 2, 65650] = true := by decide +kernel
theorem rd_d_X9_copyFrom_22 : decode tX9_copyFrom.1.2.1 22 = .ok (.aload_n 1, 1) := by decide +kernel
theorem rd_d_X9_copyFrom_23 : decode tX9_copyFrom.1.2.1 23 = .ok (.getfield 18, 3) := by decide +kernel
theorem rd_k_X9_copyFrom_23 : ex_lk ex_mt tX9_copyFrom 23 (.getfield 18) [9, 2, 2, 65651] = true := by decide +kernel
theorem rd_d_X9_copyFrom_26 : decode tX9_copyFrom.1.2.1 26 = .ok (.aload_n 0, 1) := by decide +kernel
theorem rd_d_X9_copyFrom_27 : decode tX9_copyFrom.1.2.1 27 = .ok (.getfield 18, 3) := by decide +kernel
theorem rd_k_X9_copyFrom_27 : ex_lk ex_mt tX9_copyFrom 27 (.getfield 18) [9, 2, 2, 65651] = true := by decide +kernel
theorem rd_d_X9_copyFrom_33 : decode tX9_copyFrom.1.2.1 33 = .ok (.aload_n 1, 1) := by decide +kernel
theorem rd_d_X9_copyFrom_34 : decode tX9_copyFrom.1.2.1 34 = .ok (.getfield 21, 3) := by decide +kernel
theorem rd_k_X9_copyFrom_34 : ex_lk ex_mt tX9_copyFrom 34 (.getfield 21) [9, 3, 2, 65652] = true := by decide +kernel
theorem rd_d_X9_copyFrom_37 : decode tX9_copyFrom.1.2.1 37 = .ok (.aload_n 0, 1) := by decide +kernel
theorem rd_d_X9_copyFrom_38 : decode tX9_copyFrom.1.2.1 38 = .ok (.getfield 21, 3) := by decide +kernel
theorem rd_k_X9_copyFrom_38 : ex_lk ex_mt tX9_copyFrom 38 (.getfield 21) [9, 3, 2, 65652] = true := by decide +kernel
theorem rd_d_X9_copyFrom_44 : decode tX9_copyFrom.1.2.1 44 = .ok (.aload_n 1, 1) := by decide +kernel
theorem rd_d_X9_copyFrom_45 : decode tX9_copyFrom.1.2.1 45 = .ok (.getfield 24, 3) := by decide +kernel
theorem rd_k_X9_copyFrom_45 : ex_lk ex_mt tX9_copyFrom 45 (.getfield 24) [9, 4, 2, 65653] = true := by decide +kernel
theorem rd_d_X9_copyFrom_48 : decode tX9_copyFrom.1.2.1 48 = .ok (.aload_n 0, 1) := by decide +kernel
theorem rd_d_X9_copyFrom_49 : decode tX9_copyFrom.1.2.1 49 = .ok (.getfield 24, 3) := by decide +kernel
theorem rd_k_X9_copyFrom_49 : ex_lk ex_mt tX9_copyFrom 49 (.getfield 24) [9, 4, 2, 65653] = true := by decide +kernel
theorem rd_d_X9_copyFrom_55 : decode tX9_copyFrom.1.2.1 55 = .ok (.aload_n 1, 1) := by decide +kernel
theorem rd_d_X9_copyFrom_56 : decode tX9_copyFrom.1.2.1 56 = .ok (.getfield 27, 3) := by decide +kernel
theorem rd_k_X9_copyFrom_56 : ex_lk ex_mt tX9_copyFrom 56 (.getfield 27) [9, 5, 2, 65654] = true := by decide +kernel
theorem rd_d_X9_copyFrom_59 : decode tX9_copyFrom.1.2.1 59 = .ok (.aload_n 0, 1) := by decide +kernel
theorem rd_d_X9_copyFrom_60 : decode tX9_copyFrom.1.2.1 60 = .ok (.getfield 27, 3) := by decide +kernel
theorem rd_k_X9_copyFrom_60 : ex_lk ex_mt tX9_copyFrom 60 (.getfield 27) [9, 5, 2, 65654] = true := by decide +kernel
theorem rd_d_X9_copyFrom_66 : decode tX9_copyFrom.1.2.1 66 = .ok (.aload_n 1, 1) := by decide +kernel
theorem rd_d_X9_copyFrom_67 : decode tX9_copyFrom.1.2.1 67 = .ok (.getfield 30, 3) := by decide +kernel
theorem rd_k_X9_copyFrom_67 : ex_lk ex_mt tX9_copyFrom 67 (.getfield 30) [9, 6, 2, 65655] = true := by decide +kernel
theorem rd_d_X9_copyFrom_70 : decode tX9_copyFrom.1.2.1 70 = .ok (.aload_n 0, 1) := by decide +kernel
theorem rd_d_X9_copyFrom_71 : decode tX9_copyFrom.1.2.1 71 = .ok (.getfield 30, 3) := by decide +kernel
theorem rd_k_X9_copyFrom_71 : ex_lk ex_mt tX9_copyFrom 71 (.getfield 30) [9, 6, 2, 65655] = true := by decide +kernel
theorem rd_d_X9_copyFrom_77 : decode tX9_copyFrom.1.2.1 77 = .ok (.aload_n 0, 1) := by decide +kernel
theorem rd_d_X9_copyFrom_78 : decode tX9_copyFrom.1.2.1 78 = .ok (.aload_n 1, 1) := by decide +kernel
theorem rd_d_X9_copyFrom_79 : decode tX9_copyFrom.1.2.1 79 = .ok (.getfield 39, 3) := by decide +kernel
theorem rd_k_X9_copyFrom_79 : ex_lk ex_mt tX9_copyFrom 79 (.getfield 39) [9, 7, 0, 65656] = true := by decide +kernel
theorem rd_d_X9_copyFrom_82 : decode tX9_copyFrom.1.2.1 82 = .ok (.putfield 39, 3) := by decide +kernel
theorem rd_k_X9_copyFrom_82 : ex_lk ex_mt tX9_copyFrom 82 (.putfield 39) [9, 7, 0, 65656] = true := by decide +kernel
theorem rd_d_X9_copyFrom_85 : decode tX9_copyFrom.1.2.1 85 = .ok (.aload_n 0, 1) := by decide +kernel
theorem rd_d_X9_copyFrom_86 : decode tX9_copyFrom.1.2.1 86 = .ok (.aload_n 1, 1) := by decide +kernel
theorem rd_d_X9_copyFrom_87 : decode tX9_copyFrom.1.2.1 87 = .ok (.getfield 43, 3) := by decide +kernel
theorem rd_k_X9_copyFrom_87 : ex_lk ex_mt tX9_copyFrom 87 (.getfield 43) [9, 8, 0, 65660] = true := by decide +kernel
theorem rd_d_X9_copyFrom_90 : decode tX9_copyFrom.1.2.1 90 = .ok (.putfield 43, 3) := by decide +kernel
theorem rd_k_X9_copyFrom_90 : ex_lk ex_mt tX9_copyFrom 90 (.putfield 43) [9, 8, 0, 65660] = true := by decide +kernel
theorem rd_d_X9_copyFrom_93 : decode tX9_copyFrom.1.2.1 93 = .ok (.aload_n 0, 1) := by decide +kernel
theorem rd_d_X9_copyFrom_94 : decode tX9_copyFrom.1.2.1 94 = .ok (.aload_n 1, 1) := by decide +kernel
theorem rd_d_X9_copyFrom_95 : decode tX9_copyFrom.1.2.1 95 = .ok (.getfield 46, 3) := by decide +kernel
theorem rd_k_X9_copyFrom_95 : ex_lk ex_mt tX9_copyFrom 95 (.getfield 46) [9, 9, 0, 65662] = true := by decide +kernel
theorem rd_d_X9_copyFrom_98 : decode tX9_copyFrom.1.2.1 98 = .ok (.putfield 46, 3) := by decide +kernel
theorem rd_k_X9_copyFrom_98 : ex_lk ex_mt tX9_copyFrom 98 (.putfield 46) [9, 9, 0, 65662] = true := by decide +kernel
theorem rd_d_X9_copyFrom_101 : decode tX9_copyFrom.1.2.1 101 = .ok (.aload_n 0, 1) := by decide +kernel
theorem rd_d_X9_copyFrom_102 : decode tX9_copyFrom.1.2.1 102 = .ok (.aload_n 1, 1) := by decide +kernel
theorem rd_d_X9_copyFrom_103 : decode tX9_copyFrom.1.2.1 103 = .ok (.getfield 49, 3) := by decide +kernel
theorem rd_k_X9_copyFrom_103 : ex_lk ex_mt tX9_copyFrom 103 (.getfield 49) [9, 10, 0, 65664] = true := by decide +kernel
theorem rd_d_X9_copyFrom_106 : decode tX9_copyFrom.1.2.1 106 = .ok (.putfield 49, 3) := by decide +kernel
theorem rd_k_X9_copyFrom_106 : ex_lk ex_mt tX9_copyFrom 106 (.putfield 49) [9, 10, 0, 65664] = true := by decide +kernel
theorem rd_d_X9_copyFrom_109 : decode tX9_copyFrom.1.2.1 109 = .ok (.return_, 1) := by decide +kernel
theorem rd_d_X7_copyFrom_0 : decode tX7_copyFrom.1.2.1 0 = .ok (.aload_n 1, 1) := by decide +kernel
theorem rd_d_X7_copyFrom_1 : decode tX7_copyFrom.1.2.1 1 = .ok (.getfield 9, 3) := by decide +kernel
theorem rd_k_X7_copyFrom_1 : ex_lk ex_mt tX7_copyFrom 1 (.getfield 9) [7, 0, 2, 65695] = true := by decide +kernel
theorem rd_d_X7_copyFrom_4 : decode tX7_copyFrom.1.2.1 4 = .ok (.aload_n 0, 1) := by decide +kernel
theorem rd_d_X7_copyFrom_5 : decode tX7_copyFrom.1.2.1 5 = .ok (.getfield 9, 3) := by decide +kernel
theorem rd_k_X7_copyFrom_5 : ex_lk ex_mt tX7_copyFrom 5 (.getfield 9) [7, 0, 2, 65695] = true := by decide +kernel
theorem rd_d_X7_copyFrom_8 : decode tX7_copyFrom.1.2.1 8 = .ok (.invokestatic 52, 3) := by decide +kernel
theorem rd_k_X7_copyFrom_8 : ex_lk ex_mt tX7_copyFrom 8 (.invokestatic 52) [0, 25, 196821] = true := by decide +kernel
theorem rd_d_X7_copyFrom_11 : decode tX7_copyFrom.1.2.1 11 = .ok (.aload_n 1, 1) := by decide +kernel
theorem rd_d_X7_copyFrom_12 : decode tX7_copyFrom.1.2.1 12 = .ok (.getfield 15, 3) := by decide +kernel
theorem rd_k_X7_copyFrom_12 : ex_lk ex_mt tX7_copyFrom 12 (.getfield 15) [7, 1, 2, 65696] = true := by decide +kernel
theorem rd_d_X7_copyFrom_15 : decode tX7_copyFrom.1.2.1 15 = .ok (.aload_n 0, 1) := by decide +kernel
theorem rd_d_X7_copyFrom_16 : decode tX7_copyFrom.1.2.1 16 = .ok (.getfield 15, 3) := by decide +kernel
theorem rd_k_X7_copyFrom_16 : ex_lk ex_mt tX7_copyFrom 16 (.getfield 15) [7, 1, 2, 65696] = true := by decide +kernel
theorem rd_d_X7_copyFrom_19 : decode tX7_copyFrom.1.2.1 19 = .ok (.invokestatic 52, 3) := by decide +kernel
theorem rd_k_X7_copyFrom_19 : ex_lk ex_mt tX7_copyFrom 19 (.invokestatic 52) [0, 25, 196821] = true := by decide +kernel
theorem rd_d_X7_copyFrom_22 : decode tX7_copyFrom.1.2.1 22 = .ok (.aload_n 1, 1) := by decide +kernel
theorem rd_d_X7_copyFrom_23 : decode tX7_copyFrom.1.2.1 23 = .ok (.getfield 18, 3) := by decide +kernel
theorem rd_k_X7_copyFrom_23 : ex_lk ex_mt tX7_copyFrom 23 (.getfield 18) [7, 2, 2, 65697] = true := by decide +kernel
theorem rd_d_X7_copyFrom_26 : decode tX7_copyFrom.1.2.1 26 = .ok (.aload_n 0, 1) := by decide +kernel
theorem rd_d_X7_copyFrom_27 : decode tX7_copyFrom.1.2.1 27 = .ok (.getfield 18, 3) := by decide +kernel
theorem rd_k_X7_copyFrom_27 : ex_lk ex_mt tX7_copyFrom 27 (.getfield 18) [7, 2, 2, 65697] = true := by decide +kernel
theorem rd_d_X7_copyFrom_30 : decode tX7_copyFrom.1.2.1 30 = .ok (.invokestatic 52, 3) := by decide +kernel
theorem rd_k_X7_copyFrom_30 : ex_lk ex_mt tX7_copyFrom 30 (.invokestatic 52) [0, 25, 196821] = true := by decide +kernel
theorem rd_d_X7_copyFrom_33 : decode tX7_copyFrom.1.2.1 33 = .ok (.aload_n 0, 1) := by decide +kernel
theorem rd_d_X7_copyFrom_34 : decode tX7_copyFrom.1.2.1 34 = .ok (.aload_n 1, 1) := by decide +kernel
theorem rd_d_X7_copyFrom_35 : decode tX7_copyFrom.1.2.1 35 = .ok (.getfield 34, 3) := by decide +kernel
theorem rd_k_X7_copyFrom_35 : ex_lk ex_mt tX7_copyFrom 35 (.getfield 34) [7, 3, 0, 65698] = true := by decide +kernel
theorem rd_d_X7_copyFrom_38 : decode tX7_copyFrom.1.2.1 38 = .ok (.putfield 34, 3) := by decide +kernel
theorem rd_k_X7_copyFrom_38 : ex_lk ex_mt tX7_copyFrom 38 (.putfield 34) [7, 3, 0, 65698] = true := by decide +kernel
theorem rd_d_X7_copyFrom_41 : decode tX7_copyFrom.1.2.1 41 = .ok (.aload_n 0, 1) := by decide +kernel
theorem rd_d_X7_copyFrom_42 : decode tX7_copyFrom.1.2.1 42 = .ok (.aload_n 1, 1) := by decide +kernel
theorem rd_d_X7_copyFrom_43 : decode tX7_copyFrom.1.2.1 43 = .ok (.getfield 21, 3) := by decide +kernel
theorem rd_k_X7_copyFrom_43 : ex_lk ex_mt tX7_copyFrom 43 (.getfield 21) [7, 4, 0, 65701] = true := by decide +kernel
theorem rd_d_X7_copyFrom_46 : decode tX7_copyFrom.1.2.1 46 = .ok (.putfield 21, 3) := by decide +kernel
theorem rd_k_X7_copyFrom_46 : ex_lk ex_mt tX7_copyFrom 46 (.putfield 21) [7, 4, 0, 65701] = true := by decide +kernel
theorem rd_d_X7_copyFrom_49 : decode tX7_copyFrom.1.2.1 49 = .ok (.aload_n 0, 1) := by decide +kernel
theorem rd_d_X7_copyFrom_50 : decode tX7_copyFrom.1.2.1 50 = .ok (.aload_n 1, 1) := by decide +kernel
theorem rd_d_X7_copyFrom_51 : decode tX7_copyFrom.1.2.1 51 = .ok (.getfield 25, 3) := by decide +kernel
theorem rd_k_X7_copyFrom_51 : ex_lk ex_mt tX7_copyFrom 51 (.getfield 25) [7, 5, 0, 65704] = true := by decide +kernel
theorem rd_d_X7_copyFrom_54 : decode tX7_copyFrom.1.2.1 54 = .ok (.putfield 25, 3) := by decide +kernel
theorem rd_k_X7_copyFrom_54 : ex_lk ex_mt tX7_copyFrom 54 (.putfield 25) [7, 5, 0, 65704] = true := by decide +kernel
theorem rd_d_X7_copyFrom_57 : decode tX7_copyFrom.1.2.1 57 = .ok (.aload_n 0, 1) := by decide +kernel
theorem rd_d_X7_copyFrom_58 : decode tX7_copyFrom.1.2.1 58 = .ok (.aload_n 1, 1) := by decide +kernel
theorem rd_d_X7_copyFrom_59 : decode tX7_copyFrom.1.2.1 59 = .ok (.getfield 37, 3) := by decide +kernel
theorem rd_k_X7_copyFrom_59 : ex_lk ex_mt tX7_copyFrom 59 (.getfield 37) [7, 6, 0, 65707] = true := by decide +kernel
theorem rd_d_X7_copyFrom_62 : decode tX7_copyFrom.1.2.1 62 = .ok (.putfield 37, 3) := by decide +kernel
theorem rd_k_X7_copyFrom_62 : ex_lk ex_mt tX7_copyFrom 62 (.putfield 37) [7, 6, 0, 65707] = true := by decide +kernel
theorem rd_d_X7_copyFrom_65 : decode tX7_copyFrom.1.2.1 65 = .ok (.aload_n 0, 1) := by decide +kernel
theorem rd_d_X7_copyFrom_66 : decode tX7_copyFrom.1.2.1 66 = .ok (.aload_n 1, 1) := by decide +kernel
theorem rd_d_X7_copyFrom_67 : decode tX7_copyFrom.1.2.1 67 = .ok (.getfield 40, 3) := by decide +kernel
theorem rd_k_X7_copyFrom_67 : ex_lk ex_mt tX7_copyFrom 67 (.getfield 40) [7, 7, 0, 65710] = true := by decide +kernel
theorem rd_d_X7_copyFrom_70 : decode tX7_copyFrom.1.2.1 70 = .ok (.putfield 40, 3) := by decide +kernel
theorem rd_k_X7_copyFrom_70 : ex_lk ex_mt tX7_copyFrom 70 (.putfield 40) [7, 7, 0, 65710] = true := by decide +kernel
theorem rd_d_X7_copyFrom_73 : decode tX7_copyFrom.1.2.1 73 = .ok (.aload_n 0, 1) := by decide +kernel
theorem rd_d_X7_copyFrom_74 : decode tX7_copyFrom.1.2.1 74 = .ok (.aload_n 1, 1) := by decide +kernel
theorem rd_d_X7_copyFrom_75 : decode tX7_copyFrom.1.2.1 75 = .ok (.getfield 43, 3) := by decide +kernel
theorem rd_k_X7_copyFrom_75 : ex_lk ex_mt tX7_copyFrom 75 (.getfield 43) [7, 8, 0, 65713] = true := by decide +kernel
theorem rd_d_X7_copyFrom_78 : decode tX7_copyFrom.1.2.1 78 = .ok (.putfield 43, 3) := by decide +kernel
theorem rd_k_X7_copyFrom_78 : ex_lk ex_mt tX7_copyFrom 78 (.putfield 43) [7, 8, 0, 65713] = true := by decide +kernel
theorem rd_d_X7_copyFrom_81 : decode tX7_copyFrom.1.2.1 81 = .ok (.aload_n 0, 1) := by decide +kernel
theorem rd_d_X7_copyFrom_82 : decode tX7_copyFrom.1.2.1 82 = .ok (.aload_n 1, 1) := by decide +kernel
theorem rd_d_X7_copyFrom_83 : decode tX7_copyFrom.1.2.1 83 = .ok (.getfield 46, 3) := by decide +kernel
theorem rd_k_X7_copyFrom_83 : ex_lk ex_mt tX7_copyFrom 83 (.getfield 46) [7, 9, 0, 65715] = true := by decide +kernel
theorem rd_d_X7_copyFrom_86 : decode tX7_copyFrom.1.2.1 86 = .ok (.putfield 46, 3) := by decide +kernel
theorem rd_k_X7_copyFrom_86 : ex_lk ex_mt tX7_copyFrom 86 (.putfield 46) [7, 9, 0, 65715] = true := by decide +kernel
theorem rd_d_X7_copyFrom_89 : decode tX7_copyFrom.1.2.1 89 = .ok (.aload_n 0, 1) := by decide +kernel
theorem rd_d_X7_copyFrom_90 : decode tX7_copyFrom.1.2.1 90 = .ok (.aload_n 1, 1) := by decide +kernel
theorem rd_d_X7_copyFrom_91 : decode tX7_copyFrom.1.2.1 91 = .ok (.getfield 49, 3) := by decide +kernel
theorem rd_k_X7_copyFrom_91 : ex_lk ex_mt tX7_copyFrom 91 (.getfield 49) [7, 10, 0, 65716] = true := by decide +kernel
theorem rd_d_X7_copyFrom_94 : decode tX7_copyFrom.1.2.1 94 = .ok (.putfield 49, 3) := by decide +kernel
theorem rd_k_X7_copyFrom_94 : ex_lk ex_mt tX7_copyFrom 94 (.putfield 49) [7, 10, 0, 65716] = true := by decide +kernel
theorem rd_d_X7_copyFrom_97 : decode tX7_copyFrom.1.2.1 97 = .ok (.return_, 1) := by decide +kernel
theorem rd_d_X8_copyFrom_0 : decode tX8_copyFrom.1.2.1 0 = .ok (.aload_n 1, 1) := by decide +kernel
theorem rd_d_X8_copyFrom_1 : decode tX8_copyFrom.1.2.1 1 = .ok (.getfield 11, 3) := by decide +kernel
theorem rd_k_X8_copyFrom_1 : ex_lk ex_mt tX8_copyFrom 1 (.getfield 11) [8, 0, 2, 65767] = true := by decide +kernel
theorem rd_d_X8_copyFrom_4 : decode tX8_copyFrom.1.2.1 4 = .ok (.aload_n 0, 1) := by decide +kernel
theorem rd_d_X8_copyFrom_5 : decode tX8_copyFrom.1.2.1 5 = .ok (.getfield 11, 3) := by decide +kernel
theorem rd_k_X8_copyFrom_5 : ex_lk ex_mt tX8_copyFrom 5 (.getfield 11) [8, 0, 2, 65767] = true := by decide +kernel
theorem rd_d_X8_copyFrom_8 : decode tX8_copyFrom.1.2.1 8 = .ok (.invokestatic 25, 3) := by decide +kernel
theorem rd_k_X8_copyFrom_8 : ex_lk ex_mt tX8_copyFrom 8 (.invokestatic 25) [0, 25, 393240] = true := by decide +kernel
theorem rd_d_X8_copyFrom_11 : decode tX8_copyFrom.1.2.1 11 = .ok (.aload_n 0, 1) := by decide +kernel
theorem rd_d_X8_copyFrom_12 : decode tX8_copyFrom.1.2.1 12 = .ok (.aload_n 1, 1) := by decide +kernel
theorem rd_d_X8_copyFrom_13 : decode tX8_copyFrom.1.2.1 13 = .ok (.getfield 18, 3) := by decide +kernel
theorem rd_k_X8_copyFrom_13 : ex_lk ex_mt tX8_copyFrom 13 (.getfield 18) [8, 2, 0, 65769] = true := by decide +kernel
theorem rd_d_X8_copyFrom_16 : decode tX8_copyFrom.1.2.1 16 = .ok (.putfield 18, 3) := by decide +kernel
theorem rd_k_X8_copyFrom_16 : ex_lk ex_mt tX8_copyFrom 16 (.putfield 18) [8, 2, 0, 65769] = true := by decide +kernel
theorem rd_d_X8_copyFrom_19 : decode tX8_copyFrom.1.2.1 19 = .ok (.aload_n 0, 1) := by decide +kernel
theorem rd_d_X8_copyFrom_20 : decode tX8_copyFrom.1.2.1 20 = .ok (.aload_n 1, 1) := by decide +kernel
theorem rd_d_X8_copyFrom_21 : decode tX8_copyFrom.1.2.1 21 = .ok (.getfield 22, 3) := by decide +kernel
theorem rd_k_X8_copyFrom_21 : ex_lk ex_mt tX8_copyFrom 21 (.getfield 22) [8, 3, 0, 65770] = true := by decide +kernel
theorem rd_d_X8_copyFrom_24 : decode tX8_copyFrom.1.2.1 24 = .ok (.putfield 22, 3) := by decide +kernel
theorem rd_k_X8_copyFrom_24 : ex_lk ex_mt tX8_copyFrom 24 (.putfield 22) [8, 3, 0, 65770] = true := by decide +kernel
theorem rd_d_X8_copyFrom_27 : decode tX8_copyFrom.1.2.1 27 = .ok (.return_, 1) := by decide +kernel
theorem rd_d_X3_clear_0 : decode tX3_clear.1.2.1 0 = .ok (.aload_n 0, 1) := by decide +kernel
theorem rd_d_X3_clear_1 : decode tX3_clear.1.2.1 1 = .ok (.iconst 0, 1) := by decide +kernel
theorem rd_d_X3_clear_2 : decode tX3_clear.1.2.1 2 = .ok (.putfield 16, 3) := by decide +kernel
theorem rd_k_X3_clear_2 : ex_lk ex_mt tX3_clear 2 (.putfield 16) [3, 1, 0, 65751] = true := by decide +kernel
theorem rd_d_X3_clear_5 : decode tX3_clear.1.2.1 5 = .ok (.aload_n 0, 1) := by decide +kernel
theorem rd_d_X3_clear_6 : decode tX3_clear.1.2.1 6 = .ok (.iconst 0, 1) := by decide +kernel
theorem rd_d_X3_clear_7 : decode tX3_clear.1.2.1 7 = .ok (.putfield 20, 3) := by decide +kernel
theorem rd_k_X3_clear_7 : ex_lk ex_mt tX3_clear 7 (.putfield 20) [3, 2, 0, 65752] = true := by decide +kernel
theorem rd_d_X3_clear_10 : decode tX3_clear.1.2.1 10 = .ok (.return_, 1) := by decide +kernel
theorem rd_d_X4_forget_0 : decode tX4_forget.1.2.1 0 = .ok (.aload_n 0, 1) := by decide +kernel
theorem rd_d_X4_forget_1 : decode tX4_forget.1.2.1 1 = .ok (.iconst 0, 1) := by decide +kernel
theorem rd_d_X4_forget_2 : decode tX4_forget.1.2.1 2 = .ok (.putfield 50, 3) := by decide +kernel
theorem rd_k_X4_forget_2 : ex_lk ex_mt tX4_forget 2 (.putfield 50) [4, 17, 3, 131104] = true := by decide +kernel
theorem rd_d_X4_forget_5 : decode tX4_forget.1.2.1 5 = .ok (.aload_n 0, 1) := by decide +kernel
theorem rd_d_X4_forget_6 : decode tX4_forget.1.2.1 6 = .ok (.iconst 0, 1) := by decide +kernel
theorem rd_d_X4_forget_7 : decode tX4_forget.1.2.1 7 = .ok (.putfield 54, 3) := by decide +kernel
theorem rd_k_X4_forget_7 : ex_lk ex_mt tX4_forget 7 (.putfield 54) [4, 18, 3, 131105] = true := by decide +kernel
theorem rd_d_X4_forget_10 : decode tX4_forget.1.2.1 10 = .ok (.aload_n 0, 1) := by decide +kernel
theorem rd_d_X4_forget_11 : decode tX4_forget.1.2.1 11 = .ok (.iconst 0, 1) := by decide +kernel
theorem rd_d_X4_forget_12 : decode tX4_forget.1.2.1 12 = .ok (.putfield 57, 3) := by decide +kernel
theorem rd_k_X4_forget_12 : ex_lk ex_mt tX4_forget 12 (.putfield 57) [4, 19, 3, 131106] = true := by decide +kernel
theorem rd_d_X4_forget_15 : decode tX4_forget.1.2.1 15 = .ok (.return_, 1) := by decide +kernel
theorem rd_d_X1_keep_0 : decode tX1_keep.1.2.1 0 = .ok (.aload_n 0, 1) := by decide +kernel
theorem rd_d_X1_keep_1 : decode tX1_keep.1.2.1 1 = .ok (.getfield 10, 3) := by decide +kernel
theorem rd_k_X1_keep_1 : ex_lk ex_mt tX1_keep 1 (.getfield 10) [1, 0, 2, 131242] = true := by decide +kernel
theorem rd_d_X1_keep_4 : decode tX1_keep.1.2.1 4 = .ok (.aload_n 1, 1) := by decide +kernel
theorem rd_d_X1_keep_5 : decode tX1_keep.1.2.1 5 = .ok (.invokevirtual 30, 3) := by decide +kernel
theorem rd_k_X1_keep_5 : ex_lk ex_mt tX1_keep 5 (.invokevirtual 30) [0, 290, 393286] = true := by decide +kernel
theorem rd_d_X1_keep_8 : decode tX1_keep.1.2.1 8 = .ok (.aload_n 0, 1) := by decide +kernel
theorem rd_d_X1_keep_9 : decode tX1_keep.1.2.1 9 = .ok (.getfield 19, 3) := by decide +kernel
theorem rd_k_X1_keep_9 : ex_lk ex_mt tX1_keep 9 (.getfield 19) [1, 1, 2, 131244] = true := by decide +kernel
theorem rd_d_X1_keep_12 : decode tX1_keep.1.2.1 12 = .ok (.aload_n 2, 1) := by decide +kernel
theorem rd_d_X1_keep_13 : decode tX1_keep.1.2.1 13 = .ok (.invokevirtual 34, 3) := by decide +kernel
theorem rd_k_X1_keep_13 : ex_lk ex_mt tX1_keep 13 (.invokevirtual 34) [0, 260, 393287] = true := by decide +kernel
theorem rd_d_X1_keep_16 : decode tX1_keep.1.2.1 16 = .ok (.aload_n 0, 1) := by decide +kernel
theorem rd_d_X1_keep_17 : decode tX1_keep.1.2.1 17 = .ok (.getfield 26, 3) := by decide +kernel
theorem rd_k_X1_keep_17 : ex_lk ex_mt tX1_keep 17 (.getfield 26) [1, 2, 2, 131246] = true := by decide +kernel
theorem rd_d_X1_keep_20 : decode tX1_keep.1.2.1 20 = .ok (.aload_n 3, 1) := by decide +kernel
theorem rd_d_X1_keep_21 : decode tX1_keep.1.2.1 21 = .ok (.invokevirtual 37, 3) := by decide +kernel
theorem rd_k_X1_keep_21 : ex_lk ex_mt tX1_keep 21 (.invokevirtual 37) [0, 274, 393288] = true := by decide +kernel
theorem rd_d_X1_keep_24 : decode tX1_keep.1.2.1 24 = .ok (.aload_n 0, 1) := by decide +kernel
theorem rd_d_X1_keep_25 : decode tX1_keep.1.2.1 25 = .ok (.iconst 1, 1) := by decide +kernel
theorem rd_d_X1_keep_26 : decode tX1_keep.1.2.1 26 = .ok (.putfield 40, 3) := by decide +kernel
theorem rd_k_X1_keep_26 : ex_lk ex_mt tX1_keep 26 (.putfield 40) [1, 3, 3, 131248] = true := by decide +kernel
theorem rd_d_X1_keep_29 : decode tX1_keep.1.2.1 29 = .ok (.return_, 1) := by decide +kernel
theorem rd_d_X11_imageAt_0 : decode tX11_imageAt.1.2.1 0 = .ok (.iload_n 1, 1) := by decide +kernel
theorem rd_d_X11_imageAt_1 : decode tX11_imageAt.1.2.1 1 = .ok (.ifCond .ne 10, 3) := by decide +kernel
theorem rd_d_X11_imageAt_4 : decode tX11_imageAt.1.2.1 4 = .ok (.aload_n 0, 1) := by decide +kernel
theorem rd_d_X11_imageAt_5 : decode tX11_imageAt.1.2.1 5 = .ok (.getfield 98, 3) := by decide +kernel
theorem rd_k_X11_imageAt_5 : ex_lk ex_mt tX11_imageAt 5 (.getfield 98) [11, 14, 2, 131273] = true := by decide +kernel
theorem rd_d_X11_imageAt_8 : decode tX11_imageAt.1.2.1 8 = .ok (.goto 7, 3) := by decide +kernel
theorem rd_d_X11_imageAt_11 : decode tX11_imageAt.1.2.1 11 = .ok (.aload_n 0, 1) := by decide +kernel
theorem rd_d_X11_imageAt_12 : decode tX11_imageAt.1.2.1 12 = .ok (.getfield 102, 3) := by decide +kernel
theorem rd_k_X11_imageAt_12 : ex_lk ex_mt tX11_imageAt 12 (.getfield 102) [11, 15, 2, 131274] = true := by decide +kernel
theorem rd_d_X11_imageAt_15 : decode tX11_imageAt.1.2.1 15 = .ok (.areturn, 1) := by decide +kernel
theorem rd_d_X11_image_0 : decode tX11_image.1.2.1 0 = .ok (.iload_n 1, 1) := by decide +kernel
theorem rd_d_X11_image_1 : decode tX11_image.1.2.1 1 = .ok (.ifCond .eq 10, 3) := by decide +kernel
theorem rd_d_X11_image_4 : decode tX11_image.1.2.1 4 = .ok (.iload_n 1, 1) := by decide +kernel
theorem rd_d_X11_image_5 : decode tX11_image.1.2.1 5 = .ok (.iconst 1, 1) := by decide +kernel
theorem rd_d_X11_image_6 : decode tX11_image.1.2.1 6 = .ok (.if_icmp .eq 5, 3) := by decide +kernel
theorem rd_d_X11_image_11 : decode tX11_image.1.2.1 11 = .ok (.aload_n 0, 1) := by decide +kernel
theorem rd_d_X11_image_12 : decode tX11_image.1.2.1 12 = .ok (.iload_n 1, 1) := by decide +kernel
theorem rd_d_X11_image_13 : decode tX11_image.1.2.1 13 = .ok (.invokevirtual 434, 3) := by decide +kernel
theorem rd_k_X11_image_13 : ex_lk ex_mt tX11_image 13 (.invokevirtual 434) [0, 39, 393278] = true := by decide +kernel
theorem rd_d_X11_image_16 : decode tX11_image.1.2.1 16 = .ok (.aload_n 0, 1) := by decide +kernel
theorem rd_d_X11_image_17 : decode tX11_image.1.2.1 17 = .ok (.getfield 28, 3) := by decide +kernel
theorem rd_k_X11_image_17 : ex_lk ex_mt tX11_image 17 (.getfield 28) [11, 2, 2, 131261] = true := by decide +kernel
theorem rd_d_X11_image_20 : decode tX11_image.1.2.1 20 = .ok (.aload_n 0, 1) := by decide +kernel
theorem rd_d_X11_image_21 : decode tX11_image.1.2.1 21 = .ok (.getfield 38, 3) := by decide +kernel
theorem rd_k_X11_image_21 : ex_lk ex_mt tX11_image 21 (.getfield 38) [11, 4, 2, 131263] = true := by decide +kernel
theorem rd_d_X11_image_24 : decode tX11_image.1.2.1 24 = .ok (.aload_n 0, 1) := by decide +kernel
theorem rd_d_X11_image_25 : decode tX11_image.1.2.1 25 = .ok (.getfield 55, 3) := by decide +kernel
theorem rd_k_X11_image_25 : ex_lk ex_mt tX11_image 25 (.getfield 55) [11, 7, 2, 131266] = true := by decide +kernel
theorem rd_d_X11_image_28 : decode tX11_image.1.2.1 28 = .ok (.invokevirtual 438, 3) := by decide +kernel
theorem rd_k_X11_image_28 : ex_lk ex_mt tX11_image 28 (.invokevirtual 438) [0, 194, 393282] = true := by decide +kernel
theorem rd_d_X11_image_31 : decode tX11_image.1.2.1 31 = .ok (.iconst 1, 1) := by decide +kernel
theorem rd_d_X11_image_32 : decode tX11_image.1.2.1 32 = .ok (.ireturn, 1) := by decide +kernel
theorem rd_d_X11_restore_0 : decode tX11_restore.1.2.1 0 = .ok (.iload_n 1, 1) := by decide +kernel
theorem rd_d_X11_restore_1 : decode tX11_restore.1.2.1 1 = .ok (.ifCond .eq 10, 3) := by decide +kernel
theorem rd_d_X11_restore_4 : decode tX11_restore.1.2.1 4 = .ok (.iload_n 1, 1) := by decide +kernel
theorem rd_d_X11_restore_5 : decode tX11_restore.1.2.1 5 = .ok (.iconst 1, 1) := by decide +kernel
theorem rd_d_X11_restore_6 : decode tX11_restore.1.2.1 6 = .ok (.if_icmp .eq 5, 3) := by decide +kernel
theorem rd_d_X11_restore_11 : decode tX11_restore.1.2.1 11 = .ok (.aload_n 0, 1) := by decide +kernel
theorem rd_d_X11_restore_12 : decode tX11_restore.1.2.1 12 = .ok (.iload_n 1, 1) := by decide +kernel
theorem rd_d_X11_restore_13 : decode tX11_restore.1.2.1 13 = .ok (.invokevirtual 434, 3) := by decide +kernel
theorem rd_k_X11_restore_13 : ex_lk ex_mt tX11_restore 13 (.invokevirtual 434) [0, 39, 393278] = true := by decide +kernel
theorem rd_d_X11_restore_16 : decode tX11_restore.1.2.1 16 = .ok (.astore_n 2, 1) := by decide +kernel
theorem rd_d_X11_restore_17 : decode tX11_restore.1.2.1 17 = .ok (.aload_n 2, 1) := by decide +kernel
theorem rd_d_X11_restore_18 : decode tX11_restore.1.2.1 18 = .ok (.getfield 442, 3) := by decide +kernel
theorem rd_k_X11_restore_18 : ex_lk ex_mt tX11_restore 18 (.getfield 442) [1, 3, 0, 131249] = true := by decide +kernel
theorem rd_d_X11_restore_21 : decode tX11_restore.1.2.1 21 = .ok (.ifCond .ne 5, 3) := by decide +kernel
theorem rd_d_X11_restore_24 : decode tX11_restore.1.2.1 24 = .ok (.iconst 0, 1) := by decide +kernel
theorem rd_d_X11_restore_25 : decode tX11_restore.1.2.1 25 = .ok (.ireturn, 1) := by decide +kernel
theorem rd_d_X11_restore_26 : decode tX11_restore.1.2.1 26 = .ok (.aload_n 0, 1) := by decide +kernel
theorem rd_d_X11_restore_27 : decode tX11_restore.1.2.1 27 = .ok (.getfield 28, 3) := by decide +kernel
theorem rd_k_X11_restore_27 : ex_lk ex_mt tX11_restore 27 (.getfield 28) [11, 2, 2, 131261] = true := by decide +kernel
theorem rd_d_X11_restore_30 : decode tX11_restore.1.2.1 30 = .ok (.aload_n 2, 1) := by decide +kernel
theorem rd_d_X11_restore_31 : decode tX11_restore.1.2.1 31 = .ok (.getfield 445, 3) := by decide +kernel
theorem rd_k_X11_restore_31 : ex_lk ex_mt tX11_restore 31 (.getfield 445) [1, 0, 2, 131243] = true := by decide +kernel
theorem rd_d_X11_restore_34 : decode tX11_restore.1.2.1 34 = .ok (.invokevirtual 133, 3) := by decide +kernel
theorem rd_k_X11_restore_34 : ex_lk ex_mt tX11_restore 34 (.invokevirtual 133) [0, 290, 196764] = true := by decide +kernel
theorem rd_d_X11_restore_37 : decode tX11_restore.1.2.1 37 = .ok (.aload_n 0, 1) := by decide +kernel
theorem rd_d_X11_restore_38 : decode tX11_restore.1.2.1 38 = .ok (.getfield 38, 3) := by decide +kernel
theorem rd_k_X11_restore_38 : ex_lk ex_mt tX11_restore 38 (.getfield 38) [11, 4, 2, 131263] = true := by decide +kernel
theorem rd_d_X11_restore_41 : decode tX11_restore.1.2.1 41 = .ok (.aload_n 2, 1) := by decide +kernel
theorem rd_d_X11_restore_42 : decode tX11_restore.1.2.1 42 = .ok (.getfield 446, 3) := by decide +kernel
theorem rd_k_X11_restore_42 : ex_lk ex_mt tX11_restore 42 (.getfield 446) [1, 1, 2, 131245] = true := by decide +kernel
theorem rd_d_X11_restore_45 : decode tX11_restore.1.2.1 45 = .ok (.invokevirtual 209, 3) := by decide +kernel
theorem rd_k_X11_restore_45 : ex_lk ex_mt tX11_restore 45 (.invokevirtual 209) [0, 260, 196817] = true := by decide +kernel
theorem rd_d_X11_restore_48 : decode tX11_restore.1.2.1 48 = .ok (.aload_n 0, 1) := by decide +kernel
theorem rd_d_X11_restore_49 : decode tX11_restore.1.2.1 49 = .ok (.getfield 55, 3) := by decide +kernel
theorem rd_k_X11_restore_49 : ex_lk ex_mt tX11_restore 49 (.getfield 55) [11, 7, 2, 131266] = true := by decide +kernel
theorem rd_d_X11_restore_52 : decode tX11_restore.1.2.1 52 = .ok (.aload_n 2, 1) := by decide +kernel
theorem rd_d_X11_restore_53 : decode tX11_restore.1.2.1 53 = .ok (.getfield 447, 3) := by decide +kernel
theorem rd_k_X11_restore_53 : ex_lk ex_mt tX11_restore 53 (.getfield 447) [1, 2, 2, 131247] = true := by decide +kernel
theorem rd_d_X11_restore_56 : decode tX11_restore.1.2.1 56 = .ok (.invokevirtual 419, 3) := by decide +kernel
theorem rd_k_X11_restore_56 : ex_lk ex_mt tX11_restore 56 (.invokevirtual 419) [0, 274, 393236] = true := by decide +kernel
theorem rd_d_X11_restore_59 : decode tX11_restore.1.2.1 59 = .ok (.aload_n 0, 1) := by decide +kernel
theorem rd_d_X11_restore_60 : decode tX11_restore.1.2.1 60 = .ok (.getfield 48, 3) := by decide +kernel
theorem rd_k_X11_restore_60 : ex_lk ex_mt tX11_restore 60 (.getfield 48) [11, 6, 2, 131265] = true := by decide +kernel
theorem rd_d_X11_restore_63 : decode tX11_restore.1.2.1 63 = .ok (.invokevirtual 140, 3) := by decide +kernel
theorem rd_k_X11_restore_63 : ex_lk ex_mt tX11_restore 63 (.invokevirtual 140) [0, 203, 196779] = true := by decide +kernel
theorem rd_d_X11_restore_66 : decode tX11_restore.1.2.1 66 = .ok (.aload_n 0, 1) := by decide +kernel
theorem rd_d_X11_restore_67 : decode tX11_restore.1.2.1 67 = .ok (.getfield 67, 3) := by decide +kernel
theorem rd_k_X11_restore_67 : ex_lk ex_mt tX11_restore 67 (.getfield 67) [11, 9, 2, 131268] = true := by decide +kernel
theorem rd_d_X11_restore_70 : decode tX11_restore.1.2.1 70 = .ok (.invokevirtual 141, 3) := by decide +kernel
theorem rd_k_X11_restore_70 : ex_lk ex_mt tX11_restore 70 (.invokevirtual 141) [0, 211, 196783] = true := by decide +kernel
theorem rd_d_X11_restore_73 : decode tX11_restore.1.2.1 73 = .ok (.iconst 1, 1) := by decide +kernel
theorem rd_d_X11_restore_74 : decode tX11_restore.1.2.1 74 = .ok (.ireturn, 1) := by decide +kernel
section AO
variable {g : am_C} {L : Nat} {xs : Nat → Int32}
theorem ax_putF {T : ex_T} (G : sx_G0 g L xs z9 hd_C ex_mt) {σ τ : am_S} (hT : ax_S τ) {lo hi o ci K kd p pc i : Nat} (hf : ax_F lo hi σ τ) (hd : decode T.1.2.1 pc = .ok (.putfield i, 3)) (hk : ex_lk ex_mt T pc (.putfield i) [ci, K, kd, p] = true) (ho : τ.1[o]? = some (.inl ci)) (hlo : lo ≤ o) (hhi : o ≤ hi) {x : Int32} (hn : narrow (am_ty ci K) (.int x) = .int x) (hfit : fits (am_ty ci K) (.int x) = true) (hkd : am_kd (am_ty ci K) = 0) {d : Nat} {lv : List (Nat × Value)} {st : List Value} {post : Option (Option Value) → am_S → Prop} (kk : ∀ τ' : am_S, ax_S τ' → ax_F lo hi σ τ' → τ' = (τ.1, am_up τ.2.1 o K x, τ.2.2.1, τ.2.2.2) → am_K g d T.1 0 0 (pc + 3) lv st τ' post) : am_K g d T.1 0 0 pc lv (.int x :: .ref o :: st) τ post := by
  refine kr_putI G.1 (rd_FPk hk) hd ho hn hfit hkd ?_
  refine kk _ hT (fun a b q => ?_) rfl
  show am_up τ.2.1 o K x a b = _
  rw [am_up_o _ _ (fun e => q ⟨by omega, by omega⟩)]
  exact hf a b q
def ax_f_min (a b : Int32) : Int32 := if b < a then b else a
theorem ax_f_min_s (a : Int32) : ax_f_min a a = a := by
  unfold ax_f_min
  split <;> rfl
theorem ax_cpL (G : sx_G0 g L xs z9 hd_C ex_mt) {S D n : Nat} (hSD : S ≠ D) (hn : n < 1000) {σ : am_S} (hs : σ.1[S]? = some (.inr (.int, n))) (hd : σ.1[D]? = some (.inr (.int, n))) : ∀ (f k : Nat) (i2 i3 : Int32), k + f = n → i2.toInt = n → i3.toInt = k → am_K g 2 tX11_copyRow.1 0 0 10 [(3, .int i3), (2, .int i2), (0, .ref S), (1, .ref D)] [] (σ.1, ax_cp σ.2.1 D S k, σ.2.2.1, σ.2.2.2) (fun r σ' => r = some none ∧ σ' = (σ.1, ax_cp σ.2.1 D S n, σ.2.2.1, σ.2.2.2)) := by
  intro f
  induction f with
  | zero =>
    intro k i2 i3 hk e2 e3
    refine kr_iload_n 0 rd_d_X11_copyRow_10 rfl ?_
    refine kr_iload_n 1 rd_d_X11_copyRow_11 rfl ?_
    refine kr_icmp_ge (tgt := 27) rd_d_X11_copyRow_12 rfl (fun _ => ?_) (fun h => absurd (Int32.le_iff_toInt_le.mpr (by omega)) h)
    refine kr_return rd_d_X11_copyRow_27 rfl ⟨rfl, ?_⟩
    have : k = n := by omega
    rw [this]
  | succ f ih =>
    intro k i2 i3 hk e2 e3
    refine kr_iload_n 0 rd_d_X11_copyRow_10 rfl ?_
    refine kr_iload_n 1 rd_d_X11_copyRow_11 rfl ?_
    refine kr_icmp_ge (tgt := 27) rd_d_X11_copyRow_12 rfl (fun h => by have := Int32.le_iff_toInt_le.mp h; omega) (fun _ => ?_)
    refine kr_aload_n 3 rd_d_X11_copyRow_15 rfl ?_
    refine kr_iload_n 0 rd_d_X11_copyRow_16 rfl ?_
    refine kr_aload_n 2 rd_d_X11_copyRow_17 rfl ?_
    refine kr_iload_n 0 rd_d_X11_copyRow_18 rfl ?_
    refine kr_iald G.1 rd_d_X11_copyRow_19 hs (hd_in e3 (by omega)) ?_
    refine kr_iast G.1 rd_d_X11_copyRow_20 hd (hd_in e3 (by omega)) ?_
    rw [hd_clamp e3]
    show am_K g 2 tX11_copyRow.1 0 0 21 [(3, .int i3), (2, .int i2), (0, .ref S), (1, .ref D)] [] (σ.1, am_up (ax_cp σ.2.1 D S k) D k (ax_cp σ.2.1 D S k S k), σ.2.2.1, σ.2.2.2) _
    rw [ax_cpS σ.2.1 hSD k]
    refine kr_iinc (v := i3 + 1) (lv' := [(3, .int (i3 + 1)), (2, .int i2), (0, .ref S), (1, .ref D)]) 0 rd_d_X11_copyRow_21 rfl rfl (by decide) rfl ?_
    refine kr_goto (tgt := 10) rd_d_X11_copyRow_24 rfl ?_
    have z1 : (1 : Int32).toInt = 1 := rfl
    refine ih (k + 1) i2 (i3 + 1) (by omega) e2 ?_
    rw [sx_addI i3 1 (by show (-2147483648 : Int) ≤ _; omega) (by show _ ≤ (2147483647 : Int); omega)]
    omega
theorem ax_copyRow (G : sx_G0 g L xs z9 hd_C ex_mt) {S D n : Nat} (hSD : S ≠ D) (hn : n < 1000) {σ : am_S} (hs : σ.1[S]? = some (.inr (.int, n))) (hd : σ.1[D]? = some (.inr (.int, n))) : am_K g 2 tX11_copyRow.1 0 0 0 (lv_args 0 [.ref S, .ref D]) [] σ (fun r σ' => r = some none ∧ σ' = (σ.1, ax_cp σ.2.1 D S n, σ.2.2.1, σ.2.2.2)) := by
  refine kr_aload_n 0 rd_d_X11_copyRow_0 rfl ?_
  refine kr_alenI G.1 rd_d_X11_copyRow_1 hs ?_
  refine kr_aload_n 1 rd_d_X11_copyRow_2 rfl ?_
  refine kr_alenI G.1 rd_d_X11_copyRow_3 hd ?_
  have hlk : Cond.methodLink tX11_copyRow.1.1.cls 365 Lib.Math.min.name ∈ lw_tbl := ex_mem_ok (show ex_mem 65639 (Cond.methodLink tX11_copyRow.1.1.cls 365 Lib.Math.min.name) = true from rd_k_X11_copyRow_4)
  refine kr_mmin G.1 hlk rd_d_X11_copyRow_4 (by decide) (by decide) ?_
  show am_K g 2 tX11_copyRow.1 0 0 7 [(0, .ref S), (1, .ref D)] [.int (ax_f_min (nI n) (nI n))] σ _
  rw [ax_f_min_s]
  refine kr_istore_n (lv' := [(2, .int (nI n)), (0, .ref S), (1, .ref D)]) rd_d_X11_copyRow_7 (by decide) rfl ?_
  refine kr_iconst (v := 0) rd_d_X11_copyRow_8 (by decide) ?_
  refine kr_istore_n (lv' := [(3, .int 0), (2, .int (nI n)), (0, .ref S), (1, .ref D)]) rd_d_X11_copyRow_9 (by decide) rfl ?_
  have := ax_cpL G hSD hn hs hd n 0 (nI n) 0 (by omega) (Int32.toInt_ofNat_of_lt (by omega)) rfl
  rw [ax_cp0] at this
  exact this
theorem ax_X9_copyFrom_87_4 (G : sx_G0 g L xs z9 hd_C ex_mt) {σ : am_S} (hS : ax_S σ) : am_K g 3 tX9_copyFrom.1 0 0 0 (lv_args 0 [.ref 87, .ref 4]) [] σ (fun r σ' => r = some none ∧ ax_S σ' ∧ ax_F 87 94 σ σ' ∧ ax_Q 87 4 σ σ') := by
  refine kr_aload_n 1 rd_d_X9_copyFrom_0 rfl ?_
  refine kr_getf G.1 (rd_FL rd_k_X9_copyFrom_1).1 rd_d_X9_copyFrom_1 (hS.1 4 (.inl 9) rfl) (v := .ref 5) (by unfold am_fa; rw [(rd_FL rd_k_X9_copyFrom_1).2]; exact hS.2 4 0 5 rfl) ?_
  refine kr_aload_n 0 rd_d_X9_copyFrom_4 rfl ?_
  refine kr_getf G.1 (rd_FL rd_k_X9_copyFrom_5).1 rd_d_X9_copyFrom_5 (hS.1 87 (.inl 9) rfl) (v := .ref 88) (by unfold am_fa; rw [(rd_FL rd_k_X9_copyFrom_5).2]; exact hS.2 87 0 88 rfl) ?_
  refine rd_callS G (T2 := tX11_copyRow) rfl rd_d_X9_copyFrom_8 rd_k_X9_copyFrom_8 rfl rfl (as := [.ref 5, .ref 88]) (st := []) rfl (Nat.le_of_ble_eq_true rfl) rfl (by decide) (d1 := 2) (by decide) (fun _ h => by cases h.1) (ax_copyRow G (n := 10) (by decide) (by decide) (hS.1 5 (.inr (.int, 10)) rfl) (hS.1 88 (.inr (.int, 10)) rfl)) ?_
  intro v1 τ1 ⟨hv1, hs1⟩
  cases hv1
  have hT1 : ax_S τ1 := by rw [hs1]; exact hS
  have hm1 : τ1.2.1 = ax_cp σ.2.1 88 5 10 := by rw [hs1]
  refine kr_aload_n 1 rd_d_X9_copyFrom_11 rfl ?_
  refine kr_getf G.1 (rd_FL rd_k_X9_copyFrom_12).1 rd_d_X9_copyFrom_12 (hT1.1 4 (.inl 9) rfl) (v := .ref 6) (by unfold am_fa; rw [(rd_FL rd_k_X9_copyFrom_12).2]; exact hT1.2 4 1 6 rfl) ?_
  refine kr_aload_n 0 rd_d_X9_copyFrom_15 rfl ?_
  refine kr_getf G.1 (rd_FL rd_k_X9_copyFrom_16).1 rd_d_X9_copyFrom_16 (hT1.1 87 (.inl 9) rfl) (v := .ref 89) (by unfold am_fa; rw [(rd_FL rd_k_X9_copyFrom_16).2]; exact hT1.2 87 1 89 rfl) ?_
  refine rd_callS G (T2 := tX11_copyRow) rfl rd_d_X9_copyFrom_19 rd_k_X9_copyFrom_19 rfl rfl (as := [.ref 6, .ref 89]) (st := []) rfl (Nat.le_of_ble_eq_true rfl) rfl (by decide) (d1 := 2) (by decide) (fun _ h => by cases h.1) (ax_copyRow G (n := 10) (by decide) (by decide) (hT1.1 6 (.inr (.int, 10)) rfl) (hT1.1 89 (.inr (.int, 10)) rfl)) ?_
  intro v2 τ2 ⟨hv2, hs2⟩
  cases hv2
  have hT2 : ax_S τ2 := by rw [hs2]; exact hT1
  have hm2 : τ2.2.1 = ax_cp τ1.2.1 89 6 10 := by rw [hs2]
  refine kr_aload_n 1 rd_d_X9_copyFrom_22 rfl ?_
  refine kr_getf G.1 (rd_FL rd_k_X9_copyFrom_23).1 rd_d_X9_copyFrom_23 (hT2.1 4 (.inl 9) rfl) (v := .ref 7) (by unfold am_fa; rw [(rd_FL rd_k_X9_copyFrom_23).2]; exact hT2.2 4 2 7 rfl) ?_
  refine kr_aload_n 0 rd_d_X9_copyFrom_26 rfl ?_
  refine kr_getf G.1 (rd_FL rd_k_X9_copyFrom_27).1 rd_d_X9_copyFrom_27 (hT2.1 87 (.inl 9) rfl) (v := .ref 90) (by unfold am_fa; rw [(rd_FL rd_k_X9_copyFrom_27).2]; exact hT2.2 87 2 90 rfl) ?_
  refine rd_callS G (T2 := tX11_copyRow) rfl rd_d_X9_copyFrom_30 rd_k_X9_copyFrom_30 rfl rfl (as := [.ref 7, .ref 90]) (st := []) rfl (Nat.le_of_ble_eq_true rfl) rfl (by decide) (d1 := 2) (by decide) (fun _ h => by cases h.1) (ax_copyRow G (n := 10) (by decide) (by decide) (hT2.1 7 (.inr (.int, 10)) rfl) (hT2.1 90 (.inr (.int, 10)) rfl)) ?_
  intro v3 τ3 ⟨hv3, hs3⟩
  cases hv3
  have hT3 : ax_S τ3 := by rw [hs3]; exact hT2
  have hm3 : τ3.2.1 = ax_cp τ2.2.1 90 7 10 := by rw [hs3]
  refine kr_aload_n 1 rd_d_X9_copyFrom_33 rfl ?_
  refine kr_getf G.1 (rd_FL rd_k_X9_copyFrom_34).1 rd_d_X9_copyFrom_34 (hT3.1 4 (.inl 9) rfl) (v := .ref 8) (by unfold am_fa; rw [(rd_FL rd_k_X9_copyFrom_34).2]; exact hT3.2 4 3 8 rfl) ?_
  refine kr_aload_n 0 rd_d_X9_copyFrom_37 rfl ?_
  refine kr_getf G.1 (rd_FL rd_k_X9_copyFrom_38).1 rd_d_X9_copyFrom_38 (hT3.1 87 (.inl 9) rfl) (v := .ref 91) (by unfold am_fa; rw [(rd_FL rd_k_X9_copyFrom_38).2]; exact hT3.2 87 3 91 rfl) ?_
  refine rd_callS G (T2 := tX11_copyRow) rfl rd_d_X9_copyFrom_41 rd_k_X9_copyFrom_41 rfl rfl (as := [.ref 8, .ref 91]) (st := []) rfl (Nat.le_of_ble_eq_true rfl) rfl (by decide) (d1 := 2) (by decide) (fun _ h => by cases h.1) (ax_copyRow G (n := 10) (by decide) (by decide) (hT3.1 8 (.inr (.int, 10)) rfl) (hT3.1 91 (.inr (.int, 10)) rfl)) ?_
  intro v4 τ4 ⟨hv4, hs4⟩
  cases hv4
  have hT4 : ax_S τ4 := by rw [hs4]; exact hT3
  have hm4 : τ4.2.1 = ax_cp τ3.2.1 91 8 10 := by rw [hs4]
  refine kr_aload_n 1 rd_d_X9_copyFrom_44 rfl ?_
  refine kr_getf G.1 (rd_FL rd_k_X9_copyFrom_45).1 rd_d_X9_copyFrom_45 (hT4.1 4 (.inl 9) rfl) (v := .ref 9) (by unfold am_fa; rw [(rd_FL rd_k_X9_copyFrom_45).2]; exact hT4.2 4 4 9 rfl) ?_
  refine kr_aload_n 0 rd_d_X9_copyFrom_48 rfl ?_
  refine kr_getf G.1 (rd_FL rd_k_X9_copyFrom_49).1 rd_d_X9_copyFrom_49 (hT4.1 87 (.inl 9) rfl) (v := .ref 92) (by unfold am_fa; rw [(rd_FL rd_k_X9_copyFrom_49).2]; exact hT4.2 87 4 92 rfl) ?_
  refine rd_callS G (T2 := tX11_copyRow) rfl rd_d_X9_copyFrom_52 rd_k_X9_copyFrom_52 rfl rfl (as := [.ref 9, .ref 92]) (st := []) rfl (Nat.le_of_ble_eq_true rfl) rfl (by decide) (d1 := 2) (by decide) (fun _ h => by cases h.1) (ax_copyRow G (n := 6) (by decide) (by decide) (hT4.1 9 (.inr (.int, 6)) rfl) (hT4.1 92 (.inr (.int, 6)) rfl)) ?_
  intro v5 τ5 ⟨hv5, hs5⟩
  cases hv5
  have hT5 : ax_S τ5 := by rw [hs5]; exact hT4
  have hm5 : τ5.2.1 = ax_cp τ4.2.1 92 9 6 := by rw [hs5]
  refine kr_aload_n 1 rd_d_X9_copyFrom_55 rfl ?_
  refine kr_getf G.1 (rd_FL rd_k_X9_copyFrom_56).1 rd_d_X9_copyFrom_56 (hT5.1 4 (.inl 9) rfl) (v := .ref 10) (by unfold am_fa; rw [(rd_FL rd_k_X9_copyFrom_56).2]; exact hT5.2 4 5 10 rfl) ?_
  refine kr_aload_n 0 rd_d_X9_copyFrom_59 rfl ?_
  refine kr_getf G.1 (rd_FL rd_k_X9_copyFrom_60).1 rd_d_X9_copyFrom_60 (hT5.1 87 (.inl 9) rfl) (v := .ref 93) (by unfold am_fa; rw [(rd_FL rd_k_X9_copyFrom_60).2]; exact hT5.2 87 5 93 rfl) ?_
  refine rd_callS G (T2 := tX11_copyRow) rfl rd_d_X9_copyFrom_63 rd_k_X9_copyFrom_63 rfl rfl (as := [.ref 10, .ref 93]) (st := []) rfl (Nat.le_of_ble_eq_true rfl) rfl (by decide) (d1 := 2) (by decide) (fun _ h => by cases h.1) (ax_copyRow G (n := 6) (by decide) (by decide) (hT5.1 10 (.inr (.int, 6)) rfl) (hT5.1 93 (.inr (.int, 6)) rfl)) ?_
  intro v6 τ6 ⟨hv6, hs6⟩
  cases hv6
  have hT6 : ax_S τ6 := by rw [hs6]; exact hT5
  have hm6 : τ6.2.1 = ax_cp τ5.2.1 93 10 6 := by rw [hs6]
  refine kr_aload_n 1 rd_d_X9_copyFrom_66 rfl ?_
  refine kr_getf G.1 (rd_FL rd_k_X9_copyFrom_67).1 rd_d_X9_copyFrom_67 (hT6.1 4 (.inl 9) rfl) (v := .ref 11) (by unfold am_fa; rw [(rd_FL rd_k_X9_copyFrom_67).2]; exact hT6.2 4 6 11 rfl) ?_
  refine kr_aload_n 0 rd_d_X9_copyFrom_70 rfl ?_
  refine kr_getf G.1 (rd_FL rd_k_X9_copyFrom_71).1 rd_d_X9_copyFrom_71 (hT6.1 87 (.inl 9) rfl) (v := .ref 94) (by unfold am_fa; rw [(rd_FL rd_k_X9_copyFrom_71).2]; exact hT6.2 87 6 94 rfl) ?_
  refine rd_callS G (T2 := tX11_copyRow) rfl rd_d_X9_copyFrom_74 rd_k_X9_copyFrom_74 rfl rfl (as := [.ref 11, .ref 94]) (st := []) rfl (Nat.le_of_ble_eq_true rfl) rfl (by decide) (d1 := 2) (by decide) (fun _ h => by cases h.1) (ax_copyRow G (n := 8) (by decide) (by decide) (hT6.1 11 (.inr (.int, 8)) rfl) (hT6.1 94 (.inr (.int, 8)) rfl)) ?_
  intro v7 τ7 ⟨hv7, hs7⟩
  cases hv7
  have hT7 : ax_S τ7 := by rw [hs7]; exact hT6
  have hm7 : τ7.2.1 = ax_cp τ6.2.1 94 11 8 := by rw [hs7]
  refine kr_aload_n 0 rd_d_X9_copyFrom_77 rfl ?_
  refine kr_aload_n 1 rd_d_X9_copyFrom_78 rfl ?_
  refine kr_getf G.1 (rd_FL rd_k_X9_copyFrom_79).1 rd_d_X9_copyFrom_79 (hT7.1 4 (.inl 9) rfl) (v := .int (τ7.2.1 4 7)) (by unfold am_fa; rw [(rd_FL rd_k_X9_copyFrom_79).2]; rfl) ?_
  refine ax_putF G (lo := 0) (hi := 1000) hT7 (σ := τ7) (ax_F0 0 1000 τ7) rd_d_X9_copyFrom_82 rd_k_X9_copyFrom_82 (hT7.1 87 (.inl 9) rfl) (by decide) (by decide) rfl rfl rfl (fun τ8 hT8 _ hs8 => ?_)
  have hm8 : τ8.2.1 = am_up τ7.2.1 87 7 (τ7.2.1 4 7) := by rw [hs8]
  refine kr_aload_n 0 rd_d_X9_copyFrom_85 rfl ?_
  refine kr_aload_n 1 rd_d_X9_copyFrom_86 rfl ?_
  refine kr_getf G.1 (rd_FL rd_k_X9_copyFrom_87).1 rd_d_X9_copyFrom_87 (hT8.1 4 (.inl 9) rfl) (v := .int (τ8.2.1 4 8)) (by unfold am_fa; rw [(rd_FL rd_k_X9_copyFrom_87).2]; rfl) ?_
  refine ax_putF G (lo := 0) (hi := 1000) hT8 (σ := τ8) (ax_F0 0 1000 τ8) rd_d_X9_copyFrom_90 rd_k_X9_copyFrom_90 (hT8.1 87 (.inl 9) rfl) (by decide) (by decide) rfl rfl rfl (fun τ9 hT9 _ hs9 => ?_)
  have hm9 : τ9.2.1 = am_up τ8.2.1 87 8 (τ8.2.1 4 8) := by rw [hs9]
  refine kr_aload_n 0 rd_d_X9_copyFrom_93 rfl ?_
  refine kr_aload_n 1 rd_d_X9_copyFrom_94 rfl ?_
  refine kr_getf G.1 (rd_FL rd_k_X9_copyFrom_95).1 rd_d_X9_copyFrom_95 (hT9.1 4 (.inl 9) rfl) (v := .int (τ9.2.1 4 9)) (by unfold am_fa; rw [(rd_FL rd_k_X9_copyFrom_95).2]; rfl) ?_
  refine ax_putF G (lo := 0) (hi := 1000) hT9 (σ := τ9) (ax_F0 0 1000 τ9) rd_d_X9_copyFrom_98 rd_k_X9_copyFrom_98 (hT9.1 87 (.inl 9) rfl) (by decide) (by decide) rfl rfl rfl (fun τ10 hT10 _ hs10 => ?_)
  have hm10 : τ10.2.1 = am_up τ9.2.1 87 9 (τ9.2.1 4 9) := by rw [hs10]
  refine kr_aload_n 0 rd_d_X9_copyFrom_101 rfl ?_
  refine kr_aload_n 1 rd_d_X9_copyFrom_102 rfl ?_
  refine kr_getf G.1 (rd_FL rd_k_X9_copyFrom_103).1 rd_d_X9_copyFrom_103 (hT10.1 4 (.inl 9) rfl) (v := .int (τ10.2.1 4 10)) (by unfold am_fa; rw [(rd_FL rd_k_X9_copyFrom_103).2]; rfl) ?_
  refine ax_putF G (lo := 0) (hi := 1000) hT10 (σ := τ10) (ax_F0 0 1000 τ10) rd_d_X9_copyFrom_106 rd_k_X9_copyFrom_106 (hT10.1 87 (.inl 9) rfl) (by decide) (by decide) rfl rfl rfl (fun τ11 hT11 _ hs11 => ?_)
  have hm11 : τ11.2.1 = am_up τ10.2.1 87 10 (τ10.2.1 4 10) := by rw [hs11]
  have hF : ax_F 87 94 σ τ11 := by
    intro o k q
    rw [hm11, am_up_o _ _ (fun e => q ⟨by omega, by omega⟩)]
    rw [hm10, am_up_o _ _ (fun e => q ⟨by omega, by omega⟩)]
    rw [hm9, am_up_o _ _ (fun e => q ⟨by omega, by omega⟩)]
    rw [hm8, am_up_o _ _ (fun e => q ⟨by omega, by omega⟩)]
    rw [hm7, ax_cp_o (fun e => q ⟨by omega, by omega⟩)]
    rw [hm6, ax_cp_o (fun e => q ⟨by omega, by omega⟩)]
    rw [hm5, ax_cp_o (fun e => q ⟨by omega, by omega⟩)]
    rw [hm4, ax_cp_o (fun e => q ⟨by omega, by omega⟩)]
    rw [hm3, ax_cp_o (fun e => q ⟨by omega, by omega⟩)]
    rw [hm2, ax_cp_o (fun e => q ⟨by omega, by omega⟩)]
    rw [hm1, ax_cp_o (fun e => q ⟨by omega, by omega⟩)]
  have R1 : ∀ k, k < 10 → τ11.2.1 88 k = σ.2.1 5 k := by
    intro k hk
    rw [hm11, am_up_o _ _ (by decide)]
    rw [hm10, am_up_o _ _ (by decide)]
    rw [hm9, am_up_o _ _ (by decide)]
    rw [hm8, am_up_o _ _ (by decide)]
    rw [hm7, ax_cp_o (by decide)]
    rw [hm6, ax_cp_o (by decide)]
    rw [hm5, ax_cp_o (by decide)]
    rw [hm4, ax_cp_o (by decide)]
    rw [hm3, ax_cp_o (by decide)]
    rw [hm2, ax_cp_o (by decide)]
    rw [hm1, ax_cp_d hk]
  have R2 : ∀ k, k < 10 → τ11.2.1 89 k = σ.2.1 6 k := by
    intro k hk
    rw [hm11, am_up_o _ _ (by decide)]
    rw [hm10, am_up_o _ _ (by decide)]
    rw [hm9, am_up_o _ _ (by decide)]
    rw [hm8, am_up_o _ _ (by decide)]
    rw [hm7, ax_cp_o (by decide)]
    rw [hm6, ax_cp_o (by decide)]
    rw [hm5, ax_cp_o (by decide)]
    rw [hm4, ax_cp_o (by decide)]
    rw [hm3, ax_cp_o (by decide)]
    rw [hm2, ax_cp_d hk]
    rw [hm1, ax_cp_o (by decide)]
  have R3 : ∀ k, k < 10 → τ11.2.1 90 k = σ.2.1 7 k := by
    intro k hk
    rw [hm11, am_up_o _ _ (by decide)]
    rw [hm10, am_up_o _ _ (by decide)]
    rw [hm9, am_up_o _ _ (by decide)]
    rw [hm8, am_up_o _ _ (by decide)]
    rw [hm7, ax_cp_o (by decide)]
    rw [hm6, ax_cp_o (by decide)]
    rw [hm5, ax_cp_o (by decide)]
    rw [hm4, ax_cp_o (by decide)]
    rw [hm3, ax_cp_d hk]
    rw [hm2, ax_cp_o (by decide)]
    rw [hm1, ax_cp_o (by decide)]
  have R4 : ∀ k, k < 10 → τ11.2.1 91 k = σ.2.1 8 k := by
    intro k hk
    rw [hm11, am_up_o _ _ (by decide)]
    rw [hm10, am_up_o _ _ (by decide)]
    rw [hm9, am_up_o _ _ (by decide)]
    rw [hm8, am_up_o _ _ (by decide)]
    rw [hm7, ax_cp_o (by decide)]
    rw [hm6, ax_cp_o (by decide)]
    rw [hm5, ax_cp_o (by decide)]
    rw [hm4, ax_cp_d hk]
    rw [hm3, ax_cp_o (by decide)]
    rw [hm2, ax_cp_o (by decide)]
    rw [hm1, ax_cp_o (by decide)]
  have R5 : ∀ k, k < 6 → τ11.2.1 92 k = σ.2.1 9 k := by
    intro k hk
    rw [hm11, am_up_o _ _ (by decide)]
    rw [hm10, am_up_o _ _ (by decide)]
    rw [hm9, am_up_o _ _ (by decide)]
    rw [hm8, am_up_o _ _ (by decide)]
    rw [hm7, ax_cp_o (by decide)]
    rw [hm6, ax_cp_o (by decide)]
    rw [hm5, ax_cp_d hk]
    rw [hm4, ax_cp_o (by decide)]
    rw [hm3, ax_cp_o (by decide)]
    rw [hm2, ax_cp_o (by decide)]
    rw [hm1, ax_cp_o (by decide)]
  have R6 : ∀ k, k < 6 → τ11.2.1 93 k = σ.2.1 10 k := by
    intro k hk
    rw [hm11, am_up_o _ _ (by decide)]
    rw [hm10, am_up_o _ _ (by decide)]
    rw [hm9, am_up_o _ _ (by decide)]
    rw [hm8, am_up_o _ _ (by decide)]
    rw [hm7, ax_cp_o (by decide)]
    rw [hm6, ax_cp_d hk]
    rw [hm5, ax_cp_o (by decide)]
    rw [hm4, ax_cp_o (by decide)]
    rw [hm3, ax_cp_o (by decide)]
    rw [hm2, ax_cp_o (by decide)]
    rw [hm1, ax_cp_o (by decide)]
  have R7 : ∀ k, k < 8 → τ11.2.1 94 k = σ.2.1 11 k := by
    intro k hk
    rw [hm11, am_up_o _ _ (by decide)]
    rw [hm10, am_up_o _ _ (by decide)]
    rw [hm9, am_up_o _ _ (by decide)]
    rw [hm8, am_up_o _ _ (by decide)]
    rw [hm7, ax_cp_d hk]
    rw [hm6, ax_cp_o (by decide)]
    rw [hm5, ax_cp_o (by decide)]
    rw [hm4, ax_cp_o (by decide)]
    rw [hm3, ax_cp_o (by decide)]
    rw [hm2, ax_cp_o (by decide)]
    rw [hm1, ax_cp_o (by decide)]
  have E7 : τ11.2.1 87 7 = σ.2.1 4 7 := by
    rw [hm11, am_up_n _ _ (by decide)]
    rw [hm10, am_up_n _ _ (by decide)]
    rw [hm9, am_up_n _ _ (by decide)]
    rw [hm8, am_up_s]
    rw [hm7, ax_cp_o (by decide)]
    rw [hm6, ax_cp_o (by decide)]
    rw [hm5, ax_cp_o (by decide)]
    rw [hm4, ax_cp_o (by decide)]
    rw [hm3, ax_cp_o (by decide)]
    rw [hm2, ax_cp_o (by decide)]
    rw [hm1, ax_cp_o (by decide)]
  have E8 : τ11.2.1 87 8 = σ.2.1 4 8 := by
    rw [hm11, am_up_n _ _ (by decide)]
    rw [hm10, am_up_n _ _ (by decide)]
    rw [hm9, am_up_s]
    rw [hm8, am_up_o _ _ (by decide)]
    rw [hm7, ax_cp_o (by decide)]
    rw [hm6, ax_cp_o (by decide)]
    rw [hm5, ax_cp_o (by decide)]
    rw [hm4, ax_cp_o (by decide)]
    rw [hm3, ax_cp_o (by decide)]
    rw [hm2, ax_cp_o (by decide)]
    rw [hm1, ax_cp_o (by decide)]
  have E9 : τ11.2.1 87 9 = σ.2.1 4 9 := by
    rw [hm11, am_up_n _ _ (by decide)]
    rw [hm10, am_up_s]
    rw [hm9, am_up_o _ _ (by decide)]
    rw [hm8, am_up_o _ _ (by decide)]
    rw [hm7, ax_cp_o (by decide)]
    rw [hm6, ax_cp_o (by decide)]
    rw [hm5, ax_cp_o (by decide)]
    rw [hm4, ax_cp_o (by decide)]
    rw [hm3, ax_cp_o (by decide)]
    rw [hm2, ax_cp_o (by decide)]
    rw [hm1, ax_cp_o (by decide)]
  have E10 : τ11.2.1 87 10 = σ.2.1 4 10 := by
    rw [hm11, am_up_s]
    rw [hm10, am_up_o _ _ (by decide)]
    rw [hm9, am_up_o _ _ (by decide)]
    rw [hm8, am_up_o _ _ (by decide)]
    rw [hm7, ax_cp_o (by decide)]
    rw [hm6, ax_cp_o (by decide)]
    rw [hm5, ax_cp_o (by decide)]
    rw [hm4, ax_cp_o (by decide)]
    rw [hm3, ax_cp_o (by decide)]
    rw [hm2, ax_cp_o (by decide)]
    rw [hm1, ax_cp_o (by decide)]
  refine kr_return rd_d_X9_copyFrom_109 rfl ⟨rfl, hT11, hF, fun j h1 h2 => ?_, fun r hr k hk => ?_⟩
  · have h4 : j = 7 ∨ j = 8 ∨ j = 9 ∨ j = 10 := by omega
    rcases h4 with rfl | rfl | rfl | rfl
    · exact E7
    · exact E8
    · exact E9
    · exact E10
  · have h7 : r = 0 ∨ r = 1 ∨ r = 2 ∨ r = 3 ∨ r = 4 ∨ r = 5 ∨ r = 6 := by omega
    rcases h7 with rfl | rfl | rfl | rfl | rfl | rfl | rfl
    · exact R1 k hk
    · exact R2 k hk
    · exact R3 k hk
    · exact R4 k hk
    · exact R5 k hk
    · exact R6 k hk
    · exact R7 k hk
theorem ax_X9_copyFrom_103_4 (G : sx_G0 g L xs z9 hd_C ex_mt) {σ : am_S} (hS : ax_S σ) : am_K g 3 tX9_copyFrom.1 0 0 0 (lv_args 0 [.ref 103, .ref 4]) [] σ (fun r σ' => r = some none ∧ ax_S σ' ∧ ax_F 103 110 σ σ' ∧ ax_Q 103 4 σ σ') := by
  refine kr_aload_n 1 rd_d_X9_copyFrom_0 rfl ?_
  refine kr_getf G.1 (rd_FL rd_k_X9_copyFrom_1).1 rd_d_X9_copyFrom_1 (hS.1 4 (.inl 9) rfl) (v := .ref 5) (by unfold am_fa; rw [(rd_FL rd_k_X9_copyFrom_1).2]; exact hS.2 4 0 5 rfl) ?_
  refine kr_aload_n 0 rd_d_X9_copyFrom_4 rfl ?_
  refine kr_getf G.1 (rd_FL rd_k_X9_copyFrom_5).1 rd_d_X9_copyFrom_5 (hS.1 103 (.inl 9) rfl) (v := .ref 104) (by unfold am_fa; rw [(rd_FL rd_k_X9_copyFrom_5).2]; exact hS.2 103 0 104 rfl) ?_
  refine rd_callS G (T2 := tX11_copyRow) rfl rd_d_X9_copyFrom_8 rd_k_X9_copyFrom_8 rfl rfl (as := [.ref 5, .ref 104]) (st := []) rfl (Nat.le_of_ble_eq_true rfl) rfl (by decide) (d1 := 2) (by decide) (fun _ h => by cases h.1) (ax_copyRow G (n := 10) (by decide) (by decide) (hS.1 5 (.inr (.int, 10)) rfl) (hS.1 104 (.inr (.int, 10)) rfl)) ?_
  intro v1 τ1 ⟨hv1, hs1⟩
  cases hv1
  have hT1 : ax_S τ1 := by rw [hs1]; exact hS
  have hm1 : τ1.2.1 = ax_cp σ.2.1 104 5 10 := by rw [hs1]
  refine kr_aload_n 1 rd_d_X9_copyFrom_11 rfl ?_
  refine kr_getf G.1 (rd_FL rd_k_X9_copyFrom_12).1 rd_d_X9_copyFrom_12 (hT1.1 4 (.inl 9) rfl) (v := .ref 6) (by unfold am_fa; rw [(rd_FL rd_k_X9_copyFrom_12).2]; exact hT1.2 4 1 6 rfl) ?_
  refine kr_aload_n 0 rd_d_X9_copyFrom_15 rfl ?_
  refine kr_getf G.1 (rd_FL rd_k_X9_copyFrom_16).1 rd_d_X9_copyFrom_16 (hT1.1 103 (.inl 9) rfl) (v := .ref 105) (by unfold am_fa; rw [(rd_FL rd_k_X9_copyFrom_16).2]; exact hT1.2 103 1 105 rfl) ?_
  refine rd_callS G (T2 := tX11_copyRow) rfl rd_d_X9_copyFrom_19 rd_k_X9_copyFrom_19 rfl rfl (as := [.ref 6, .ref 105]) (st := []) rfl (Nat.le_of_ble_eq_true rfl) rfl (by decide) (d1 := 2) (by decide) (fun _ h => by cases h.1) (ax_copyRow G (n := 10) (by decide) (by decide) (hT1.1 6 (.inr (.int, 10)) rfl) (hT1.1 105 (.inr (.int, 10)) rfl)) ?_
  intro v2 τ2 ⟨hv2, hs2⟩
  cases hv2
  have hT2 : ax_S τ2 := by rw [hs2]; exact hT1
  have hm2 : τ2.2.1 = ax_cp τ1.2.1 105 6 10 := by rw [hs2]
  refine kr_aload_n 1 rd_d_X9_copyFrom_22 rfl ?_
  refine kr_getf G.1 (rd_FL rd_k_X9_copyFrom_23).1 rd_d_X9_copyFrom_23 (hT2.1 4 (.inl 9) rfl) (v := .ref 7) (by unfold am_fa; rw [(rd_FL rd_k_X9_copyFrom_23).2]; exact hT2.2 4 2 7 rfl) ?_
  refine kr_aload_n 0 rd_d_X9_copyFrom_26 rfl ?_
  refine kr_getf G.1 (rd_FL rd_k_X9_copyFrom_27).1 rd_d_X9_copyFrom_27 (hT2.1 103 (.inl 9) rfl) (v := .ref 106) (by unfold am_fa; rw [(rd_FL rd_k_X9_copyFrom_27).2]; exact hT2.2 103 2 106 rfl) ?_
  refine rd_callS G (T2 := tX11_copyRow) rfl rd_d_X9_copyFrom_30 rd_k_X9_copyFrom_30 rfl rfl (as := [.ref 7, .ref 106]) (st := []) rfl (Nat.le_of_ble_eq_true rfl) rfl (by decide) (d1 := 2) (by decide) (fun _ h => by cases h.1) (ax_copyRow G (n := 10) (by decide) (by decide) (hT2.1 7 (.inr (.int, 10)) rfl) (hT2.1 106 (.inr (.int, 10)) rfl)) ?_
  intro v3 τ3 ⟨hv3, hs3⟩
  cases hv3
  have hT3 : ax_S τ3 := by rw [hs3]; exact hT2
  have hm3 : τ3.2.1 = ax_cp τ2.2.1 106 7 10 := by rw [hs3]
  refine kr_aload_n 1 rd_d_X9_copyFrom_33 rfl ?_
  refine kr_getf G.1 (rd_FL rd_k_X9_copyFrom_34).1 rd_d_X9_copyFrom_34 (hT3.1 4 (.inl 9) rfl) (v := .ref 8) (by unfold am_fa; rw [(rd_FL rd_k_X9_copyFrom_34).2]; exact hT3.2 4 3 8 rfl) ?_
  refine kr_aload_n 0 rd_d_X9_copyFrom_37 rfl ?_
  refine kr_getf G.1 (rd_FL rd_k_X9_copyFrom_38).1 rd_d_X9_copyFrom_38 (hT3.1 103 (.inl 9) rfl) (v := .ref 107) (by unfold am_fa; rw [(rd_FL rd_k_X9_copyFrom_38).2]; exact hT3.2 103 3 107 rfl) ?_
  refine rd_callS G (T2 := tX11_copyRow) rfl rd_d_X9_copyFrom_41 rd_k_X9_copyFrom_41 rfl rfl (as := [.ref 8, .ref 107]) (st := []) rfl (Nat.le_of_ble_eq_true rfl) rfl (by decide) (d1 := 2) (by decide) (fun _ h => by cases h.1) (ax_copyRow G (n := 10) (by decide) (by decide) (hT3.1 8 (.inr (.int, 10)) rfl) (hT3.1 107 (.inr (.int, 10)) rfl)) ?_
  intro v4 τ4 ⟨hv4, hs4⟩
  cases hv4
  have hT4 : ax_S τ4 := by rw [hs4]; exact hT3
  have hm4 : τ4.2.1 = ax_cp τ3.2.1 107 8 10 := by rw [hs4]
  refine kr_aload_n 1 rd_d_X9_copyFrom_44 rfl ?_
  refine kr_getf G.1 (rd_FL rd_k_X9_copyFrom_45).1 rd_d_X9_copyFrom_45 (hT4.1 4 (.inl 9) rfl) (v := .ref 9) (by unfold am_fa; rw [(rd_FL rd_k_X9_copyFrom_45).2]; exact hT4.2 4 4 9 rfl) ?_
  refine kr_aload_n 0 rd_d_X9_copyFrom_48 rfl ?_
  refine kr_getf G.1 (rd_FL rd_k_X9_copyFrom_49).1 rd_d_X9_copyFrom_49 (hT4.1 103 (.inl 9) rfl) (v := .ref 108) (by unfold am_fa; rw [(rd_FL rd_k_X9_copyFrom_49).2]; exact hT4.2 103 4 108 rfl) ?_
  refine rd_callS G (T2 := tX11_copyRow) rfl rd_d_X9_copyFrom_52 rd_k_X9_copyFrom_52 rfl rfl (as := [.ref 9, .ref 108]) (st := []) rfl (Nat.le_of_ble_eq_true rfl) rfl (by decide) (d1 := 2) (by decide) (fun _ h => by cases h.1) (ax_copyRow G (n := 6) (by decide) (by decide) (hT4.1 9 (.inr (.int, 6)) rfl) (hT4.1 108 (.inr (.int, 6)) rfl)) ?_
  intro v5 τ5 ⟨hv5, hs5⟩
  cases hv5
  have hT5 : ax_S τ5 := by rw [hs5]; exact hT4
  have hm5 : τ5.2.1 = ax_cp τ4.2.1 108 9 6 := by rw [hs5]
  refine kr_aload_n 1 rd_d_X9_copyFrom_55 rfl ?_
  refine kr_getf G.1 (rd_FL rd_k_X9_copyFrom_56).1 rd_d_X9_copyFrom_56 (hT5.1 4 (.inl 9) rfl) (v := .ref 10) (by unfold am_fa; rw [(rd_FL rd_k_X9_copyFrom_56).2]; exact hT5.2 4 5 10 rfl) ?_
  refine kr_aload_n 0 rd_d_X9_copyFrom_59 rfl ?_
  refine kr_getf G.1 (rd_FL rd_k_X9_copyFrom_60).1 rd_d_X9_copyFrom_60 (hT5.1 103 (.inl 9) rfl) (v := .ref 109) (by unfold am_fa; rw [(rd_FL rd_k_X9_copyFrom_60).2]; exact hT5.2 103 5 109 rfl) ?_
  refine rd_callS G (T2 := tX11_copyRow) rfl rd_d_X9_copyFrom_63 rd_k_X9_copyFrom_63 rfl rfl (as := [.ref 10, .ref 109]) (st := []) rfl (Nat.le_of_ble_eq_true rfl) rfl (by decide) (d1 := 2) (by decide) (fun _ h => by cases h.1) (ax_copyRow G (n := 6) (by decide) (by decide) (hT5.1 10 (.inr (.int, 6)) rfl) (hT5.1 109 (.inr (.int, 6)) rfl)) ?_
  intro v6 τ6 ⟨hv6, hs6⟩
  cases hv6
  have hT6 : ax_S τ6 := by rw [hs6]; exact hT5
  have hm6 : τ6.2.1 = ax_cp τ5.2.1 109 10 6 := by rw [hs6]
  refine kr_aload_n 1 rd_d_X9_copyFrom_66 rfl ?_
  refine kr_getf G.1 (rd_FL rd_k_X9_copyFrom_67).1 rd_d_X9_copyFrom_67 (hT6.1 4 (.inl 9) rfl) (v := .ref 11) (by unfold am_fa; rw [(rd_FL rd_k_X9_copyFrom_67).2]; exact hT6.2 4 6 11 rfl) ?_
  refine kr_aload_n 0 rd_d_X9_copyFrom_70 rfl ?_
  refine kr_getf G.1 (rd_FL rd_k_X9_copyFrom_71).1 rd_d_X9_copyFrom_71 (hT6.1 103 (.inl 9) rfl) (v := .ref 110) (by unfold am_fa; rw [(rd_FL rd_k_X9_copyFrom_71).2]; exact hT6.2 103 6 110 rfl) ?_
  refine rd_callS G (T2 := tX11_copyRow) rfl rd_d_X9_copyFrom_74 rd_k_X9_copyFrom_74 rfl rfl (as := [.ref 11, .ref 110]) (st := []) rfl (Nat.le_of_ble_eq_true rfl) rfl (by decide) (d1 := 2) (by decide) (fun _ h => by cases h.1) (ax_copyRow G (n := 8) (by decide) (by decide) (hT6.1 11 (.inr (.int, 8)) rfl) (hT6.1 110 (.inr (.int, 8)) rfl)) ?_
  intro v7 τ7 ⟨hv7, hs7⟩
  cases hv7
  have hT7 : ax_S τ7 := by rw [hs7]; exact hT6
  have hm7 : τ7.2.1 = ax_cp τ6.2.1 110 11 8 := by rw [hs7]
  refine kr_aload_n 0 rd_d_X9_copyFrom_77 rfl ?_
  refine kr_aload_n 1 rd_d_X9_copyFrom_78 rfl ?_
  refine kr_getf G.1 (rd_FL rd_k_X9_copyFrom_79).1 rd_d_X9_copyFrom_79 (hT7.1 4 (.inl 9) rfl) (v := .int (τ7.2.1 4 7)) (by unfold am_fa; rw [(rd_FL rd_k_X9_copyFrom_79).2]; rfl) ?_
  refine ax_putF G (lo := 0) (hi := 1000) hT7 (σ := τ7) (ax_F0 0 1000 τ7) rd_d_X9_copyFrom_82 rd_k_X9_copyFrom_82 (hT7.1 103 (.inl 9) rfl) (by decide) (by decide) rfl rfl rfl (fun τ8 hT8 _ hs8 => ?_)
  have hm8 : τ8.2.1 = am_up τ7.2.1 103 7 (τ7.2.1 4 7) := by rw [hs8]
  refine kr_aload_n 0 rd_d_X9_copyFrom_85 rfl ?_
  refine kr_aload_n 1 rd_d_X9_copyFrom_86 rfl ?_
  refine kr_getf G.1 (rd_FL rd_k_X9_copyFrom_87).1 rd_d_X9_copyFrom_87 (hT8.1 4 (.inl 9) rfl) (v := .int (τ8.2.1 4 8)) (by unfold am_fa; rw [(rd_FL rd_k_X9_copyFrom_87).2]; rfl) ?_
  refine ax_putF G (lo := 0) (hi := 1000) hT8 (σ := τ8) (ax_F0 0 1000 τ8) rd_d_X9_copyFrom_90 rd_k_X9_copyFrom_90 (hT8.1 103 (.inl 9) rfl) (by decide) (by decide) rfl rfl rfl (fun τ9 hT9 _ hs9 => ?_)
  have hm9 : τ9.2.1 = am_up τ8.2.1 103 8 (τ8.2.1 4 8) := by rw [hs9]
  refine kr_aload_n 0 rd_d_X9_copyFrom_93 rfl ?_
  refine kr_aload_n 1 rd_d_X9_copyFrom_94 rfl ?_
  refine kr_getf G.1 (rd_FL rd_k_X9_copyFrom_95).1 rd_d_X9_copyFrom_95 (hT9.1 4 (.inl 9) rfl) (v := .int (τ9.2.1 4 9)) (by unfold am_fa; rw [(rd_FL rd_k_X9_copyFrom_95).2]; rfl) ?_
  refine ax_putF G (lo := 0) (hi := 1000) hT9 (σ := τ9) (ax_F0 0 1000 τ9) rd_d_X9_copyFrom_98 rd_k_X9_copyFrom_98 (hT9.1 103 (.inl 9) rfl) (by decide) (by decide) rfl rfl rfl (fun τ10 hT10 _ hs10 => ?_)
  have hm10 : τ10.2.1 = am_up τ9.2.1 103 9 (τ9.2.1 4 9) := by rw [hs10]
  refine kr_aload_n 0 rd_d_X9_copyFrom_101 rfl ?_
  refine kr_aload_n 1 rd_d_X9_copyFrom_102 rfl ?_
  refine kr_getf G.1 (rd_FL rd_k_X9_copyFrom_103).1 rd_d_X9_copyFrom_103 (hT10.1 4 (.inl 9) rfl) (v := .int (τ10.2.1 4 10)) (by unfold am_fa; rw [(rd_FL rd_k_X9_copyFrom_103).2]; rfl) ?_
  refine ax_putF G (lo := 0) (hi := 1000) hT10 (σ := τ10) (ax_F0 0 1000 τ10) rd_d_X9_copyFrom_106 rd_k_X9_copyFrom_106 (hT10.1 103 (.inl 9) rfl) (by decide) (by decide) rfl rfl rfl (fun τ11 hT11 _ hs11 => ?_)
  have hm11 : τ11.2.1 = am_up τ10.2.1 103 10 (τ10.2.1 4 10) := by rw [hs11]
  have hF : ax_F 103 110 σ τ11 := by
    intro o k q
    rw [hm11, am_up_o _ _ (fun e => q ⟨by omega, by omega⟩)]
    rw [hm10, am_up_o _ _ (fun e => q ⟨by omega, by omega⟩)]
    rw [hm9, am_up_o _ _ (fun e => q ⟨by omega, by omega⟩)]
    rw [hm8, am_up_o _ _ (fun e => q ⟨by omega, by omega⟩)]
    rw [hm7, ax_cp_o (fun e => q ⟨by omega, by omega⟩)]
    rw [hm6, ax_cp_o (fun e => q ⟨by omega, by omega⟩)]
    rw [hm5, ax_cp_o (fun e => q ⟨by omega, by omega⟩)]
    rw [hm4, ax_cp_o (fun e => q ⟨by omega, by omega⟩)]
    rw [hm3, ax_cp_o (fun e => q ⟨by omega, by omega⟩)]
    rw [hm2, ax_cp_o (fun e => q ⟨by omega, by omega⟩)]
    rw [hm1, ax_cp_o (fun e => q ⟨by omega, by omega⟩)]
  have R1 : ∀ k, k < 10 → τ11.2.1 104 k = σ.2.1 5 k := by
    intro k hk
    rw [hm11, am_up_o _ _ (by decide)]
    rw [hm10, am_up_o _ _ (by decide)]
    rw [hm9, am_up_o _ _ (by decide)]
    rw [hm8, am_up_o _ _ (by decide)]
    rw [hm7, ax_cp_o (by decide)]
    rw [hm6, ax_cp_o (by decide)]
    rw [hm5, ax_cp_o (by decide)]
    rw [hm4, ax_cp_o (by decide)]
    rw [hm3, ax_cp_o (by decide)]
    rw [hm2, ax_cp_o (by decide)]
    rw [hm1, ax_cp_d hk]
  have R2 : ∀ k, k < 10 → τ11.2.1 105 k = σ.2.1 6 k := by
    intro k hk
    rw [hm11, am_up_o _ _ (by decide)]
    rw [hm10, am_up_o _ _ (by decide)]
    rw [hm9, am_up_o _ _ (by decide)]
    rw [hm8, am_up_o _ _ (by decide)]
    rw [hm7, ax_cp_o (by decide)]
    rw [hm6, ax_cp_o (by decide)]
    rw [hm5, ax_cp_o (by decide)]
    rw [hm4, ax_cp_o (by decide)]
    rw [hm3, ax_cp_o (by decide)]
    rw [hm2, ax_cp_d hk]
    rw [hm1, ax_cp_o (by decide)]
  have R3 : ∀ k, k < 10 → τ11.2.1 106 k = σ.2.1 7 k := by
    intro k hk
    rw [hm11, am_up_o _ _ (by decide)]
    rw [hm10, am_up_o _ _ (by decide)]
    rw [hm9, am_up_o _ _ (by decide)]
    rw [hm8, am_up_o _ _ (by decide)]
    rw [hm7, ax_cp_o (by decide)]
    rw [hm6, ax_cp_o (by decide)]
    rw [hm5, ax_cp_o (by decide)]
    rw [hm4, ax_cp_o (by decide)]
    rw [hm3, ax_cp_d hk]
    rw [hm2, ax_cp_o (by decide)]
    rw [hm1, ax_cp_o (by decide)]
  have R4 : ∀ k, k < 10 → τ11.2.1 107 k = σ.2.1 8 k := by
    intro k hk
    rw [hm11, am_up_o _ _ (by decide)]
    rw [hm10, am_up_o _ _ (by decide)]
    rw [hm9, am_up_o _ _ (by decide)]
    rw [hm8, am_up_o _ _ (by decide)]
    rw [hm7, ax_cp_o (by decide)]
    rw [hm6, ax_cp_o (by decide)]
    rw [hm5, ax_cp_o (by decide)]
    rw [hm4, ax_cp_d hk]
    rw [hm3, ax_cp_o (by decide)]
    rw [hm2, ax_cp_o (by decide)]
    rw [hm1, ax_cp_o (by decide)]
  have R5 : ∀ k, k < 6 → τ11.2.1 108 k = σ.2.1 9 k := by
    intro k hk
    rw [hm11, am_up_o _ _ (by decide)]
    rw [hm10, am_up_o _ _ (by decide)]
    rw [hm9, am_up_o _ _ (by decide)]
    rw [hm8, am_up_o _ _ (by decide)]
    rw [hm7, ax_cp_o (by decide)]
    rw [hm6, ax_cp_o (by decide)]
    rw [hm5, ax_cp_d hk]
    rw [hm4, ax_cp_o (by decide)]
    rw [hm3, ax_cp_o (by decide)]
    rw [hm2, ax_cp_o (by decide)]
    rw [hm1, ax_cp_o (by decide)]
  have R6 : ∀ k, k < 6 → τ11.2.1 109 k = σ.2.1 10 k := by
    intro k hk
    rw [hm11, am_up_o _ _ (by decide)]
    rw [hm10, am_up_o _ _ (by decide)]
    rw [hm9, am_up_o _ _ (by decide)]
    rw [hm8, am_up_o _ _ (by decide)]
    rw [hm7, ax_cp_o (by decide)]
    rw [hm6, ax_cp_d hk]
    rw [hm5, ax_cp_o (by decide)]
    rw [hm4, ax_cp_o (by decide)]
    rw [hm3, ax_cp_o (by decide)]
    rw [hm2, ax_cp_o (by decide)]
    rw [hm1, ax_cp_o (by decide)]
  have R7 : ∀ k, k < 8 → τ11.2.1 110 k = σ.2.1 11 k := by
    intro k hk
    rw [hm11, am_up_o _ _ (by decide)]
    rw [hm10, am_up_o _ _ (by decide)]
    rw [hm9, am_up_o _ _ (by decide)]
    rw [hm8, am_up_o _ _ (by decide)]
    rw [hm7, ax_cp_d hk]
    rw [hm6, ax_cp_o (by decide)]
    rw [hm5, ax_cp_o (by decide)]
    rw [hm4, ax_cp_o (by decide)]
    rw [hm3, ax_cp_o (by decide)]
    rw [hm2, ax_cp_o (by decide)]
    rw [hm1, ax_cp_o (by decide)]
  have E7 : τ11.2.1 103 7 = σ.2.1 4 7 := by
    rw [hm11, am_up_n _ _ (by decide)]
    rw [hm10, am_up_n _ _ (by decide)]
    rw [hm9, am_up_n _ _ (by decide)]
    rw [hm8, am_up_s]
    rw [hm7, ax_cp_o (by decide)]
    rw [hm6, ax_cp_o (by decide)]
    rw [hm5, ax_cp_o (by decide)]
    rw [hm4, ax_cp_o (by decide)]
    rw [hm3, ax_cp_o (by decide)]
    rw [hm2, ax_cp_o (by decide)]
    rw [hm1, ax_cp_o (by decide)]
  have E8 : τ11.2.1 103 8 = σ.2.1 4 8 := by
    rw [hm11, am_up_n _ _ (by decide)]
    rw [hm10, am_up_n _ _ (by decide)]
    rw [hm9, am_up_s]
    rw [hm8, am_up_o _ _ (by decide)]
    rw [hm7, ax_cp_o (by decide)]
    rw [hm6, ax_cp_o (by decide)]
    rw [hm5, ax_cp_o (by decide)]
    rw [hm4, ax_cp_o (by decide)]
    rw [hm3, ax_cp_o (by decide)]
    rw [hm2, ax_cp_o (by decide)]
    rw [hm1, ax_cp_o (by decide)]
  have E9 : τ11.2.1 103 9 = σ.2.1 4 9 := by
    rw [hm11, am_up_n _ _ (by decide)]
    rw [hm10, am_up_s]
    rw [hm9, am_up_o _ _ (by decide)]
    rw [hm8, am_up_o _ _ (by decide)]
    rw [hm7, ax_cp_o (by decide)]
    rw [hm6, ax_cp_o (by decide)]
    rw [hm5, ax_cp_o (by decide)]
    rw [hm4, ax_cp_o (by decide)]
    rw [hm3, ax_cp_o (by decide)]
    rw [hm2, ax_cp_o (by decide)]
    rw [hm1, ax_cp_o (by decide)]
  have E10 : τ11.2.1 103 10 = σ.2.1 4 10 := by
    rw [hm11, am_up_s]
    rw [hm10, am_up_o _ _ (by decide)]
    rw [hm9, am_up_o _ _ (by decide)]
    rw [hm8, am_up_o _ _ (by decide)]
    rw [hm7, ax_cp_o (by decide)]
    rw [hm6, ax_cp_o (by decide)]
    rw [hm5, ax_cp_o (by decide)]
    rw [hm4, ax_cp_o (by decide)]
    rw [hm3, ax_cp_o (by decide)]
    rw [hm2, ax_cp_o (by decide)]
    rw [hm1, ax_cp_o (by decide)]
  refine kr_return rd_d_X9_copyFrom_109 rfl ⟨rfl, hT11, hF, fun j h1 h2 => ?_, fun r hr k hk => ?_⟩
  · have h4 : j = 7 ∨ j = 8 ∨ j = 9 ∨ j = 10 := by omega
    rcases h4 with rfl | rfl | rfl | rfl
    · exact E7
    · exact E8
    · exact E9
    · exact E10
  · have h7 : r = 0 ∨ r = 1 ∨ r = 2 ∨ r = 3 ∨ r = 4 ∨ r = 5 ∨ r = 6 := by omega
    rcases h7 with rfl | rfl | rfl | rfl | rfl | rfl | rfl
    · exact R1 k hk
    · exact R2 k hk
    · exact R3 k hk
    · exact R4 k hk
    · exact R5 k hk
    · exact R6 k hk
    · exact R7 k hk
theorem ax_X9_copyFrom_4_87 (G : sx_G0 g L xs z9 hd_C ex_mt) {σ : am_S} (hS : ax_S σ) : am_K g 3 tX9_copyFrom.1 0 0 0 (lv_args 0 [.ref 4, .ref 87]) [] σ (fun r σ' => r = some none ∧ ax_S σ' ∧ ax_F 4 11 σ σ' ∧ ax_Q 4 87 σ σ') := by
  refine kr_aload_n 1 rd_d_X9_copyFrom_0 rfl ?_
  refine kr_getf G.1 (rd_FL rd_k_X9_copyFrom_1).1 rd_d_X9_copyFrom_1 (hS.1 87 (.inl 9) rfl) (v := .ref 88) (by unfold am_fa; rw [(rd_FL rd_k_X9_copyFrom_1).2]; exact hS.2 87 0 88 rfl) ?_
  refine kr_aload_n 0 rd_d_X9_copyFrom_4 rfl ?_
  refine kr_getf G.1 (rd_FL rd_k_X9_copyFrom_5).1 rd_d_X9_copyFrom_5 (hS.1 4 (.inl 9) rfl) (v := .ref 5) (by unfold am_fa; rw [(rd_FL rd_k_X9_copyFrom_5).2]; exact hS.2 4 0 5 rfl) ?_
  refine rd_callS G (T2 := tX11_copyRow) rfl rd_d_X9_copyFrom_8 rd_k_X9_copyFrom_8 rfl rfl (as := [.ref 88, .ref 5]) (st := []) rfl (Nat.le_of_ble_eq_true rfl) rfl (by decide) (d1 := 2) (by decide) (fun _ h => by cases h.1) (ax_copyRow G (n := 10) (by decide) (by decide) (hS.1 88 (.inr (.int, 10)) rfl) (hS.1 5 (.inr (.int, 10)) rfl)) ?_
  intro v1 τ1 ⟨hv1, hs1⟩
  cases hv1
  have hT1 : ax_S τ1 := by rw [hs1]; exact hS
  have hm1 : τ1.2.1 = ax_cp σ.2.1 5 88 10 := by rw [hs1]
  refine kr_aload_n 1 rd_d_X9_copyFrom_11 rfl ?_
  refine kr_getf G.1 (rd_FL rd_k_X9_copyFrom_12).1 rd_d_X9_copyFrom_12 (hT1.1 87 (.inl 9) rfl) (v := .ref 89) (by unfold am_fa; rw [(rd_FL rd_k_X9_copyFrom_12).2]; exact hT1.2 87 1 89 rfl) ?_
  refine kr_aload_n 0 rd_d_X9_copyFrom_15 rfl ?_
  refine kr_getf G.1 (rd_FL rd_k_X9_copyFrom_16).1 rd_d_X9_copyFrom_16 (hT1.1 4 (.inl 9) rfl) (v := .ref 6) (by unfold am_fa; rw [(rd_FL rd_k_X9_copyFrom_16).2]; exact hT1.2 4 1 6 rfl) ?_
  refine rd_callS G (T2 := tX11_copyRow) rfl rd_d_X9_copyFrom_19 rd_k_X9_copyFrom_19 rfl rfl (as := [.ref 89, .ref 6]) (st := []) rfl (Nat.le_of_ble_eq_true rfl) rfl (by decide) (d1 := 2) (by decide) (fun _ h => by cases h.1) (ax_copyRow G (n := 10) (by decide) (by decide) (hT1.1 89 (.inr (.int, 10)) rfl) (hT1.1 6 (.inr (.int, 10)) rfl)) ?_
  intro v2 τ2 ⟨hv2, hs2⟩
  cases hv2
  have hT2 : ax_S τ2 := by rw [hs2]; exact hT1
  have hm2 : τ2.2.1 = ax_cp τ1.2.1 6 89 10 := by rw [hs2]
  refine kr_aload_n 1 rd_d_X9_copyFrom_22 rfl ?_
  refine kr_getf G.1 (rd_FL rd_k_X9_copyFrom_23).1 rd_d_X9_copyFrom_23 (hT2.1 87 (.inl 9) rfl) (v := .ref 90) (by unfold am_fa; rw [(rd_FL rd_k_X9_copyFrom_23).2]; exact hT2.2 87 2 90 rfl) ?_
  refine kr_aload_n 0 rd_d_X9_copyFrom_26 rfl ?_
  refine kr_getf G.1 (rd_FL rd_k_X9_copyFrom_27).1 rd_d_X9_copyFrom_27 (hT2.1 4 (.inl 9) rfl) (v := .ref 7) (by unfold am_fa; rw [(rd_FL rd_k_X9_copyFrom_27).2]; exact hT2.2 4 2 7 rfl) ?_
  refine rd_callS G (T2 := tX11_copyRow) rfl rd_d_X9_copyFrom_30 rd_k_X9_copyFrom_30 rfl rfl (as := [.ref 90, .ref 7]) (st := []) rfl (Nat.le_of_ble_eq_true rfl) rfl (by decide) (d1 := 2) (by decide) (fun _ h => by cases h.1) (ax_copyRow G (n := 10) (by decide) (by decide) (hT2.1 90 (.inr (.int, 10)) rfl) (hT2.1 7 (.inr (.int, 10)) rfl)) ?_
  intro v3 τ3 ⟨hv3, hs3⟩
  cases hv3
  have hT3 : ax_S τ3 := by rw [hs3]; exact hT2
  have hm3 : τ3.2.1 = ax_cp τ2.2.1 7 90 10 := by rw [hs3]
  refine kr_aload_n 1 rd_d_X9_copyFrom_33 rfl ?_
  refine kr_getf G.1 (rd_FL rd_k_X9_copyFrom_34).1 rd_d_X9_copyFrom_34 (hT3.1 87 (.inl 9) rfl) (v := .ref 91) (by unfold am_fa; rw [(rd_FL rd_k_X9_copyFrom_34).2]; exact hT3.2 87 3 91 rfl) ?_
  refine kr_aload_n 0 rd_d_X9_copyFrom_37 rfl ?_
  refine kr_getf G.1 (rd_FL rd_k_X9_copyFrom_38).1 rd_d_X9_copyFrom_38 (hT3.1 4 (.inl 9) rfl) (v := .ref 8) (by unfold am_fa; rw [(rd_FL rd_k_X9_copyFrom_38).2]; exact hT3.2 4 3 8 rfl) ?_
  refine rd_callS G (T2 := tX11_copyRow) rfl rd_d_X9_copyFrom_41 rd_k_X9_copyFrom_41 rfl rfl (as := [.ref 91, .ref 8]) (st := []) rfl (Nat.le_of_ble_eq_true rfl) rfl (by decide) (d1 := 2) (by decide) (fun _ h => by cases h.1) (ax_copyRow G (n := 10) (by decide) (by decide) (hT3.1 91 (.inr (.int, 10)) rfl) (hT3.1 8 (.inr (.int, 10)) rfl)) ?_
  intro v4 τ4 ⟨hv4, hs4⟩
  cases hv4
  have hT4 : ax_S τ4 := by rw [hs4]; exact hT3
  have hm4 : τ4.2.1 = ax_cp τ3.2.1 8 91 10 := by rw [hs4]
  refine kr_aload_n 1 rd_d_X9_copyFrom_44 rfl ?_
  refine kr_getf G.1 (rd_FL rd_k_X9_copyFrom_45).1 rd_d_X9_copyFrom_45 (hT4.1 87 (.inl 9) rfl) (v := .ref 92) (by unfold am_fa; rw [(rd_FL rd_k_X9_copyFrom_45).2]; exact hT4.2 87 4 92 rfl) ?_
  refine kr_aload_n 0 rd_d_X9_copyFrom_48 rfl ?_
  refine kr_getf G.1 (rd_FL rd_k_X9_copyFrom_49).1 rd_d_X9_copyFrom_49 (hT4.1 4 (.inl 9) rfl) (v := .ref 9) (by unfold am_fa; rw [(rd_FL rd_k_X9_copyFrom_49).2]; exact hT4.2 4 4 9 rfl) ?_
  refine rd_callS G (T2 := tX11_copyRow) rfl rd_d_X9_copyFrom_52 rd_k_X9_copyFrom_52 rfl rfl (as := [.ref 92, .ref 9]) (st := []) rfl (Nat.le_of_ble_eq_true rfl) rfl (by decide) (d1 := 2) (by decide) (fun _ h => by cases h.1) (ax_copyRow G (n := 6) (by decide) (by decide) (hT4.1 92 (.inr (.int, 6)) rfl) (hT4.1 9 (.inr (.int, 6)) rfl)) ?_
  intro v5 τ5 ⟨hv5, hs5⟩
  cases hv5
  have hT5 : ax_S τ5 := by rw [hs5]; exact hT4
  have hm5 : τ5.2.1 = ax_cp τ4.2.1 9 92 6 := by rw [hs5]
  refine kr_aload_n 1 rd_d_X9_copyFrom_55 rfl ?_
  refine kr_getf G.1 (rd_FL rd_k_X9_copyFrom_56).1 rd_d_X9_copyFrom_56 (hT5.1 87 (.inl 9) rfl) (v := .ref 93) (by unfold am_fa; rw [(rd_FL rd_k_X9_copyFrom_56).2]; exact hT5.2 87 5 93 rfl) ?_
  refine kr_aload_n 0 rd_d_X9_copyFrom_59 rfl ?_
  refine kr_getf G.1 (rd_FL rd_k_X9_copyFrom_60).1 rd_d_X9_copyFrom_60 (hT5.1 4 (.inl 9) rfl) (v := .ref 10) (by unfold am_fa; rw [(rd_FL rd_k_X9_copyFrom_60).2]; exact hT5.2 4 5 10 rfl) ?_
  refine rd_callS G (T2 := tX11_copyRow) rfl rd_d_X9_copyFrom_63 rd_k_X9_copyFrom_63 rfl rfl (as := [.ref 93, .ref 10]) (st := []) rfl (Nat.le_of_ble_eq_true rfl) rfl (by decide) (d1 := 2) (by decide) (fun _ h => by cases h.1) (ax_copyRow G (n := 6) (by decide) (by decide) (hT5.1 93 (.inr (.int, 6)) rfl) (hT5.1 10 (.inr (.int, 6)) rfl)) ?_
  intro v6 τ6 ⟨hv6, hs6⟩
  cases hv6
  have hT6 : ax_S τ6 := by rw [hs6]; exact hT5
  have hm6 : τ6.2.1 = ax_cp τ5.2.1 10 93 6 := by rw [hs6]
  refine kr_aload_n 1 rd_d_X9_copyFrom_66 rfl ?_
  refine kr_getf G.1 (rd_FL rd_k_X9_copyFrom_67).1 rd_d_X9_copyFrom_67 (hT6.1 87 (.inl 9) rfl) (v := .ref 94) (by unfold am_fa; rw [(rd_FL rd_k_X9_copyFrom_67).2]; exact hT6.2 87 6 94 rfl) ?_
  refine kr_aload_n 0 rd_d_X9_copyFrom_70 rfl ?_
  refine kr_getf G.1 (rd_FL rd_k_X9_copyFrom_71).1 rd_d_X9_copyFrom_71 (hT6.1 4 (.inl 9) rfl) (v := .ref 11) (by unfold am_fa; rw [(rd_FL rd_k_X9_copyFrom_71).2]; exact hT6.2 4 6 11 rfl) ?_
  refine rd_callS G (T2 := tX11_copyRow) rfl rd_d_X9_copyFrom_74 rd_k_X9_copyFrom_74 rfl rfl (as := [.ref 94, .ref 11]) (st := []) rfl (Nat.le_of_ble_eq_true rfl) rfl (by decide) (d1 := 2) (by decide) (fun _ h => by cases h.1) (ax_copyRow G (n := 8) (by decide) (by decide) (hT6.1 94 (.inr (.int, 8)) rfl) (hT6.1 11 (.inr (.int, 8)) rfl)) ?_
  intro v7 τ7 ⟨hv7, hs7⟩
  cases hv7
  have hT7 : ax_S τ7 := by rw [hs7]; exact hT6
  have hm7 : τ7.2.1 = ax_cp τ6.2.1 11 94 8 := by rw [hs7]
  refine kr_aload_n 0 rd_d_X9_copyFrom_77 rfl ?_
  refine kr_aload_n 1 rd_d_X9_copyFrom_78 rfl ?_
  refine kr_getf G.1 (rd_FL rd_k_X9_copyFrom_79).1 rd_d_X9_copyFrom_79 (hT7.1 87 (.inl 9) rfl) (v := .int (τ7.2.1 87 7)) (by unfold am_fa; rw [(rd_FL rd_k_X9_copyFrom_79).2]; rfl) ?_
  refine ax_putF G (lo := 0) (hi := 1000) hT7 (σ := τ7) (ax_F0 0 1000 τ7) rd_d_X9_copyFrom_82 rd_k_X9_copyFrom_82 (hT7.1 4 (.inl 9) rfl) (by decide) (by decide) rfl rfl rfl (fun τ8 hT8 _ hs8 => ?_)
  have hm8 : τ8.2.1 = am_up τ7.2.1 4 7 (τ7.2.1 87 7) := by rw [hs8]
  refine kr_aload_n 0 rd_d_X9_copyFrom_85 rfl ?_
  refine kr_aload_n 1 rd_d_X9_copyFrom_86 rfl ?_
  refine kr_getf G.1 (rd_FL rd_k_X9_copyFrom_87).1 rd_d_X9_copyFrom_87 (hT8.1 87 (.inl 9) rfl) (v := .int (τ8.2.1 87 8)) (by unfold am_fa; rw [(rd_FL rd_k_X9_copyFrom_87).2]; rfl) ?_
  refine ax_putF G (lo := 0) (hi := 1000) hT8 (σ := τ8) (ax_F0 0 1000 τ8) rd_d_X9_copyFrom_90 rd_k_X9_copyFrom_90 (hT8.1 4 (.inl 9) rfl) (by decide) (by decide) rfl rfl rfl (fun τ9 hT9 _ hs9 => ?_)
  have hm9 : τ9.2.1 = am_up τ8.2.1 4 8 (τ8.2.1 87 8) := by rw [hs9]
  refine kr_aload_n 0 rd_d_X9_copyFrom_93 rfl ?_
  refine kr_aload_n 1 rd_d_X9_copyFrom_94 rfl ?_
  refine kr_getf G.1 (rd_FL rd_k_X9_copyFrom_95).1 rd_d_X9_copyFrom_95 (hT9.1 87 (.inl 9) rfl) (v := .int (τ9.2.1 87 9)) (by unfold am_fa; rw [(rd_FL rd_k_X9_copyFrom_95).2]; rfl) ?_
  refine ax_putF G (lo := 0) (hi := 1000) hT9 (σ := τ9) (ax_F0 0 1000 τ9) rd_d_X9_copyFrom_98 rd_k_X9_copyFrom_98 (hT9.1 4 (.inl 9) rfl) (by decide) (by decide) rfl rfl rfl (fun τ10 hT10 _ hs10 => ?_)
  have hm10 : τ10.2.1 = am_up τ9.2.1 4 9 (τ9.2.1 87 9) := by rw [hs10]
  refine kr_aload_n 0 rd_d_X9_copyFrom_101 rfl ?_
  refine kr_aload_n 1 rd_d_X9_copyFrom_102 rfl ?_
  refine kr_getf G.1 (rd_FL rd_k_X9_copyFrom_103).1 rd_d_X9_copyFrom_103 (hT10.1 87 (.inl 9) rfl) (v := .int (τ10.2.1 87 10)) (by unfold am_fa; rw [(rd_FL rd_k_X9_copyFrom_103).2]; rfl) ?_
  refine ax_putF G (lo := 0) (hi := 1000) hT10 (σ := τ10) (ax_F0 0 1000 τ10) rd_d_X9_copyFrom_106 rd_k_X9_copyFrom_106 (hT10.1 4 (.inl 9) rfl) (by decide) (by decide) rfl rfl rfl (fun τ11 hT11 _ hs11 => ?_)
  have hm11 : τ11.2.1 = am_up τ10.2.1 4 10 (τ10.2.1 87 10) := by rw [hs11]
  have hF : ax_F 4 11 σ τ11 := by
    intro o k q
    rw [hm11, am_up_o _ _ (fun e => q ⟨by omega, by omega⟩)]
    rw [hm10, am_up_o _ _ (fun e => q ⟨by omega, by omega⟩)]
    rw [hm9, am_up_o _ _ (fun e => q ⟨by omega, by omega⟩)]
    rw [hm8, am_up_o _ _ (fun e => q ⟨by omega, by omega⟩)]
    rw [hm7, ax_cp_o (fun e => q ⟨by omega, by omega⟩)]
    rw [hm6, ax_cp_o (fun e => q ⟨by omega, by omega⟩)]
    rw [hm5, ax_cp_o (fun e => q ⟨by omega, by omega⟩)]
    rw [hm4, ax_cp_o (fun e => q ⟨by omega, by omega⟩)]
    rw [hm3, ax_cp_o (fun e => q ⟨by omega, by omega⟩)]
    rw [hm2, ax_cp_o (fun e => q ⟨by omega, by omega⟩)]
    rw [hm1, ax_cp_o (fun e => q ⟨by omega, by omega⟩)]
  have R1 : ∀ k, k < 10 → τ11.2.1 5 k = σ.2.1 88 k := by
    intro k hk
    rw [hm11, am_up_o _ _ (by decide)]
    rw [hm10, am_up_o _ _ (by decide)]
    rw [hm9, am_up_o _ _ (by decide)]
    rw [hm8, am_up_o _ _ (by decide)]
    rw [hm7, ax_cp_o (by decide)]
    rw [hm6, ax_cp_o (by decide)]
    rw [hm5, ax_cp_o (by decide)]
    rw [hm4, ax_cp_o (by decide)]
    rw [hm3, ax_cp_o (by decide)]
    rw [hm2, ax_cp_o (by decide)]
    rw [hm1, ax_cp_d hk]
  have R2 : ∀ k, k < 10 → τ11.2.1 6 k = σ.2.1 89 k := by
    intro k hk
    rw [hm11, am_up_o _ _ (by decide)]
    rw [hm10, am_up_o _ _ (by decide)]
    rw [hm9, am_up_o _ _ (by decide)]
    rw [hm8, am_up_o _ _ (by decide)]
    rw [hm7, ax_cp_o (by decide)]
    rw [hm6, ax_cp_o (by decide)]
    rw [hm5, ax_cp_o (by decide)]
    rw [hm4, ax_cp_o (by decide)]
    rw [hm3, ax_cp_o (by decide)]
    rw [hm2, ax_cp_d hk]
    rw [hm1, ax_cp_o (by decide)]
  have R3 : ∀ k, k < 10 → τ11.2.1 7 k = σ.2.1 90 k := by
    intro k hk
    rw [hm11, am_up_o _ _ (by decide)]
    rw [hm10, am_up_o _ _ (by decide)]
    rw [hm9, am_up_o _ _ (by decide)]
    rw [hm8, am_up_o _ _ (by decide)]
    rw [hm7, ax_cp_o (by decide)]
    rw [hm6, ax_cp_o (by decide)]
    rw [hm5, ax_cp_o (by decide)]
    rw [hm4, ax_cp_o (by decide)]
    rw [hm3, ax_cp_d hk]
    rw [hm2, ax_cp_o (by decide)]
    rw [hm1, ax_cp_o (by decide)]
  have R4 : ∀ k, k < 10 → τ11.2.1 8 k = σ.2.1 91 k := by
    intro k hk
    rw [hm11, am_up_o _ _ (by decide)]
    rw [hm10, am_up_o _ _ (by decide)]
    rw [hm9, am_up_o _ _ (by decide)]
    rw [hm8, am_up_o _ _ (by decide)]
    rw [hm7, ax_cp_o (by decide)]
    rw [hm6, ax_cp_o (by decide)]
    rw [hm5, ax_cp_o (by decide)]
    rw [hm4, ax_cp_d hk]
    rw [hm3, ax_cp_o (by decide)]
    rw [hm2, ax_cp_o (by decide)]
    rw [hm1, ax_cp_o (by decide)]
  have R5 : ∀ k, k < 6 → τ11.2.1 9 k = σ.2.1 92 k := by
    intro k hk
    rw [hm11, am_up_o _ _ (by decide)]
    rw [hm10, am_up_o _ _ (by decide)]
    rw [hm9, am_up_o _ _ (by decide)]
    rw [hm8, am_up_o _ _ (by decide)]
    rw [hm7, ax_cp_o (by decide)]
    rw [hm6, ax_cp_o (by decide)]
    rw [hm5, ax_cp_d hk]
    rw [hm4, ax_cp_o (by decide)]
    rw [hm3, ax_cp_o (by decide)]
    rw [hm2, ax_cp_o (by decide)]
    rw [hm1, ax_cp_o (by decide)]
  have R6 : ∀ k, k < 6 → τ11.2.1 10 k = σ.2.1 93 k := by
    intro k hk
    rw [hm11, am_up_o _ _ (by decide)]
    rw [hm10, am_up_o _ _ (by decide)]
    rw [hm9, am_up_o _ _ (by decide)]
    rw [hm8, am_up_o _ _ (by decide)]
    rw [hm7, ax_cp_o (by decide)]
    rw [hm6, ax_cp_d hk]
    rw [hm5, ax_cp_o (by decide)]
    rw [hm4, ax_cp_o (by decide)]
    rw [hm3, ax_cp_o (by decide)]
    rw [hm2, ax_cp_o (by decide)]
    rw [hm1, ax_cp_o (by decide)]
  have R7 : ∀ k, k < 8 → τ11.2.1 11 k = σ.2.1 94 k := by
    intro k hk
    rw [hm11, am_up_o _ _ (by decide)]
    rw [hm10, am_up_o _ _ (by decide)]
    rw [hm9, am_up_o _ _ (by decide)]
    rw [hm8, am_up_o _ _ (by decide)]
    rw [hm7, ax_cp_d hk]
    rw [hm6, ax_cp_o (by decide)]
    rw [hm5, ax_cp_o (by decide)]
    rw [hm4, ax_cp_o (by decide)]
    rw [hm3, ax_cp_o (by decide)]
    rw [hm2, ax_cp_o (by decide)]
    rw [hm1, ax_cp_o (by decide)]
  have E7 : τ11.2.1 4 7 = σ.2.1 87 7 := by
    rw [hm11, am_up_n _ _ (by decide)]
    rw [hm10, am_up_n _ _ (by decide)]
    rw [hm9, am_up_n _ _ (by decide)]
    rw [hm8, am_up_s]
    rw [hm7, ax_cp_o (by decide)]
    rw [hm6, ax_cp_o (by decide)]
    rw [hm5, ax_cp_o (by decide)]
    rw [hm4, ax_cp_o (by decide)]
    rw [hm3, ax_cp_o (by decide)]
    rw [hm2, ax_cp_o (by decide)]
    rw [hm1, ax_cp_o (by decide)]
  have E8 : τ11.2.1 4 8 = σ.2.1 87 8 := by
    rw [hm11, am_up_n _ _ (by decide)]
    rw [hm10, am_up_n _ _ (by decide)]
    rw [hm9, am_up_s]
    rw [hm8, am_up_o _ _ (by decide)]
    rw [hm7, ax_cp_o (by decide)]
    rw [hm6, ax_cp_o (by decide)]
    rw [hm5, ax_cp_o (by decide)]
    rw [hm4, ax_cp_o (by decide)]
    rw [hm3, ax_cp_o (by decide)]
    rw [hm2, ax_cp_o (by decide)]
    rw [hm1, ax_cp_o (by decide)]
  have E9 : τ11.2.1 4 9 = σ.2.1 87 9 := by
    rw [hm11, am_up_n _ _ (by decide)]
    rw [hm10, am_up_s]
    rw [hm9, am_up_o _ _ (by decide)]
    rw [hm8, am_up_o _ _ (by decide)]
    rw [hm7, ax_cp_o (by decide)]
    rw [hm6, ax_cp_o (by decide)]
    rw [hm5, ax_cp_o (by decide)]
    rw [hm4, ax_cp_o (by decide)]
    rw [hm3, ax_cp_o (by decide)]
    rw [hm2, ax_cp_o (by decide)]
    rw [hm1, ax_cp_o (by decide)]
  have E10 : τ11.2.1 4 10 = σ.2.1 87 10 := by
    rw [hm11, am_up_s]
    rw [hm10, am_up_o _ _ (by decide)]
    rw [hm9, am_up_o _ _ (by decide)]
    rw [hm8, am_up_o _ _ (by decide)]
    rw [hm7, ax_cp_o (by decide)]
    rw [hm6, ax_cp_o (by decide)]
    rw [hm5, ax_cp_o (by decide)]
    rw [hm4, ax_cp_o (by decide)]
    rw [hm3, ax_cp_o (by decide)]
    rw [hm2, ax_cp_o (by decide)]
    rw [hm1, ax_cp_o (by decide)]
  refine kr_return rd_d_X9_copyFrom_109 rfl ⟨rfl, hT11, hF, fun j h1 h2 => ?_, fun r hr k hk => ?_⟩
  · have h4 : j = 7 ∨ j = 8 ∨ j = 9 ∨ j = 10 := by omega
    rcases h4 with rfl | rfl | rfl | rfl
    · exact E7
    · exact E8
    · exact E9
    · exact E10
  · have h7 : r = 0 ∨ r = 1 ∨ r = 2 ∨ r = 3 ∨ r = 4 ∨ r = 5 ∨ r = 6 := by omega
    rcases h7 with rfl | rfl | rfl | rfl | rfl | rfl | rfl
    · exact R1 k hk
    · exact R2 k hk
    · exact R3 k hk
    · exact R4 k hk
    · exact R5 k hk
    · exact R6 k hk
    · exact R7 k hk
theorem ax_X9_copyFrom_4_103 (G : sx_G0 g L xs z9 hd_C ex_mt) {σ : am_S} (hS : ax_S σ) : am_K g 3 tX9_copyFrom.1 0 0 0 (lv_args 0 [.ref 4, .ref 103]) [] σ (fun r σ' => r = some none ∧ ax_S σ' ∧ ax_F 4 11 σ σ' ∧ ax_Q 4 103 σ σ') := by
  refine kr_aload_n 1 rd_d_X9_copyFrom_0 rfl ?_
  refine kr_getf G.1 (rd_FL rd_k_X9_copyFrom_1).1 rd_d_X9_copyFrom_1 (hS.1 103 (.inl 9) rfl) (v := .ref 104) (by unfold am_fa; rw [(rd_FL rd_k_X9_copyFrom_1).2]; exact hS.2 103 0 104 rfl) ?_
  refine kr_aload_n 0 rd_d_X9_copyFrom_4 rfl ?_
  refine kr_getf G.1 (rd_FL rd_k_X9_copyFrom_5).1 rd_d_X9_copyFrom_5 (hS.1 4 (.inl 9) rfl) (v := .ref 5) (by unfold am_fa; rw [(rd_FL rd_k_X9_copyFrom_5).2]; exact hS.2 4 0 5 rfl) ?_
  refine rd_callS G (T2 := tX11_copyRow) rfl rd_d_X9_copyFrom_8 rd_k_X9_copyFrom_8 rfl rfl (as := [.ref 104, .ref 5]) (st := []) rfl (Nat.le_of_ble_eq_true rfl) rfl (by decide) (d1 := 2) (by decide) (fun _ h => by cases h.1) (ax_copyRow G (n := 10) (by decide) (by decide) (hS.1 104 (.inr (.int, 10)) rfl) (hS.1 5 (.inr (.int, 10)) rfl)) ?_
  intro v1 τ1 ⟨hv1, hs1⟩
  cases hv1
  have hT1 : ax_S τ1 := by rw [hs1]; exact hS
  have hm1 : τ1.2.1 = ax_cp σ.2.1 5 104 10 := by rw [hs1]
  refine kr_aload_n 1 rd_d_X9_copyFrom_11 rfl ?_
  refine kr_getf G.1 (rd_FL rd_k_X9_copyFrom_12).1 rd_d_X9_copyFrom_12 (hT1.1 103 (.inl 9) rfl) (v := .ref 105) (by unfold am_fa; rw [(rd_FL rd_k_X9_copyFrom_12).2]; exact hT1.2 103 1 105 rfl) ?_
  refine kr_aload_n 0 rd_d_X9_copyFrom_15 rfl ?_
  refine kr_getf G.1 (rd_FL rd_k_X9_copyFrom_16).1 rd_d_X9_copyFrom_16 (hT1.1 4 (.inl 9) rfl) (v := .ref 6) (by unfold am_fa; rw [(rd_FL rd_k_X9_copyFrom_16).2]; exact hT1.2 4 1 6 rfl) ?_
  refine rd_callS G (T2 := tX11_copyRow) rfl rd_d_X9_copyFrom_19 rd_k_X9_copyFrom_19 rfl rfl (as := [.ref 105, .ref 6]) (st := []) rfl (Nat.le_of_ble_eq_true rfl) rfl (by decide) (d1 := 2) (by decide) (fun _ h => by cases h.1) (ax_copyRow G (n := 10) (by decide) (by decide) (hT1.1 105 (.inr (.int, 10)) rfl) (hT1.1 6 (.inr (.int, 10)) rfl)) ?_
  intro v2 τ2 ⟨hv2, hs2⟩
  cases hv2
  have hT2 : ax_S τ2 := by rw [hs2]; exact hT1
  have hm2 : τ2.2.1 = ax_cp τ1.2.1 6 105 10 := by rw [hs2]
  refine kr_aload_n 1 rd_d_X9_copyFrom_22 rfl ?_
  refine kr_getf G.1 (rd_FL rd_k_X9_copyFrom_23).1 rd_d_X9_copyFrom_23 (hT2.1 103 (.inl 9) rfl) (v := .ref 106) (by unfold am_fa; rw [(rd_FL rd_k_X9_copyFrom_23).2]; exact hT2.2 103 2 106 rfl) ?_
  refine kr_aload_n 0 rd_d_X9_copyFrom_26 rfl ?_
  refine kr_getf G.1 (rd_FL rd_k_X9_copyFrom_27).1 rd_d_X9_copyFrom_27 (hT2.1 4 (.inl 9) rfl) (v := .ref 7) (by unfold am_fa; rw [(rd_FL rd_k_X9_copyFrom_27).2]; exact hT2.2 4 2 7 rfl) ?_
  refine rd_callS G (T2 := tX11_copyRow) rfl rd_d_X9_copyFrom_30 rd_k_X9_copyFrom_30 rfl rfl (as := [.ref 106, .ref 7]) (st := []) rfl (Nat.le_of_ble_eq_true rfl) rfl (by decide) (d1 := 2) (by decide) (fun _ h => by cases h.1) (ax_copyRow G (n := 10) (by decide) (by decide) (hT2.1 106 (.inr (.int, 10)) rfl) (hT2.1 7 (.inr (.int, 10)) rfl)) ?_
  intro v3 τ3 ⟨hv3, hs3⟩
  cases hv3
  have hT3 : ax_S τ3 := by rw [hs3]; exact hT2
  have hm3 : τ3.2.1 = ax_cp τ2.2.1 7 106 10 := by rw [hs3]
  refine kr_aload_n 1 rd_d_X9_copyFrom_33 rfl ?_
  refine kr_getf G.1 (rd_FL rd_k_X9_copyFrom_34).1 rd_d_X9_copyFrom_34 (hT3.1 103 (.inl 9) rfl) (v := .ref 107) (by unfold am_fa; rw [(rd_FL rd_k_X9_copyFrom_34).2]; exact hT3.2 103 3 107 rfl) ?_
  refine kr_aload_n 0 rd_d_X9_copyFrom_37 rfl ?_
  refine kr_getf G.1 (rd_FL rd_k_X9_copyFrom_38).1 rd_d_X9_copyFrom_38 (hT3.1 4 (.inl 9) rfl) (v := .ref 8) (by unfold am_fa; rw [(rd_FL rd_k_X9_copyFrom_38).2]; exact hT3.2 4 3 8 rfl) ?_
  refine rd_callS G (T2 := tX11_copyRow) rfl rd_d_X9_copyFrom_41 rd_k_X9_copyFrom_41 rfl rfl (as := [.ref 107, .ref 8]) (st := []) rfl (Nat.le_of_ble_eq_true rfl) rfl (by decide) (d1 := 2) (by decide) (fun _ h => by cases h.1) (ax_copyRow G (n := 10) (by decide) (by decide) (hT3.1 107 (.inr (.int, 10)) rfl) (hT3.1 8 (.inr (.int, 10)) rfl)) ?_
  intro v4 τ4 ⟨hv4, hs4⟩
  cases hv4
  have hT4 : ax_S τ4 := by rw [hs4]; exact hT3
  have hm4 : τ4.2.1 = ax_cp τ3.2.1 8 107 10 := by rw [hs4]
  refine kr_aload_n 1 rd_d_X9_copyFrom_44 rfl ?_
  refine kr_getf G.1 (rd_FL rd_k_X9_copyFrom_45).1 rd_d_X9_copyFrom_45 (hT4.1 103 (.inl 9) rfl) (v := .ref 108) (by unfold am_fa; rw [(rd_FL rd_k_X9_copyFrom_45).2]; exact hT4.2 103 4 108 rfl) ?_
  refine kr_aload_n 0 rd_d_X9_copyFrom_48 rfl ?_
  refine kr_getf G.1 (rd_FL rd_k_X9_copyFrom_49).1 rd_d_X9_copyFrom_49 (hT4.1 4 (.inl 9) rfl) (v := .ref 9) (by unfold am_fa; rw [(rd_FL rd_k_X9_copyFrom_49).2]; exact hT4.2 4 4 9 rfl) ?_
  refine rd_callS G (T2 := tX11_copyRow) rfl rd_d_X9_copyFrom_52 rd_k_X9_copyFrom_52 rfl rfl (as := [.ref 108, .ref 9]) (st := []) rfl (Nat.le_of_ble_eq_true rfl) rfl (by decide) (d1 := 2) (by decide) (fun _ h => by cases h.1) (ax_copyRow G (n := 6) (by decide) (by decide) (hT4.1 108 (.inr (.int, 6)) rfl) (hT4.1 9 (.inr (.int, 6)) rfl)) ?_
  intro v5 τ5 ⟨hv5, hs5⟩
  cases hv5
  have hT5 : ax_S τ5 := by rw [hs5]; exact hT4
  have hm5 : τ5.2.1 = ax_cp τ4.2.1 9 108 6 := by rw [hs5]
  refine kr_aload_n 1 rd_d_X9_copyFrom_55 rfl ?_
  refine kr_getf G.1 (rd_FL rd_k_X9_copyFrom_56).1 rd_d_X9_copyFrom_56 (hT5.1 103 (.inl 9) rfl) (v := .ref 109) (by unfold am_fa; rw [(rd_FL rd_k_X9_copyFrom_56).2]; exact hT5.2 103 5 109 rfl) ?_
  refine kr_aload_n 0 rd_d_X9_copyFrom_59 rfl ?_
  refine kr_getf G.1 (rd_FL rd_k_X9_copyFrom_60).1 rd_d_X9_copyFrom_60 (hT5.1 4 (.inl 9) rfl) (v := .ref 10) (by unfold am_fa; rw [(rd_FL rd_k_X9_copyFrom_60).2]; exact hT5.2 4 5 10 rfl) ?_
  refine rd_callS G (T2 := tX11_copyRow) rfl rd_d_X9_copyFrom_63 rd_k_X9_copyFrom_63 rfl rfl (as := [.ref 109, .ref 10]) (st := []) rfl (Nat.le_of_ble_eq_true rfl) rfl (by decide) (d1 := 2) (by decide) (fun _ h => by cases h.1) (ax_copyRow G (n := 6) (by decide) (by decide) (hT5.1 109 (.inr (.int, 6)) rfl) (hT5.1 10 (.inr (.int, 6)) rfl)) ?_
  intro v6 τ6 ⟨hv6, hs6⟩
  cases hv6
  have hT6 : ax_S τ6 := by rw [hs6]; exact hT5
  have hm6 : τ6.2.1 = ax_cp τ5.2.1 10 109 6 := by rw [hs6]
  refine kr_aload_n 1 rd_d_X9_copyFrom_66 rfl ?_
  refine kr_getf G.1 (rd_FL rd_k_X9_copyFrom_67).1 rd_d_X9_copyFrom_67 (hT6.1 103 (.inl 9) rfl) (v := .ref 110) (by unfold am_fa; rw [(rd_FL rd_k_X9_copyFrom_67).2]; exact hT6.2 103 6 110 rfl) ?_
  refine kr_aload_n 0 rd_d_X9_copyFrom_70 rfl ?_
  refine kr_getf G.1 (rd_FL rd_k_X9_copyFrom_71).1 rd_d_X9_copyFrom_71 (hT6.1 4 (.inl 9) rfl) (v := .ref 11) (by unfold am_fa; rw [(rd_FL rd_k_X9_copyFrom_71).2]; exact hT6.2 4 6 11 rfl) ?_
  refine rd_callS G (T2 := tX11_copyRow) rfl rd_d_X9_copyFrom_74 rd_k_X9_copyFrom_74 rfl rfl (as := [.ref 110, .ref 11]) (st := []) rfl (Nat.le_of_ble_eq_true rfl) rfl (by decide) (d1 := 2) (by decide) (fun _ h => by cases h.1) (ax_copyRow G (n := 8) (by decide) (by decide) (hT6.1 110 (.inr (.int, 8)) rfl) (hT6.1 11 (.inr (.int, 8)) rfl)) ?_
  intro v7 τ7 ⟨hv7, hs7⟩
  cases hv7
  have hT7 : ax_S τ7 := by rw [hs7]; exact hT6
  have hm7 : τ7.2.1 = ax_cp τ6.2.1 11 110 8 := by rw [hs7]
  refine kr_aload_n 0 rd_d_X9_copyFrom_77 rfl ?_
  refine kr_aload_n 1 rd_d_X9_copyFrom_78 rfl ?_
  refine kr_getf G.1 (rd_FL rd_k_X9_copyFrom_79).1 rd_d_X9_copyFrom_79 (hT7.1 103 (.inl 9) rfl) (v := .int (τ7.2.1 103 7)) (by unfold am_fa; rw [(rd_FL rd_k_X9_copyFrom_79).2]; rfl) ?_
  refine ax_putF G (lo := 0) (hi := 1000) hT7 (σ := τ7) (ax_F0 0 1000 τ7) rd_d_X9_copyFrom_82 rd_k_X9_copyFrom_82 (hT7.1 4 (.inl 9) rfl) (by decide) (by decide) rfl rfl rfl (fun τ8 hT8 _ hs8 => ?_)
  have hm8 : τ8.2.1 = am_up τ7.2.1 4 7 (τ7.2.1 103 7) := by rw [hs8]
  refine kr_aload_n 0 rd_d_X9_copyFrom_85 rfl ?_
  refine kr_aload_n 1 rd_d_X9_copyFrom_86 rfl ?_
  refine kr_getf G.1 (rd_FL rd_k_X9_copyFrom_87).1 rd_d_X9_copyFrom_87 (hT8.1 103 (.inl 9) rfl) (v := .int (τ8.2.1 103 8)) (by unfold am_fa; rw [(rd_FL rd_k_X9_copyFrom_87).2]; rfl) ?_
  refine ax_putF G (lo := 0) (hi := 1000) hT8 (σ := τ8) (ax_F0 0 1000 τ8) rd_d_X9_copyFrom_90 rd_k_X9_copyFrom_90 (hT8.1 4 (.inl 9) rfl) (by decide) (by decide) rfl rfl rfl (fun τ9 hT9 _ hs9 => ?_)
  have hm9 : τ9.2.1 = am_up τ8.2.1 4 8 (τ8.2.1 103 8) := by rw [hs9]
  refine kr_aload_n 0 rd_d_X9_copyFrom_93 rfl ?_
  refine kr_aload_n 1 rd_d_X9_copyFrom_94 rfl ?_
  refine kr_getf G.1 (rd_FL rd_k_X9_copyFrom_95).1 rd_d_X9_copyFrom_95 (hT9.1 103 (.inl 9) rfl) (v := .int (τ9.2.1 103 9)) (by unfold am_fa; rw [(rd_FL rd_k_X9_copyFrom_95).2]; rfl) ?_
  refine ax_putF G (lo := 0) (hi := 1000) hT9 (σ := τ9) (ax_F0 0 1000 τ9) rd_d_X9_copyFrom_98 rd_k_X9_copyFrom_98 (hT9.1 4 (.inl 9) rfl) (by decide) (by decide) rfl rfl rfl (fun τ10 hT10 _ hs10 => ?_)
  have hm10 : τ10.2.1 = am_up τ9.2.1 4 9 (τ9.2.1 103 9) := by rw [hs10]
  refine kr_aload_n 0 rd_d_X9_copyFrom_101 rfl ?_
  refine kr_aload_n 1 rd_d_X9_copyFrom_102 rfl ?_
  refine kr_getf G.1 (rd_FL rd_k_X9_copyFrom_103).1 rd_d_X9_copyFrom_103 (hT10.1 103 (.inl 9) rfl) (v := .int (τ10.2.1 103 10)) (by unfold am_fa; rw [(rd_FL rd_k_X9_copyFrom_103).2]; rfl) ?_
  refine ax_putF G (lo := 0) (hi := 1000) hT10 (σ := τ10) (ax_F0 0 1000 τ10) rd_d_X9_copyFrom_106 rd_k_X9_copyFrom_106 (hT10.1 4 (.inl 9) rfl) (by decide) (by decide) rfl rfl rfl (fun τ11 hT11 _ hs11 => ?_)
  have hm11 : τ11.2.1 = am_up τ10.2.1 4 10 (τ10.2.1 103 10) := by rw [hs11]
  have hF : ax_F 4 11 σ τ11 := by
    intro o k q
    rw [hm11, am_up_o _ _ (fun e => q ⟨by omega, by omega⟩)]
    rw [hm10, am_up_o _ _ (fun e => q ⟨by omega, by omega⟩)]
    rw [hm9, am_up_o _ _ (fun e => q ⟨by omega, by omega⟩)]
    rw [hm8, am_up_o _ _ (fun e => q ⟨by omega, by omega⟩)]
    rw [hm7, ax_cp_o (fun e => q ⟨by omega, by omega⟩)]
    rw [hm6, ax_cp_o (fun e => q ⟨by omega, by omega⟩)]
    rw [hm5, ax_cp_o (fun e => q ⟨by omega, by omega⟩)]
    rw [hm4, ax_cp_o (fun e => q ⟨by omega, by omega⟩)]
    rw [hm3, ax_cp_o (fun e => q ⟨by omega, by omega⟩)]
    rw [hm2, ax_cp_o (fun e => q ⟨by omega, by omega⟩)]
    rw [hm1, ax_cp_o (fun e => q ⟨by omega, by omega⟩)]
  have R1 : ∀ k, k < 10 → τ11.2.1 5 k = σ.2.1 104 k := by
    intro k hk
    rw [hm11, am_up_o _ _ (by decide)]
    rw [hm10, am_up_o _ _ (by decide)]
    rw [hm9, am_up_o _ _ (by decide)]
    rw [hm8, am_up_o _ _ (by decide)]
    rw [hm7, ax_cp_o (by decide)]
    rw [hm6, ax_cp_o (by decide)]
    rw [hm5, ax_cp_o (by decide)]
    rw [hm4, ax_cp_o (by decide)]
    rw [hm3, ax_cp_o (by decide)]
    rw [hm2, ax_cp_o (by decide)]
    rw [hm1, ax_cp_d hk]
  have R2 : ∀ k, k < 10 → τ11.2.1 6 k = σ.2.1 105 k := by
    intro k hk
    rw [hm11, am_up_o _ _ (by decide)]
    rw [hm10, am_up_o _ _ (by decide)]
    rw [hm9, am_up_o _ _ (by decide)]
    rw [hm8, am_up_o _ _ (by decide)]
    rw [hm7, ax_cp_o (by decide)]
    rw [hm6, ax_cp_o (by decide)]
    rw [hm5, ax_cp_o (by decide)]
    rw [hm4, ax_cp_o (by decide)]
    rw [hm3, ax_cp_o (by decide)]
    rw [hm2, ax_cp_d hk]
    rw [hm1, ax_cp_o (by decide)]
  have R3 : ∀ k, k < 10 → τ11.2.1 7 k = σ.2.1 106 k := by
    intro k hk
    rw [hm11, am_up_o _ _ (by decide)]
    rw [hm10, am_up_o _ _ (by decide)]
    rw [hm9, am_up_o _ _ (by decide)]
    rw [hm8, am_up_o _ _ (by decide)]
    rw [hm7, ax_cp_o (by decide)]
    rw [hm6, ax_cp_o (by decide)]
    rw [hm5, ax_cp_o (by decide)]
    rw [hm4, ax_cp_o (by decide)]
    rw [hm3, ax_cp_d hk]
    rw [hm2, ax_cp_o (by decide)]
    rw [hm1, ax_cp_o (by decide)]
  have R4 : ∀ k, k < 10 → τ11.2.1 8 k = σ.2.1 107 k := by
    intro k hk
    rw [hm11, am_up_o _ _ (by decide)]
    rw [hm10, am_up_o _ _ (by decide)]
    rw [hm9, am_up_o _ _ (by decide)]
    rw [hm8, am_up_o _ _ (by decide)]
    rw [hm7, ax_cp_o (by decide)]
    rw [hm6, ax_cp_o (by decide)]
    rw [hm5, ax_cp_o (by decide)]
    rw [hm4, ax_cp_d hk]
    rw [hm3, ax_cp_o (by decide)]
    rw [hm2, ax_cp_o (by decide)]
    rw [hm1, ax_cp_o (by decide)]
  have R5 : ∀ k, k < 6 → τ11.2.1 9 k = σ.2.1 108 k := by
    intro k hk
    rw [hm11, am_up_o _ _ (by decide)]
    rw [hm10, am_up_o _ _ (by decide)]
    rw [hm9, am_up_o _ _ (by decide)]
    rw [hm8, am_up_o _ _ (by decide)]
    rw [hm7, ax_cp_o (by decide)]
    rw [hm6, ax_cp_o (by decide)]
    rw [hm5, ax_cp_d hk]
    rw [hm4, ax_cp_o (by decide)]
    rw [hm3, ax_cp_o (by decide)]
    rw [hm2, ax_cp_o (by decide)]
    rw [hm1, ax_cp_o (by decide)]
  have R6 : ∀ k, k < 6 → τ11.2.1 10 k = σ.2.1 109 k := by
    intro k hk
    rw [hm11, am_up_o _ _ (by decide)]
    rw [hm10, am_up_o _ _ (by decide)]
    rw [hm9, am_up_o _ _ (by decide)]
    rw [hm8, am_up_o _ _ (by decide)]
    rw [hm7, ax_cp_o (by decide)]
    rw [hm6, ax_cp_d hk]
    rw [hm5, ax_cp_o (by decide)]
    rw [hm4, ax_cp_o (by decide)]
    rw [hm3, ax_cp_o (by decide)]
    rw [hm2, ax_cp_o (by decide)]
    rw [hm1, ax_cp_o (by decide)]
  have R7 : ∀ k, k < 8 → τ11.2.1 11 k = σ.2.1 110 k := by
    intro k hk
    rw [hm11, am_up_o _ _ (by decide)]
    rw [hm10, am_up_o _ _ (by decide)]
    rw [hm9, am_up_o _ _ (by decide)]
    rw [hm8, am_up_o _ _ (by decide)]
    rw [hm7, ax_cp_d hk]
    rw [hm6, ax_cp_o (by decide)]
    rw [hm5, ax_cp_o (by decide)]
    rw [hm4, ax_cp_o (by decide)]
    rw [hm3, ax_cp_o (by decide)]
    rw [hm2, ax_cp_o (by decide)]
    rw [hm1, ax_cp_o (by decide)]
  have E7 : τ11.2.1 4 7 = σ.2.1 103 7 := by
    rw [hm11, am_up_n _ _ (by decide)]
    rw [hm10, am_up_n _ _ (by decide)]
    rw [hm9, am_up_n _ _ (by decide)]
    rw [hm8, am_up_s]
    rw [hm7, ax_cp_o (by decide)]
    rw [hm6, ax_cp_o (by decide)]
    rw [hm5, ax_cp_o (by decide)]
    rw [hm4, ax_cp_o (by decide)]
    rw [hm3, ax_cp_o (by decide)]
    rw [hm2, ax_cp_o (by decide)]
    rw [hm1, ax_cp_o (by decide)]
  have E8 : τ11.2.1 4 8 = σ.2.1 103 8 := by
    rw [hm11, am_up_n _ _ (by decide)]
    rw [hm10, am_up_n _ _ (by decide)]
    rw [hm9, am_up_s]
    rw [hm8, am_up_o _ _ (by decide)]
    rw [hm7, ax_cp_o (by decide)]
    rw [hm6, ax_cp_o (by decide)]
    rw [hm5, ax_cp_o (by decide)]
    rw [hm4, ax_cp_o (by decide)]
    rw [hm3, ax_cp_o (by decide)]
    rw [hm2, ax_cp_o (by decide)]
    rw [hm1, ax_cp_o (by decide)]
  have E9 : τ11.2.1 4 9 = σ.2.1 103 9 := by
    rw [hm11, am_up_n _ _ (by decide)]
    rw [hm10, am_up_s]
    rw [hm9, am_up_o _ _ (by decide)]
    rw [hm8, am_up_o _ _ (by decide)]
    rw [hm7, ax_cp_o (by decide)]
    rw [hm6, ax_cp_o (by decide)]
    rw [hm5, ax_cp_o (by decide)]
    rw [hm4, ax_cp_o (by decide)]
    rw [hm3, ax_cp_o (by decide)]
    rw [hm2, ax_cp_o (by decide)]
    rw [hm1, ax_cp_o (by decide)]
  have E10 : τ11.2.1 4 10 = σ.2.1 103 10 := by
    rw [hm11, am_up_s]
    rw [hm10, am_up_o _ _ (by decide)]
    rw [hm9, am_up_o _ _ (by decide)]
    rw [hm8, am_up_o _ _ (by decide)]
    rw [hm7, ax_cp_o (by decide)]
    rw [hm6, ax_cp_o (by decide)]
    rw [hm5, ax_cp_o (by decide)]
    rw [hm4, ax_cp_o (by decide)]
    rw [hm3, ax_cp_o (by decide)]
    rw [hm2, ax_cp_o (by decide)]
    rw [hm1, ax_cp_o (by decide)]
  refine kr_return rd_d_X9_copyFrom_109 rfl ⟨rfl, hT11, hF, fun j h1 h2 => ?_, fun r hr k hk => ?_⟩
  · have h4 : j = 7 ∨ j = 8 ∨ j = 9 ∨ j = 10 := by omega
    rcases h4 with rfl | rfl | rfl | rfl
    · exact E7
    · exact E8
    · exact E9
    · exact E10
  · have h7 : r = 0 ∨ r = 1 ∨ r = 2 ∨ r = 3 ∨ r = 4 ∨ r = 5 ∨ r = 6 := by omega
    rcases h7 with rfl | rfl | rfl | rfl | rfl | rfl | rfl
    · exact R1 k hk
    · exact R2 k hk
    · exact R3 k hk
    · exact R4 k hk
    · exact R5 k hk
    · exact R6 k hk
    · exact R7 k hk
theorem ax_X7_copyFrom_95_20 (G : sx_G0 g L xs z9 hd_C ex_mt) {σ : am_S} (hS : ax_S σ) : am_K g 3 tX7_copyFrom.1 0 0 0 (lv_args 0 [.ref 95, .ref 20]) [] σ (fun r σ' => r = some none ∧ ax_S σ' ∧ ax_F 95 98 σ σ') := by
  refine kr_aload_n 1 rd_d_X7_copyFrom_0 rfl ?_
  refine kr_getf G.1 (rd_FL rd_k_X7_copyFrom_1).1 rd_d_X7_copyFrom_1 (hS.1 20 (.inl 7) rfl) (v := .ref 21) (by unfold am_fa; rw [(rd_FL rd_k_X7_copyFrom_1).2]; exact hS.2 20 0 21 rfl) ?_
  refine kr_aload_n 0 rd_d_X7_copyFrom_4 rfl ?_
  refine kr_getf G.1 (rd_FL rd_k_X7_copyFrom_5).1 rd_d_X7_copyFrom_5 (hS.1 95 (.inl 7) rfl) (v := .ref 96) (by unfold am_fa; rw [(rd_FL rd_k_X7_copyFrom_5).2]; exact hS.2 95 0 96 rfl) ?_
  refine rd_callS G (T2 := tX11_copyRow) rfl rd_d_X7_copyFrom_8 rd_k_X7_copyFrom_8 rfl rfl (as := [.ref 21, .ref 96]) (st := []) rfl (Nat.le_of_ble_eq_true rfl) rfl (by decide) (d1 := 2) (by decide) (fun _ h => by cases h.1) (ax_copyRow G (n := 6) (by decide) (by decide) (hS.1 21 (.inr (.int, 6)) rfl) (hS.1 96 (.inr (.int, 6)) rfl)) ?_
  intro v1 τ1 ⟨hv1, hs1⟩
  cases hv1
  have hT1 : ax_S τ1 := by rw [hs1]; exact hS
  have hm1 : τ1.2.1 = ax_cp σ.2.1 96 21 6 := by rw [hs1]
  refine kr_aload_n 1 rd_d_X7_copyFrom_11 rfl ?_
  refine kr_getf G.1 (rd_FL rd_k_X7_copyFrom_12).1 rd_d_X7_copyFrom_12 (hT1.1 20 (.inl 7) rfl) (v := .ref 22) (by unfold am_fa; rw [(rd_FL rd_k_X7_copyFrom_12).2]; exact hT1.2 20 1 22 rfl) ?_
  refine kr_aload_n 0 rd_d_X7_copyFrom_15 rfl ?_
  refine kr_getf G.1 (rd_FL rd_k_X7_copyFrom_16).1 rd_d_X7_copyFrom_16 (hT1.1 95 (.inl 7) rfl) (v := .ref 97) (by unfold am_fa; rw [(rd_FL rd_k_X7_copyFrom_16).2]; exact hT1.2 95 1 97 rfl) ?_
  refine rd_callS G (T2 := tX11_copyRow) rfl rd_d_X7_copyFrom_19 rd_k_X7_copyFrom_19 rfl rfl (as := [.ref 22, .ref 97]) (st := []) rfl (Nat.le_of_ble_eq_true rfl) rfl (by decide) (d1 := 2) (by decide) (fun _ h => by cases h.1) (ax_copyRow G (n := 10) (by decide) (by decide) (hT1.1 22 (.inr (.int, 10)) rfl) (hT1.1 97 (.inr (.int, 10)) rfl)) ?_
  intro v2 τ2 ⟨hv2, hs2⟩
  cases hv2
  have hT2 : ax_S τ2 := by rw [hs2]; exact hT1
  have hm2 : τ2.2.1 = ax_cp τ1.2.1 97 22 10 := by rw [hs2]
  refine kr_aload_n 1 rd_d_X7_copyFrom_22 rfl ?_
  refine kr_getf G.1 (rd_FL rd_k_X7_copyFrom_23).1 rd_d_X7_copyFrom_23 (hT2.1 20 (.inl 7) rfl) (v := .ref 23) (by unfold am_fa; rw [(rd_FL rd_k_X7_copyFrom_23).2]; exact hT2.2 20 2 23 rfl) ?_
  refine kr_aload_n 0 rd_d_X7_copyFrom_26 rfl ?_
  refine kr_getf G.1 (rd_FL rd_k_X7_copyFrom_27).1 rd_d_X7_copyFrom_27 (hT2.1 95 (.inl 7) rfl) (v := .ref 98) (by unfold am_fa; rw [(rd_FL rd_k_X7_copyFrom_27).2]; exact hT2.2 95 2 98 rfl) ?_
  refine rd_callS G (T2 := tX11_copyRow) rfl rd_d_X7_copyFrom_30 rd_k_X7_copyFrom_30 rfl rfl (as := [.ref 23, .ref 98]) (st := []) rfl (Nat.le_of_ble_eq_true rfl) rfl (by decide) (d1 := 2) (by decide) (fun _ h => by cases h.1) (ax_copyRow G (n := 10) (by decide) (by decide) (hT2.1 23 (.inr (.int, 10)) rfl) (hT2.1 98 (.inr (.int, 10)) rfl)) ?_
  intro v3 τ3 ⟨hv3, hs3⟩
  cases hv3
  have hT3 : ax_S τ3 := by rw [hs3]; exact hT2
  have hm3 : τ3.2.1 = ax_cp τ2.2.1 98 23 10 := by rw [hs3]
  refine kr_aload_n 0 rd_d_X7_copyFrom_33 rfl ?_
  refine kr_aload_n 1 rd_d_X7_copyFrom_34 rfl ?_
  refine kr_getf G.1 (rd_FL rd_k_X7_copyFrom_35).1 rd_d_X7_copyFrom_35 (hT3.1 20 (.inl 7) rfl) (v := .int (τ3.2.1 20 3)) (by unfold am_fa; rw [(rd_FL rd_k_X7_copyFrom_35).2]; rfl) ?_
  refine ax_putF G (lo := 0) (hi := 1000) hT3 (σ := τ3) (ax_F0 0 1000 τ3) rd_d_X7_copyFrom_38 rd_k_X7_copyFrom_38 (hT3.1 95 (.inl 7) rfl) (by decide) (by decide) rfl rfl rfl (fun τ4 hT4 _ hs4 => ?_)
  have hm4 : τ4.2.1 = am_up τ3.2.1 95 3 (τ3.2.1 20 3) := by rw [hs4]
  refine kr_aload_n 0 rd_d_X7_copyFrom_41 rfl ?_
  refine kr_aload_n 1 rd_d_X7_copyFrom_42 rfl ?_
  refine kr_getf G.1 (rd_FL rd_k_X7_copyFrom_43).1 rd_d_X7_copyFrom_43 (hT4.1 20 (.inl 7) rfl) (v := .int (τ4.2.1 20 4)) (by unfold am_fa; rw [(rd_FL rd_k_X7_copyFrom_43).2]; rfl) ?_
  refine ax_putF G (lo := 0) (hi := 1000) hT4 (σ := τ4) (ax_F0 0 1000 τ4) rd_d_X7_copyFrom_46 rd_k_X7_copyFrom_46 (hT4.1 95 (.inl 7) rfl) (by decide) (by decide) rfl rfl rfl (fun τ5 hT5 _ hs5 => ?_)
  have hm5 : τ5.2.1 = am_up τ4.2.1 95 4 (τ4.2.1 20 4) := by rw [hs5]
  refine kr_aload_n 0 rd_d_X7_copyFrom_49 rfl ?_
  refine kr_aload_n 1 rd_d_X7_copyFrom_50 rfl ?_
  refine kr_getf G.1 (rd_FL rd_k_X7_copyFrom_51).1 rd_d_X7_copyFrom_51 (hT5.1 20 (.inl 7) rfl) (v := .int (τ5.2.1 20 5)) (by unfold am_fa; rw [(rd_FL rd_k_X7_copyFrom_51).2]; rfl) ?_
  refine ax_putF G (lo := 0) (hi := 1000) hT5 (σ := τ5) (ax_F0 0 1000 τ5) rd_d_X7_copyFrom_54 rd_k_X7_copyFrom_54 (hT5.1 95 (.inl 7) rfl) (by decide) (by decide) rfl rfl rfl (fun τ6 hT6 _ hs6 => ?_)
  have hm6 : τ6.2.1 = am_up τ5.2.1 95 5 (τ5.2.1 20 5) := by rw [hs6]
  refine kr_aload_n 0 rd_d_X7_copyFrom_57 rfl ?_
  refine kr_aload_n 1 rd_d_X7_copyFrom_58 rfl ?_
  refine kr_getf G.1 (rd_FL rd_k_X7_copyFrom_59).1 rd_d_X7_copyFrom_59 (hT6.1 20 (.inl 7) rfl) (v := .int (τ6.2.1 20 6)) (by unfold am_fa; rw [(rd_FL rd_k_X7_copyFrom_59).2]; rfl) ?_
  refine ax_putF G (lo := 0) (hi := 1000) hT6 (σ := τ6) (ax_F0 0 1000 τ6) rd_d_X7_copyFrom_62 rd_k_X7_copyFrom_62 (hT6.1 95 (.inl 7) rfl) (by decide) (by decide) rfl rfl rfl (fun τ7 hT7 _ hs7 => ?_)
  have hm7 : τ7.2.1 = am_up τ6.2.1 95 6 (τ6.2.1 20 6) := by rw [hs7]
  refine kr_aload_n 0 rd_d_X7_copyFrom_65 rfl ?_
  refine kr_aload_n 1 rd_d_X7_copyFrom_66 rfl ?_
  refine kr_getf G.1 (rd_FL rd_k_X7_copyFrom_67).1 rd_d_X7_copyFrom_67 (hT7.1 20 (.inl 7) rfl) (v := .int (τ7.2.1 20 7)) (by unfold am_fa; rw [(rd_FL rd_k_X7_copyFrom_67).2]; rfl) ?_
  refine ax_putF G (lo := 0) (hi := 1000) hT7 (σ := τ7) (ax_F0 0 1000 τ7) rd_d_X7_copyFrom_70 rd_k_X7_copyFrom_70 (hT7.1 95 (.inl 7) rfl) (by decide) (by decide) rfl rfl rfl (fun τ8 hT8 _ hs8 => ?_)
  have hm8 : τ8.2.1 = am_up τ7.2.1 95 7 (τ7.2.1 20 7) := by rw [hs8]
  refine kr_aload_n 0 rd_d_X7_copyFrom_73 rfl ?_
  refine kr_aload_n 1 rd_d_X7_copyFrom_74 rfl ?_
  refine kr_getf G.1 (rd_FL rd_k_X7_copyFrom_75).1 rd_d_X7_copyFrom_75 (hT8.1 20 (.inl 7) rfl) (v := .int (τ8.2.1 20 8)) (by unfold am_fa; rw [(rd_FL rd_k_X7_copyFrom_75).2]; rfl) ?_
  refine ax_putF G (lo := 0) (hi := 1000) hT8 (σ := τ8) (ax_F0 0 1000 τ8) rd_d_X7_copyFrom_78 rd_k_X7_copyFrom_78 (hT8.1 95 (.inl 7) rfl) (by decide) (by decide) rfl rfl rfl (fun τ9 hT9 _ hs9 => ?_)
  have hm9 : τ9.2.1 = am_up τ8.2.1 95 8 (τ8.2.1 20 8) := by rw [hs9]
  refine kr_aload_n 0 rd_d_X7_copyFrom_81 rfl ?_
  refine kr_aload_n 1 rd_d_X7_copyFrom_82 rfl ?_
  refine kr_getf G.1 (rd_FL rd_k_X7_copyFrom_83).1 rd_d_X7_copyFrom_83 (hT9.1 20 (.inl 7) rfl) (v := .int (τ9.2.1 20 9)) (by unfold am_fa; rw [(rd_FL rd_k_X7_copyFrom_83).2]; rfl) ?_
  refine ax_putF G (lo := 0) (hi := 1000) hT9 (σ := τ9) (ax_F0 0 1000 τ9) rd_d_X7_copyFrom_86 rd_k_X7_copyFrom_86 (hT9.1 95 (.inl 7) rfl) (by decide) (by decide) rfl rfl rfl (fun τ10 hT10 _ hs10 => ?_)
  have hm10 : τ10.2.1 = am_up τ9.2.1 95 9 (τ9.2.1 20 9) := by rw [hs10]
  refine kr_aload_n 0 rd_d_X7_copyFrom_89 rfl ?_
  refine kr_aload_n 1 rd_d_X7_copyFrom_90 rfl ?_
  refine kr_getf G.1 (rd_FL rd_k_X7_copyFrom_91).1 rd_d_X7_copyFrom_91 (hT10.1 20 (.inl 7) rfl) (v := .int (τ10.2.1 20 10)) (by unfold am_fa; rw [(rd_FL rd_k_X7_copyFrom_91).2]; rfl) ?_
  refine ax_putF G (lo := 0) (hi := 1000) hT10 (σ := τ10) (ax_F0 0 1000 τ10) rd_d_X7_copyFrom_94 rd_k_X7_copyFrom_94 (hT10.1 95 (.inl 7) rfl) (by decide) (by decide) rfl rfl rfl (fun τ11 hT11 _ hs11 => ?_)
  have hm11 : τ11.2.1 = am_up τ10.2.1 95 10 (τ10.2.1 20 10) := by rw [hs11]
  have hF : ax_F 95 98 σ τ11 := by
    intro o k q
    rw [hm11, am_up_o _ _ (fun e => q ⟨by omega, by omega⟩)]
    rw [hm10, am_up_o _ _ (fun e => q ⟨by omega, by omega⟩)]
    rw [hm9, am_up_o _ _ (fun e => q ⟨by omega, by omega⟩)]
    rw [hm8, am_up_o _ _ (fun e => q ⟨by omega, by omega⟩)]
    rw [hm7, am_up_o _ _ (fun e => q ⟨by omega, by omega⟩)]
    rw [hm6, am_up_o _ _ (fun e => q ⟨by omega, by omega⟩)]
    rw [hm5, am_up_o _ _ (fun e => q ⟨by omega, by omega⟩)]
    rw [hm4, am_up_o _ _ (fun e => q ⟨by omega, by omega⟩)]
    rw [hm3, ax_cp_o (fun e => q ⟨by omega, by omega⟩)]
    rw [hm2, ax_cp_o (fun e => q ⟨by omega, by omega⟩)]
    rw [hm1, ax_cp_o (fun e => q ⟨by omega, by omega⟩)]
  exact kr_return rd_d_X7_copyFrom_97 rfl ⟨rfl, hT11, hF⟩
theorem ax_X7_copyFrom_111_20 (G : sx_G0 g L xs z9 hd_C ex_mt) {σ : am_S} (hS : ax_S σ) : am_K g 3 tX7_copyFrom.1 0 0 0 (lv_args 0 [.ref 111, .ref 20]) [] σ (fun r σ' => r = some none ∧ ax_S σ' ∧ ax_F 111 114 σ σ') := by
  refine kr_aload_n 1 rd_d_X7_copyFrom_0 rfl ?_
  refine kr_getf G.1 (rd_FL rd_k_X7_copyFrom_1).1 rd_d_X7_copyFrom_1 (hS.1 20 (.inl 7) rfl) (v := .ref 21) (by unfold am_fa; rw [(rd_FL rd_k_X7_copyFrom_1).2]; exact hS.2 20 0 21 rfl) ?_
  refine kr_aload_n 0 rd_d_X7_copyFrom_4 rfl ?_
  refine kr_getf G.1 (rd_FL rd_k_X7_copyFrom_5).1 rd_d_X7_copyFrom_5 (hS.1 111 (.inl 7) rfl) (v := .ref 112) (by unfold am_fa; rw [(rd_FL rd_k_X7_copyFrom_5).2]; exact hS.2 111 0 112 rfl) ?_
  refine rd_callS G (T2 := tX11_copyRow) rfl rd_d_X7_copyFrom_8 rd_k_X7_copyFrom_8 rfl rfl (as := [.ref 21, .ref 112]) (st := []) rfl (Nat.le_of_ble_eq_true rfl) rfl (by decide) (d1 := 2) (by decide) (fun _ h => by cases h.1) (ax_copyRow G (n := 6) (by decide) (by decide) (hS.1 21 (.inr (.int, 6)) rfl) (hS.1 112 (.inr (.int, 6)) rfl)) ?_
  intro v1 τ1 ⟨hv1, hs1⟩
  cases hv1
  have hT1 : ax_S τ1 := by rw [hs1]; exact hS
  have hm1 : τ1.2.1 = ax_cp σ.2.1 112 21 6 := by rw [hs1]
  refine kr_aload_n 1 rd_d_X7_copyFrom_11 rfl ?_
  refine kr_getf G.1 (rd_FL rd_k_X7_copyFrom_12).1 rd_d_X7_copyFrom_12 (hT1.1 20 (.inl 7) rfl) (v := .ref 22) (by unfold am_fa; rw [(rd_FL rd_k_X7_copyFrom_12).2]; exact hT1.2 20 1 22 rfl) ?_
  refine kr_aload_n 0 rd_d_X7_copyFrom_15 rfl ?_
  refine kr_getf G.1 (rd_FL rd_k_X7_copyFrom_16).1 rd_d_X7_copyFrom_16 (hT1.1 111 (.inl 7) rfl) (v := .ref 113) (by unfold am_fa; rw [(rd_FL rd_k_X7_copyFrom_16).2]; exact hT1.2 111 1 113 rfl) ?_
  refine rd_callS G (T2 := tX11_copyRow) rfl rd_d_X7_copyFrom_19 rd_k_X7_copyFrom_19 rfl rfl (as := [.ref 22, .ref 113]) (st := []) rfl (Nat.le_of_ble_eq_true rfl) rfl (by decide) (d1 := 2) (by decide) (fun _ h => by cases h.1) (ax_copyRow G (n := 10) (by decide) (by decide) (hT1.1 22 (.inr (.int, 10)) rfl) (hT1.1 113 (.inr (.int, 10)) rfl)) ?_
  intro v2 τ2 ⟨hv2, hs2⟩
  cases hv2
  have hT2 : ax_S τ2 := by rw [hs2]; exact hT1
  have hm2 : τ2.2.1 = ax_cp τ1.2.1 113 22 10 := by rw [hs2]
  refine kr_aload_n 1 rd_d_X7_copyFrom_22 rfl ?_
  refine kr_getf G.1 (rd_FL rd_k_X7_copyFrom_23).1 rd_d_X7_copyFrom_23 (hT2.1 20 (.inl 7) rfl) (v := .ref 23) (by unfold am_fa; rw [(rd_FL rd_k_X7_copyFrom_23).2]; exact hT2.2 20 2 23 rfl) ?_
  refine kr_aload_n 0 rd_d_X7_copyFrom_26 rfl ?_
  refine kr_getf G.1 (rd_FL rd_k_X7_copyFrom_27).1 rd_d_X7_copyFrom_27 (hT2.1 111 (.inl 7) rfl) (v := .ref 114) (by unfold am_fa; rw [(rd_FL rd_k_X7_copyFrom_27).2]; exact hT2.2 111 2 114 rfl) ?_
  refine rd_callS G (T2 := tX11_copyRow) rfl rd_d_X7_copyFrom_30 rd_k_X7_copyFrom_30 rfl rfl (as := [.ref 23, .ref 114]) (st := []) rfl (Nat.le_of_ble_eq_true rfl) rfl (by decide) (d1 := 2) (by decide) (fun _ h => by cases h.1) (ax_copyRow G (n := 10) (by decide) (by decide) (hT2.1 23 (.inr (.int, 10)) rfl) (hT2.1 114 (.inr (.int, 10)) rfl)) ?_
  intro v3 τ3 ⟨hv3, hs3⟩
  cases hv3
  have hT3 : ax_S τ3 := by rw [hs3]; exact hT2
  have hm3 : τ3.2.1 = ax_cp τ2.2.1 114 23 10 := by rw [hs3]
  refine kr_aload_n 0 rd_d_X7_copyFrom_33 rfl ?_
  refine kr_aload_n 1 rd_d_X7_copyFrom_34 rfl ?_
  refine kr_getf G.1 (rd_FL rd_k_X7_copyFrom_35).1 rd_d_X7_copyFrom_35 (hT3.1 20 (.inl 7) rfl) (v := .int (τ3.2.1 20 3)) (by unfold am_fa; rw [(rd_FL rd_k_X7_copyFrom_35).2]; rfl) ?_
  refine ax_putF G (lo := 0) (hi := 1000) hT3 (σ := τ3) (ax_F0 0 1000 τ3) rd_d_X7_copyFrom_38 rd_k_X7_copyFrom_38 (hT3.1 111 (.inl 7) rfl) (by decide) (by decide) rfl rfl rfl (fun τ4 hT4 _ hs4 => ?_)
  have hm4 : τ4.2.1 = am_up τ3.2.1 111 3 (τ3.2.1 20 3) := by rw [hs4]
  refine kr_aload_n 0 rd_d_X7_copyFrom_41 rfl ?_
  refine kr_aload_n 1 rd_d_X7_copyFrom_42 rfl ?_
  refine kr_getf G.1 (rd_FL rd_k_X7_copyFrom_43).1 rd_d_X7_copyFrom_43 (hT4.1 20 (.inl 7) rfl) (v := .int (τ4.2.1 20 4)) (by unfold am_fa; rw [(rd_FL rd_k_X7_copyFrom_43).2]; rfl) ?_
  refine ax_putF G (lo := 0) (hi := 1000) hT4 (σ := τ4) (ax_F0 0 1000 τ4) rd_d_X7_copyFrom_46 rd_k_X7_copyFrom_46 (hT4.1 111 (.inl 7) rfl) (by decide) (by decide) rfl rfl rfl (fun τ5 hT5 _ hs5 => ?_)
  have hm5 : τ5.2.1 = am_up τ4.2.1 111 4 (τ4.2.1 20 4) := by rw [hs5]
  refine kr_aload_n 0 rd_d_X7_copyFrom_49 rfl ?_
  refine kr_aload_n 1 rd_d_X7_copyFrom_50 rfl ?_
  refine kr_getf G.1 (rd_FL rd_k_X7_copyFrom_51).1 rd_d_X7_copyFrom_51 (hT5.1 20 (.inl 7) rfl) (v := .int (τ5.2.1 20 5)) (by unfold am_fa; rw [(rd_FL rd_k_X7_copyFrom_51).2]; rfl) ?_
  refine ax_putF G (lo := 0) (hi := 1000) hT5 (σ := τ5) (ax_F0 0 1000 τ5) rd_d_X7_copyFrom_54 rd_k_X7_copyFrom_54 (hT5.1 111 (.inl 7) rfl) (by decide) (by decide) rfl rfl rfl (fun τ6 hT6 _ hs6 => ?_)
  have hm6 : τ6.2.1 = am_up τ5.2.1 111 5 (τ5.2.1 20 5) := by rw [hs6]
  refine kr_aload_n 0 rd_d_X7_copyFrom_57 rfl ?_
  refine kr_aload_n 1 rd_d_X7_copyFrom_58 rfl ?_
  refine kr_getf G.1 (rd_FL rd_k_X7_copyFrom_59).1 rd_d_X7_copyFrom_59 (hT6.1 20 (.inl 7) rfl) (v := .int (τ6.2.1 20 6)) (by unfold am_fa; rw [(rd_FL rd_k_X7_copyFrom_59).2]; rfl) ?_
  refine ax_putF G (lo := 0) (hi := 1000) hT6 (σ := τ6) (ax_F0 0 1000 τ6) rd_d_X7_copyFrom_62 rd_k_X7_copyFrom_62 (hT6.1 111 (.inl 7) rfl) (by decide) (by decide) rfl rfl rfl (fun τ7 hT7 _ hs7 => ?_)
  have hm7 : τ7.2.1 = am_up τ6.2.1 111 6 (τ6.2.1 20 6) := by rw [hs7]
  refine kr_aload_n 0 rd_d_X7_copyFrom_65 rfl ?_
  refine kr_aload_n 1 rd_d_X7_copyFrom_66 rfl ?_
  refine kr_getf G.1 (rd_FL rd_k_X7_copyFrom_67).1 rd_d_X7_copyFrom_67 (hT7.1 20 (.inl 7) rfl) (v := .int (τ7.2.1 20 7)) (by unfold am_fa; rw [(rd_FL rd_k_X7_copyFrom_67).2]; rfl) ?_
  refine ax_putF G (lo := 0) (hi := 1000) hT7 (σ := τ7) (ax_F0 0 1000 τ7) rd_d_X7_copyFrom_70 rd_k_X7_copyFrom_70 (hT7.1 111 (.inl 7) rfl) (by decide) (by decide) rfl rfl rfl (fun τ8 hT8 _ hs8 => ?_)
  have hm8 : τ8.2.1 = am_up τ7.2.1 111 7 (τ7.2.1 20 7) := by rw [hs8]
  refine kr_aload_n 0 rd_d_X7_copyFrom_73 rfl ?_
  refine kr_aload_n 1 rd_d_X7_copyFrom_74 rfl ?_
  refine kr_getf G.1 (rd_FL rd_k_X7_copyFrom_75).1 rd_d_X7_copyFrom_75 (hT8.1 20 (.inl 7) rfl) (v := .int (τ8.2.1 20 8)) (by unfold am_fa; rw [(rd_FL rd_k_X7_copyFrom_75).2]; rfl) ?_
  refine ax_putF G (lo := 0) (hi := 1000) hT8 (σ := τ8) (ax_F0 0 1000 τ8) rd_d_X7_copyFrom_78 rd_k_X7_copyFrom_78 (hT8.1 111 (.inl 7) rfl) (by decide) (by decide) rfl rfl rfl (fun τ9 hT9 _ hs9 => ?_)
  have hm9 : τ9.2.1 = am_up τ8.2.1 111 8 (τ8.2.1 20 8) := by rw [hs9]
  refine kr_aload_n 0 rd_d_X7_copyFrom_81 rfl ?_
  refine kr_aload_n 1 rd_d_X7_copyFrom_82 rfl ?_
  refine kr_getf G.1 (rd_FL rd_k_X7_copyFrom_83).1 rd_d_X7_copyFrom_83 (hT9.1 20 (.inl 7) rfl) (v := .int (τ9.2.1 20 9)) (by unfold am_fa; rw [(rd_FL rd_k_X7_copyFrom_83).2]; rfl) ?_
  refine ax_putF G (lo := 0) (hi := 1000) hT9 (σ := τ9) (ax_F0 0 1000 τ9) rd_d_X7_copyFrom_86 rd_k_X7_copyFrom_86 (hT9.1 111 (.inl 7) rfl) (by decide) (by decide) rfl rfl rfl (fun τ10 hT10 _ hs10 => ?_)
  have hm10 : τ10.2.1 = am_up τ9.2.1 111 9 (τ9.2.1 20 9) := by rw [hs10]
  refine kr_aload_n 0 rd_d_X7_copyFrom_89 rfl ?_
  refine kr_aload_n 1 rd_d_X7_copyFrom_90 rfl ?_
  refine kr_getf G.1 (rd_FL rd_k_X7_copyFrom_91).1 rd_d_X7_copyFrom_91 (hT10.1 20 (.inl 7) rfl) (v := .int (τ10.2.1 20 10)) (by unfold am_fa; rw [(rd_FL rd_k_X7_copyFrom_91).2]; rfl) ?_
  refine ax_putF G (lo := 0) (hi := 1000) hT10 (σ := τ10) (ax_F0 0 1000 τ10) rd_d_X7_copyFrom_94 rd_k_X7_copyFrom_94 (hT10.1 111 (.inl 7) rfl) (by decide) (by decide) rfl rfl rfl (fun τ11 hT11 _ hs11 => ?_)
  have hm11 : τ11.2.1 = am_up τ10.2.1 111 10 (τ10.2.1 20 10) := by rw [hs11]
  have hF : ax_F 111 114 σ τ11 := by
    intro o k q
    rw [hm11, am_up_o _ _ (fun e => q ⟨by omega, by omega⟩)]
    rw [hm10, am_up_o _ _ (fun e => q ⟨by omega, by omega⟩)]
    rw [hm9, am_up_o _ _ (fun e => q ⟨by omega, by omega⟩)]
    rw [hm8, am_up_o _ _ (fun e => q ⟨by omega, by omega⟩)]
    rw [hm7, am_up_o _ _ (fun e => q ⟨by omega, by omega⟩)]
    rw [hm6, am_up_o _ _ (fun e => q ⟨by omega, by omega⟩)]
    rw [hm5, am_up_o _ _ (fun e => q ⟨by omega, by omega⟩)]
    rw [hm4, am_up_o _ _ (fun e => q ⟨by omega, by omega⟩)]
    rw [hm3, ax_cp_o (fun e => q ⟨by omega, by omega⟩)]
    rw [hm2, ax_cp_o (fun e => q ⟨by omega, by omega⟩)]
    rw [hm1, ax_cp_o (fun e => q ⟨by omega, by omega⟩)]
  exact kr_return rd_d_X7_copyFrom_97 rfl ⟨rfl, hT11, hF⟩
theorem ax_X7_copyFrom_20_95 (G : sx_G0 g L xs z9 hd_C ex_mt) {σ : am_S} (hS : ax_S σ) : am_K g 3 tX7_copyFrom.1 0 0 0 (lv_args 0 [.ref 20, .ref 95]) [] σ (fun r σ' => r = some none ∧ ax_S σ' ∧ ax_F 20 23 σ σ') := by
  refine kr_aload_n 1 rd_d_X7_copyFrom_0 rfl ?_
  refine kr_getf G.1 (rd_FL rd_k_X7_copyFrom_1).1 rd_d_X7_copyFrom_1 (hS.1 95 (.inl 7) rfl) (v := .ref 96) (by unfold am_fa; rw [(rd_FL rd_k_X7_copyFrom_1).2]; exact hS.2 95 0 96 rfl) ?_
  refine kr_aload_n 0 rd_d_X7_copyFrom_4 rfl ?_
  refine kr_getf G.1 (rd_FL rd_k_X7_copyFrom_5).1 rd_d_X7_copyFrom_5 (hS.1 20 (.inl 7) rfl) (v := .ref 21) (by unfold am_fa; rw [(rd_FL rd_k_X7_copyFrom_5).2]; exact hS.2 20 0 21 rfl) ?_
  refine rd_callS G (T2 := tX11_copyRow) rfl rd_d_X7_copyFrom_8 rd_k_X7_copyFrom_8 rfl rfl (as := [.ref 96, .ref 21]) (st := []) rfl (Nat.le_of_ble_eq_true rfl) rfl (by decide) (d1 := 2) (by decide) (fun _ h => by cases h.1) (ax_copyRow G (n := 6) (by decide) (by decide) (hS.1 96 (.inr (.int, 6)) rfl) (hS.1 21 (.inr (.int, 6)) rfl)) ?_
  intro v1 τ1 ⟨hv1, hs1⟩
  cases hv1
  have hT1 : ax_S τ1 := by rw [hs1]; exact hS
  have hm1 : τ1.2.1 = ax_cp σ.2.1 21 96 6 := by rw [hs1]
  refine kr_aload_n 1 rd_d_X7_copyFrom_11 rfl ?_
  refine kr_getf G.1 (rd_FL rd_k_X7_copyFrom_12).1 rd_d_X7_copyFrom_12 (hT1.1 95 (.inl 7) rfl) (v := .ref 97) (by unfold am_fa; rw [(rd_FL rd_k_X7_copyFrom_12).2]; exact hT1.2 95 1 97 rfl) ?_
  refine kr_aload_n 0 rd_d_X7_copyFrom_15 rfl ?_
  refine kr_getf G.1 (rd_FL rd_k_X7_copyFrom_16).1 rd_d_X7_copyFrom_16 (hT1.1 20 (.inl 7) rfl) (v := .ref 22) (by unfold am_fa; rw [(rd_FL rd_k_X7_copyFrom_16).2]; exact hT1.2 20 1 22 rfl) ?_
  refine rd_callS G (T2 := tX11_copyRow) rfl rd_d_X7_copyFrom_19 rd_k_X7_copyFrom_19 rfl rfl (as := [.ref 97, .ref 22]) (st := []) rfl (Nat.le_of_ble_eq_true rfl) rfl (by decide) (d1 := 2) (by decide) (fun _ h => by cases h.1) (ax_copyRow G (n := 10) (by decide) (by decide) (hT1.1 97 (.inr (.int, 10)) rfl) (hT1.1 22 (.inr (.int, 10)) rfl)) ?_
  intro v2 τ2 ⟨hv2, hs2⟩
  cases hv2
  have hT2 : ax_S τ2 := by rw [hs2]; exact hT1
  have hm2 : τ2.2.1 = ax_cp τ1.2.1 22 97 10 := by rw [hs2]
  refine kr_aload_n 1 rd_d_X7_copyFrom_22 rfl ?_
  refine kr_getf G.1 (rd_FL rd_k_X7_copyFrom_23).1 rd_d_X7_copyFrom_23 (hT2.1 95 (.inl 7) rfl) (v := .ref 98) (by unfold am_fa; rw [(rd_FL rd_k_X7_copyFrom_23).2]; exact hT2.2 95 2 98 rfl) ?_
  refine kr_aload_n 0 rd_d_X7_copyFrom_26 rfl ?_
  refine kr_getf G.1 (rd_FL rd_k_X7_copyFrom_27).1 rd_d_X7_copyFrom_27 (hT2.1 20 (.inl 7) rfl) (v := .ref 23) (by unfold am_fa; rw [(rd_FL rd_k_X7_copyFrom_27).2]; exact hT2.2 20 2 23 rfl) ?_
  refine rd_callS G (T2 := tX11_copyRow) rfl rd_d_X7_copyFrom_30 rd_k_X7_copyFrom_30 rfl rfl (as := [.ref 98, .ref 23]) (st := []) rfl (Nat.le_of_ble_eq_true rfl) rfl (by decide) (d1 := 2) (by decide) (fun _ h => by cases h.1) (ax_copyRow G (n := 10) (by decide) (by decide) (hT2.1 98 (.inr (.int, 10)) rfl) (hT2.1 23 (.inr (.int, 10)) rfl)) ?_
  intro v3 τ3 ⟨hv3, hs3⟩
  cases hv3
  have hT3 : ax_S τ3 := by rw [hs3]; exact hT2
  have hm3 : τ3.2.1 = ax_cp τ2.2.1 23 98 10 := by rw [hs3]
  refine kr_aload_n 0 rd_d_X7_copyFrom_33 rfl ?_
  refine kr_aload_n 1 rd_d_X7_copyFrom_34 rfl ?_
  refine kr_getf G.1 (rd_FL rd_k_X7_copyFrom_35).1 rd_d_X7_copyFrom_35 (hT3.1 95 (.inl 7) rfl) (v := .int (τ3.2.1 95 3)) (by unfold am_fa; rw [(rd_FL rd_k_X7_copyFrom_35).2]; rfl) ?_
  refine ax_putF G (lo := 0) (hi := 1000) hT3 (σ := τ3) (ax_F0 0 1000 τ3) rd_d_X7_copyFrom_38 rd_k_X7_copyFrom_38 (hT3.1 20 (.inl 7) rfl) (by decide) (by decide) rfl rfl rfl (fun τ4 hT4 _ hs4 => ?_)
  have hm4 : τ4.2.1 = am_up τ3.2.1 20 3 (τ3.2.1 95 3) := by rw [hs4]
  refine kr_aload_n 0 rd_d_X7_copyFrom_41 rfl ?_
  refine kr_aload_n 1 rd_d_X7_copyFrom_42 rfl ?_
  refine kr_getf G.1 (rd_FL rd_k_X7_copyFrom_43).1 rd_d_X7_copyFrom_43 (hT4.1 95 (.inl 7) rfl) (v := .int (τ4.2.1 95 4)) (by unfold am_fa; rw [(rd_FL rd_k_X7_copyFrom_43).2]; rfl) ?_
  refine ax_putF G (lo := 0) (hi := 1000) hT4 (σ := τ4) (ax_F0 0 1000 τ4) rd_d_X7_copyFrom_46 rd_k_X7_copyFrom_46 (hT4.1 20 (.inl 7) rfl) (by decide) (by decide) rfl rfl rfl (fun τ5 hT5 _ hs5 => ?_)
  have hm5 : τ5.2.1 = am_up τ4.2.1 20 4 (τ4.2.1 95 4) := by rw [hs5]
  refine kr_aload_n 0 rd_d_X7_copyFrom_49 rfl ?_
  refine kr_aload_n 1 rd_d_X7_copyFrom_50 rfl ?_
  refine kr_getf G.1 (rd_FL rd_k_X7_copyFrom_51).1 rd_d_X7_copyFrom_51 (hT5.1 95 (.inl 7) rfl) (v := .int (τ5.2.1 95 5)) (by unfold am_fa; rw [(rd_FL rd_k_X7_copyFrom_51).2]; rfl) ?_
  refine ax_putF G (lo := 0) (hi := 1000) hT5 (σ := τ5) (ax_F0 0 1000 τ5) rd_d_X7_copyFrom_54 rd_k_X7_copyFrom_54 (hT5.1 20 (.inl 7) rfl) (by decide) (by decide) rfl rfl rfl (fun τ6 hT6 _ hs6 => ?_)
  have hm6 : τ6.2.1 = am_up τ5.2.1 20 5 (τ5.2.1 95 5) := by rw [hs6]
  refine kr_aload_n 0 rd_d_X7_copyFrom_57 rfl ?_
  refine kr_aload_n 1 rd_d_X7_copyFrom_58 rfl ?_
  refine kr_getf G.1 (rd_FL rd_k_X7_copyFrom_59).1 rd_d_X7_copyFrom_59 (hT6.1 95 (.inl 7) rfl) (v := .int (τ6.2.1 95 6)) (by unfold am_fa; rw [(rd_FL rd_k_X7_copyFrom_59).2]; rfl) ?_
  refine ax_putF G (lo := 0) (hi := 1000) hT6 (σ := τ6) (ax_F0 0 1000 τ6) rd_d_X7_copyFrom_62 rd_k_X7_copyFrom_62 (hT6.1 20 (.inl 7) rfl) (by decide) (by decide) rfl rfl rfl (fun τ7 hT7 _ hs7 => ?_)
  have hm7 : τ7.2.1 = am_up τ6.2.1 20 6 (τ6.2.1 95 6) := by rw [hs7]
  refine kr_aload_n 0 rd_d_X7_copyFrom_65 rfl ?_
  refine kr_aload_n 1 rd_d_X7_copyFrom_66 rfl ?_
  refine kr_getf G.1 (rd_FL rd_k_X7_copyFrom_67).1 rd_d_X7_copyFrom_67 (hT7.1 95 (.inl 7) rfl) (v := .int (τ7.2.1 95 7)) (by unfold am_fa; rw [(rd_FL rd_k_X7_copyFrom_67).2]; rfl) ?_
  refine ax_putF G (lo := 0) (hi := 1000) hT7 (σ := τ7) (ax_F0 0 1000 τ7) rd_d_X7_copyFrom_70 rd_k_X7_copyFrom_70 (hT7.1 20 (.inl 7) rfl) (by decide) (by decide) rfl rfl rfl (fun τ8 hT8 _ hs8 => ?_)
  have hm8 : τ8.2.1 = am_up τ7.2.1 20 7 (τ7.2.1 95 7) := by rw [hs8]
  refine kr_aload_n 0 rd_d_X7_copyFrom_73 rfl ?_
  refine kr_aload_n 1 rd_d_X7_copyFrom_74 rfl ?_
  refine kr_getf G.1 (rd_FL rd_k_X7_copyFrom_75).1 rd_d_X7_copyFrom_75 (hT8.1 95 (.inl 7) rfl) (v := .int (τ8.2.1 95 8)) (by unfold am_fa; rw [(rd_FL rd_k_X7_copyFrom_75).2]; rfl) ?_
  refine ax_putF G (lo := 0) (hi := 1000) hT8 (σ := τ8) (ax_F0 0 1000 τ8) rd_d_X7_copyFrom_78 rd_k_X7_copyFrom_78 (hT8.1 20 (.inl 7) rfl) (by decide) (by decide) rfl rfl rfl (fun τ9 hT9 _ hs9 => ?_)
  have hm9 : τ9.2.1 = am_up τ8.2.1 20 8 (τ8.2.1 95 8) := by rw [hs9]
  refine kr_aload_n 0 rd_d_X7_copyFrom_81 rfl ?_
  refine kr_aload_n 1 rd_d_X7_copyFrom_82 rfl ?_
  refine kr_getf G.1 (rd_FL rd_k_X7_copyFrom_83).1 rd_d_X7_copyFrom_83 (hT9.1 95 (.inl 7) rfl) (v := .int (τ9.2.1 95 9)) (by unfold am_fa; rw [(rd_FL rd_k_X7_copyFrom_83).2]; rfl) ?_
  refine ax_putF G (lo := 0) (hi := 1000) hT9 (σ := τ9) (ax_F0 0 1000 τ9) rd_d_X7_copyFrom_86 rd_k_X7_copyFrom_86 (hT9.1 20 (.inl 7) rfl) (by decide) (by decide) rfl rfl rfl (fun τ10 hT10 _ hs10 => ?_)
  have hm10 : τ10.2.1 = am_up τ9.2.1 20 9 (τ9.2.1 95 9) := by rw [hs10]
  refine kr_aload_n 0 rd_d_X7_copyFrom_89 rfl ?_
  refine kr_aload_n 1 rd_d_X7_copyFrom_90 rfl ?_
  refine kr_getf G.1 (rd_FL rd_k_X7_copyFrom_91).1 rd_d_X7_copyFrom_91 (hT10.1 95 (.inl 7) rfl) (v := .int (τ10.2.1 95 10)) (by unfold am_fa; rw [(rd_FL rd_k_X7_copyFrom_91).2]; rfl) ?_
  refine ax_putF G (lo := 0) (hi := 1000) hT10 (σ := τ10) (ax_F0 0 1000 τ10) rd_d_X7_copyFrom_94 rd_k_X7_copyFrom_94 (hT10.1 20 (.inl 7) rfl) (by decide) (by decide) rfl rfl rfl (fun τ11 hT11 _ hs11 => ?_)
  have hm11 : τ11.2.1 = am_up τ10.2.1 20 10 (τ10.2.1 95 10) := by rw [hs11]
  have hF : ax_F 20 23 σ τ11 := by
    intro o k q
    rw [hm11, am_up_o _ _ (fun e => q ⟨by omega, by omega⟩)]
    rw [hm10, am_up_o _ _ (fun e => q ⟨by omega, by omega⟩)]
    rw [hm9, am_up_o _ _ (fun e => q ⟨by omega, by omega⟩)]
    rw [hm8, am_up_o _ _ (fun e => q ⟨by omega, by omega⟩)]
    rw [hm7, am_up_o _ _ (fun e => q ⟨by omega, by omega⟩)]
    rw [hm6, am_up_o _ _ (fun e => q ⟨by omega, by omega⟩)]
    rw [hm5, am_up_o _ _ (fun e => q ⟨by omega, by omega⟩)]
    rw [hm4, am_up_o _ _ (fun e => q ⟨by omega, by omega⟩)]
    rw [hm3, ax_cp_o (fun e => q ⟨by omega, by omega⟩)]
    rw [hm2, ax_cp_o (fun e => q ⟨by omega, by omega⟩)]
    rw [hm1, ax_cp_o (fun e => q ⟨by omega, by omega⟩)]
  exact kr_return rd_d_X7_copyFrom_97 rfl ⟨rfl, hT11, hF⟩
theorem ax_X7_copyFrom_20_111 (G : sx_G0 g L xs z9 hd_C ex_mt) {σ : am_S} (hS : ax_S σ) : am_K g 3 tX7_copyFrom.1 0 0 0 (lv_args 0 [.ref 20, .ref 111]) [] σ (fun r σ' => r = some none ∧ ax_S σ' ∧ ax_F 20 23 σ σ') := by
  refine kr_aload_n 1 rd_d_X7_copyFrom_0 rfl ?_
  refine kr_getf G.1 (rd_FL rd_k_X7_copyFrom_1).1 rd_d_X7_copyFrom_1 (hS.1 111 (.inl 7) rfl) (v := .ref 112) (by unfold am_fa; rw [(rd_FL rd_k_X7_copyFrom_1).2]; exact hS.2 111 0 112 rfl) ?_
  refine kr_aload_n 0 rd_d_X7_copyFrom_4 rfl ?_
  refine kr_getf G.1 (rd_FL rd_k_X7_copyFrom_5).1 rd_d_X7_copyFrom_5 (hS.1 20 (.inl 7) rfl) (v := .ref 21) (by unfold am_fa; rw [(rd_FL rd_k_X7_copyFrom_5).2]; exact hS.2 20 0 21 rfl) ?_
  refine rd_callS G (T2 := tX11_copyRow) rfl rd_d_X7_copyFrom_8 rd_k_X7_copyFrom_8 rfl rfl (as := [.ref 112, .ref 21]) (st := []) rfl (Nat.le_of_ble_eq_true rfl) rfl (by decide) (d1 := 2) (by decide) (fun _ h => by cases h.1) (ax_copyRow G (n := 6) (by decide) (by decide) (hS.1 112 (.inr (.int, 6)) rfl) (hS.1 21 (.inr (.int, 6)) rfl)) ?_
  intro v1 τ1 ⟨hv1, hs1⟩
  cases hv1
  have hT1 : ax_S τ1 := by rw [hs1]; exact hS
  have hm1 : τ1.2.1 = ax_cp σ.2.1 21 112 6 := by rw [hs1]
  refine kr_aload_n 1 rd_d_X7_copyFrom_11 rfl ?_
  refine kr_getf G.1 (rd_FL rd_k_X7_copyFrom_12).1 rd_d_X7_copyFrom_12 (hT1.1 111 (.inl 7) rfl) (v := .ref 113) (by unfold am_fa; rw [(rd_FL rd_k_X7_copyFrom_12).2]; exact hT1.2 111 1 113 rfl) ?_
  refine kr_aload_n 0 rd_d_X7_copyFrom_15 rfl ?_
  refine kr_getf G.1 (rd_FL rd_k_X7_copyFrom_16).1 rd_d_X7_copyFrom_16 (hT1.1 20 (.inl 7) rfl) (v := .ref 22) (by unfold am_fa; rw [(rd_FL rd_k_X7_copyFrom_16).2]; exact hT1.2 20 1 22 rfl) ?_
  refine rd_callS G (T2 := tX11_copyRow) rfl rd_d_X7_copyFrom_19 rd_k_X7_copyFrom_19 rfl rfl (as := [.ref 113, .ref 22]) (st := []) rfl (Nat.le_of_ble_eq_true rfl) rfl (by decide) (d1 := 2) (by decide) (fun _ h => by cases h.1) (ax_copyRow G (n := 10) (by decide) (by decide) (hT1.1 113 (.inr (.int, 10)) rfl) (hT1.1 22 (.inr (.int, 10)) rfl)) ?_
  intro v2 τ2 ⟨hv2, hs2⟩
  cases hv2
  have hT2 : ax_S τ2 := by rw [hs2]; exact hT1
  have hm2 : τ2.2.1 = ax_cp τ1.2.1 22 113 10 := by rw [hs2]
  refine kr_aload_n 1 rd_d_X7_copyFrom_22 rfl ?_
  refine kr_getf G.1 (rd_FL rd_k_X7_copyFrom_23).1 rd_d_X7_copyFrom_23 (hT2.1 111 (.inl 7) rfl) (v := .ref 114) (by unfold am_fa; rw [(rd_FL rd_k_X7_copyFrom_23).2]; exact hT2.2 111 2 114 rfl) ?_
  refine kr_aload_n 0 rd_d_X7_copyFrom_26 rfl ?_
  refine kr_getf G.1 (rd_FL rd_k_X7_copyFrom_27).1 rd_d_X7_copyFrom_27 (hT2.1 20 (.inl 7) rfl) (v := .ref 23) (by unfold am_fa; rw [(rd_FL rd_k_X7_copyFrom_27).2]; exact hT2.2 20 2 23 rfl) ?_
  refine rd_callS G (T2 := tX11_copyRow) rfl rd_d_X7_copyFrom_30 rd_k_X7_copyFrom_30 rfl rfl (as := [.ref 114, .ref 23]) (st := []) rfl (Nat.le_of_ble_eq_true rfl) rfl (by decide) (d1 := 2) (by decide) (fun _ h => by cases h.1) (ax_copyRow G (n := 10) (by decide) (by decide) (hT2.1 114 (.inr (.int, 10)) rfl) (hT2.1 23 (.inr (.int, 10)) rfl)) ?_
  intro v3 τ3 ⟨hv3, hs3⟩
  cases hv3
  have hT3 : ax_S τ3 := by rw [hs3]; exact hT2
  have hm3 : τ3.2.1 = ax_cp τ2.2.1 23 114 10 := by rw [hs3]
  refine kr_aload_n 0 rd_d_X7_copyFrom_33 rfl ?_
  refine kr_aload_n 1 rd_d_X7_copyFrom_34 rfl ?_
  refine kr_getf G.1 (rd_FL rd_k_X7_copyFrom_35).1 rd_d_X7_copyFrom_35 (hT3.1 111 (.inl 7) rfl) (v := .int (τ3.2.1 111 3)) (by unfold am_fa; rw [(rd_FL rd_k_X7_copyFrom_35).2]; rfl) ?_
  refine ax_putF G (lo := 0) (hi := 1000) hT3 (σ := τ3) (ax_F0 0 1000 τ3) rd_d_X7_copyFrom_38 rd_k_X7_copyFrom_38 (hT3.1 20 (.inl 7) rfl) (by decide) (by decide) rfl rfl rfl (fun τ4 hT4 _ hs4 => ?_)
  have hm4 : τ4.2.1 = am_up τ3.2.1 20 3 (τ3.2.1 111 3) := by rw [hs4]
  refine kr_aload_n 0 rd_d_X7_copyFrom_41 rfl ?_
  refine kr_aload_n 1 rd_d_X7_copyFrom_42 rfl ?_
  refine kr_getf G.1 (rd_FL rd_k_X7_copyFrom_43).1 rd_d_X7_copyFrom_43 (hT4.1 111 (.inl 7) rfl) (v := .int (τ4.2.1 111 4)) (by unfold am_fa; rw [(rd_FL rd_k_X7_copyFrom_43).2]; rfl) ?_
  refine ax_putF G (lo := 0) (hi := 1000) hT4 (σ := τ4) (ax_F0 0 1000 τ4) rd_d_X7_copyFrom_46 rd_k_X7_copyFrom_46 (hT4.1 20 (.inl 7) rfl) (by decide) (by decide) rfl rfl rfl (fun τ5 hT5 _ hs5 => ?_)
  have hm5 : τ5.2.1 = am_up τ4.2.1 20 4 (τ4.2.1 111 4) := by rw [hs5]
  refine kr_aload_n 0 rd_d_X7_copyFrom_49 rfl ?_
  refine kr_aload_n 1 rd_d_X7_copyFrom_50 rfl ?_
  refine kr_getf G.1 (rd_FL rd_k_X7_copyFrom_51).1 rd_d_X7_copyFrom_51 (hT5.1 111 (.inl 7) rfl) (v := .int (τ5.2.1 111 5)) (by unfold am_fa; rw [(rd_FL rd_k_X7_copyFrom_51).2]; rfl) ?_
  refine ax_putF G (lo := 0) (hi := 1000) hT5 (σ := τ5) (ax_F0 0 1000 τ5) rd_d_X7_copyFrom_54 rd_k_X7_copyFrom_54 (hT5.1 20 (.inl 7) rfl) (by decide) (by decide) rfl rfl rfl (fun τ6 hT6 _ hs6 => ?_)
  have hm6 : τ6.2.1 = am_up τ5.2.1 20 5 (τ5.2.1 111 5) := by rw [hs6]
  refine kr_aload_n 0 rd_d_X7_copyFrom_57 rfl ?_
  refine kr_aload_n 1 rd_d_X7_copyFrom_58 rfl ?_
  refine kr_getf G.1 (rd_FL rd_k_X7_copyFrom_59).1 rd_d_X7_copyFrom_59 (hT6.1 111 (.inl 7) rfl) (v := .int (τ6.2.1 111 6)) (by unfold am_fa; rw [(rd_FL rd_k_X7_copyFrom_59).2]; rfl) ?_
  refine ax_putF G (lo := 0) (hi := 1000) hT6 (σ := τ6) (ax_F0 0 1000 τ6) rd_d_X7_copyFrom_62 rd_k_X7_copyFrom_62 (hT6.1 20 (.inl 7) rfl) (by decide) (by decide) rfl rfl rfl (fun τ7 hT7 _ hs7 => ?_)
  have hm7 : τ7.2.1 = am_up τ6.2.1 20 6 (τ6.2.1 111 6) := by rw [hs7]
  refine kr_aload_n 0 rd_d_X7_copyFrom_65 rfl ?_
  refine kr_aload_n 1 rd_d_X7_copyFrom_66 rfl ?_
  refine kr_getf G.1 (rd_FL rd_k_X7_copyFrom_67).1 rd_d_X7_copyFrom_67 (hT7.1 111 (.inl 7) rfl) (v := .int (τ7.2.1 111 7)) (by unfold am_fa; rw [(rd_FL rd_k_X7_copyFrom_67).2]; rfl) ?_
  refine ax_putF G (lo := 0) (hi := 1000) hT7 (σ := τ7) (ax_F0 0 1000 τ7) rd_d_X7_copyFrom_70 rd_k_X7_copyFrom_70 (hT7.1 20 (.inl 7) rfl) (by decide) (by decide) rfl rfl rfl (fun τ8 hT8 _ hs8 => ?_)
  have hm8 : τ8.2.1 = am_up τ7.2.1 20 7 (τ7.2.1 111 7) := by rw [hs8]
  refine kr_aload_n 0 rd_d_X7_copyFrom_73 rfl ?_
  refine kr_aload_n 1 rd_d_X7_copyFrom_74 rfl ?_
  refine kr_getf G.1 (rd_FL rd_k_X7_copyFrom_75).1 rd_d_X7_copyFrom_75 (hT8.1 111 (.inl 7) rfl) (v := .int (τ8.2.1 111 8)) (by unfold am_fa; rw [(rd_FL rd_k_X7_copyFrom_75).2]; rfl) ?_
  refine ax_putF G (lo := 0) (hi := 1000) hT8 (σ := τ8) (ax_F0 0 1000 τ8) rd_d_X7_copyFrom_78 rd_k_X7_copyFrom_78 (hT8.1 20 (.inl 7) rfl) (by decide) (by decide) rfl rfl rfl (fun τ9 hT9 _ hs9 => ?_)
  have hm9 : τ9.2.1 = am_up τ8.2.1 20 8 (τ8.2.1 111 8) := by rw [hs9]
  refine kr_aload_n 0 rd_d_X7_copyFrom_81 rfl ?_
  refine kr_aload_n 1 rd_d_X7_copyFrom_82 rfl ?_
  refine kr_getf G.1 (rd_FL rd_k_X7_copyFrom_83).1 rd_d_X7_copyFrom_83 (hT9.1 111 (.inl 7) rfl) (v := .int (τ9.2.1 111 9)) (by unfold am_fa; rw [(rd_FL rd_k_X7_copyFrom_83).2]; rfl) ?_
  refine ax_putF G (lo := 0) (hi := 1000) hT9 (σ := τ9) (ax_F0 0 1000 τ9) rd_d_X7_copyFrom_86 rd_k_X7_copyFrom_86 (hT9.1 20 (.inl 7) rfl) (by decide) (by decide) rfl rfl rfl (fun τ10 hT10 _ hs10 => ?_)
  have hm10 : τ10.2.1 = am_up τ9.2.1 20 9 (τ9.2.1 111 9) := by rw [hs10]
  refine kr_aload_n 0 rd_d_X7_copyFrom_89 rfl ?_
  refine kr_aload_n 1 rd_d_X7_copyFrom_90 rfl ?_
  refine kr_getf G.1 (rd_FL rd_k_X7_copyFrom_91).1 rd_d_X7_copyFrom_91 (hT10.1 111 (.inl 7) rfl) (v := .int (τ10.2.1 111 10)) (by unfold am_fa; rw [(rd_FL rd_k_X7_copyFrom_91).2]; rfl) ?_
  refine ax_putF G (lo := 0) (hi := 1000) hT10 (σ := τ10) (ax_F0 0 1000 τ10) rd_d_X7_copyFrom_94 rd_k_X7_copyFrom_94 (hT10.1 20 (.inl 7) rfl) (by decide) (by decide) rfl rfl rfl (fun τ11 hT11 _ hs11 => ?_)
  have hm11 : τ11.2.1 = am_up τ10.2.1 20 10 (τ10.2.1 111 10) := by rw [hs11]
  have hF : ax_F 20 23 σ τ11 := by
    intro o k q
    rw [hm11, am_up_o _ _ (fun e => q ⟨by omega, by omega⟩)]
    rw [hm10, am_up_o _ _ (fun e => q ⟨by omega, by omega⟩)]
    rw [hm9, am_up_o _ _ (fun e => q ⟨by omega, by omega⟩)]
    rw [hm8, am_up_o _ _ (fun e => q ⟨by omega, by omega⟩)]
    rw [hm7, am_up_o _ _ (fun e => q ⟨by omega, by omega⟩)]
    rw [hm6, am_up_o _ _ (fun e => q ⟨by omega, by omega⟩)]
    rw [hm5, am_up_o _ _ (fun e => q ⟨by omega, by omega⟩)]
    rw [hm4, am_up_o _ _ (fun e => q ⟨by omega, by omega⟩)]
    rw [hm3, ax_cp_o (fun e => q ⟨by omega, by omega⟩)]
    rw [hm2, ax_cp_o (fun e => q ⟨by omega, by omega⟩)]
    rw [hm1, ax_cp_o (fun e => q ⟨by omega, by omega⟩)]
  exact kr_return rd_d_X7_copyFrom_97 rfl ⟨rfl, hT11, hF⟩
theorem ax_X8_copyFrom_99_62 (G : sx_G0 g L xs z9 hd_C ex_mt) {σ : am_S} (hS : ax_S σ) : am_K g 3 tX8_copyFrom.1 0 0 0 (lv_args 0 [.ref 99, .ref 62]) [] σ (fun r σ' => r = some none ∧ ax_S σ' ∧ ax_F 99 100 σ σ') := by
  refine kr_aload_n 1 rd_d_X8_copyFrom_0 rfl ?_
  refine kr_getf G.1 (rd_FL rd_k_X8_copyFrom_1).1 rd_d_X8_copyFrom_1 (hS.1 62 (.inl 8) rfl) (v := .ref 63) (by unfold am_fa; rw [(rd_FL rd_k_X8_copyFrom_1).2]; exact hS.2 62 0 63 rfl) ?_
  refine kr_aload_n 0 rd_d_X8_copyFrom_4 rfl ?_
  refine kr_getf G.1 (rd_FL rd_k_X8_copyFrom_5).1 rd_d_X8_copyFrom_5 (hS.1 99 (.inl 8) rfl) (v := .ref 100) (by unfold am_fa; rw [(rd_FL rd_k_X8_copyFrom_5).2]; exact hS.2 99 0 100 rfl) ?_
  refine rd_callS G (T2 := tX11_copyRow) rfl rd_d_X8_copyFrom_8 rd_k_X8_copyFrom_8 rfl rfl (as := [.ref 63, .ref 100]) (st := []) rfl (Nat.le_of_ble_eq_true rfl) rfl (by decide) (d1 := 2) (by decide) (fun _ h => by cases h.1) (ax_copyRow G (n := 40) (by decide) (by decide) (hS.1 63 (.inr (.int, 40)) rfl) (hS.1 100 (.inr (.int, 40)) rfl)) ?_
  intro v1 τ1 ⟨hv1, hs1⟩
  cases hv1
  have hT1 : ax_S τ1 := by rw [hs1]; exact hS
  have hm1 : τ1.2.1 = ax_cp σ.2.1 100 63 40 := by rw [hs1]
  refine kr_aload_n 0 rd_d_X8_copyFrom_11 rfl ?_
  refine kr_aload_n 1 rd_d_X8_copyFrom_12 rfl ?_
  refine kr_getf G.1 (rd_FL rd_k_X8_copyFrom_13).1 rd_d_X8_copyFrom_13 (hT1.1 62 (.inl 8) rfl) (v := .int (τ1.2.1 62 2)) (by unfold am_fa; rw [(rd_FL rd_k_X8_copyFrom_13).2]; rfl) ?_
  refine ax_putF G (lo := 0) (hi := 1000) hT1 (σ := τ1) (ax_F0 0 1000 τ1) rd_d_X8_copyFrom_16 rd_k_X8_copyFrom_16 (hT1.1 99 (.inl 8) rfl) (by decide) (by decide) rfl rfl rfl (fun τ2 hT2 _ hs2 => ?_)
  have hm2 : τ2.2.1 = am_up τ1.2.1 99 2 (τ1.2.1 62 2) := by rw [hs2]
  refine kr_aload_n 0 rd_d_X8_copyFrom_19 rfl ?_
  refine kr_aload_n 1 rd_d_X8_copyFrom_20 rfl ?_
  refine kr_getf G.1 (rd_FL rd_k_X8_copyFrom_21).1 rd_d_X8_copyFrom_21 (hT2.1 62 (.inl 8) rfl) (v := .int (τ2.2.1 62 3)) (by unfold am_fa; rw [(rd_FL rd_k_X8_copyFrom_21).2]; rfl) ?_
  refine ax_putF G (lo := 0) (hi := 1000) hT2 (σ := τ2) (ax_F0 0 1000 τ2) rd_d_X8_copyFrom_24 rd_k_X8_copyFrom_24 (hT2.1 99 (.inl 8) rfl) (by decide) (by decide) rfl rfl rfl (fun τ3 hT3 _ hs3 => ?_)
  have hm3 : τ3.2.1 = am_up τ2.2.1 99 3 (τ2.2.1 62 3) := by rw [hs3]
  have hF : ax_F 99 100 σ τ3 := by
    intro o k q
    rw [hm3, am_up_o _ _ (fun e => q ⟨by omega, by omega⟩)]
    rw [hm2, am_up_o _ _ (fun e => q ⟨by omega, by omega⟩)]
    rw [hm1, ax_cp_o (fun e => q ⟨by omega, by omega⟩)]
  exact kr_return rd_d_X8_copyFrom_27 rfl ⟨rfl, hT3, hF⟩
theorem ax_X8_copyFrom_115_62 (G : sx_G0 g L xs z9 hd_C ex_mt) {σ : am_S} (hS : ax_S σ) : am_K g 3 tX8_copyFrom.1 0 0 0 (lv_args 0 [.ref 115, .ref 62]) [] σ (fun r σ' => r = some none ∧ ax_S σ' ∧ ax_F 115 116 σ σ') := by
  refine kr_aload_n 1 rd_d_X8_copyFrom_0 rfl ?_
  refine kr_getf G.1 (rd_FL rd_k_X8_copyFrom_1).1 rd_d_X8_copyFrom_1 (hS.1 62 (.inl 8) rfl) (v := .ref 63) (by unfold am_fa; rw [(rd_FL rd_k_X8_copyFrom_1).2]; exact hS.2 62 0 63 rfl) ?_
  refine kr_aload_n 0 rd_d_X8_copyFrom_4 rfl ?_
  refine kr_getf G.1 (rd_FL rd_k_X8_copyFrom_5).1 rd_d_X8_copyFrom_5 (hS.1 115 (.inl 8) rfl) (v := .ref 116) (by unfold am_fa; rw [(rd_FL rd_k_X8_copyFrom_5).2]; exact hS.2 115 0 116 rfl) ?_
  refine rd_callS G (T2 := tX11_copyRow) rfl rd_d_X8_copyFrom_8 rd_k_X8_copyFrom_8 rfl rfl (as := [.ref 63, .ref 116]) (st := []) rfl (Nat.le_of_ble_eq_true rfl) rfl (by decide) (d1 := 2) (by decide) (fun _ h => by cases h.1) (ax_copyRow G (n := 40) (by decide) (by decide) (hS.1 63 (.inr (.int, 40)) rfl) (hS.1 116 (.inr (.int, 40)) rfl)) ?_
  intro v1 τ1 ⟨hv1, hs1⟩
  cases hv1
  have hT1 : ax_S τ1 := by rw [hs1]; exact hS
  have hm1 : τ1.2.1 = ax_cp σ.2.1 116 63 40 := by rw [hs1]
  refine kr_aload_n 0 rd_d_X8_copyFrom_11 rfl ?_
  refine kr_aload_n 1 rd_d_X8_copyFrom_12 rfl ?_
  refine kr_getf G.1 (rd_FL rd_k_X8_copyFrom_13).1 rd_d_X8_copyFrom_13 (hT1.1 62 (.inl 8) rfl) (v := .int (τ1.2.1 62 2)) (by unfold am_fa; rw [(rd_FL rd_k_X8_copyFrom_13).2]; rfl) ?_
  refine ax_putF G (lo := 0) (hi := 1000) hT1 (σ := τ1) (ax_F0 0 1000 τ1) rd_d_X8_copyFrom_16 rd_k_X8_copyFrom_16 (hT1.1 115 (.inl 8) rfl) (by decide) (by decide) rfl rfl rfl (fun τ2 hT2 _ hs2 => ?_)
  have hm2 : τ2.2.1 = am_up τ1.2.1 115 2 (τ1.2.1 62 2) := by rw [hs2]
  refine kr_aload_n 0 rd_d_X8_copyFrom_19 rfl ?_
  refine kr_aload_n 1 rd_d_X8_copyFrom_20 rfl ?_
  refine kr_getf G.1 (rd_FL rd_k_X8_copyFrom_21).1 rd_d_X8_copyFrom_21 (hT2.1 62 (.inl 8) rfl) (v := .int (τ2.2.1 62 3)) (by unfold am_fa; rw [(rd_FL rd_k_X8_copyFrom_21).2]; rfl) ?_
  refine ax_putF G (lo := 0) (hi := 1000) hT2 (σ := τ2) (ax_F0 0 1000 τ2) rd_d_X8_copyFrom_24 rd_k_X8_copyFrom_24 (hT2.1 115 (.inl 8) rfl) (by decide) (by decide) rfl rfl rfl (fun τ3 hT3 _ hs3 => ?_)
  have hm3 : τ3.2.1 = am_up τ2.2.1 115 3 (τ2.2.1 62 3) := by rw [hs3]
  have hF : ax_F 115 116 σ τ3 := by
    intro o k q
    rw [hm3, am_up_o _ _ (fun e => q ⟨by omega, by omega⟩)]
    rw [hm2, am_up_o _ _ (fun e => q ⟨by omega, by omega⟩)]
    rw [hm1, ax_cp_o (fun e => q ⟨by omega, by omega⟩)]
  exact kr_return rd_d_X8_copyFrom_27 rfl ⟨rfl, hT3, hF⟩
theorem ax_X8_copyFrom_62_99 (G : sx_G0 g L xs z9 hd_C ex_mt) {σ : am_S} (hS : ax_S σ) : am_K g 3 tX8_copyFrom.1 0 0 0 (lv_args 0 [.ref 62, .ref 99]) [] σ (fun r σ' => r = some none ∧ ax_S σ' ∧ ax_F 62 63 σ σ') := by
  refine kr_aload_n 1 rd_d_X8_copyFrom_0 rfl ?_
  refine kr_getf G.1 (rd_FL rd_k_X8_copyFrom_1).1 rd_d_X8_copyFrom_1 (hS.1 99 (.inl 8) rfl) (v := .ref 100) (by unfold am_fa; rw [(rd_FL rd_k_X8_copyFrom_1).2]; exact hS.2 99 0 100 rfl) ?_
  refine kr_aload_n 0 rd_d_X8_copyFrom_4 rfl ?_
  refine kr_getf G.1 (rd_FL rd_k_X8_copyFrom_5).1 rd_d_X8_copyFrom_5 (hS.1 62 (.inl 8) rfl) (v := .ref 63) (by unfold am_fa; rw [(rd_FL rd_k_X8_copyFrom_5).2]; exact hS.2 62 0 63 rfl) ?_
  refine rd_callS G (T2 := tX11_copyRow) rfl rd_d_X8_copyFrom_8 rd_k_X8_copyFrom_8 rfl rfl (as := [.ref 100, .ref 63]) (st := []) rfl (Nat.le_of_ble_eq_true rfl) rfl (by decide) (d1 := 2) (by decide) (fun _ h => by cases h.1) (ax_copyRow G (n := 40) (by decide) (by decide) (hS.1 100 (.inr (.int, 40)) rfl) (hS.1 63 (.inr (.int, 40)) rfl)) ?_
  intro v1 τ1 ⟨hv1, hs1⟩
  cases hv1
  have hT1 : ax_S τ1 := by rw [hs1]; exact hS
  have hm1 : τ1.2.1 = ax_cp σ.2.1 63 100 40 := by rw [hs1]
  refine kr_aload_n 0 rd_d_X8_copyFrom_11 rfl ?_
  refine kr_aload_n 1 rd_d_X8_copyFrom_12 rfl ?_
  refine kr_getf G.1 (rd_FL rd_k_X8_copyFrom_13).1 rd_d_X8_copyFrom_13 (hT1.1 99 (.inl 8) rfl) (v := .int (τ1.2.1 99 2)) (by unfold am_fa; rw [(rd_FL rd_k_X8_copyFrom_13).2]; rfl) ?_
  refine ax_putF G (lo := 0) (hi := 1000) hT1 (σ := τ1) (ax_F0 0 1000 τ1) rd_d_X8_copyFrom_16 rd_k_X8_copyFrom_16 (hT1.1 62 (.inl 8) rfl) (by decide) (by decide) rfl rfl rfl (fun τ2 hT2 _ hs2 => ?_)
  have hm2 : τ2.2.1 = am_up τ1.2.1 62 2 (τ1.2.1 99 2) := by rw [hs2]
  refine kr_aload_n 0 rd_d_X8_copyFrom_19 rfl ?_
  refine kr_aload_n 1 rd_d_X8_copyFrom_20 rfl ?_
  refine kr_getf G.1 (rd_FL rd_k_X8_copyFrom_21).1 rd_d_X8_copyFrom_21 (hT2.1 99 (.inl 8) rfl) (v := .int (τ2.2.1 99 3)) (by unfold am_fa; rw [(rd_FL rd_k_X8_copyFrom_21).2]; rfl) ?_
  refine ax_putF G (lo := 0) (hi := 1000) hT2 (σ := τ2) (ax_F0 0 1000 τ2) rd_d_X8_copyFrom_24 rd_k_X8_copyFrom_24 (hT2.1 62 (.inl 8) rfl) (by decide) (by decide) rfl rfl rfl (fun τ3 hT3 _ hs3 => ?_)
  have hm3 : τ3.2.1 = am_up τ2.2.1 62 3 (τ2.2.1 99 3) := by rw [hs3]
  have hF : ax_F 62 63 σ τ3 := by
    intro o k q
    rw [hm3, am_up_o _ _ (fun e => q ⟨by omega, by omega⟩)]
    rw [hm2, am_up_o _ _ (fun e => q ⟨by omega, by omega⟩)]
    rw [hm1, ax_cp_o (fun e => q ⟨by omega, by omega⟩)]
  exact kr_return rd_d_X8_copyFrom_27 rfl ⟨rfl, hT3, hF⟩
theorem ax_X8_copyFrom_62_115 (G : sx_G0 g L xs z9 hd_C ex_mt) {σ : am_S} (hS : ax_S σ) : am_K g 3 tX8_copyFrom.1 0 0 0 (lv_args 0 [.ref 62, .ref 115]) [] σ (fun r σ' => r = some none ∧ ax_S σ' ∧ ax_F 62 63 σ σ') := by
  refine kr_aload_n 1 rd_d_X8_copyFrom_0 rfl ?_
  refine kr_getf G.1 (rd_FL rd_k_X8_copyFrom_1).1 rd_d_X8_copyFrom_1 (hS.1 115 (.inl 8) rfl) (v := .ref 116) (by unfold am_fa; rw [(rd_FL rd_k_X8_copyFrom_1).2]; exact hS.2 115 0 116 rfl) ?_
  refine kr_aload_n 0 rd_d_X8_copyFrom_4 rfl ?_
  refine kr_getf G.1 (rd_FL rd_k_X8_copyFrom_5).1 rd_d_X8_copyFrom_5 (hS.1 62 (.inl 8) rfl) (v := .ref 63) (by unfold am_fa; rw [(rd_FL rd_k_X8_copyFrom_5).2]; exact hS.2 62 0 63 rfl) ?_
  refine rd_callS G (T2 := tX11_copyRow) rfl rd_d_X8_copyFrom_8 rd_k_X8_copyFrom_8 rfl rfl (as := [.ref 116, .ref 63]) (st := []) rfl (Nat.le_of_ble_eq_true rfl) rfl (by decide) (d1 := 2) (by decide) (fun _ h => by cases h.1) (ax_copyRow G (n := 40) (by decide) (by decide) (hS.1 116 (.inr (.int, 40)) rfl) (hS.1 63 (.inr (.int, 40)) rfl)) ?_
  intro v1 τ1 ⟨hv1, hs1⟩
  cases hv1
  have hT1 : ax_S τ1 := by rw [hs1]; exact hS
  have hm1 : τ1.2.1 = ax_cp σ.2.1 63 116 40 := by rw [hs1]
  refine kr_aload_n 0 rd_d_X8_copyFrom_11 rfl ?_
  refine kr_aload_n 1 rd_d_X8_copyFrom_12 rfl ?_
  refine kr_getf G.1 (rd_FL rd_k_X8_copyFrom_13).1 rd_d_X8_copyFrom_13 (hT1.1 115 (.inl 8) rfl) (v := .int (τ1.2.1 115 2)) (by unfold am_fa; rw [(rd_FL rd_k_X8_copyFrom_13).2]; rfl) ?_
  refine ax_putF G (lo := 0) (hi := 1000) hT1 (σ := τ1) (ax_F0 0 1000 τ1) rd_d_X8_copyFrom_16 rd_k_X8_copyFrom_16 (hT1.1 62 (.inl 8) rfl) (by decide) (by decide) rfl rfl rfl (fun τ2 hT2 _ hs2 => ?_)
  have hm2 : τ2.2.1 = am_up τ1.2.1 62 2 (τ1.2.1 115 2) := by rw [hs2]
  refine kr_aload_n 0 rd_d_X8_copyFrom_19 rfl ?_
  refine kr_aload_n 1 rd_d_X8_copyFrom_20 rfl ?_
  refine kr_getf G.1 (rd_FL rd_k_X8_copyFrom_21).1 rd_d_X8_copyFrom_21 (hT2.1 115 (.inl 8) rfl) (v := .int (τ2.2.1 115 3)) (by unfold am_fa; rw [(rd_FL rd_k_X8_copyFrom_21).2]; rfl) ?_
  refine ax_putF G (lo := 0) (hi := 1000) hT2 (σ := τ2) (ax_F0 0 1000 τ2) rd_d_X8_copyFrom_24 rd_k_X8_copyFrom_24 (hT2.1 62 (.inl 8) rfl) (by decide) (by decide) rfl rfl rfl (fun τ3 hT3 _ hs3 => ?_)
  have hm3 : τ3.2.1 = am_up τ2.2.1 62 3 (τ2.2.1 115 3) := by rw [hs3]
  have hF : ax_F 62 63 σ τ3 := by
    intro o k q
    rw [hm3, am_up_o _ _ (fun e => q ⟨by omega, by omega⟩)]
    rw [hm2, am_up_o _ _ (fun e => q ⟨by omega, by omega⟩)]
    rw [hm1, ax_cp_o (fun e => q ⟨by omega, by omega⟩)]
  exact kr_return rd_d_X8_copyFrom_27 rfl ⟨rfl, hT3, hF⟩
theorem ax_X3_clear (G : sx_G0 g L xs z9 hd_C ex_mt) {σ : am_S} (hS : ax_S σ) : am_K g 1 tX3_clear.1 0 0 0 (lv_args 0 [.ref 28]) [] σ (fun r σ' => r = some none ∧ ax_S σ' ∧ ax_F 28 28 σ σ') := by
  refine kr_aload_n 0 rd_d_X3_clear_0 rfl ?_
  refine kr_iconst (v := 0) rd_d_X3_clear_1 (by decide) ?_
  refine ax_putF G hS (ax_F0 28 28 σ) rd_d_X3_clear_2 rd_k_X3_clear_2 (hS.1 28 (.inl 3) rfl) (by decide) (by decide) rfl rfl rfl (fun τ1 hT1 hF1 _ => ?_)
  refine kr_aload_n 0 rd_d_X3_clear_5 rfl ?_
  refine kr_iconst (v := 0) rd_d_X3_clear_6 (by decide) ?_
  refine ax_putF G hT1 hF1 rd_d_X3_clear_7 rd_k_X3_clear_7 (hT1.1 28 (.inl 3) rfl) (by decide) (by decide) rfl rfl rfl (fun τ2 hT2 hF2 _ => ?_)
  exact kr_return rd_d_X3_clear_10 rfl ⟨rfl, hT2, hF2⟩
theorem ax_X4_forget (G : sx_G0 g L xs z9 hd_C ex_mt) {σ : am_S} (hS : ax_S σ) : am_K g 1 tX4_forget.1 0 0 0 (lv_args 0 [.ref 68]) [] σ (fun r σ' => r = some none ∧ ax_S σ' ∧ ax_F 68 68 σ σ') := by
  refine kr_aload_n 0 rd_d_X4_forget_0 rfl ?_
  refine kr_iconst (v := 0) rd_d_X4_forget_1 (by decide) ?_
  refine ax_putF G hS (ax_F0 68 68 σ) rd_d_X4_forget_2 rd_k_X4_forget_2 (hS.1 68 (.inl 4) rfl) (by decide) (by decide) rfl rfl rfl (fun τ1 hT1 hF1 _ => ?_)
  refine kr_aload_n 0 rd_d_X4_forget_5 rfl ?_
  refine kr_iconst (v := 0) rd_d_X4_forget_6 (by decide) ?_
  refine ax_putF G hT1 hF1 rd_d_X4_forget_7 rd_k_X4_forget_7 (hT1.1 68 (.inl 4) rfl) (by decide) (by decide) rfl rfl rfl (fun τ2 hT2 hF2 _ => ?_)
  refine kr_aload_n 0 rd_d_X4_forget_10 rfl ?_
  refine kr_iconst (v := 0) rd_d_X4_forget_11 (by decide) ?_
  refine ax_putF G hT2 hF2 rd_d_X4_forget_12 rd_k_X4_forget_12 (hT2.1 68 (.inl 4) rfl) (by decide) (by decide) rfl rfl rfl (fun τ3 hT3 hF3 _ => ?_)
  exact kr_return rd_d_X4_forget_15 rfl ⟨rfl, hT3, hF3⟩
theorem ax_forget (G : sx_G0 g L xs z9 hd_C ex_mt) {σ : am_S} (hS : ax_S σ) : am_K g 1 tX4_forget.1 0 0 0 (lv_args 0 [.ref 68]) [] σ (fun r σ' => r = some none ∧ ax_S σ' ∧ ax_F 68 68 σ σ' ∧ σ'.2.1 68 17 = 0 ∧ σ'.2.1 68 18 = 0 ∧ σ'.2.1 68 19 = 0) := by
  refine kr_aload_n 0 rd_d_X4_forget_0 rfl ?_
  refine kr_iconst (v := 0) rd_d_X4_forget_1 (by decide) ?_
  refine ax_putF G hS (ax_F0 68 68 σ) rd_d_X4_forget_2 rd_k_X4_forget_2 (hS.1 68 (.inl 4) rfl) (by decide) (by decide) rfl rfl rfl (fun τ1 hT1 hF1 hs1 => ?_)
  refine kr_aload_n 0 rd_d_X4_forget_5 rfl ?_
  refine kr_iconst (v := 0) rd_d_X4_forget_6 (by decide) ?_
  refine ax_putF G hT1 hF1 rd_d_X4_forget_7 rd_k_X4_forget_7 (hT1.1 68 (.inl 4) rfl) (by decide) (by decide) rfl rfl rfl (fun τ2 hT2 hF2 hs2 => ?_)
  refine kr_aload_n 0 rd_d_X4_forget_10 rfl ?_
  refine kr_iconst (v := 0) rd_d_X4_forget_11 (by decide) ?_
  refine ax_putF G hT2 hF2 rd_d_X4_forget_12 rd_k_X4_forget_12 (hT2.1 68 (.inl 4) rfl) (by decide) (by decide) rfl rfl rfl (fun τ3 hT3 hF3 hs3 => ?_)
  have z17 : τ3.2.1 68 17 = 0 := by
    rw [hs3]; show am_up τ2.2.1 68 19 0 68 17 = 0; rw [am_up_n _ _ (by decide)]
    rw [hs2]; show am_up τ1.2.1 68 18 0 68 17 = 0; rw [am_up_n _ _ (by decide)]
    rw [hs1]; show am_up σ.2.1 68 17 0 68 17 = 0; exact am_up_s _ _ _ _
  have z18 : τ3.2.1 68 18 = 0 := by
    rw [hs3]; show am_up τ2.2.1 68 19 0 68 18 = 0; rw [am_up_n _ _ (by decide)]
    rw [hs2]; show am_up τ1.2.1 68 18 0 68 18 = 0; exact am_up_s _ _ _ _
  have z19 : τ3.2.1 68 19 = 0 := by
    rw [hs3]; show am_up τ2.2.1 68 19 0 68 19 = 0; exact am_up_s _ _ _ _
  exact kr_return rd_d_X4_forget_15 rfl ⟨rfl, hT3, hF3, z17, z18, z19⟩
theorem ax_X1_keep_86 (G : sx_G0 g L xs z9 hd_C ex_mt) {σ : am_S} (hS : ax_S σ) : am_K g 4 tX1_keep.1 0 0 0 (lv_args 0 [.ref 86, .ref 4, .ref 20, .ref 62]) [] σ (fun r σ' => r = some none ∧ ax_S σ' ∧ ax_F 86 101 σ σ' ∧ ax_Q 87 4 σ σ' ∧ σ'.2.1 86 3 = 1) := by
  refine kr_aload_n 0 rd_d_X1_keep_0 rfl ?_
  refine kr_getf G.1 (rd_FL rd_k_X1_keep_1).1 rd_d_X1_keep_1 (hS.1 86 (.inl 1) rfl) (v := .ref 87) (by unfold am_fa; rw [(rd_FL rd_k_X1_keep_1).2]; exact hS.2 86 0 87 rfl) ?_
  refine kr_aload_n 1 rd_d_X1_keep_4 rfl ?_
  refine rd_call G (T2 := tX9_copyFrom) rfl rd_d_X1_keep_5 rd_k_X1_keep_5 rfl (hS.1 87 (.inl 9) rfl) (as := [.ref 4]) (st := []) rfl (Nat.le_of_ble_eq_true rfl) rfl (by decide) (d1 := 3) (by decide) (fun _ h => by cases h.1) (ax_X9_copyFrom_87_4 G hS) ?_
  intro v1 τ1 ⟨hv1, hT1, hF1, hQ1⟩
  cases hv1
  refine kr_aload_n 0 rd_d_X1_keep_8 rfl ?_
  refine kr_getf G.1 (rd_FL rd_k_X1_keep_9).1 rd_d_X1_keep_9 (hT1.1 86 (.inl 1) rfl) (v := .ref 95) (by unfold am_fa; rw [(rd_FL rd_k_X1_keep_9).2]; exact hT1.2 86 1 95 rfl) ?_
  refine kr_aload_n 2 rd_d_X1_keep_12 rfl ?_
  refine rd_call G (T2 := tX7_copyFrom) rfl rd_d_X1_keep_13 rd_k_X1_keep_13 rfl (hT1.1 95 (.inl 7) rfl) (as := [.ref 20]) (st := []) rfl (Nat.le_of_ble_eq_true rfl) rfl (by decide) (d1 := 3) (by decide) (fun _ h => by cases h.1) (ax_X7_copyFrom_95_20 G hT1) ?_
  intro v2 τ2 ⟨hv2, hT2, hF2⟩
  cases hv2
  refine kr_aload_n 0 rd_d_X1_keep_16 rfl ?_
  refine kr_getf G.1 (rd_FL rd_k_X1_keep_17).1 rd_d_X1_keep_17 (hT2.1 86 (.inl 1) rfl) (v := .ref 99) (by unfold am_fa; rw [(rd_FL rd_k_X1_keep_17).2]; exact hT2.2 86 2 99 rfl) ?_
  refine kr_aload_n 3 rd_d_X1_keep_20 rfl ?_
  refine rd_call G (T2 := tX8_copyFrom) rfl rd_d_X1_keep_21 rd_k_X1_keep_21 rfl (hT2.1 99 (.inl 8) rfl) (as := [.ref 62]) (st := []) rfl (Nat.le_of_ble_eq_true rfl) rfl (by decide) (d1 := 3) (by decide) (fun _ h => by cases h.1) (ax_X8_copyFrom_99_62 G hT2) ?_
  intro v3 τ3 ⟨hv3, hT3, hF3⟩
  cases hv3
  have hF := ax_Fcat (ax_Fcat (ax_Fcat (ax_F0 86 101 σ) hF1 (by decide) (by decide)) hF2 (by decide) (by decide)) hF3 (by decide) (by decide)
  refine kr_aload_n 0 rd_d_X1_keep_24 rfl ?_
  refine kr_iconst (v := 1) rd_d_X1_keep_25 (by decide) ?_
  refine ax_putF G hT3 hF rd_d_X1_keep_26 rd_k_X1_keep_26 (hT3.1 86 (.inl 1) rfl) (by decide) (by decide) rfl rfl rfl (fun τ4 hT4 hF4 hs4 => ?_)
  have hF5 : ax_F 86 86 τ3 τ4 := fun o k q => by rw [hs4]; exact am_up_o _ _ (fun e => q ⟨by omega, by omega⟩)
  refine kr_return rd_d_X1_keep_29 rfl ⟨rfl, hT4, hF4, ax_Qf (ax_Qf (ax_Qf hQ1 hF2 (by decide)) hF3 (by decide)) hF5 (by decide), ?_⟩
  rw [hs4]
  show am_up τ3.2.1 86 3 1 86 3 = 1
  exact am_up_s _ _ _ _
theorem ax_X1_keep_102 (G : sx_G0 g L xs z9 hd_C ex_mt) {σ : am_S} (hS : ax_S σ) : am_K g 4 tX1_keep.1 0 0 0 (lv_args 0 [.ref 102, .ref 4, .ref 20, .ref 62]) [] σ (fun r σ' => r = some none ∧ ax_S σ' ∧ ax_F 102 117 σ σ' ∧ ax_Q 103 4 σ σ' ∧ σ'.2.1 102 3 = 1) := by
  refine kr_aload_n 0 rd_d_X1_keep_0 rfl ?_
  refine kr_getf G.1 (rd_FL rd_k_X1_keep_1).1 rd_d_X1_keep_1 (hS.1 102 (.inl 1) rfl) (v := .ref 103) (by unfold am_fa; rw [(rd_FL rd_k_X1_keep_1).2]; exact hS.2 102 0 103 rfl) ?_
  refine kr_aload_n 1 rd_d_X1_keep_4 rfl ?_
  refine rd_call G (T2 := tX9_copyFrom) rfl rd_d_X1_keep_5 rd_k_X1_keep_5 rfl (hS.1 103 (.inl 9) rfl) (as := [.ref 4]) (st := []) rfl (Nat.le_of_ble_eq_true rfl) rfl (by decide) (d1 := 3) (by decide) (fun _ h => by cases h.1) (ax_X9_copyFrom_103_4 G hS) ?_
  intro v1 τ1 ⟨hv1, hT1, hF1, hQ1⟩
  cases hv1
  refine kr_aload_n 0 rd_d_X1_keep_8 rfl ?_
  refine kr_getf G.1 (rd_FL rd_k_X1_keep_9).1 rd_d_X1_keep_9 (hT1.1 102 (.inl 1) rfl) (v := .ref 111) (by unfold am_fa; rw [(rd_FL rd_k_X1_keep_9).2]; exact hT1.2 102 1 111 rfl) ?_
  refine kr_aload_n 2 rd_d_X1_keep_12 rfl ?_
  refine rd_call G (T2 := tX7_copyFrom) rfl rd_d_X1_keep_13 rd_k_X1_keep_13 rfl (hT1.1 111 (.inl 7) rfl) (as := [.ref 20]) (st := []) rfl (Nat.le_of_ble_eq_true rfl) rfl (by decide) (d1 := 3) (by decide) (fun _ h => by cases h.1) (ax_X7_copyFrom_111_20 G hT1) ?_
  intro v2 τ2 ⟨hv2, hT2, hF2⟩
  cases hv2
  refine kr_aload_n 0 rd_d_X1_keep_16 rfl ?_
  refine kr_getf G.1 (rd_FL rd_k_X1_keep_17).1 rd_d_X1_keep_17 (hT2.1 102 (.inl 1) rfl) (v := .ref 115) (by unfold am_fa; rw [(rd_FL rd_k_X1_keep_17).2]; exact hT2.2 102 2 115 rfl) ?_
  refine kr_aload_n 3 rd_d_X1_keep_20 rfl ?_
  refine rd_call G (T2 := tX8_copyFrom) rfl rd_d_X1_keep_21 rd_k_X1_keep_21 rfl (hT2.1 115 (.inl 8) rfl) (as := [.ref 62]) (st := []) rfl (Nat.le_of_ble_eq_true rfl) rfl (by decide) (d1 := 3) (by decide) (fun _ h => by cases h.1) (ax_X8_copyFrom_115_62 G hT2) ?_
  intro v3 τ3 ⟨hv3, hT3, hF3⟩
  cases hv3
  have hF := ax_Fcat (ax_Fcat (ax_Fcat (ax_F0 102 117 σ) hF1 (by decide) (by decide)) hF2 (by decide) (by decide)) hF3 (by decide) (by decide)
  refine kr_aload_n 0 rd_d_X1_keep_24 rfl ?_
  refine kr_iconst (v := 1) rd_d_X1_keep_25 (by decide) ?_
  refine ax_putF G hT3 hF rd_d_X1_keep_26 rd_k_X1_keep_26 (hT3.1 102 (.inl 1) rfl) (by decide) (by decide) rfl rfl rfl (fun τ4 hT4 hF4 hs4 => ?_)
  have hF5 : ax_F 102 102 τ3 τ4 := fun o k q => by rw [hs4]; exact am_up_o _ _ (fun e => q ⟨by omega, by omega⟩)
  refine kr_return rd_d_X1_keep_29 rfl ⟨rfl, hT4, hF4, ax_Qf (ax_Qf (ax_Qf hQ1 hF2 (by decide)) hF3 (by decide)) hF5 (by decide), ?_⟩
  rw [hs4]
  show am_up τ3.2.1 102 3 1 102 3 = 1
  exact am_up_s _ _ _ _
theorem ax_imageAt_0 (G : sx_G0 g L xs z9 hd_C ex_mt) {σ : am_S} (hS : ax_S σ) : am_K g 1 tX11_imageAt.1 0 0 0 (lv_args 0 [.ref 0, .int 0]) [] σ (fun r σ' => r = some (some (.ref 86)) ∧ σ' = σ) := by
  refine kr_iload_n 1 rd_d_X11_imageAt_0 rfl ?_
  refine kr_if_ne (tgt := 11) rd_d_X11_imageAt_1 rfl (fun h => absurd rfl h) (fun _ => ?_)
  refine kr_aload_n 0 rd_d_X11_imageAt_4 rfl ?_
  refine kr_getf G.1 (rd_FL rd_k_X11_imageAt_5).1 rd_d_X11_imageAt_5 (hS.1 0 (.inl 11) rfl) (v := .ref 86) (by unfold am_fa; rw [(rd_FL rd_k_X11_imageAt_5).2]; exact hS.2 0 14 86 rfl) ?_
  refine kr_goto (tgt := 15) rd_d_X11_imageAt_8 rfl ?_
  exact kr_areturn rd_d_X11_imageAt_15 rfl ⟨rfl, rfl⟩
theorem ax_imageAt_1 (G : sx_G0 g L xs z9 hd_C ex_mt) {σ : am_S} (hS : ax_S σ) : am_K g 1 tX11_imageAt.1 0 0 0 (lv_args 0 [.ref 0, .int 1]) [] σ (fun r σ' => r = some (some (.ref 102)) ∧ σ' = σ) := by
  refine kr_iload_n 1 rd_d_X11_imageAt_0 rfl ?_
  refine kr_if_ne (tgt := 11) rd_d_X11_imageAt_1 rfl (fun _ => ?_) (fun h => absurd h (by decide))
  refine kr_aload_n 0 rd_d_X11_imageAt_11 rfl ?_
  refine kr_getf G.1 (rd_FL rd_k_X11_imageAt_12).1 rd_d_X11_imageAt_12 (hS.1 0 (.inl 11) rfl) (v := .ref 102) (by unfold am_fa; rw [(rd_FL rd_k_X11_imageAt_12).2]; exact hS.2 0 15 102 rfl) ?_
  exact kr_areturn rd_d_X11_imageAt_15 rfl ⟨rfl, rfl⟩
theorem ax_imgX_0 (G : sx_G0 g L xs z9 hd_C ex_mt) {σ : am_S} (hS : ax_S σ) : am_K g 5 tX11_image.1 0 0 0 (lv_args 0 [.ref 0, .int 0]) [] σ (fun r σ' => r = some (some (.int 1)) ∧ ax_S σ' ∧ ax_F 86 101 σ σ' ∧ ax_Q 87 4 σ σ' ∧ σ'.2.1 86 3 = 1) := by
  refine kr_iload_n 1 rd_d_X11_image_0 rfl ?_
  refine kr_if_eq (tgt := 11) rd_d_X11_image_1 rfl (fun _ => ?_) (fun h => absurd rfl h)
  refine kr_aload_n 0 rd_d_X11_image_11 rfl ?_
  refine kr_iload_n 1 rd_d_X11_image_12 rfl ?_
  refine rd_call G (T2 := tX11_imageAt) rfl rd_d_X11_image_13 rd_k_X11_image_13 rfl (hS.1 0 (.inl 11) rfl) (as := [.int 0]) (st := []) rfl (Nat.le_of_ble_eq_true rfl) rfl (by decide) (d1 := 1) (by decide) (fun _ h => by cases h.1) (ax_imageAt_0 G hS) ?_
  intro v0 τ0 ⟨hv0, hs0⟩
  cases hv0
  rw [hs0]
  refine kr_aload_n 0 rd_d_X11_image_16 rfl ?_
  refine kr_getf G.1 (rd_FL rd_k_X11_image_17).1 rd_d_X11_image_17 (hS.1 0 (.inl 11) rfl) (v := .ref 4) (by unfold am_fa; rw [(rd_FL rd_k_X11_image_17).2]; exact hS.2 0 2 4 rfl) ?_
  refine kr_aload_n 0 rd_d_X11_image_20 rfl ?_
  refine kr_getf G.1 (rd_FL rd_k_X11_image_21).1 rd_d_X11_image_21 (hS.1 0 (.inl 11) rfl) (v := .ref 20) (by unfold am_fa; rw [(rd_FL rd_k_X11_image_21).2]; exact hS.2 0 4 20 rfl) ?_
  refine kr_aload_n 0 rd_d_X11_image_24 rfl ?_
  refine kr_getf G.1 (rd_FL rd_k_X11_image_25).1 rd_d_X11_image_25 (hS.1 0 (.inl 11) rfl) (v := .ref 62) (by unfold am_fa; rw [(rd_FL rd_k_X11_image_25).2]; exact hS.2 0 7 62 rfl) ?_
  refine rd_call G (T2 := tX1_keep) rfl rd_d_X11_image_28 rd_k_X11_image_28 rfl (hS.1 86 (.inl 1) rfl) (as := [.ref 4, .ref 20, .ref 62]) (st := []) rfl (Nat.le_of_ble_eq_true rfl) rfl (by decide) (d1 := 4) (by decide) (fun _ h => by cases h.1) (ax_X1_keep_86 G hS) ?_
  intro v1 τ1 ⟨hv1, hT1, hF1, hQ1, hh1⟩
  cases hv1
  refine kr_iconst (v := 1) rd_d_X11_image_31 (by decide) ?_
  exact kr_ireturn rd_d_X11_image_32 (ty := .boolean) rfl rfl ⟨rfl, hT1, hF1, hQ1, hh1⟩
theorem ax_resX_0 (G : sx_G0 g L xs z9 hd_C ex_mt) {σ : am_S} (hS : ax_S σ) : am_K g 5 tX11_restore.1 0 0 0 (lv_args 0 [.ref 0, .int 0]) [] σ (fun r σ' => ax_S σ' ∧ ((r = some (some (.int 1)) ∧ ¬ σ.2.1 86 3 = 0 ∧ ax_F 4 68 σ σ' ∧ ax_Q 4 87 σ σ' ∧ σ'.2.1 68 17 = 0 ∧ σ'.2.1 68 18 = 0 ∧ σ'.2.1 68 19 = 0) ∨ (r = some (some (.int 0)) ∧ σ.2.1 86 3 = 0 ∧ σ' = σ))) := by
  refine kr_iload_n 1 rd_d_X11_restore_0 rfl ?_
  refine kr_if_eq (tgt := 11) rd_d_X11_restore_1 rfl (fun _ => ?_) (fun h => absurd rfl h)
  refine kr_aload_n 0 rd_d_X11_restore_11 rfl ?_
  refine kr_iload_n 1 rd_d_X11_restore_12 rfl ?_
  refine rd_call G (T2 := tX11_imageAt) rfl rd_d_X11_restore_13 rd_k_X11_restore_13 rfl (hS.1 0 (.inl 11) rfl) (as := [.int 0]) (st := []) rfl (Nat.le_of_ble_eq_true rfl) rfl (by decide) (d1 := 1) (by decide) (fun _ h => by cases h.1) (ax_imageAt_0 G hS) ?_
  intro v0 τ0 ⟨hv0, hs0⟩
  cases hv0
  rw [hs0]
  refine kr_astore_n (lv' := [(2, .ref 86), (0, .ref 0), (1, .int 0)]) rd_d_X11_restore_16 (by decide) rfl ?_
  refine kr_aload_n 0 rd_d_X11_restore_17 rfl ?_
  refine kr_getf G.1 (rd_FL rd_k_X11_restore_18).1 rd_d_X11_restore_18 (hS.1 86 (.inl 1) rfl) (v := .int (σ.2.1 86 3)) (by unfold am_fa; rw [(rd_FL rd_k_X11_restore_18).2]; rfl) ?_
  refine kr_if_ne (tgt := 26) rd_d_X11_restore_21 rfl (fun h9 => ?_) (fun h9 => ?_)
  · refine kr_aload_n 1 rd_d_X11_restore_26 rfl ?_
    refine kr_getf G.1 (rd_FL rd_k_X11_restore_27).1 rd_d_X11_restore_27 (hS.1 0 (.inl 11) rfl) (v := .ref 4) (by unfold am_fa; rw [(rd_FL rd_k_X11_restore_27).2]; exact hS.2 0 2 4 rfl) ?_
    refine kr_aload_n 0 rd_d_X11_restore_30 rfl ?_
    refine kr_getf G.1 (rd_FL rd_k_X11_restore_31).1 rd_d_X11_restore_31 (hS.1 86 (.inl 1) rfl) (v := .ref 87) (by unfold am_fa; rw [(rd_FL rd_k_X11_restore_31).2]; exact hS.2 86 0 87 rfl) ?_
    refine rd_call G (T2 := tX9_copyFrom) rfl rd_d_X11_restore_34 rd_k_X11_restore_34 rfl (hS.1 4 (.inl 9) rfl) (as := [.ref 87]) (st := []) rfl (Nat.le_of_ble_eq_true rfl) rfl (by decide) (d1 := 3) (by decide) (fun _ h => by cases h.1) (ax_X9_copyFrom_4_87 G hS) ?_
    intro v1 τ1 ⟨hv1, hT1, hF1, hQ1⟩
    cases hv1
    refine kr_aload_n 1 rd_d_X11_restore_37 rfl ?_
    refine kr_getf G.1 (rd_FL rd_k_X11_restore_38).1 rd_d_X11_restore_38 (hT1.1 0 (.inl 11) rfl) (v := .ref 20) (by unfold am_fa; rw [(rd_FL rd_k_X11_restore_38).2]; exact hT1.2 0 4 20 rfl) ?_
    refine kr_aload_n 0 rd_d_X11_restore_41 rfl ?_
    refine kr_getf G.1 (rd_FL rd_k_X11_restore_42).1 rd_d_X11_restore_42 (hT1.1 86 (.inl 1) rfl) (v := .ref 95) (by unfold am_fa; rw [(rd_FL rd_k_X11_restore_42).2]; exact hT1.2 86 1 95 rfl) ?_
    refine rd_call G (T2 := tX7_copyFrom) rfl rd_d_X11_restore_45 rd_k_X11_restore_45 rfl (hT1.1 20 (.inl 7) rfl) (as := [.ref 95]) (st := []) rfl (Nat.le_of_ble_eq_true rfl) rfl (by decide) (d1 := 3) (by decide) (fun _ h => by cases h.1) (ax_X7_copyFrom_20_95 G hT1) ?_
    intro v2 τ2 ⟨hv2, hT2, hF2⟩
    cases hv2
    refine kr_aload_n 1 rd_d_X11_restore_48 rfl ?_
    refine kr_getf G.1 (rd_FL rd_k_X11_restore_49).1 rd_d_X11_restore_49 (hT2.1 0 (.inl 11) rfl) (v := .ref 62) (by unfold am_fa; rw [(rd_FL rd_k_X11_restore_49).2]; exact hT2.2 0 7 62 rfl) ?_
    refine kr_aload_n 0 rd_d_X11_restore_52 rfl ?_
    refine kr_getf G.1 (rd_FL rd_k_X11_restore_53).1 rd_d_X11_restore_53 (hT2.1 86 (.inl 1) rfl) (v := .ref 99) (by unfold am_fa; rw [(rd_FL rd_k_X11_restore_53).2]; exact hT2.2 86 2 99 rfl) ?_
    refine rd_call G (T2 := tX8_copyFrom) rfl rd_d_X11_restore_56 rd_k_X11_restore_56 rfl (hT2.1 62 (.inl 8) rfl) (as := [.ref 99]) (st := []) rfl (Nat.le_of_ble_eq_true rfl) rfl (by decide) (d1 := 3) (by decide) (fun _ h => by cases h.1) (ax_X8_copyFrom_62_99 G hT2) ?_
    intro v3 τ3 ⟨hv3, hT3, hF3⟩
    cases hv3
    refine kr_aload_n 1 rd_d_X11_restore_59 rfl ?_
    refine kr_getf G.1 (rd_FL rd_k_X11_restore_60).1 rd_d_X11_restore_60 (hT3.1 0 (.inl 11) rfl) (v := .ref 28) (by unfold am_fa; rw [(rd_FL rd_k_X11_restore_60).2]; exact hT3.2 0 6 28 rfl) ?_
    refine rd_call G (T2 := tX3_clear) rfl rd_d_X11_restore_63 rd_k_X11_restore_63 rfl (hT3.1 28 (.inl 3) rfl) (as := []) (st := []) rfl (Nat.le_of_ble_eq_true rfl) rfl (by decide) (d1 := 1) (by decide) (fun _ h => by cases h.1) (ax_X3_clear G hT3) ?_
    intro v4 τ4 ⟨hv4, hT4, hF4⟩
    cases hv4
    refine kr_aload_n 1 rd_d_X11_restore_66 rfl ?_
    refine kr_getf G.1 (rd_FL rd_k_X11_restore_67).1 rd_d_X11_restore_67 (hT4.1 0 (.inl 11) rfl) (v := .ref 68) (by unfold am_fa; rw [(rd_FL rd_k_X11_restore_67).2]; exact hT4.2 0 9 68 rfl) ?_
    refine rd_call G (T2 := tX4_forget) rfl rd_d_X11_restore_70 rd_k_X11_restore_70 rfl (hT4.1 68 (.inl 4) rfl) (as := []) (st := []) rfl (Nat.le_of_ble_eq_true rfl) rfl (by decide) (d1 := 1) (by decide) (fun _ h => by cases h.1) (ax_forget G hT4) ?_
    intro v5 τ5 ⟨hv5, hT5, hF5, z17, z18, z19⟩
    cases hv5
    refine kr_iconst (v := 1) rd_d_X11_restore_73 (by decide) ?_
    have hF := ax_Fcat (ax_Fcat (ax_Fcat (ax_Fcat (ax_Fcat (ax_F0 4 68 σ) hF1 (by decide) (by decide)) hF2 (by decide) (by decide)) hF3 (by decide) (by decide)) hF4 (by decide) (by decide)) hF5 (by decide) (by decide)
    exact kr_ireturn rd_d_X11_restore_74 (ty := .boolean) rfl rfl ⟨hT5, Or.inl ⟨rfl, h9, hF, ax_Qf (ax_Qf (ax_Qf (ax_Qf hQ1 hF2 (by decide)) hF3 (by decide)) hF4 (by decide)) hF5 (by decide), z17, z18, z19⟩⟩
  · refine kr_iconst (v := 0) rd_d_X11_restore_24 (by decide) ?_
    exact kr_ireturn rd_d_X11_restore_25 (ty := .boolean) rfl rfl ⟨hS, Or.inr ⟨rfl, h9, rfl⟩⟩
theorem ax_imgX_1 (G : sx_G0 g L xs z9 hd_C ex_mt) {σ : am_S} (hS : ax_S σ) : am_K g 5 tX11_image.1 0 0 0 (lv_args 0 [.ref 0, .int 1]) [] σ (fun r σ' => r = some (some (.int 1)) ∧ ax_S σ' ∧ ax_F 102 117 σ σ' ∧ ax_Q 103 4 σ σ' ∧ σ'.2.1 102 3 = 1) := by
  refine kr_iload_n 1 rd_d_X11_image_0 rfl ?_
  refine kr_if_eq (tgt := 11) rd_d_X11_image_1 rfl (fun h => absurd h (by decide)) (fun _ => ?_)
  refine kr_iload_n 1 rd_d_X11_image_4 rfl ?_
  refine kr_iconst (v := 1) rd_d_X11_image_5 (by decide) ?_
  refine kr_icmp_eq (tgt := 11) rd_d_X11_image_6 rfl (fun _ => ?_) (fun h => absurd rfl h)
  refine kr_aload_n 0 rd_d_X11_image_11 rfl ?_
  refine kr_iload_n 1 rd_d_X11_image_12 rfl ?_
  refine rd_call G (T2 := tX11_imageAt) rfl rd_d_X11_image_13 rd_k_X11_image_13 rfl (hS.1 0 (.inl 11) rfl) (as := [.int 1]) (st := []) rfl (Nat.le_of_ble_eq_true rfl) rfl (by decide) (d1 := 1) (by decide) (fun _ h => by cases h.1) (ax_imageAt_1 G hS) ?_
  intro v0 τ0 ⟨hv0, hs0⟩
  cases hv0
  rw [hs0]
  refine kr_aload_n 0 rd_d_X11_image_16 rfl ?_
  refine kr_getf G.1 (rd_FL rd_k_X11_image_17).1 rd_d_X11_image_17 (hS.1 0 (.inl 11) rfl) (v := .ref 4) (by unfold am_fa; rw [(rd_FL rd_k_X11_image_17).2]; exact hS.2 0 2 4 rfl) ?_
  refine kr_aload_n 0 rd_d_X11_image_20 rfl ?_
  refine kr_getf G.1 (rd_FL rd_k_X11_image_21).1 rd_d_X11_image_21 (hS.1 0 (.inl 11) rfl) (v := .ref 20) (by unfold am_fa; rw [(rd_FL rd_k_X11_image_21).2]; exact hS.2 0 4 20 rfl) ?_
  refine kr_aload_n 0 rd_d_X11_image_24 rfl ?_
  refine kr_getf G.1 (rd_FL rd_k_X11_image_25).1 rd_d_X11_image_25 (hS.1 0 (.inl 11) rfl) (v := .ref 62) (by unfold am_fa; rw [(rd_FL rd_k_X11_image_25).2]; exact hS.2 0 7 62 rfl) ?_
  refine rd_call G (T2 := tX1_keep) rfl rd_d_X11_image_28 rd_k_X11_image_28 rfl (hS.1 102 (.inl 1) rfl) (as := [.ref 4, .ref 20, .ref 62]) (st := []) rfl (Nat.le_of_ble_eq_true rfl) rfl (by decide) (d1 := 4) (by decide) (fun _ h => by cases h.1) (ax_X1_keep_102 G hS) ?_
  intro v1 τ1 ⟨hv1, hT1, hF1, hQ1, hh1⟩
  cases hv1
  refine kr_iconst (v := 1) rd_d_X11_image_31 (by decide) ?_
  exact kr_ireturn rd_d_X11_image_32 (ty := .boolean) rfl rfl ⟨rfl, hT1, hF1, hQ1, hh1⟩
theorem ax_resX_1 (G : sx_G0 g L xs z9 hd_C ex_mt) {σ : am_S} (hS : ax_S σ) : am_K g 5 tX11_restore.1 0 0 0 (lv_args 0 [.ref 0, .int 1]) [] σ (fun r σ' => ax_S σ' ∧ ((r = some (some (.int 1)) ∧ ¬ σ.2.1 102 3 = 0 ∧ ax_F 4 68 σ σ' ∧ ax_Q 4 103 σ σ' ∧ σ'.2.1 68 17 = 0 ∧ σ'.2.1 68 18 = 0 ∧ σ'.2.1 68 19 = 0) ∨ (r = some (some (.int 0)) ∧ σ.2.1 102 3 = 0 ∧ σ' = σ))) := by
  refine kr_iload_n 1 rd_d_X11_restore_0 rfl ?_
  refine kr_if_eq (tgt := 11) rd_d_X11_restore_1 rfl (fun h => absurd h (by decide)) (fun _ => ?_)
  refine kr_iload_n 1 rd_d_X11_restore_4 rfl ?_
  refine kr_iconst (v := 1) rd_d_X11_restore_5 (by decide) ?_
  refine kr_icmp_eq (tgt := 11) rd_d_X11_restore_6 rfl (fun _ => ?_) (fun h => absurd rfl h)
  refine kr_aload_n 0 rd_d_X11_restore_11 rfl ?_
  refine kr_iload_n 1 rd_d_X11_restore_12 rfl ?_
  refine rd_call G (T2 := tX11_imageAt) rfl rd_d_X11_restore_13 rd_k_X11_restore_13 rfl (hS.1 0 (.inl 11) rfl) (as := [.int 1]) (st := []) rfl (Nat.le_of_ble_eq_true rfl) rfl (by decide) (d1 := 1) (by decide) (fun _ h => by cases h.1) (ax_imageAt_1 G hS) ?_
  intro v0 τ0 ⟨hv0, hs0⟩
  cases hv0
  rw [hs0]
  refine kr_astore_n (lv' := [(2, .ref 102), (0, .ref 0), (1, .int 1)]) rd_d_X11_restore_16 (by decide) rfl ?_
  refine kr_aload_n 0 rd_d_X11_restore_17 rfl ?_
  refine kr_getf G.1 (rd_FL rd_k_X11_restore_18).1 rd_d_X11_restore_18 (hS.1 102 (.inl 1) rfl) (v := .int (σ.2.1 102 3)) (by unfold am_fa; rw [(rd_FL rd_k_X11_restore_18).2]; rfl) ?_
  refine kr_if_ne (tgt := 26) rd_d_X11_restore_21 rfl (fun h9 => ?_) (fun h9 => ?_)
  · refine kr_aload_n 1 rd_d_X11_restore_26 rfl ?_
    refine kr_getf G.1 (rd_FL rd_k_X11_restore_27).1 rd_d_X11_restore_27 (hS.1 0 (.inl 11) rfl) (v := .ref 4) (by unfold am_fa; rw [(rd_FL rd_k_X11_restore_27).2]; exact hS.2 0 2 4 rfl) ?_
    refine kr_aload_n 0 rd_d_X11_restore_30 rfl ?_
    refine kr_getf G.1 (rd_FL rd_k_X11_restore_31).1 rd_d_X11_restore_31 (hS.1 102 (.inl 1) rfl) (v := .ref 103) (by unfold am_fa; rw [(rd_FL rd_k_X11_restore_31).2]; exact hS.2 102 0 103 rfl) ?_
    refine rd_call G (T2 := tX9_copyFrom) rfl rd_d_X11_restore_34 rd_k_X11_restore_34 rfl (hS.1 4 (.inl 9) rfl) (as := [.ref 103]) (st := []) rfl (Nat.le_of_ble_eq_true rfl) rfl (by decide) (d1 := 3) (by decide) (fun _ h => by cases h.1) (ax_X9_copyFrom_4_103 G hS) ?_
    intro v1 τ1 ⟨hv1, hT1, hF1, hQ1⟩
    cases hv1
    refine kr_aload_n 1 rd_d_X11_restore_37 rfl ?_
    refine kr_getf G.1 (rd_FL rd_k_X11_restore_38).1 rd_d_X11_restore_38 (hT1.1 0 (.inl 11) rfl) (v := .ref 20) (by unfold am_fa; rw [(rd_FL rd_k_X11_restore_38).2]; exact hT1.2 0 4 20 rfl) ?_
    refine kr_aload_n 0 rd_d_X11_restore_41 rfl ?_
    refine kr_getf G.1 (rd_FL rd_k_X11_restore_42).1 rd_d_X11_restore_42 (hT1.1 102 (.inl 1) rfl) (v := .ref 111) (by unfold am_fa; rw [(rd_FL rd_k_X11_restore_42).2]; exact hT1.2 102 1 111 rfl) ?_
    refine rd_call G (T2 := tX7_copyFrom) rfl rd_d_X11_restore_45 rd_k_X11_restore_45 rfl (hT1.1 20 (.inl 7) rfl) (as := [.ref 111]) (st := []) rfl (Nat.le_of_ble_eq_true rfl) rfl (by decide) (d1 := 3) (by decide) (fun _ h => by cases h.1) (ax_X7_copyFrom_20_111 G hT1) ?_
    intro v2 τ2 ⟨hv2, hT2, hF2⟩
    cases hv2
    refine kr_aload_n 1 rd_d_X11_restore_48 rfl ?_
    refine kr_getf G.1 (rd_FL rd_k_X11_restore_49).1 rd_d_X11_restore_49 (hT2.1 0 (.inl 11) rfl) (v := .ref 62) (by unfold am_fa; rw [(rd_FL rd_k_X11_restore_49).2]; exact hT2.2 0 7 62 rfl) ?_
    refine kr_aload_n 0 rd_d_X11_restore_52 rfl ?_
    refine kr_getf G.1 (rd_FL rd_k_X11_restore_53).1 rd_d_X11_restore_53 (hT2.1 102 (.inl 1) rfl) (v := .ref 115) (by unfold am_fa; rw [(rd_FL rd_k_X11_restore_53).2]; exact hT2.2 102 2 115 rfl) ?_
    refine rd_call G (T2 := tX8_copyFrom) rfl rd_d_X11_restore_56 rd_k_X11_restore_56 rfl (hT2.1 62 (.inl 8) rfl) (as := [.ref 115]) (st := []) rfl (Nat.le_of_ble_eq_true rfl) rfl (by decide) (d1 := 3) (by decide) (fun _ h => by cases h.1) (ax_X8_copyFrom_62_115 G hT2) ?_
    intro v3 τ3 ⟨hv3, hT3, hF3⟩
    cases hv3
    refine kr_aload_n 1 rd_d_X11_restore_59 rfl ?_
    refine kr_getf G.1 (rd_FL rd_k_X11_restore_60).1 rd_d_X11_restore_60 (hT3.1 0 (.inl 11) rfl) (v := .ref 28) (by unfold am_fa; rw [(rd_FL rd_k_X11_restore_60).2]; exact hT3.2 0 6 28 rfl) ?_
    refine rd_call G (T2 := tX3_clear) rfl rd_d_X11_restore_63 rd_k_X11_restore_63 rfl (hT3.1 28 (.inl 3) rfl) (as := []) (st := []) rfl (Nat.le_of_ble_eq_true rfl) rfl (by decide) (d1 := 1) (by decide) (fun _ h => by cases h.1) (ax_X3_clear G hT3) ?_
    intro v4 τ4 ⟨hv4, hT4, hF4⟩
    cases hv4
    refine kr_aload_n 1 rd_d_X11_restore_66 rfl ?_
    refine kr_getf G.1 (rd_FL rd_k_X11_restore_67).1 rd_d_X11_restore_67 (hT4.1 0 (.inl 11) rfl) (v := .ref 68) (by unfold am_fa; rw [(rd_FL rd_k_X11_restore_67).2]; exact hT4.2 0 9 68 rfl) ?_
    refine rd_call G (T2 := tX4_forget) rfl rd_d_X11_restore_70 rd_k_X11_restore_70 rfl (hT4.1 68 (.inl 4) rfl) (as := []) (st := []) rfl (Nat.le_of_ble_eq_true rfl) rfl (by decide) (d1 := 1) (by decide) (fun _ h => by cases h.1) (ax_forget G hT4) ?_
    intro v5 τ5 ⟨hv5, hT5, hF5, z17, z18, z19⟩
    cases hv5
    refine kr_iconst (v := 1) rd_d_X11_restore_73 (by decide) ?_
    have hF := ax_Fcat (ax_Fcat (ax_Fcat (ax_Fcat (ax_Fcat (ax_F0 4 68 σ) hF1 (by decide) (by decide)) hF2 (by decide) (by decide)) hF3 (by decide) (by decide)) hF4 (by decide) (by decide)) hF5 (by decide) (by decide)
    exact kr_ireturn rd_d_X11_restore_74 (ty := .boolean) rfl rfl ⟨hT5, Or.inl ⟨rfl, h9, hF, ax_Qf (ax_Qf (ax_Qf (ax_Qf hQ1 hF2 (by decide)) hF3 (by decide)) hF4 (by decide)) hF5 (by decide), z17, z18, z19⟩⟩
  · refine kr_iconst (v := 0) rd_d_X11_restore_24 (by decide) ?_
    exact kr_ireturn rd_d_X11_restore_25 (ty := .boolean) rfl rfl ⟨hS, Or.inr ⟨rfl, h9, rfl⟩⟩
end AO
