/-! exact answers, further (rows written by a program) -/
theorem rd_d_X4_sellerGain_0 : decode tX4_sellerGain.1.2.1 0 = .ok (.iload_n 1, 1) := by decide +kernel
theorem rd_d_X4_sellerGain_1 : decode tX4_sellerGain.1.2.1 1 = .ok (.ifCond .gt 5, 3) := by decide +kernel
theorem rd_d_X4_sellerGain_6 : decode tX4_sellerGain.1.2.1 6 = .ok (.aload_n 0, 1) := by decide +kernel
theorem rd_d_X4_sellerGain_7 : decode tX4_sellerGain.1.2.1 7 = .ok (.getfield 46, 3) := by decide +kernel
theorem rd_k_X4_sellerGain_7 : ex_lk ex_mt tX4_sellerGain 7 (.getfield 46) [4, 0, 2, 131083] = true := by decide +kernel
theorem rd_d_X4_sellerGain_10 : decode tX4_sellerGain.1.2.1 10 = .ok (.getfield 76, 3) := by decide +kernel
theorem rd_k_X4_sellerGain_10 : ex_lk ex_mt tX4_sellerGain 10 (.getfield 76) [9, 7, 0, 65657] = true := by decide +kernel
theorem rd_d_X4_sellerGain_13 : decode tX4_sellerGain.1.2.1 13 = .ok (.iload_n 1, 1) := by decide +kernel
theorem rd_d_X4_sellerGain_14 : decode tX4_sellerGain.1.2.1 14 = .ok (.idiv, 1) := by decide +kernel
theorem rd_d_X4_sellerGain_15 : decode tX4_sellerGain.1.2.1 15 = .ok (.istore_n 3, 1) := by decide +kernel
theorem rd_d_X4_sellerGain_16 : decode tX4_sellerGain.1.2.1 16 = .ok (.aload_n 0, 1) := by decide +kernel
theorem rd_d_X4_sellerGain_17 : decode tX4_sellerGain.1.2.1 17 = .ok (.getfield 46, 3) := by decide +kernel
theorem rd_k_X4_sellerGain_17 : ex_lk ex_mt tX4_sellerGain 17 (.getfield 46) [4, 0, 2, 131083] = true := by decide +kernel
theorem rd_d_X4_sellerGain_20 : decode tX4_sellerGain.1.2.1 20 = .ok (.getfield 76, 3) := by decide +kernel
theorem rd_k_X4_sellerGain_20 : ex_lk ex_mt tX4_sellerGain 20 (.getfield 76) [9, 7, 0, 65657] = true := by decide +kernel
theorem rd_d_X4_sellerGain_23 : decode tX4_sellerGain.1.2.1 23 = .ok (.iload_n 1, 1) := by decide +kernel
theorem rd_d_X4_sellerGain_24 : decode tX4_sellerGain.1.2.1 24 = .ok (.irem, 1) := by decide +kernel
theorem rd_d_X4_sellerGain_25 : decode tX4_sellerGain.1.2.1 25 = .ok (.istore 4, 2) := by decide +kernel
theorem rd_d_X4_sellerGain_27 : decode tX4_sellerGain.1.2.1 27 = .ok (.iload_n 2, 1) := by decide +kernel
theorem rd_d_X4_sellerGain_28 : decode tX4_sellerGain.1.2.1 28 = .ok (.iload_n 3, 1) := by decide +kernel
theorem rd_d_X4_sellerGain_29 : decode tX4_sellerGain.1.2.1 29 = .ok (.imul, 1) := by decide +kernel
theorem rd_d_X4_sellerGain_30 : decode tX4_sellerGain.1.2.1 30 = .ok (.iload_n 2, 1) := by decide +kernel
theorem rd_d_X4_sellerGain_31 : decode tX4_sellerGain.1.2.1 31 = .ok (.iload 4, 2) := by decide +kernel
theorem rd_d_X4_sellerGain_33 : decode tX4_sellerGain.1.2.1 33 = .ok (.invokestatic 66, 3) := by decide +kernel
theorem rd_k_X4_sellerGain_33 : ex_lk ex_mt tX4_sellerGain 33 (.invokestatic 66) [1, 1, 262322, 0] = true := by decide +kernel
theorem rd_d_X4_sellerGain_36 : decode tX4_sellerGain.1.2.1 36 = .ok (.iadd, 1) := by decide +kernel
theorem rd_d_X4_sellerGain_37 : decode tX4_sellerGain.1.2.1 37 = .ok (.istore 5, 2) := by decide +kernel
theorem rd_d_X4_sellerGain_39 : decode tX4_sellerGain.1.2.1 39 = .ok (.iload 5, 2) := by decide +kernel
theorem rd_d_X4_sellerGain_41 : decode tX4_sellerGain.1.2.1 41 = .ok (.iload_n 3, 1) := by decide +kernel
theorem rd_d_X4_sellerGain_42 : decode tX4_sellerGain.1.2.1 42 = .ok (.iadd, 1) := by decide +kernel
theorem rd_d_X4_sellerGain_43 : decode tX4_sellerGain.1.2.1 43 = .ok (.iload_n 2, 1) := by decide +kernel
theorem rd_d_X4_sellerGain_44 : decode tX4_sellerGain.1.2.1 44 = .ok (.iload 4, 2) := by decide +kernel
theorem rd_d_X4_sellerGain_46 : decode tX4_sellerGain.1.2.1 46 = .ok (.if_icmp .ge 7, 3) := by decide +kernel
theorem rd_d_X4_sellerGain_49 : decode tX4_sellerGain.1.2.1 49 = .ok (.iconst 0, 1) := by decide +kernel
theorem rd_d_X4_sellerGain_50 : decode tX4_sellerGain.1.2.1 50 = .ok (.goto 4, 3) := by decide +kernel
theorem rd_d_X4_sellerGain_53 : decode tX4_sellerGain.1.2.1 53 = .ok (.iconst 1, 1) := by decide +kernel
theorem rd_d_X4_sellerGain_54 : decode tX4_sellerGain.1.2.1 54 = .ok (.isub, 1) := by decide +kernel
theorem rd_d_X4_sellerGain_55 : decode tX4_sellerGain.1.2.1 55 = .ok (.istore 6, 2) := by decide +kernel
theorem rd_d_X4_sellerGain_57 : decode tX4_sellerGain.1.2.1 57 = .ok (.aload_n 0, 1) := by decide +kernel
theorem rd_d_X4_sellerGain_58 : decode tX4_sellerGain.1.2.1 58 = .ok (.iload 5, 2) := by decide +kernel
theorem rd_d_X4_sellerGain_60 : decode tX4_sellerGain.1.2.1 60 = .ok (.iload 6, 2) := by decide +kernel
theorem rd_d_X4_sellerGain_62 : decode tX4_sellerGain.1.2.1 62 = .ok (.invokevirtual 195, 3) := by decide +kernel
theorem rd_k_X4_sellerGain_62 : ex_lk ex_mt tX4_sellerGain 62 (.invokevirtual 195) [0, 225, 327718] = true := by decide +kernel
theorem rd_d_X4_sellerGain_65 : decode tX4_sellerGain.1.2.1 65 = .ok (.ireturn, 1) := by decide +kernel
theorem rd_d_X9_cost_0 : decode tX9_cost.1.2.1 0 = .ok (.aload_n 0, 1) := by decide +kernel
theorem rd_d_X9_cost_1 : decode tX9_cost.1.2.1 1 = .ok (.getfield 30, 3) := by decide +kernel
theorem rd_k_X9_cost_1 : ex_lk ex_mt tX9_cost 1 (.getfield 30) [9, 6, 2, 65655] = true := by decide +kernel
theorem rd_d_X9_cost_4 : decode tX9_cost.1.2.1 4 = .ok (.bipush 7, 2) := by decide +kernel
theorem rd_d_X9_cost_6 : decode tX9_cost.1.2.1 6 = .ok (.invokestatic 118, 3) := by decide +kernel
theorem rd_k_X9_cost_6 : ex_lk ex_mt tX9_cost 6 (.invokestatic 118) [0, 32, 196745] = true := by decide +kernel
theorem rd_d_X9_cost_9 : decode tX9_cost.1.2.1 9 = .ok (.ireturn, 1) := by decide +kernel
theorem rd_d_X4_allEarn_0 : decode tX4_allEarn.1.2.1 0 = .ok (.iconst 0, 1) := by decide +kernel
theorem rd_d_X4_allEarn_1 : decode tX4_allEarn.1.2.1 1 = .ok (.istore_n 2, 1) := by decide +kernel
theorem rd_d_X4_allEarn_2 : decode tX4_allEarn.1.2.1 2 = .ok (.iload_n 2, 1) := by decide +kernel
theorem rd_d_X4_allEarn_3 : decode tX4_allEarn.1.2.1 3 = .ok (.iload_n 1, 1) := by decide +kernel
theorem rd_d_X4_allEarn_4 : decode tX4_allEarn.1.2.1 4 = .ok (.if_icmp .ge 35, 3) := by decide +kernel
theorem rd_d_X4_allEarn_7 : decode tX4_allEarn.1.2.1 7 = .ok (.aload_n 0, 1) := by decide +kernel
theorem rd_d_X4_allEarn_8 : decode tX4_allEarn.1.2.1 8 = .ok (.iload_n 1, 1) := by decide +kernel
theorem rd_d_X4_allEarn_9 : decode tX4_allEarn.1.2.1 9 = .ok (.iload_n 2, 1) := by decide +kernel
theorem rd_d_X4_allEarn_10 : decode tX4_allEarn.1.2.1 10 = .ok (.invokevirtual 198, 3) := by decide +kernel
theorem rd_k_X4_allEarn_10 : ex_lk ex_mt tX4_allEarn 10 (.invokevirtual 198) [0, 230, 327714] = true := by decide +kernel
theorem rd_d_X4_allEarn_13 : decode tX4_allEarn.1.2.1 13 = .ok (.aload_n 0, 1) := by decide +kernel
theorem rd_d_X4_allEarn_14 : decode tX4_allEarn.1.2.1 14 = .ok (.getfield 46, 3) := by decide +kernel
theorem rd_k_X4_allEarn_14 : ex_lk ex_mt tX4_allEarn 14 (.getfield 46) [4, 0, 2, 131083] = true := by decide +kernel
theorem rd_d_X4_allEarn_17 : decode tX4_allEarn.1.2.1 17 = .ok (.invokevirtual 201, 3) := by decide +kernel
theorem rd_k_X4_allEarn_17 : ex_lk ex_mt tX4_allEarn 17 (.invokevirtual 201) [0, 291, 327732] = true := by decide +kernel
theorem rd_d_X4_allEarn_20 : decode tX4_allEarn.1.2.1 20 = .ok (.aload_n 0, 1) := by decide +kernel
theorem rd_d_X4_allEarn_21 : decode tX4_allEarn.1.2.1 21 = .ok (.getfield 46, 3) := by decide +kernel
theorem rd_k_X4_allEarn_21 : ex_lk ex_mt tX4_allEarn 21 (.getfield 46) [4, 0, 2, 131083] = true := by decide +kernel
theorem rd_d_X4_allEarn_24 : decode tX4_allEarn.1.2.1 24 = .ok (.invokevirtual 204, 3) := by decide +kernel
theorem rd_k_X4_allEarn_24 : ex_lk ex_mt tX4_allEarn 24 (.invokevirtual 204) [0, 312, 327736] = true := by decide +kernel
theorem rd_d_X4_allEarn_27 : decode tX4_allEarn.1.2.1 27 = .ok (.imul, 1) := by decide +kernel
theorem rd_d_X4_allEarn_28 : decode tX4_allEarn.1.2.1 28 = .ok (.if_icmp .ge 5, 3) := by decide +kernel
theorem rd_d_X4_allEarn_31 : decode tX4_allEarn.1.2.1 31 = .ok (.iconst 0, 1) := by decide +kernel
theorem rd_d_X4_allEarn_32 : decode tX4_allEarn.1.2.1 32 = .ok (.ireturn, 1) := by decide +kernel
theorem rd_d_X4_allEarn_33 : decode tX4_allEarn.1.2.1 33 = .ok (.iinc 2 1, 3) := by decide +kernel
theorem rd_d_X4_allEarn_36 : decode tX4_allEarn.1.2.1 36 = .ok (.goto (-34), 3) := by decide +kernel
theorem rd_d_X4_allEarn_39 : decode tX4_allEarn.1.2.1 39 = .ok (.iconst 1, 1) := by decide +kernel
theorem rd_d_X4_allEarn_40 : decode tX4_allEarn.1.2.1 40 = .ok (.ireturn, 1) := by decide +kernel
section AXX
variable {g : am_C} {L : Nat} {xs : Nat → Int32}
/-! sellers, exactly -/
theorem ch_div {a b : Nat} {x y : Int32} (hx : x.toInt = (a : Int)) (hy : y.toInt = (b : Int)) (hb : 1 ≤ b) : (x / y).toInt = ((a / b : Nat) : Int) := by
  rw [sx_divI (by omega) (by omega), hx, hy]
  rfl
theorem ch_rem {a b : Nat} {x y : Int32} (hx : x.toInt = (a : Int)) (hy : y.toInt = (b : Int)) (hb : 1 ≤ b) : (x - x / y * y).toInt = ((a % b : Nat) : Int) := by
  rw [sx_remI (by omega) (by omega), hx, hy, Int.natCast_emod]
theorem ch_gr {a b : Nat} {x y : Int32} (hx : x.toInt = (a : Int)) (hy : y.toInt = (b : Int)) : (ax_f_gr x y).toInt = ((max a b : Nat) : Int) := by
  rw [ax_f_gr]
  split
  · rename_i h
    have := Int32.le_iff_toInt_le.mp h
    omega
  · rename_i h
    have : ¬ x.toInt ≤ y.toInt := fun q => h (Int32.le_iff_toInt_le.mpr q)
    omega
/-- where the rows of the k-th seller begin -/
def pz_W (s : Nat → Int32) : Nat := (s 0).toInt.toNat
def pz_f (s : Nat → Int32) (N K : Nat) : Nat := K * (pz_W s / N) + min K (pz_W s % N)
def pz_sg (s : Nat → Int32) (N K : Nat) : Nat := pz_rg s (pz_f s N K) (pz_f s N (K + 1) - 1)
theorem pz_f1 {s : Nat → Int32} {N K : Nat} (h1 : 1 ≤ N) (h2 : N ≤ pz_W s) (h3 : K < N) : pz_f s N K < pz_f s N (K + 1) ∧ pz_f s N (K + 1) ≤ pz_W s := by
  have hd : 1 ≤ pz_W s / N := (Nat.le_div_iff_mul_le h1).mpr (by omega)
  have hm := Nat.div_add_mod (pz_W s) N
  have hk : (K + 1) * (pz_W s / N) ≤ N * (pz_W s / N) := Nat.mul_le_mul_right _ (by omega)
  have hs := Nat.succ_mul K (pz_W s / N)
  have hs' : (K + 1) * (pz_W s / N) = K * (pz_W s / N) + pz_W s / N := hs
  unfold pz_f
  generalize K * (pz_W s / N) = u at *
  generalize (K + 1) * (pz_W s / N) = v at *
  generalize N * (pz_W s / N) = z at *
  omega
theorem pz_rg_le {s : Nat → Int32} (b : pn_B s) (b6 : pl_B6 s) {A Q : Nat} (h : A ≤ Q) (hQ : (Q : Int) < (s 0).toInt) : pz_rg s A Q ≤ 3079296 := by
  have h10 := b.1.1.2
  obtain ⟨h1, h2⟩ := b6
  have e1 := pn_le b (pl_up (Q - A + 1) A) (fun v hv => by have := pl_up_m _ _ hv; omega) 0 (s 55).toInt.toNat (by omega)
  have e2 := pn_le b (pl_dn (Q - A + 1) Q) (fun v hv => by have := pl_dn_m _ _ hv; omega) 0 (s 55).toInt.toNat (by omega)
  have e3 : (s 55).toInt.toNat * 128304 ≤ 24 * 128304 := Nat.mul_le_mul_right _ (by omega)
  unfold pz_rg
  omega
theorem pz_sg_le {s : Nat → Int32} (b : pn_B s) (b6 : pl_B6 s) {N K : Nat} (h1 : 1 ≤ N) (h2 : N ≤ pz_W s) (h3 : K < N) : pz_sg s N K ≤ 3079296 := by
  obtain ⟨f1, f2⟩ := pz_f1 h1 h2 h3
  have := b.1.1.1
  unfold pz_W at f2
  exact pz_rg_le b b6 (by omega) (by omega)
/-- what a seller must earn -/
def pz_t (s : Nat → Int32) : Int := (s 61 * ax_f_bel s).toInt
/-- whether the first so many of N sellers earn -/
def pz_al (s : Nat → Int32) (N : Nat) : Nat → Bool
  | 0 => true
  | j + 1 => pz_al s N j && decide (pz_t s ≤ (pz_sg s N j : Int))
theorem pz_al_f {s : Nat → Int32} {N j : Nat} (h : pz_al s N j = false) : ∀ i, pz_al s N (j + i) = false := by
  intro i
  induction i with
  | zero => exact h
  | succ i ih =>
    show (pz_al s N (j + i) && _) = false
    rw [ih]
    rfl
/-- the most sellers of whom each one earns -/
def pz_se (s : Nat → Int32) : Nat → Nat
  | 0 => 0
  | n + 1 => if pz_al s (n + 1) (n + 1) then n + 1 else pz_se s n
/-- what the first so many of N earn together -/
def pz_cu (s : Nat → Int32) (N : Nat) : Nat → Nat
  | 0 => 0
  | j + 1 => pz_cu s N j + pz_sg s N j
theorem pz_cu_le {s : Nat → Int32} (b : pn_B s) (b6 : pl_B6 s) {N : Nat} (h1 : 1 ≤ N) (h2 : N ≤ pz_W s) : ∀ j, j ≤ N → pz_cu s N j ≤ j * 3079296 := by
  intro j
  induction j with
  | zero => intro _; exact Nat.le_refl _
  | succ j ih =>
    intro h
    have := ih (by omega)
    have := pz_sg_le b b6 h1 h2 (K := j) (by omega)
    show pz_cu s N j + pz_sg s N j ≤ _
    omega
/-- the least of v 0 .. v n, and the first place that has it -/
def pz_mn (v : Nat → Nat) : Nat → Nat × Nat
  | 0 => (v 0, 0)
  | n + 1 => if v (n + 1) < (pz_mn v n).1 then (v (n + 1), n + 1) else pz_mn v n
def pz_le (s : Nat → Int32) (w : Nat) : Nat := if w = 0 then 0 else pz_rg s 0 (w - 1)
def pz_ri (s : Nat → Int32) (w : Nat) : Nat := if w = pz_W s then 0 else pz_rg s w (pz_W s - 1)
def pz_ap (s : Nat → Int32) (w : Nat) : Nat := (pz_le s w - pz_ri s w) + (pz_ri s w - pz_le s w)
/-- what the loop of border has found among the first j -/
def pz_I (v : Nat → Nat) (j : Nat) (ls fd : Int32) : Prop := (j = 0 ∧ ls.toInt = -1 ∧ fd.toInt = 0) ∨ (∃ k, j = k + 1 ∧ ls.toInt = ((pz_mn v k).1 : Int) ∧ fd.toInt = ((pz_mn v k).2 : Int))
theorem pz_Is {v : Nat → Nat} {j : Nat} {ls fd x w : Int32} (h : pz_I v j ls fd) (ew : w.toInt = (j : Int)) (ex : x.toInt = (v j : Int)) : ((ls.toInt = -1 ∨ x.toInt < ls.toInt) → pz_I v (j + 1) x w) ∧ (¬ (ls.toInt = -1 ∨ x.toInt < ls.toInt) → pz_I v (j + 1) ls fd) := by
  refine ⟨fun q => Or.inr ⟨j, rfl, ?_⟩, fun q => Or.inr ⟨j, rfl, ?_⟩⟩
  · rcases h with ⟨rfl, h1, h2⟩ | ⟨k, rfl, h1, h2⟩
    · exact ⟨ex, ew⟩
    · rw [pz_mn, if_pos (by omega)]
      exact ⟨ex, ew⟩
  · rcases h with ⟨rfl, h1, h2⟩ | ⟨k, rfl, h1, h2⟩
    · exact absurd (Or.inl h1) q
    · rw [pz_mn, if_neg (by omega)]
      exact ⟨h1, h2⟩
theorem pz_gN {s : Nat → Int32} (b : pn_B s) {a c : Int32} {A Q : Nat} (ea : a.toInt = (A : Int)) (ec : c.toInt = (Q : Int)) (h : A ≤ Q) (hQ : (Q : Int) < (s 0).toInt) : pz_g s a c = pz_rg s A Q := by
  have ha : ¬ ax_f_win s a = 0 := ax_winV b.1 ⟨by omega, by omega⟩
  have hc : ¬ ax_f_win s c = 0 := ax_winV b.1 ⟨by omega, by omega⟩
  rw [pz_g, if_neg ha, if_neg hc, if_pos (Int32.le_iff_toInt_le.mpr (by omega)), ea, ec]
  rfl
theorem ax_slX (G : sx_G0 g L xs z9 hd_C ex_mt) {s : Nat → Int32} (b : pn_B s) (bw : pl_W s) (b6 : pl_B6 s) {H : Nat} {σ : am_S} (hS : ax_S σ) (hX : pc_X s σ) (hg : pg_K s H σ.2.1) (hr : pk_r s σ.2.1) {n k : Int32} {N K : Nat} (en : n.toInt = (N : Int)) (ek : k.toInt = (K : Int)) (h1 : 1 ≤ N) (h2 : N ≤ pz_W s) (h3 : K < N) : am_K g 8 tX4_sellerGain.1 0 0 0 (lv_args 0 [.ref 68, .int n, .int k]) [] σ (fun r σ' => (∃ z : Int32, r = some (some (.int z)) ∧ z.toInt = (pz_sg s N K : Int)) ∧ ax_S σ' ∧ (∀ x y, x ≠ 70 → x ≠ 73 → x ≠ 74 → x ≠ 78 → x ≠ 79 → ¬ (x = 68 ∧ y = 15) → σ'.2.1 x y = σ.2.1 x y) ∧ σ'.2.2.1 = σ.2.2.1 ∧ pk_r s σ'.2.1) := by
  have z0 : (0 : Int32).toInt = 0 := rfl
  have z1 : (1 : Int32).toInt = 1 := rfl
  have hn0 : ¬ n = 0 := fun e => by rw [e] at en; omega
  have hs1 := b.1.1.1
  have h10 := b.1.1.2
  have hW : (σ.2.1 4 7).toInt = (pz_W s : Int) := by rw [hX.1.1]; unfold pz_W; omega
  have hW10 : pz_W s ≤ 10 := by unfold pz_W; omega
  obtain ⟨f1, f2⟩ := pz_f1 h1 h2 h3
  have eq := ch_div hW en h1
  have er := ch_rem hW en h1
  have hdl : pz_W s / N ≤ 10 := Nat.le_trans (Nat.div_le_self _ _) hW10
  have hkd : K * (pz_W s / N) ≤ 10 * 10 := Nat.mul_le_mul (by omega) hdl
  have hml := Nat.mod_lt (pz_W s) h1
  have e1 := ch_mul ek eq (A := 10) (B := 10) (by omega) hdl (by decide)
  have e2 := pa_min ek er
  have e3 := ch_add e1 e2 (by omega)
  have e4 := ch_add e3 eq (by omega)
  have efd : pz_f s N K = K * (pz_W s / N) + min K (pz_W s % N) := rfl
  have efs : pz_f s N (K + 1) = K * (pz_W s / N) + pz_W s / N + min (K + 1) (pz_W s % N) := by
    unfold pz_f
    rw [Nat.succ_mul]
  refine kr_iload_n 1 rd_d_X4_sellerGain_0 rfl ?_
  refine kr_if_gt (tgt := 6) rd_d_X4_sellerGain_1 rfl (fun h1 => ?_) (fun h1 => ?_)
  · refine kr_aload_n 0 rd_d_X4_sellerGain_6 rfl ?_
    refine kr_getf G.1 (rd_FL rd_k_X4_sellerGain_7).1 rd_d_X4_sellerGain_7 (hS.1 68 (.inl 4) rfl) (v := .ref 4) (by unfold am_fa; rw [(rd_FL rd_k_X4_sellerGain_7).2]; exact hS.2 68 0 4 rfl) ?_
    refine kr_getf G.1 (rd_FL rd_k_X4_sellerGain_10).1 rd_d_X4_sellerGain_10 (hS.1 4 (.inl 9) rfl) (v := .int (σ.2.1 4 7)) (by unfold am_fa; rw [(rd_FL rd_k_X4_sellerGain_10).2]; rfl) ?_
    refine kr_iload_n 1 rd_d_X4_sellerGain_13 rfl ?_
    refine kr_idiv rd_d_X4_sellerGain_14 hn0 ?_
    refine kr_istore_n (lv' := [(3, .int ((σ.2.1 4 7) / n)), (0, .ref 68), (1, .int n), (2, .int k)]) rd_d_X4_sellerGain_15 (by decide) rfl ?_
    refine kr_aload_n 1 rd_d_X4_sellerGain_16 rfl ?_
    refine kr_getf G.1 (rd_FL rd_k_X4_sellerGain_17).1 rd_d_X4_sellerGain_17 (hS.1 68 (.inl 4) rfl) (v := .ref 4) (by unfold am_fa; rw [(rd_FL rd_k_X4_sellerGain_17).2]; exact hS.2 68 0 4 rfl) ?_
    refine kr_getf G.1 (rd_FL rd_k_X4_sellerGain_20).1 rd_d_X4_sellerGain_20 (hS.1 4 (.inl 9) rfl) (v := .int (σ.2.1 4 7)) (by unfold am_fa; rw [(rd_FL rd_k_X4_sellerGain_20).2]; rfl) ?_
    refine kr_iload_n 2 rd_d_X4_sellerGain_23 rfl ?_
    refine kr_irem rd_d_X4_sellerGain_24 hn0 ?_
    refine kr_istore (lv' := [(4, .int ((σ.2.1 4 7) - (σ.2.1 4 7) / n * n)), (3, .int ((σ.2.1 4 7) / n)), (0, .ref 68), (1, .int n), (2, .int k)]) rd_d_X4_sellerGain_25 (by decide) rfl ?_
    refine kr_iload_n 4 rd_d_X4_sellerGain_27 rfl ?_
    refine kr_iload_n 1 rd_d_X4_sellerGain_28 rfl ?_
    refine kr_imul rd_d_X4_sellerGain_29 ?_
    refine kr_iload_n 4 rd_d_X4_sellerGain_30 rfl ?_
    refine kr_iload 0 rd_d_X4_sellerGain_31 rfl ?_
    refine kr_mmin G.1 (ex_mem_ok (show ex_mem 262322 (Cond.methodLink tX4_sellerGain.1.1.cls 66 Lib.Math.min.name) = true from rd_k_X4_sellerGain_33)) rd_d_X4_sellerGain_33 (by decide) (Nat.le_of_ble_eq_true rfl) ?_
    show am_K g 8 tX4_sellerGain.1 0 0 36 [(4, .int ((σ.2.1 4 7) - (σ.2.1 4 7) / n * n)), (3, .int ((σ.2.1 4 7) / n)), (0, .ref 68), (1, .int n), (2, .int k)] [.int (ax_f_min k ((σ.2.1 4 7) - (σ.2.1 4 7) / n * n)), .int (k * ((σ.2.1 4 7) / n))] σ _
    refine kr_iadd rd_d_X4_sellerGain_36 ?_
    refine kr_istore (lv' := [(5, .int ((k * ((σ.2.1 4 7) / n)) + (ax_f_min k ((σ.2.1 4 7) - (σ.2.1 4 7) / n * n)))), (4, .int ((σ.2.1 4 7) - (σ.2.1 4 7) / n * n)), (3, .int ((σ.2.1 4 7) / n)), (0, .ref 68), (1, .int n), (2, .int k)]) rd_d_X4_sellerGain_37 (by decide) rfl ?_
    refine kr_iload 0 rd_d_X4_sellerGain_39 rfl ?_
    refine kr_iload_n 2 rd_d_X4_sellerGain_41 rfl ?_
    refine kr_iadd rd_d_X4_sellerGain_42 ?_
    refine kr_iload_n 5 rd_d_X4_sellerGain_43 rfl ?_
    refine kr_iload 1 rd_d_X4_sellerGain_44 rfl ?_
    refine kr_icmp_ge (tgt := 53) rd_d_X4_sellerGain_46 rfl (fun h2 => ?_) (fun h2 => ?_)
    · refine kr_iconst (v := 1) rd_d_X4_sellerGain_53 (by decide) ?_
      refine kr_isub rd_d_X4_sellerGain_54 ?_
      refine kr_istore (lv' := [(6, .int ((((k * ((σ.2.1 4 7) / n)) + (ax_f_min k ((σ.2.1 4 7) - (σ.2.1 4 7) / n * n))) + ((σ.2.1 4 7) / n)) - 1)), (5, .int ((k * ((σ.2.1 4 7) / n)) + (ax_f_min k ((σ.2.1 4 7) - (σ.2.1 4 7) / n * n)))), (4, .int ((σ.2.1 4 7) - (σ.2.1 4 7) / n * n)), (3, .int ((σ.2.1 4 7) / n)), (0, .ref 68), (1, .int n), (2, .int k)]) rd_d_X4_sellerGain_55 (by decide) rfl ?_
      refine kr_aload_n 4 rd_d_X4_sellerGain_57 rfl ?_
      refine kr_iload 1 rd_d_X4_sellerGain_58 rfl ?_
      refine kr_iload 0 rd_d_X4_sellerGain_60 rfl ?_
      have ef : ((k * ((σ.2.1 4 7) / n)) + (ax_f_min k ((σ.2.1 4 7) - (σ.2.1 4 7) / n * n))).toInt = (pz_f s N K : Int) := e3
      have el : ((((k * ((σ.2.1 4 7) / n)) + (ax_f_min k ((σ.2.1 4 7) - (σ.2.1 4 7) / n * n))) + ((σ.2.1 4 7) / n)) - 1).toInt = ((pz_f s N (K + 1) - 1 : Nat) : Int) := by
        have q := Int32.le_iff_toInt_le.mp h2
        rw [ch_sub e4 (y := 1) (b := 1) rfl (by omega)]
        omega
      refine rd_call G (T2 := tX4_rowGain) rfl rd_d_X4_sellerGain_62 rd_k_X4_sellerGain_62 rfl (hS.1 68 (.inl 4) rfl) (as := [.int ((k * ((σ.2.1 4 7) / n)) + (ax_f_min k ((σ.2.1 4 7) - (σ.2.1 4 7) / n * n))), .int ((((k * ((σ.2.1 4 7) / n)) + (ax_f_min k ((σ.2.1 4 7) - (σ.2.1 4 7) / n * n))) + ((σ.2.1 4 7) / n)) - 1)]) (st := []) rfl (Nat.le_of_ble_eq_true rfl) rfl (Nat.le_of_ble_eq_true rfl) (d1 := 7) (by decide) (fun _ h => by obtain ⟨⟨y, h, -⟩, -⟩ := h; cases h) (ax_rg G b bw b6 hS hX hg hr) ?_
      intro v1 σ1 ⟨⟨z, hv1, hz⟩, hS1, hf1, hl1, hr1⟩
      cases hv1
      have hz2 : z.toInt = (pz_sg s N K : Int) := by rw [hz]; exact congrArg Int.ofNat (pz_gN b ef el (by omega) (by unfold pz_W at f2; omega))
      exact kr_ireturn rd_d_X4_sellerGain_65 (ty := .int) rfl rfl ⟨⟨_, rfl, hz2⟩, hS1, hf1, hl1, hr1⟩
    · refine kr_iconst (v := 0) rd_d_X4_sellerGain_49 (by decide) ?_
      refine kr_goto (tgt := 54) rd_d_X4_sellerGain_50 rfl ?_
      refine kr_isub rd_d_X4_sellerGain_54 ?_
      refine kr_istore (lv' := [(6, .int ((((k * ((σ.2.1 4 7) / n)) + (ax_f_min k ((σ.2.1 4 7) - (σ.2.1 4 7) / n * n))) + ((σ.2.1 4 7) / n)) - 0)), (5, .int ((k * ((σ.2.1 4 7) / n)) + (ax_f_min k ((σ.2.1 4 7) - (σ.2.1 4 7) / n * n)))), (4, .int ((σ.2.1 4 7) - (σ.2.1 4 7) / n * n)), (3, .int ((σ.2.1 4 7) / n)), (0, .ref 68), (1, .int n), (2, .int k)]) rd_d_X4_sellerGain_55 (by decide) rfl ?_
      refine kr_aload_n 4 rd_d_X4_sellerGain_57 rfl ?_
      refine kr_iload 1 rd_d_X4_sellerGain_58 rfl ?_
      refine kr_iload 0 rd_d_X4_sellerGain_60 rfl ?_
      have ef : ((k * ((σ.2.1 4 7) / n)) + (ax_f_min k ((σ.2.1 4 7) - (σ.2.1 4 7) / n * n))).toInt = (pz_f s N K : Int) := e3
      have el : ((((k * ((σ.2.1 4 7) / n)) + (ax_f_min k ((σ.2.1 4 7) - (σ.2.1 4 7) / n * n))) + ((σ.2.1 4 7) / n)) - 0).toInt = ((pz_f s N (K + 1) - 1 : Nat) : Int) := by
        have q : ¬ (σ.2.1 4 7 - σ.2.1 4 7 / n * n).toInt ≤ k.toInt := fun z => h2 (Int32.le_iff_toInt_le.mpr z)
        rw [ch_sub e4 (y := 0) (b := 0) rfl (Nat.zero_le _)]
        omega
      refine rd_call G (T2 := tX4_rowGain) rfl rd_d_X4_sellerGain_62 rd_k_X4_sellerGain_62 rfl (hS.1 68 (.inl 4) rfl) (as := [.int ((k * ((σ.2.1 4 7) / n)) + (ax_f_min k ((σ.2.1 4 7) - (σ.2.1 4 7) / n * n))), .int ((((k * ((σ.2.1 4 7) / n)) + (ax_f_min k ((σ.2.1 4 7) - (σ.2.1 4 7) / n * n))) + ((σ.2.1 4 7) / n)) - 0)]) (st := []) rfl (Nat.le_of_ble_eq_true rfl) rfl (Nat.le_of_ble_eq_true rfl) (d1 := 7) (by decide) (fun _ h => by obtain ⟨⟨y, h, -⟩, -⟩ := h; cases h) (ax_rg G b bw b6 hS hX hg hr) ?_
      intro v1 σ1 ⟨⟨z, hv1, hz⟩, hS1, hf1, hl1, hr1⟩
      cases hv1
      have hz2 : z.toInt = (pz_sg s N K : Int) := by rw [hz]; exact congrArg Int.ofNat (pz_gN b ef el (by omega) (by unfold pz_W at f2; omega))
      exact kr_ireturn rd_d_X4_sellerGain_65 (ty := .int) rfl rfl ⟨⟨_, rfl, hz2⟩, hS1, hf1, hl1, hr1⟩
  · exact absurd (Int32.lt_iff_toInt_lt.mpr (by omega)) h1
def ax_f_cos (m : Nat → Nat → Int32) : Int32 := ax_ent (m 11) 8 7
theorem ax_cos (G : sx_G0 g L xs z9 hd_C ex_mt) {σ : am_S} (hS : ax_S σ) : am_K g 2 tX9_cost.1 0 0 0 (lv_args 0 [.ref 4]) [] σ (ax_R (ax_f_cos σ.2.1) σ) := by
  refine kr_aload_n 0 rd_d_X9_cost_0 rfl ?_
  refine kr_getf G.1 (rd_FL rd_k_X9_cost_1).1 rd_d_X9_cost_1 (hS.1 4 (.inl 9) rfl) (v := .ref 11) (by unfold am_fa; rw [(rd_FL rd_k_X9_cost_1).2]; exact hS.2 4 6 11 rfl) ?_
  refine kr_bipush (v := 7) rd_d_X9_cost_4 (by decide) ?_
  refine rd_callS G (T2 := tX11_entry) rfl rd_d_X9_cost_6 rd_k_X9_cost_6 rfl rfl (as := [.ref 11, .int 7]) (st := []) rfl (Nat.le_of_ble_eq_true rfl) rfl (Nat.le_of_ble_eq_true rfl) (d1 := 1) (by decide) (fun _ h => by cases h.1) (ax_entry G (hS.1 11 (.inr (.int, 8)) rfl) (by decide) 7) ?_
  intro v1 σ1 ⟨hv1, hs1⟩
  cases hv1
  rw [hs1]
  exact kr_ireturn rd_d_X9_cost_9 (ty := .int) rfl rfl ⟨rfl, rfl⟩
theorem pa_thr {m : Nat → Nat → Int32} {s : Nat → Int32} (h : pl_R m 4 s) (b : pl_B s) : ax_f_cos m * ax_f_uni m = s 61 * ax_f_bel s := by
  have e : ax_f_cos m = s 61 := ax_setE h (a := 7) (j := 7) rfl (by decide)
  rw [e, uni_eq h b]
theorem ax_alL (G : sx_G0 g L xs z9 hd_C ex_mt) {s : Nat → Int32} (b : pn_B s) (bw : pl_W s) (b6 : pl_B6 s) {H : Nat} {n : Int32} {N : Nat} (en : n.toInt = (N : Int)) (h1 : 1 ≤ N) (h2 : N ≤ pz_W s) {post : Option (Option Value) → am_S → Prop} : ∀ (f j : Nat) (q : Int32) (σ : am_S), ax_S σ → pc_X s σ → pg_K s H σ.2.1 → pk_r s σ.2.1 → q.toInt = (j : Int) → j + f = N → pz_al s N j = true → (∀ (z : Int32) (σ' : am_S), ax_S σ' → (∀ x y, x ≠ 70 → x ≠ 73 → x ≠ 74 → x ≠ 78 → x ≠ 79 → ¬ (x = 68 ∧ y = 15) → σ'.2.1 x y = σ.2.1 x y) → σ'.2.2.1 = σ.2.2.1 → pk_r s σ'.2.1 → z = (if pz_al s N N then 1 else 0) → post (some (some (.int z))) σ') → am_K g 9 tX4_allEarn.1 0 0 2 [(2, .int q), (0, .ref 68), (1, .int n)] [] σ post := by
  have hW10 : pz_W s ≤ 10 := by have := b.1.1.2; unfold pz_W; omega
  intro f
  induction f with
  | zero =>
    intro j q σ hS hX hg hr eq hj hal kk
    refine kr_iload_n 0 rd_d_X4_allEarn_2 rfl ?_
    refine kr_iload_n 2 rd_d_X4_allEarn_3 rfl ?_
    refine kr_icmp_ge (tgt := 39) rd_d_X4_allEarn_4 rfl (fun h1 => ?_) (fun h1 => ?_)
    · refine kr_iconst (v := 1) rd_d_X4_allEarn_39 (by decide) ?_
      have e : j = N := by omega
      subst e
      exact kr_ireturn rd_d_X4_allEarn_40 (ty := .boolean) rfl rfl (kk _ σ hS (fun _ _ _ _ _ _ _ _ => rfl) rfl hr (by rw [hal]; rfl))
    · exact absurd (Int32.le_iff_toInt_le.mpr (by omega)) h1
  | succ f ih =>
    intro j q σ hS hX hg hr eq hj hal kk
    refine kr_iload_n 0 rd_d_X4_allEarn_2 rfl ?_
    refine kr_iload_n 2 rd_d_X4_allEarn_3 rfl ?_
    refine kr_icmp_ge (tgt := 39) rd_d_X4_allEarn_4 rfl (fun h21 => ?_) (fun h21 => ?_)
    · refine kr_iconst (v := 1) rd_d_X4_allEarn_39 (by decide) ?_
      have := Int32.le_iff_toInt_le.mp h21
      omega
    · refine kr_aload_n 1 rd_d_X4_allEarn_7 rfl ?_
      refine kr_iload_n 2 rd_d_X4_allEarn_8 rfl ?_
      refine kr_iload_n 0 rd_d_X4_allEarn_9 rfl ?_
      refine rd_call G (T2 := tX4_sellerGain) rfl rd_d_X4_allEarn_10 rd_k_X4_allEarn_10 rfl (hS.1 68 (.inl 4) rfl) (as := [.int n, .int q]) (st := []) rfl (Nat.le_of_ble_eq_true rfl) rfl (Nat.le_of_ble_eq_true rfl) (d1 := 8) (by decide) (fun _ h => by obtain ⟨⟨y, h, -⟩, -⟩ := h; cases h) (ax_slX G b bw b6 hS hX hg hr en eq h1 h2 (by omega)) ?_
      intro v1 σ1 ⟨⟨z, hv1, hz⟩, hS1, hf1, hl1, hr1⟩
      cases hv1
      have hX1 : pc_X s σ1 := pc_F hX (fun x y q => hf1 x y (by omega) (by omega) (by omega) (by omega) (by omega) (fun z => by omega))
      have hg1 : pg_K s H σ1.2.1 := pg_F hg (fun x y q => hf1 x y (by omega) (by omega) (by omega) (by omega) (by omega) (fun z => by omega))
      have hb := pc_B b.1 hX1
      have hth := pa_thr hX1.1 b.1
      refine kr_aload_n 1 rd_d_X4_allEarn_13 rfl ?_
      refine kr_getf G.1 (rd_FL rd_k_X4_allEarn_14).1 rd_d_X4_allEarn_14 (hS1.1 68 (.inl 4) rfl) (v := .ref 4) (by unfold am_fa; rw [(rd_FL rd_k_X4_allEarn_14).2]; exact hS1.2 68 0 4 rfl) ?_
      refine rd_call G (T2 := tX9_cost) rfl rd_d_X4_allEarn_17 rd_k_X4_allEarn_17 rfl (hS1.1 4 (.inl 9) rfl) (as := []) (st := [.int z]) rfl (Nat.le_of_ble_eq_true rfl) rfl (Nat.le_of_ble_eq_true rfl) (d1 := 2) (by decide) (fun _ h => by cases h.1) (ax_cos G hS1) ?_
      intro v41 σ41 ⟨hv41, hs41⟩
      cases hv41
      rw [hs41]
      refine kr_aload_n 1 rd_d_X4_allEarn_20 rfl ?_
      refine kr_getf G.1 (rd_FL rd_k_X4_allEarn_21).1 rd_d_X4_allEarn_21 (hS1.1 68 (.inl 4) rfl) (v := .ref 4) (by unfold am_fa; rw [(rd_FL rd_k_X4_allEarn_21).2]; exact hS1.2 68 0 4 rfl) ?_
      refine rd_call G (T2 := tX9_unit) rfl rd_d_X4_allEarn_24 rd_k_X4_allEarn_24 rfl (hS1.1 4 (.inl 9) rfl) (as := []) (st := [.int (ax_f_cos σ1.2.1), .int z]) rfl (Nat.le_of_ble_eq_true rfl) rfl (Nat.le_of_ble_eq_true rfl) (d1 := 2) (by decide) (fun _ h => by cases h.1) (ax_uni G hS1 hb) ?_
      intro v42 σ42 ⟨hv42, hs42⟩
      cases hv42
      rw [hs42]
      refine kr_imul rd_d_X4_allEarn_27 ?_
      refine kr_icmp_ge (tgt := 33) rd_d_X4_allEarn_28 rfl (fun h43 => ?_) (fun h43 => ?_)
      · refine kr_iinc (v := q + 1) (lv' := [(2, .int (q + 1)), (0, .ref 68), (1, .int n)]) 0 rd_d_X4_allEarn_33 rfl rfl (by decide) rfl ?_
        refine kr_goto (tgt := 2) rd_d_X4_allEarn_36 rfl ?_
        refine kr_sub (lv' := [(2, .int (q + 1)), (0, .ref 68), (1, .int n)]) (by simp) ?_
        refine ih (j + 1) (q + 1) σ1 hS1 hX1 hg1 hr1 (ax_inc eq (by omega)) (by omega) ?_ ?_
        · rw [hth] at h43
          have hq := Int32.le_iff_toInt_le.mp h43
          rw [hz] at hq
          show (pz_al s N j && decide (pz_t s ≤ (pz_sg s N j : Int))) = true
          rw [hal, decide_eq_true (show pz_t s ≤ (pz_sg s N j : Int) from hq)]
          rfl
        · exact fun z' σ' a1 a2 a3 a4 a5 => kk z' σ' a1 (fun x y x0 x3 x4 x8 x9 hx => (a2 x y x0 x3 x4 x8 x9 hx).trans (hf1 x y x0 x3 x4 x8 x9 hx)) (a3.trans hl1) a4 a5
      · refine kr_iconst (v := 0) rd_d_X4_allEarn_31 (by decide) ?_
        refine kr_ireturn rd_d_X4_allEarn_32 (ty := .boolean) rfl rfl (kk _ σ1 hS1 hf1 hl1 hr1 ?_)
        rw [hth] at h43
        have hq : ¬ pz_t s ≤ (pz_sg s N j : Int) := fun e => h43 (Int32.le_iff_toInt_le.mpr (by rw [hz]; exact e))
        have hf : pz_al s N (j + 1) = false := by
          show (pz_al s N j && decide (pz_t s ≤ (pz_sg s N j : Int))) = false
          rw [decide_eq_false hq, Bool.and_false]
        have hN := pz_al_f hf (N - (j + 1))
        rw [show j + 1 + (N - (j + 1)) = N by omega] at hN
        rw [hN]
        rfl
theorem ax_all (G : sx_G0 g L xs z9 hd_C ex_mt) {s : Nat → Int32} (b : pn_B s) (bw : pl_W s) (b6 : pl_B6 s) {H : Nat} {σ : am_S} (hS : ax_S σ) (hX : pc_X s σ) (hg : pg_K s H σ.2.1) (hr : pk_r s σ.2.1) {n : Int32} {N : Nat} (en : n.toInt = (N : Int)) (h1 : 1 ≤ N) (h2 : N ≤ pz_W s) : am_K g 9 tX4_allEarn.1 0 0 0 (lv_args 0 [.ref 68, .int n]) [] σ (fun r σ' => (∃ z : Int32, r = some (some (.int z)) ∧ z = (if pz_al s N N then 1 else 0)) ∧ ax_S σ' ∧ (∀ x y, x ≠ 70 → x ≠ 73 → x ≠ 74 → x ≠ 78 → x ≠ 79 → ¬ (x = 68 ∧ y = 15) → σ'.2.1 x y = σ.2.1 x y) ∧ σ'.2.2.1 = σ.2.2.1 ∧ pk_r s σ'.2.1) := by
  refine kr_iconst (v := 0) rd_d_X4_allEarn_0 (by decide) ?_
  refine kr_istore_n (lv' := [(2, .int 0), (0, .ref 68), (1, .int n)]) rd_d_X4_allEarn_1 (by decide) rfl ?_
  exact ax_alL G b bw b6 en h1 h2 N 0 0 σ hS hX hg hr rfl (by omega) rfl (fun z σ' a1 a2 a3 a4 a5 => ⟨⟨z, rfl, a5⟩, a1, a2, a3, a4⟩)
end AXX
