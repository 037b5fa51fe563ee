/-! exact answers, further (rows written by a program) -/
theorem rd_d_X11_best_0 : decode tX11_best.1.2.1 0 = .ok (.aload_n 0, 1) := by decide +kernel
theorem rd_d_X11_best_1 : decode tX11_best.1.2.1 1 = .ok (.getfield 28, 3) := by decide +kernel
theorem rd_k_X11_best_1 : ex_lk ex_mt tX11_best 1 (.getfield 28) [11, 2, 2, 131261] = true := by decide +kernel
theorem rd_d_X11_best_4 : decode tX11_best.1.2.1 4 = .ok (.getfield 291, 3) := by decide +kernel
theorem rd_k_X11_best_4 : ex_lk ex_mt tX11_best 4 (.getfield 291) [9, 7, 0, 65659] = true := by decide +kernel
theorem rd_d_X11_best_7 : decode tX11_best.1.2.1 7 = .ok (.ifCond .ne 5, 3) := by decide +kernel
theorem rd_d_X11_best_10 : decode tX11_best.1.2.1 10 = .ok (.iconst (-1), 1) := by decide +kernel
theorem rd_d_X11_best_11 : decode tX11_best.1.2.1 11 = .ok (.ireturn, 1) := by decide +kernel
theorem rd_d_X11_best_12 : decode tX11_best.1.2.1 12 = .ok (.aload_n 0, 1) := by decide +kernel
theorem rd_d_X11_best_13 : decode tX11_best.1.2.1 13 = .ok (.getfield 67, 3) := by decide +kernel
theorem rd_k_X11_best_13 : ex_lk ex_mt tX11_best 13 (.getfield 67) [11, 9, 2, 131268] = true := by decide +kernel
theorem rd_d_X11_best_16 : decode tX11_best.1.2.1 16 = .ok (.invokevirtual 294, 3) := by decide +kernel
theorem rd_k_X11_best_16 : ex_lk ex_mt tX11_best 16 (.invokevirtual 294) [0, 220, 262306] = true := by decide +kernel
theorem rd_d_X11_best_19 : decode tX11_best.1.2.1 19 = .ok (.iload_n 1, 1) := by decide +kernel
theorem rd_d_X11_best_20 : decode tX11_best.1.2.1 20 = .ok (.tableswitch 83 0 4 #[36, 44, 52, 60, 75], 36) := by decide +kernel
theorem rd_d_X11_best_56 : decode tX11_best.1.2.1 56 = .ok (.aload_n 0, 1) := by decide +kernel
theorem rd_d_X11_best_57 : decode tX11_best.1.2.1 57 = .ok (.getfield 67, 3) := by decide +kernel
theorem rd_k_X11_best_57 : ex_lk ex_mt tX11_best 57 (.getfield 67) [11, 9, 2, 131268] = true := by decide +kernel
theorem rd_d_X11_best_60 : decode tX11_best.1.2.1 60 = .ok (.getfield 297, 3) := by decide +kernel
theorem rd_k_X11_best_60 : ex_lk ex_mt tX11_best 60 (.getfield 297) [4, 13, 0, 131099] = true := by decide +kernel
theorem rd_d_X11_best_63 : decode tX11_best.1.2.1 63 = .ok (.ireturn, 1) := by decide +kernel
theorem rd_d_X11_best_64 : decode tX11_best.1.2.1 64 = .ok (.aload_n 0, 1) := by decide +kernel
theorem rd_d_X11_best_65 : decode tX11_best.1.2.1 65 = .ok (.getfield 67, 3) := by decide +kernel
theorem rd_k_X11_best_65 : ex_lk ex_mt tX11_best 65 (.getfield 67) [11, 9, 2, 131268] = true := by decide +kernel
theorem rd_d_X11_best_68 : decode tX11_best.1.2.1 68 = .ok (.getfield 300, 3) := by decide +kernel
theorem rd_k_X11_best_68 : ex_lk ex_mt tX11_best 68 (.getfield 300) [4, 14, 0, 131101] = true := by decide +kernel
theorem rd_d_X11_best_71 : decode tX11_best.1.2.1 71 = .ok (.ireturn, 1) := by decide +kernel
theorem rd_d_X11_best_72 : decode tX11_best.1.2.1 72 = .ok (.aload_n 0, 1) := by decide +kernel
theorem rd_d_X11_best_73 : decode tX11_best.1.2.1 73 = .ok (.getfield 67, 3) := by decide +kernel
theorem rd_k_X11_best_73 : ex_lk ex_mt tX11_best 73 (.getfield 67) [11, 9, 2, 131268] = true := by decide +kernel
theorem rd_d_X11_best_76 : decode tX11_best.1.2.1 76 = .ok (.getfield 303, 3) := by decide +kernel
theorem rd_k_X11_best_76 : ex_lk ex_mt tX11_best 76 (.getfield 303) [4, 12, 0, 131097] = true := by decide +kernel
theorem rd_d_X11_best_79 : decode tX11_best.1.2.1 79 = .ok (.ireturn, 1) := by decide +kernel
theorem rd_d_X11_best_80 : decode tX11_best.1.2.1 80 = .ok (.aload_n 0, 1) := by decide +kernel
theorem rd_d_X11_best_81 : decode tX11_best.1.2.1 81 = .ok (.getfield 67, 3) := by decide +kernel
theorem rd_k_X11_best_81 : ex_lk ex_mt tX11_best 81 (.getfield 67) [11, 9, 2, 131268] = true := by decide +kernel
theorem rd_d_X11_best_84 : decode tX11_best.1.2.1 84 = .ok (.aload_n 0, 1) := by decide +kernel
theorem rd_d_X11_best_85 : decode tX11_best.1.2.1 85 = .ok (.getfield 67, 3) := by decide +kernel
theorem rd_k_X11_best_85 : ex_lk ex_mt tX11_best 85 (.getfield 67) [11, 9, 2, 131268] = true := by decide +kernel
theorem rd_d_X11_best_88 : decode tX11_best.1.2.1 88 = .ok (.invokevirtual 306, 3) := by decide +kernel
theorem rd_k_X11_best_88 : ex_lk ex_mt tX11_best 88 (.invokevirtual 306) [0, 215, 262378] = true := by decide +kernel
theorem rd_d_X11_best_91 : decode tX11_best.1.2.1 91 = .ok (.invokevirtual 309, 3) := by decide +kernel
theorem rd_k_X11_best_91 : ex_lk ex_mt tX11_best 91 (.invokevirtual 309) [0, 219, 327690] = true := by decide +kernel
theorem rd_d_X11_best_94 : decode tX11_best.1.2.1 94 = .ok (.ireturn, 1) := by decide +kernel
theorem rd_d_X11_best_95 : decode tX11_best.1.2.1 95 = .ok (.aload_n 0, 1) := by decide +kernel
theorem rd_d_X11_best_96 : decode tX11_best.1.2.1 96 = .ok (.getfield 67, 3) := by decide +kernel
theorem rd_k_X11_best_96 : ex_lk ex_mt tX11_best 96 (.getfield 67) [11, 9, 2, 131268] = true := by decide +kernel
theorem rd_d_X11_best_99 : decode tX11_best.1.2.1 99 = .ok (.invokevirtual 306, 3) := by decide +kernel
theorem rd_k_X11_best_99 : ex_lk ex_mt tX11_best 99 (.invokevirtual 306) [0, 215, 262378] = true := by decide +kernel
theorem rd_d_X11_best_102 : decode tX11_best.1.2.1 102 = .ok (.ireturn, 1) := by decide +kernel
theorem rd_d_X11_best_103 : decode tX11_best.1.2.1 103 = .ok (.iconst (-1), 1) := by decide +kernel
theorem rd_d_X11_best_104 : decode tX11_best.1.2.1 104 = .ok (.ireturn, 1) := by decide +kernel
theorem rd_d_X11_sale_0 : decode tX11_sale.1.2.1 0 = .ok (.aload_n 0, 1) := by decide +kernel
theorem rd_d_X11_sale_1 : decode tX11_sale.1.2.1 1 = .ok (.getfield 67, 3) := by decide +kernel
theorem rd_k_X11_sale_1 : ex_lk ex_mt tX11_sale 1 (.getfield 67) [11, 9, 2, 131268] = true := by decide +kernel
theorem rd_d_X11_sale_4 : decode tX11_sale.1.2.1 4 = .ok (.invokevirtual 294, 3) := by decide +kernel
theorem rd_k_X11_sale_4 : ex_lk ex_mt tX11_sale 4 (.invokevirtual 294) [0, 220, 262306] = true := by decide +kernel
theorem rd_d_X11_sale_7 : decode tX11_sale.1.2.1 7 = .ok (.iload_n 1, 1) := by decide +kernel
theorem rd_d_X11_sale_8 : decode tX11_sale.1.2.1 8 = .ok (.ifCond .lt 14, 3) := by decide +kernel
theorem rd_d_X11_sale_11 : decode tX11_sale.1.2.1 11 = .ok (.iload_n 1, 1) := by decide +kernel
theorem rd_d_X11_sale_12 : decode tX11_sale.1.2.1 12 = .ok (.aload_n 0, 1) := by decide +kernel
theorem rd_d_X11_sale_13 : decode tX11_sale.1.2.1 13 = .ok (.getfield 67, 3) := by decide +kernel
theorem rd_k_X11_sale_13 : ex_lk ex_mt tX11_sale 13 (.getfield 67) [11, 9, 2, 131268] = true := by decide +kernel
theorem rd_d_X11_sale_16 : decode tX11_sale.1.2.1 16 = .ok (.getfield 303, 3) := by decide +kernel
theorem rd_k_X11_sale_16 : ex_lk ex_mt tX11_sale 16 (.getfield 303) [4, 12, 0, 131097] = true := by decide +kernel
theorem rd_d_X11_sale_19 : decode tX11_sale.1.2.1 19 = .ok (.if_icmp .lt 5, 3) := by decide +kernel
theorem rd_d_X11_sale_22 : decode tX11_sale.1.2.1 22 = .ok (.iconst (-1), 1) := by decide +kernel
theorem rd_d_X11_sale_23 : decode tX11_sale.1.2.1 23 = .ok (.ireturn, 1) := by decide +kernel
theorem rd_d_X11_sale_24 : decode tX11_sale.1.2.1 24 = .ok (.iload_n 2, 1) := by decide +kernel
theorem rd_d_X11_sale_25 : decode tX11_sale.1.2.1 25 = .ok (.tableswitch 54 0 2 #[27, 36, 45], 27) := by decide +kernel
theorem rd_d_X11_sale_52 : decode tX11_sale.1.2.1 52 = .ok (.aload_n 0, 1) := by decide +kernel
theorem rd_d_X11_sale_53 : decode tX11_sale.1.2.1 53 = .ok (.getfield 67, 3) := by decide +kernel
theorem rd_k_X11_sale_53 : ex_lk ex_mt tX11_sale 53 (.getfield 67) [11, 9, 2, 131268] = true := by decide +kernel
theorem rd_d_X11_sale_56 : decode tX11_sale.1.2.1 56 = .ok (.iload_n 1, 1) := by decide +kernel
theorem rd_d_X11_sale_57 : decode tX11_sale.1.2.1 57 = .ok (.invokevirtual 312, 3) := by decide +kernel
theorem rd_k_X11_sale_57 : ex_lk ex_mt tX11_sale 57 (.invokevirtual 312) [0, 229, 327699] = true := by decide +kernel
theorem rd_d_X11_sale_60 : decode tX11_sale.1.2.1 60 = .ok (.ireturn, 1) := by decide +kernel
theorem rd_d_X11_sale_61 : decode tX11_sale.1.2.1 61 = .ok (.aload_n 0, 1) := by decide +kernel
theorem rd_d_X11_sale_62 : decode tX11_sale.1.2.1 62 = .ok (.getfield 67, 3) := by decide +kernel
theorem rd_k_X11_sale_62 : ex_lk ex_mt tX11_sale 62 (.getfield 67) [11, 9, 2, 131268] = true := by decide +kernel
theorem rd_d_X11_sale_65 : decode tX11_sale.1.2.1 65 = .ok (.iload_n 1, 1) := by decide +kernel
theorem rd_d_X11_sale_66 : decode tX11_sale.1.2.1 66 = .ok (.invokevirtual 315, 3) := by decide +kernel
theorem rd_k_X11_sale_66 : ex_lk ex_mt tX11_sale 66 (.invokevirtual 315) [0, 227, 327700] = true := by decide +kernel
theorem rd_d_X11_sale_69 : decode tX11_sale.1.2.1 69 = .ok (.ireturn, 1) := by decide +kernel
theorem rd_d_X11_sale_70 : decode tX11_sale.1.2.1 70 = .ok (.aload_n 0, 1) := by decide +kernel
theorem rd_d_X11_sale_71 : decode tX11_sale.1.2.1 71 = .ok (.getfield 67, 3) := by decide +kernel
theorem rd_k_X11_sale_71 : ex_lk ex_mt tX11_sale 71 (.getfield 67) [11, 9, 2, 131268] = true := by decide +kernel
theorem rd_d_X11_sale_74 : decode tX11_sale.1.2.1 74 = .ok (.iload_n 1, 1) := by decide +kernel
theorem rd_d_X11_sale_75 : decode tX11_sale.1.2.1 75 = .ok (.invokevirtual 318, 3) := by decide +kernel
theorem rd_k_X11_sale_75 : ex_lk ex_mt tX11_sale 75 (.invokevirtual 318) [0, 228, 327701] = true := by decide +kernel
theorem rd_d_X11_sale_78 : decode tX11_sale.1.2.1 78 = .ok (.ireturn, 1) := by decide +kernel
theorem rd_d_X11_sale_79 : decode tX11_sale.1.2.1 79 = .ok (.iconst (-1), 1) := by decide +kernel
theorem rd_d_X11_sale_80 : decode tX11_sale.1.2.1 80 = .ok (.ireturn, 1) := by decide +kernel
section AXX
variable {g : am_C} {L : Nat} {xs : Nat → Int32}
/-- every sale ends with the last one at the latest -/
theorem pz_rep_l (w t tk : Nat) : ∀ n, 1 ≤ n → ∃ x, (pz_rep w t tk n).getLast? = some x ∧ x.1 = w ∧ x.2 + tk = t + n * tk := by
  intro n hn
  obtain ⟨k, rfl⟩ : ∃ k, n = k + 1 := ⟨n - 1, by omega⟩
  refine ⟨(w, t + k * tk), ?_, rfl, ?_⟩
  · show (pz_rep w t tk k ++ [(w, t + k * tk)]).getLast? = _
    rw [List.getLast?_append]
    rfl
  · have e : (k + 1) * tk = k * tk + tk := Nat.succ_mul k tk
    show t + k * tk + tk = _
    omega
theorem pz_tr_l {s : Nat → Int32} (b : pn_B s) : ∀ (ws : List Nat) (t f : Nat), (∀ v ∈ ws, v < 10) → ∀ y, (pz_tr s ws t f).getLast? = some y → t ≤ y.2 ∧ ∀ x ∈ pz_tr s ws t f, pz_en s x ≤ pz_en s y := by
  intro ws
  induction ws with
  | nil => intro t f _ y h; cases h
  | cons w ws ih =>
    intro t f h y hy
    rw [pz_tr_c] at hy ⊢
    generalize (pn_v s (w :: ws) t f).2 = n at *
    have hi := ih (t + n * pn_tk s w + pn_wk s) (f - n) (fun v hv => h v (List.mem_cons_of_mem _ hv))
    rw [List.getLast?_append] at hy
    cases hr : (pz_tr s ws (t + n * pn_tk s w + pn_wk s) (f - n)).getLast? with
    | some z =>
      rw [hr] at hy
      have hz : z = y := by simpa using hy
      subst hz
      obtain ⟨i1, i2⟩ := hi z hr
      refine ⟨by omega, fun x hx => ?_⟩
      rcases List.mem_append.mp hx with h1 | h1
      · obtain ⟨a1, a2, a3⟩ := pz_rep_m _ _ _ _ x h1
        unfold pz_en
        rw [a1]
        omega
      · exact i2 x h1
    | none =>
      have hnil : pz_tr s ws (t + n * pn_tk s w + pn_wk s) (f - n) = [] := List.getLast?_eq_none_iff.mp hr
      rw [hr] at hy
      have hy' : (pz_rep w t (pn_tk s w) n).getLast? = some y := by simpa using hy
      have hn1 : 1 ≤ n := by
        cases n with
        | zero => cases hy'
        | succ n => omega
      obtain ⟨x0, h0, e1, e2⟩ := pz_rep_l w t (pn_tk s w) n hn1
      rw [h0] at hy'
      cases hy'
      have hk : pn_tk s w ≤ n * pn_tk s w := Nat.le_mul_of_pos_left _ hn1
      refine ⟨by omega, fun x hx => ?_⟩
      rw [hnil, List.append_nil] at hx
      obtain ⟨a1, a2, a3⟩ := pz_rep_m _ _ _ _ x hx
      unfold pz_en
      rw [a1, e1]
      omega
theorem gd_last {α : Type} (l : List α) (d : α) (h : 1 ≤ l.length) : l.getLast? = some (l.getD (l.length - 1) d) := by
  rw [List.getLast?_eq_getElem?, List.getD_eq_getElem?_getD, List.getElem?_eq_getElem (by omega)]
  rfl
theorem pz_last {s : Nat → Int32} (b : pn_B s) {i : Nat} (hi : i < (pz_best s).length) : pz_en s ((pz_best s).getD i (0, 0)) ≤ pz_en s ((pz_best s).getD ((pz_best s).length - 1) (0, 0)) := by
  obtain ⟨A9, AU, -⟩ := pb_A b
  obtain ⟨h1, h2⟩ := pz_row_m b AU A9
  have h10 := b.1.1.2
  have hv : ∀ v ∈ pz_row s (pb_a s) (pb_u s), v < 10 := fun v hv => by have := h1 v hv; omega
  exact (pz_tr_l b _ _ _ hv _ (gd_last (pz_best s) (0, 0) (by omega))).2 _ (gd_mem hi)
theorem pz_pc_all {s : Nat → Int32} {q : List (Nat × Nat)} {l l' : Int} : ∀ j, j ≤ q.length → (∀ i, i < q.length → (pz_en s (q.getD i (0, 0)) : Int) ≤ l ∧ (pz_en s (q.getD i (0, 0)) : Int) ≤ l') → pz_pc s q l j = pz_pc s q l' j := by
  intro j
  induction j with
  | zero => intro _ _; rfl
  | succ j ih =>
    intro hj h
    have e := ih (by omega) h
    obtain ⟨h1, h2⟩ := h j (by omega)
    show pz_pc s q l j + (if (pz_en s (q.getD j (0, 0)) : Int) ≤ l then pn_pr s (q.getD j (0, 0)).1 else 0) = pz_pc s q l' j + (if (pz_en s (q.getD j (0, 0)) : Int) ≤ l' then pn_pr s (q.getD j (0, 0)).1 else 0)
    rw [e, if_pos h1, if_pos h2]
theorem pz_best_0 {s : Nat → Int32} (h : s 0 = 0) : (pz_best s).length = 0 := by
  have hW : pz_W s = 0 := by unfold pz_W; rw [h]; rfl
  have e0 : pb_q s = 0 := by unfold pb_q; rw [hW]; rfl
  have e1 : pb_a s = 0 := by unfold pb_a; rw [e0]
  have e2 : pb_u s = 1 := by unfold pb_u; rw [e0]
  have e3 : (s 0).toInt.toNat = 0 := hW
  unfold pz_best
  rw [e1, e2, pz_row, if_pos rfl, e3]
  rfl
/-- the answers of best and sale -/
def pz_bA (s : Nat → Int32) (k : Int32) : Int := if s 0 = 0 then -1 else if k = 0 then (pb_a s : Int) else if k = 1 then (pb_u s : Int) else if k = 2 then ((pz_best s).length : Int) else if k = 3 then (pz_pc s (pz_best s) 9999 (pz_best s).length : Int) else if k = 4 then (if (pz_best s).length = 0 then 0 else (pz_en s ((pz_best s).getD ((pz_best s).length - 1) (0, 0)) : Int)) else -1
def pz_sA (s : Nat → Int32) (k w : Int32) : Int := if s 0 = 0 then -1 else if k.toInt < 0 ∨ ((pz_best s).length : Int) ≤ k.toInt then -1 else if w = 0 then (((pz_best s).getD k.toInt.toNat (0, 0)).1 : Int) else if w = 1 then (((pz_best s).getD k.toInt.toNat (0, 0)).2 : Int) else if w = 2 then (ax_f_bwM s (Int32.ofNat ((pz_best s).getD k.toInt.toNat (0, 0)).1) (Int32.ofNat ((pz_best s).getD k.toInt.toNat (0, 0)).2)).toInt else -1
theorem pz_lae {s : Nat → Int32} (b : pn_B s) (b6 : pl_B6 s) {m : Nat → Nat → Int32} (hR : pl_R m 4 s) (h : pb_L s (pz_best s) m) : (ax_f_lae m).toInt = (if (pz_best s).length = 0 then 0 else (pz_en s ((pz_best s).getD ((pz_best s).length - 1) (0, 0)) : Int)) := by
  have hl := h.1
  have hok := pz_best_ok b b6
  have z0 : (0 : Int32).toInt = 0 := rfl
  rw [ax_f_lae]
  by_cases c : (pz_best s).length = 0
  · rw [if_pos c, if_pos (Int32.le_iff_toInt_le.mpr (by omega))]
    rfl
  · rw [if_neg c, if_neg (fun q => by have := Int32.le_iff_toInt_le.mp q; omega)]
    exact sl_e b hR h hok (ch_sub hl (y := 1) (b := 1) rfl (by omega)) (by omega)
theorem pz_pu {s : Nat → Int32} (b : pn_B s) (b6 : pl_B6 s) {m : Nat → Nat → Int32} (hR : pl_R m 4 s) (h : pb_L s (pz_best s) m) (l : Int32) : (ax_f_peu m l).toInt = (pz_pc s (pz_best s) l.toInt (pz_best s).length : Int) := by
  rw [ax_f_peu]
  exact pu_l b hR h (pz_best_ok b b6) l 24 0 0 0 rfl rfl (Nat.zero_le _) rfl
theorem pz_pu3 {s : Nat → Int32} (b : pn_B s) (b6 : pl_B6 s) {m : Nat → Nat → Int32} (hR : pl_R m 4 s) (h : pb_L s (pz_best s) m) : (ax_f_peu m (ax_f_lae m)).toInt = (pz_pc s (pz_best s) 9999 (pz_best s).length : Int) := by
  rw [pz_pu b b6 hR h, pz_lae b b6 hR h]
  have hok := pz_best_ok b b6
  refine congrArg _ (pz_pc_all _ (Nat.le_refl _) (fun i hi => ?_))
  have h1 := pz_last b hi
  obtain ⟨w1, t1⟩ := hok.2 i hi
  have h10 := b.1.1.2
  have l := (pn_lim b (w := ((pz_best s).getD i (0, 0)).1) (by omega)).2.1
  rw [if_neg (by omega)]
  refine ⟨by omega, ?_⟩
  unfold pz_en
  omega
theorem ax_bsX (G : sx_G0 g L xs z9 hd_C ex_mt) {s : Nat → Int32} (b : pn_B s) (bw : pl_W s) (b5 : pl_B5 s) (b6 : pl_B6 s) {σ : am_S} (hS : ax_S σ) (hX : pc_X s σ) (hP : pk_P (pc_h s) s σ) (hB : ¬ σ.2.1 68 19 = 0 → pb_K s σ.2.1) (k : Int32) : am_K g 9 tX11_best.1 0 0 0 (lv_args 0 [.ref 0, .int k]) [] σ (fun r σ' => (∃ z : Int32, r = some (some (.int z)) ∧ z.toInt = pz_bA s k) ∧ ax_S σ' ∧ (∀ x y, (x < 68 ∨ 79 < x ∨ (x = 68 ∧ (y < 12 ∨ 19 < y))) → σ'.2.1 x y = σ.2.1 x y) ∧ (∀ x y, x ≠ 72 → σ'.2.2.1 x y = σ.2.2.1 x y) ∧ pk_P (pc_h s) s σ' ∧ (¬ σ'.2.1 68 19 = 0 → pb_K s σ'.2.1)) := by
  have h7 : σ.2.1 4 7 = s 0 := pl_w hX.1
  refine kr_aload_n 0 rd_d_X11_best_0 rfl ?_
  refine kr_getf G.1 (rd_FL rd_k_X11_best_1).1 rd_d_X11_best_1 (hS.1 0 (.inl 11) rfl) (v := .ref 4) (by unfold am_fa; rw [(rd_FL rd_k_X11_best_1).2]; exact hS.2 0 2 4 rfl) ?_
  refine kr_getf G.1 (rd_FL rd_k_X11_best_4).1 rd_d_X11_best_4 (hS.1 4 (.inl 9) rfl) (v := .int (σ.2.1 4 7)) (by unfold am_fa; rw [(rd_FL rd_k_X11_best_4).2]; rfl) ?_
  refine kr_if_ne (tgt := 12) rd_d_X11_best_7 rfl (fun h1 => ?_) (fun h1 => ?_)
  · refine kr_aload_n 0 rd_d_X11_best_12 rfl ?_
    refine kr_getf G.1 (rd_FL rd_k_X11_best_13).1 rd_d_X11_best_13 (hS.1 0 (.inl 11) rfl) (v := .ref 68) (by unfold am_fa; rw [(rd_FL rd_k_X11_best_13).2]; exact hS.2 0 9 68 rfl) ?_
    refine rd_call G (T2 := tX4_prepareBest) rfl rd_d_X11_best_16 rd_k_X11_best_16 rfl (hS.1 68 (.inl 4) rfl) (as := []) (st := []) rfl (Nat.le_of_ble_eq_true rfl) rfl (Nat.le_of_ble_eq_true rfl) (d1 := 8) (by decide) (fun _ h => by cases h.1) (ax_pb G b bw b5 b6 hS hX hP hB) ?_
    intro v1 σ1 ⟨hv1, hS1, hf1, hl1, hP1, hn19, hK1⟩
    cases hv1
    have hX1 : pc_X s σ1 := pc_F hX (fun x y q => hf1 x y (by omega))
    have hn24 : (σ1.2.1 68 12).toInt ≤ 24 := by have := hK1.2.2.1; have := (pz_best_ok b b6).1; omega
    refine kr_iload_n 1 rd_d_X11_best_19 rfl ?_
    by_cases h41 : k = 0
    · refine kr_tableIn (tgt := 56) rd_d_X11_best_20 (by rw [h41]; decide) (by rw [h41]; decide) (off := 36) (by rw [h41]; rfl) rfl ?_
      refine kr_aload_n 0 rd_d_X11_best_56 rfl ?_
      refine kr_getf G.1 (rd_FL rd_k_X11_best_57).1 rd_d_X11_best_57 (hS1.1 0 (.inl 11) rfl) (v := .ref 68) (by unfold am_fa; rw [(rd_FL rd_k_X11_best_57).2]; exact hS1.2 0 9 68 rfl) ?_
      refine kr_getf G.1 (rd_FL rd_k_X11_best_60).1 rd_d_X11_best_60 (hS1.1 68 (.inl 4) rfl) (v := .int (σ1.2.1 68 13)) (by unfold am_fa; rw [(rd_FL rd_k_X11_best_60).2]; rfl) ?_
      refine kr_ireturn rd_d_X11_best_63 (ty := .int) rfl rfl ⟨⟨_, rfl, ?_⟩, hS1, hf1, hl1, hP1, fun _ => hK1⟩
      rw [pz_bA, if_neg (by rw [← h7]; exact h1), if_pos h41]
      exact hK1.1
    by_cases h42 : k = 1
    · refine kr_tableIn (tgt := 64) rd_d_X11_best_20 (by rw [h42]; decide) (by rw [h42]; decide) (off := 44) (by rw [h42]; rfl) rfl ?_
      refine kr_aload_n 0 rd_d_X11_best_64 rfl ?_
      refine kr_getf G.1 (rd_FL rd_k_X11_best_65).1 rd_d_X11_best_65 (hS1.1 0 (.inl 11) rfl) (v := .ref 68) (by unfold am_fa; rw [(rd_FL rd_k_X11_best_65).2]; exact hS1.2 0 9 68 rfl) ?_
      refine kr_getf G.1 (rd_FL rd_k_X11_best_68).1 rd_d_X11_best_68 (hS1.1 68 (.inl 4) rfl) (v := .int (σ1.2.1 68 14)) (by unfold am_fa; rw [(rd_FL rd_k_X11_best_68).2]; rfl) ?_
      refine kr_ireturn rd_d_X11_best_71 (ty := .int) rfl rfl ⟨⟨_, rfl, ?_⟩, hS1, hf1, hl1, hP1, fun _ => hK1⟩
      rw [pz_bA, if_neg (by rw [← h7]; exact h1), if_neg h41, if_pos h42]
      exact hK1.2.1
    by_cases h43 : k = 2
    · refine kr_tableIn (tgt := 72) rd_d_X11_best_20 (by rw [h43]; decide) (by rw [h43]; decide) (off := 52) (by rw [h43]; rfl) rfl ?_
      refine kr_aload_n 0 rd_d_X11_best_72 rfl ?_
      refine kr_getf G.1 (rd_FL rd_k_X11_best_73).1 rd_d_X11_best_73 (hS1.1 0 (.inl 11) rfl) (v := .ref 68) (by unfold am_fa; rw [(rd_FL rd_k_X11_best_73).2]; exact hS1.2 0 9 68 rfl) ?_
      refine kr_getf G.1 (rd_FL rd_k_X11_best_76).1 rd_d_X11_best_76 (hS1.1 68 (.inl 4) rfl) (v := .int (σ1.2.1 68 12)) (by unfold am_fa; rw [(rd_FL rd_k_X11_best_76).2]; rfl) ?_
      refine kr_ireturn rd_d_X11_best_79 (ty := .int) rfl rfl ⟨⟨_, rfl, ?_⟩, hS1, hf1, hl1, hP1, fun _ => hK1⟩
      rw [pz_bA, if_neg (by rw [← h7]; exact h1), if_neg h41, if_neg h42, if_pos h43]
      exact hK1.2.2.1
    by_cases h44 : k = 3
    · refine kr_tableIn (tgt := 80) rd_d_X11_best_20 (by rw [h44]; decide) (by rw [h44]; decide) (off := 60) (by rw [h44]; rfl) rfl ?_
      refine kr_aload_n 0 rd_d_X11_best_80 rfl ?_
      refine kr_getf G.1 (rd_FL rd_k_X11_best_81).1 rd_d_X11_best_81 (hS1.1 0 (.inl 11) rfl) (v := .ref 68) (by unfold am_fa; rw [(rd_FL rd_k_X11_best_81).2]; exact hS1.2 0 9 68 rfl) ?_
      refine kr_aload_n 0 rd_d_X11_best_84 rfl ?_
      refine kr_getf G.1 (rd_FL rd_k_X11_best_85).1 rd_d_X11_best_85 (hS1.1 0 (.inl 11) rfl) (v := .ref 68) (by unfold am_fa; rw [(rd_FL rd_k_X11_best_85).2]; exact hS1.2 0 9 68 rfl) ?_
      refine rd_call G (T2 := tX4_lastEnd) rfl rd_d_X11_best_88 rd_k_X11_best_88 rfl (hS1.1 68 (.inl 4) rfl) (as := []) (st := [.ref 68]) rfl (Nat.le_of_ble_eq_true rfl) rfl (Nat.le_of_ble_eq_true rfl) (d1 := 4) (by decide) (fun _ h => by cases h.1) (ax_lae G hS1) ?_
      intro v45 σ45 ⟨hv45, hs45⟩
      cases hv45
      rw [hs45]
      refine rd_call G (T2 := tX4_penceUntil) rfl rd_d_X11_best_91 rd_k_X11_best_91 rfl (hS1.1 68 (.inl 4) rfl) (as := [.int (ax_f_lae σ1.2.1)]) (st := []) rfl (Nat.le_of_ble_eq_true rfl) rfl (Nat.le_of_ble_eq_true rfl) (d1 := 5) (by decide) (fun _ h => by cases h.1) (ax_peu G hS1 (ax_f_lae σ1.2.1) hn24) ?_
      intro v46 σ46 ⟨hv46, hs46⟩
      cases hv46
      rw [hs46]
      refine kr_ireturn rd_d_X11_best_94 (ty := .int) rfl rfl ⟨⟨_, rfl, ?_⟩, hS1, hf1, hl1, hP1, fun _ => hK1⟩
      rw [pz_bA, if_neg (by rw [← h7]; exact h1), if_neg h41, if_neg h42, if_neg h43, if_pos h44]
      exact pz_pu3 b b6 hX1.1 hK1.2.2
    by_cases h47 : k = 4
    · refine kr_tableIn (tgt := 95) rd_d_X11_best_20 (by rw [h47]; decide) (by rw [h47]; decide) (off := 75) (by rw [h47]; rfl) rfl ?_
      refine kr_aload_n 0 rd_d_X11_best_95 rfl ?_
      refine kr_getf G.1 (rd_FL rd_k_X11_best_96).1 rd_d_X11_best_96 (hS1.1 0 (.inl 11) rfl) (v := .ref 68) (by unfold am_fa; rw [(rd_FL rd_k_X11_best_96).2]; exact hS1.2 0 9 68 rfl) ?_
      refine rd_call G (T2 := tX4_lastEnd) rfl rd_d_X11_best_99 rd_k_X11_best_99 rfl (hS1.1 68 (.inl 4) rfl) (as := []) (st := []) rfl (Nat.le_of_ble_eq_true rfl) rfl (Nat.le_of_ble_eq_true rfl) (d1 := 4) (by decide) (fun _ h => by cases h.1) (ax_lae G hS1) ?_
      intro v48 σ48 ⟨hv48, hs48⟩
      cases hv48
      rw [hs48]
      refine kr_ireturn rd_d_X11_best_102 (ty := .int) rfl rfl ⟨⟨_, rfl, ?_⟩, hS1, hf1, hl1, hP1, fun _ => hK1⟩
      rw [pz_bA, if_neg (by rw [← h7]; exact h1), if_neg h41, if_neg h42, if_neg h43, if_neg h44, if_pos h47]
      exact pz_lae b b6 hX1.1 hK1.2.2
    have nh41 : ¬ k.toInt = 0 := fun q => h41 (Int32.toInt_inj.mp (by rw [q]; rfl))
    have nh42 : ¬ k.toInt = 1 := fun q => h42 (Int32.toInt_inj.mp (by rw [q]; rfl))
    have nh43 : ¬ k.toInt = 2 := fun q => h43 (Int32.toInt_inj.mp (by rw [q]; rfl))
    have nh44 : ¬ k.toInt = 3 := fun q => h44 (Int32.toInt_inj.mp (by rw [q]; rfl))
    have nh47 : ¬ k.toInt = 4 := fun q => h47 (Int32.toInt_inj.mp (by rw [q]; rfl))
    refine kr_tableOut (tgt := 103) rd_d_X11_best_20 (by omega) rfl ?_
    refine kr_iconst (v := (-1)) rd_d_X11_best_103 (by decide) ?_
    refine kr_ireturn rd_d_X11_best_104 (ty := .int) rfl rfl ⟨⟨_, rfl, ?_⟩, hS1, hf1, hl1, hP1, fun _ => hK1⟩
    rw [pz_bA, if_neg (by rw [← h7]; exact h1), if_neg h41, if_neg h42, if_neg h43, if_neg h44, if_neg h47]
    rfl
  · refine kr_iconst (v := (-1)) rd_d_X11_best_10 (by decide) ?_
    exact kr_ireturn rd_d_X11_best_11 (ty := .int) rfl rfl ⟨⟨_, rfl, by rw [pz_bA, if_pos (by rw [← h7]; exact h1)]; rfl⟩, hS, fun _ _ _ => rfl, fun _ _ _ => rfl, hP, hB⟩
theorem ax_saX (G : sx_G0 g L xs z9 hd_C ex_mt) {s : Nat → Int32} (b : pn_B s) (bw : pl_W s) (b5 : pl_B5 s) (b6 : pl_B6 s) {σ : am_S} (hS : ax_S σ) (hX : pc_X s σ) (hP : pk_P (pc_h s) s σ) (hB : ¬ σ.2.1 68 19 = 0 → pb_K s σ.2.1) (k w : Int32) : am_K g 9 tX11_sale.1 0 0 0 (lv_args 0 [.ref 0, .int k, .int w]) [] σ (fun r σ' => (∃ z : Int32, r = some (some (.int z)) ∧ z.toInt = pz_sA s k w) ∧ ax_S σ' ∧ (∀ x y, (x < 68 ∨ 79 < x ∨ (x = 68 ∧ (y < 12 ∨ 19 < y))) → σ'.2.1 x y = σ.2.1 x y) ∧ (∀ x y, x ≠ 72 → σ'.2.2.1 x y = σ.2.2.1 x y) ∧ pk_P (pc_h s) s σ' ∧ (¬ σ'.2.1 68 19 = 0 → pb_K s σ'.2.1)) := by
  have z0 : (0 : Int32).toInt = 0 := rfl
  refine kr_aload_n 0 rd_d_X11_sale_0 rfl ?_
  refine kr_getf G.1 (rd_FL rd_k_X11_sale_1).1 rd_d_X11_sale_1 (hS.1 0 (.inl 11) rfl) (v := .ref 68) (by unfold am_fa; rw [(rd_FL rd_k_X11_sale_1).2]; exact hS.2 0 9 68 rfl) ?_
  refine rd_call G (T2 := tX4_prepareBest) rfl rd_d_X11_sale_4 rd_k_X11_sale_4 rfl (hS.1 68 (.inl 4) rfl) (as := []) (st := []) rfl (Nat.le_of_ble_eq_true rfl) rfl (Nat.le_of_ble_eq_true rfl) (d1 := 8) (by decide) (fun _ h => by cases h.1) (ax_pb G b bw b5 b6 hS hX hP hB) ?_
  intro v1 σ1 ⟨hv1, hS1, hf1, hl1, hP1, hn19, hK1⟩
  cases hv1
  have hX1 : pc_X s σ1 := pc_F hX (fun x y q => hf1 x y (by omega))
  have hn24 : (σ1.2.1 68 12).toInt ≤ 24 := by have := hK1.2.2.1; have := (pz_best_ok b b6).1; omega
  refine kr_iload_n 1 rd_d_X11_sale_7 rfl ?_
  refine kr_if_lt (tgt := 22) rd_d_X11_sale_8 rfl (fun h1 => ?_) (fun h1 => ?_)
  · refine kr_iconst (v := (-1)) rd_d_X11_sale_22 (by decide) ?_
    refine kr_ireturn rd_d_X11_sale_23 (ty := .int) rfl rfl ⟨⟨_, rfl, ?_⟩, hS1, hf1, hl1, hP1, fun _ => hK1⟩
    have hlen := hK1.2.2.1
    have hok := pz_best_ok b b6
    rw [pz_sA]
    by_cases hs0 : s 0 = 0
    · have hl0 := pz_best_0 hs0
      rw [if_pos hs0]
      rfl
    · rw [if_neg hs0, if_pos (Or.inl (by have q := Int32.lt_iff_toInt_lt.mp h1; omega))]
      rfl
  · refine kr_iload_n 1 rd_d_X11_sale_11 rfl ?_
    refine kr_aload_n 0 rd_d_X11_sale_12 rfl ?_
    refine kr_getf G.1 (rd_FL rd_k_X11_sale_13).1 rd_d_X11_sale_13 (hS1.1 0 (.inl 11) rfl) (v := .ref 68) (by unfold am_fa; rw [(rd_FL rd_k_X11_sale_13).2]; exact hS1.2 0 9 68 rfl) ?_
    refine kr_getf G.1 (rd_FL rd_k_X11_sale_16).1 rd_d_X11_sale_16 (hS1.1 68 (.inl 4) rfl) (v := .int (σ1.2.1 68 12)) (by unfold am_fa; rw [(rd_FL rd_k_X11_sale_16).2]; rfl) ?_
    refine kr_icmp_lt (tgt := 24) rd_d_X11_sale_19 rfl (fun h2 => ?_) (fun h2 => ?_)
    · refine kr_iload_n 2 rd_d_X11_sale_24 rfl ?_
      by_cases h3 : w = 0
      · refine kr_tableIn (tgt := 52) rd_d_X11_sale_25 (by rw [h3]; decide) (by rw [h3]; decide) (off := 27) (by rw [h3]; rfl) rfl ?_
        refine kr_aload_n 0 rd_d_X11_sale_52 rfl ?_
        refine kr_getf G.1 (rd_FL rd_k_X11_sale_53).1 rd_d_X11_sale_53 (hS1.1 0 (.inl 11) rfl) (v := .ref 68) (by unfold am_fa; rw [(rd_FL rd_k_X11_sale_53).2]; exact hS1.2 0 9 68 rfl) ?_
        refine kr_iload_n 1 rd_d_X11_sale_56 rfl ?_
        refine rd_call G (T2 := tX4_saleWindow) rfl rd_d_X11_sale_57 rd_k_X11_sale_57 rfl (hS1.1 68 (.inl 4) rfl) (as := [.int k]) (st := []) rfl (Nat.le_of_ble_eq_true rfl) rfl (Nat.le_of_ble_eq_true rfl) (d1 := 2) (by decide) (fun _ h => by cases h.1) (ax_slw G hS1 k) ?_
        intro v4 σ4 ⟨hv4, hs4⟩
        cases hv4
        rw [hs4]
        refine kr_ireturn rd_d_X11_sale_60 (ty := .int) rfl rfl ⟨⟨_, rfl, ?_⟩, hS1, hf1, hl1, hP1, fun _ => hK1⟩
        have hlen := hK1.2.2.1
        have hok := pz_best_ok b b6
        rw [pz_sA]
        by_cases hs0 : s 0 = 0
        · have hl0 := pz_best_0 hs0
          have c0 : ¬ k.toInt < 0 := fun q => h1 (Int32.lt_iff_toInt_lt.mpr (by omega))
          have c1 : k.toInt < (σ1.2.1 68 12).toInt := Int32.lt_iff_toInt_lt.mp h2
          omega
        · have c0 : ¬ k.toInt < 0 := fun q => h1 (Int32.lt_iff_toInt_lt.mpr (by omega))
          have c1 : k.toInt < (σ1.2.1 68 12).toInt := Int32.lt_iff_toInt_lt.mp h2
          have ek : k.toInt = ((k.toInt.toNat : Nat) : Int) := by omega
          obtain ⟨g1, g2, g3⟩ := sl_g hK1.2.2 hok.1 ek (by omega)
          rw [if_neg hs0, if_neg (by omega), if_pos h3]
          exact g1
      by_cases h5 : w = 1
      · refine kr_tableIn (tgt := 61) rd_d_X11_sale_25 (by rw [h5]; decide) (by rw [h5]; decide) (off := 36) (by rw [h5]; rfl) rfl ?_
        refine kr_aload_n 0 rd_d_X11_sale_61 rfl ?_
        refine kr_getf G.1 (rd_FL rd_k_X11_sale_62).1 rd_d_X11_sale_62 (hS1.1 0 (.inl 11) rfl) (v := .ref 68) (by unfold am_fa; rw [(rd_FL rd_k_X11_sale_62).2]; exact hS1.2 0 9 68 rfl) ?_
        refine kr_iload_n 1 rd_d_X11_sale_65 rfl ?_
        refine rd_call G (T2 := tX4_saleSecond) rfl rd_d_X11_sale_66 rd_k_X11_sale_66 rfl (hS1.1 68 (.inl 4) rfl) (as := [.int k]) (st := []) rfl (Nat.le_of_ble_eq_true rfl) rfl (Nat.le_of_ble_eq_true rfl) (d1 := 2) (by decide) (fun _ h => by cases h.1) (ax_sls G hS1 k) ?_
        intro v6 σ6 ⟨hv6, hs6⟩
        cases hv6
        rw [hs6]
        refine kr_ireturn rd_d_X11_sale_69 (ty := .int) rfl rfl ⟨⟨_, rfl, ?_⟩, hS1, hf1, hl1, hP1, fun _ => hK1⟩
        have hlen := hK1.2.2.1
        have hok := pz_best_ok b b6
        rw [pz_sA]
        by_cases hs0 : s 0 = 0
        · have hl0 := pz_best_0 hs0
          have c0 : ¬ k.toInt < 0 := fun q => h1 (Int32.lt_iff_toInt_lt.mpr (by omega))
          have c1 : k.toInt < (σ1.2.1 68 12).toInt := Int32.lt_iff_toInt_lt.mp h2
          omega
        · have c0 : ¬ k.toInt < 0 := fun q => h1 (Int32.lt_iff_toInt_lt.mpr (by omega))
          have c1 : k.toInt < (σ1.2.1 68 12).toInt := Int32.lt_iff_toInt_lt.mp h2
          have ek : k.toInt = ((k.toInt.toNat : Nat) : Int) := by omega
          obtain ⟨g1, g2, g3⟩ := sl_g hK1.2.2 hok.1 ek (by omega)
          rw [if_neg hs0, if_neg (by omega), if_neg h3, if_pos h5]
          exact g2
      by_cases h7 : w = 2
      · refine kr_tableIn (tgt := 70) rd_d_X11_sale_25 (by rw [h7]; decide) (by rw [h7]; decide) (off := 45) (by rw [h7]; rfl) rfl ?_
        refine kr_aload_n 0 rd_d_X11_sale_70 rfl ?_
        refine kr_getf G.1 (rd_FL rd_k_X11_sale_71).1 rd_d_X11_sale_71 (hS1.1 0 (.inl 11) rfl) (v := .ref 68) (by unfold am_fa; rw [(rd_FL rd_k_X11_sale_71).2]; exact hS1.2 0 9 68 rfl) ?_
        refine kr_iload_n 1 rd_d_X11_sale_74 rfl ?_
        refine rd_call G (T2 := tX4_saleWay) rfl rd_d_X11_sale_75 rd_k_X11_sale_75 rfl (hS1.1 68 (.inl 4) rfl) (as := [.int k]) (st := []) rfl (Nat.le_of_ble_eq_true rfl) rfl (Nat.le_of_ble_eq_true rfl) (d1 := 2) (by decide) (fun _ h => by cases h.1) (ax_sly G hS1 k) ?_
        intro v8 σ8 ⟨hv8, hs8⟩
        cases hv8
        rw [hs8]
        refine kr_ireturn rd_d_X11_sale_78 (ty := .int) rfl rfl ⟨⟨_, rfl, ?_⟩, hS1, hf1, hl1, hP1, fun _ => hK1⟩
        have hlen := hK1.2.2.1
        have hok := pz_best_ok b b6
        rw [pz_sA]
        by_cases hs0 : s 0 = 0
        · have hl0 := pz_best_0 hs0
          have c0 : ¬ k.toInt < 0 := fun q => h1 (Int32.lt_iff_toInt_lt.mpr (by omega))
          have c1 : k.toInt < (σ1.2.1 68 12).toInt := Int32.lt_iff_toInt_lt.mp h2
          omega
        · have c0 : ¬ k.toInt < 0 := fun q => h1 (Int32.lt_iff_toInt_lt.mpr (by omega))
          have c1 : k.toInt < (σ1.2.1 68 12).toInt := Int32.lt_iff_toInt_lt.mp h2
          have ek : k.toInt = ((k.toInt.toNat : Nat) : Int) := by omega
          obtain ⟨g1, g2, g3⟩ := sl_g hK1.2.2 hok.1 ek (by omega)
          rw [if_neg hs0, if_neg (by omega), if_neg h3, if_neg h5, if_pos h7]
          exact congrArg Int32.toInt g3
      have nh3 : ¬ w.toInt = 0 := fun q => h3 (Int32.toInt_inj.mp (by rw [q]; rfl))
      have nh5 : ¬ w.toInt = 1 := fun q => h5 (Int32.toInt_inj.mp (by rw [q]; rfl))
      have nh7 : ¬ w.toInt = 2 := fun q => h7 (Int32.toInt_inj.mp (by rw [q]; rfl))
      refine kr_tableOut (tgt := 79) rd_d_X11_sale_25 (by omega) rfl ?_
      refine kr_iconst (v := (-1)) rd_d_X11_sale_79 (by decide) ?_
      refine kr_ireturn rd_d_X11_sale_80 (ty := .int) rfl rfl ⟨⟨_, rfl, ?_⟩, hS1, hf1, hl1, hP1, fun _ => hK1⟩
      have hlen := hK1.2.2.1
      have hok := pz_best_ok b b6
      rw [pz_sA]
      by_cases hs0 : s 0 = 0
      · have hl0 := pz_best_0 hs0
        have c0 : ¬ k.toInt < 0 := fun q => h1 (Int32.lt_iff_toInt_lt.mpr (by omega))
        have c1 : k.toInt < (σ1.2.1 68 12).toInt := Int32.lt_iff_toInt_lt.mp h2
        omega
      · have c0 : ¬ k.toInt < 0 := fun q => h1 (Int32.lt_iff_toInt_lt.mpr (by omega))
        have c1 : k.toInt < (σ1.2.1 68 12).toInt := Int32.lt_iff_toInt_lt.mp h2
        have ek : k.toInt = ((k.toInt.toNat : Nat) : Int) := by omega
        obtain ⟨g1, g2, g3⟩ := sl_g hK1.2.2 hok.1 ek (by omega)
        rw [if_neg hs0, if_neg (by omega), if_neg h3, if_neg h5, if_neg h7]
        rfl
    · refine kr_iconst (v := (-1)) rd_d_X11_sale_22 (by decide) ?_
      refine kr_ireturn rd_d_X11_sale_23 (ty := .int) rfl rfl ⟨⟨_, rfl, ?_⟩, hS1, hf1, hl1, hP1, fun _ => hK1⟩
      have hlen := hK1.2.2.1
      have hok := pz_best_ok b b6
      rw [pz_sA]
      by_cases hs0 : s 0 = 0
      · have hl0 := pz_best_0 hs0
        rw [if_pos hs0]
        rfl
      · rw [if_neg hs0, if_pos (Or.inr (by have q : ¬ k.toInt < (σ1.2.1 68 12).toInt := fun z => h2 (Int32.lt_iff_toInt_lt.mpr z); omega))]
        rfl
end AXX
