/-! exact answers, further (rows written by a program) -/
theorem rd_d_X12_draw_0 : decode tX12_draw.1.2.1 0 = .ok (.aload_n 0, 1) := by decide +kernel
theorem rd_d_X12_draw_1 : decode tX12_draw.1.2.1 1 = .ok (.getfield 33, 3) := by decide +kernel
theorem rd_k_X12_draw_1 : ex_lk ex_mt tX12_draw 1 (.getfield 33) [12, 6, 2, 458773] = true := by decide +kernel
theorem rd_d_X12_draw_4 : decode tX12_draw.1.2.1 4 = .ok (.bipush 75, 2) := by decide +kernel
theorem rd_d_X12_draw_6 : decode tX12_draw.1.2.1 6 = .ok (.aload_n 0, 1) := by decide +kernel
theorem rd_d_X12_draw_7 : decode tX12_draw.1.2.1 7 = .ok (.getfield 33, 3) := by decide +kernel
theorem rd_k_X12_draw_7 : ex_lk ex_mt tX12_draw 7 (.getfield 33) [12, 6, 2, 458773] = true := by decide +kernel
theorem rd_d_X12_draw_10 : decode tX12_draw.1.2.1 10 = .ok (.bipush 75, 2) := by decide +kernel
theorem rd_d_X12_draw_12 : decode tX12_draw.1.2.1 12 = .ok (.iaload, 1) := by decide +kernel
theorem rd_d_X12_draw_13 : decode tX12_draw.1.2.1 13 = .ok (.ldc 224, 2) := by decide +kernel
theorem rd_k_X12_draw_13 : ex_lk ex_mt tX12_draw 13 (.ldc 224) [1103515245, 524366] = true := by decide +kernel
theorem rd_d_X12_draw_15 : decode tX12_draw.1.2.1 15 = .ok (.imul, 1) := by decide +kernel
theorem rd_d_X12_draw_16 : decode tX12_draw.1.2.1 16 = .ok (.sipush 12345, 3) := by decide +kernel
theorem rd_d_X12_draw_19 : decode tX12_draw.1.2.1 19 = .ok (.iadd, 1) := by decide +kernel
theorem rd_d_X12_draw_20 : decode tX12_draw.1.2.1 20 = .ok (.iastore, 1) := by decide +kernel
theorem rd_d_X12_draw_21 : decode tX12_draw.1.2.1 21 = .ok (.aload_n 0, 1) := by decide +kernel
theorem rd_d_X12_draw_22 : decode tX12_draw.1.2.1 22 = .ok (.getfield 33, 3) := by decide +kernel
theorem rd_k_X12_draw_22 : ex_lk ex_mt tX12_draw 22 (.getfield 33) [12, 6, 2, 458773] = true := by decide +kernel
theorem rd_d_X12_draw_25 : decode tX12_draw.1.2.1 25 = .ok (.bipush 75, 2) := by decide +kernel
theorem rd_d_X12_draw_27 : decode tX12_draw.1.2.1 27 = .ok (.iaload, 1) := by decide +kernel
theorem rd_d_X12_draw_28 : decode tX12_draw.1.2.1 28 = .ok (.bipush 8, 2) := by decide +kernel
theorem rd_d_X12_draw_30 : decode tX12_draw.1.2.1 30 = .ok (.iushr, 1) := by decide +kernel
theorem rd_d_X12_draw_31 : decode tX12_draw.1.2.1 31 = .ok (.iload_n 1, 1) := by decide +kernel
theorem rd_d_X12_draw_32 : decode tX12_draw.1.2.1 32 = .ok (.irem, 1) := by decide +kernel
theorem rd_d_X12_draw_33 : decode tX12_draw.1.2.1 33 = .ok (.ireturn, 1) := by decide +kernel
theorem rd_d_X12_paid_0 : decode tX12_paid.1.2.1 0 = .ok (.aload_n 0, 1) := by decide +kernel
theorem rd_d_X12_paid_1 : decode tX12_paid.1.2.1 1 = .ok (.aload_n 0, 1) := by decide +kernel
theorem rd_d_X12_paid_2 : decode tX12_paid.1.2.1 2 = .ok (.getfield 58, 3) := by decide +kernel
theorem rd_k_X12_paid_2 : ex_lk ex_mt tX12_paid 2 (.getfield 58) [12, 25, 2, 458792] = true := by decide +kernel
theorem rd_d_X12_paid_5 : decode tX12_paid.1.2.1 5 = .ok (.iload_n 1, 1) := by decide +kernel
theorem rd_d_X12_paid_6 : decode tX12_paid.1.2.1 6 = .ok (.iaload, 1) := by decide +kernel
theorem rd_d_X12_paid_7 : decode tX12_paid.1.2.1 7 = .ok (.aload_n 0, 1) := by decide +kernel
theorem rd_d_X12_paid_8 : decode tX12_paid.1.2.1 8 = .ok (.getfield 55, 3) := by decide +kernel
theorem rd_k_X12_paid_8 : ex_lk ex_mt tX12_paid 8 (.getfield 55) [12, 24, 2, 458791] = true := by decide +kernel
theorem rd_d_X12_paid_11 : decode tX12_paid.1.2.1 11 = .ok (.iload_n 1, 1) := by decide +kernel
theorem rd_d_X12_paid_12 : decode tX12_paid.1.2.1 12 = .ok (.iaload, 1) := by decide +kernel
theorem rd_d_X12_paid_13 : decode tX12_paid.1.2.1 13 = .ok (.invokevirtual 285, 3) := by decide +kernel
theorem rd_k_X12_paid_13 : ex_lk ex_mt tX12_paid 13 (.invokevirtual 285) [0, 82, 524441] = true := by decide +kernel
theorem rd_d_X12_paid_16 : decode tX12_paid.1.2.1 16 = .ok (.iconst 1, 1) := by decide +kernel
theorem rd_d_X12_paid_17 : decode tX12_paid.1.2.1 17 = .ok (.if_icmp .ne 25, 3) := by decide +kernel
theorem rd_d_X12_paid_20 : decode tX12_paid.1.2.1 20 = .ok (.aload_n 0, 1) := by decide +kernel
theorem rd_d_X12_paid_21 : decode tX12_paid.1.2.1 21 = .ok (.bipush 12, 2) := by decide +kernel
theorem rd_d_X12_paid_23 : decode tX12_paid.1.2.1 23 = .ok (.invokevirtual 231, 3) := by decide +kernel
theorem rd_k_X12_paid_23 : ex_lk ex_mt tX12_paid 23 (.invokevirtual 231) [0, 98, 524362] = true := by decide +kernel
theorem rd_d_X12_paid_26 : decode tX12_paid.1.2.1 26 = .ok (.aload_n 0, 1) := by decide +kernel
theorem rd_d_X12_paid_27 : decode tX12_paid.1.2.1 27 = .ok (.getfield 33, 3) := by decide +kernel
theorem rd_k_X12_paid_27 : ex_lk ex_mt tX12_paid 27 (.getfield 33) [12, 6, 2, 458773] = true := by decide +kernel
theorem rd_d_X12_paid_30 : decode tX12_paid.1.2.1 30 = .ok (.bipush 57, 2) := by decide +kernel
theorem rd_d_X12_paid_32 : decode tX12_paid.1.2.1 32 = .ok (.iaload, 1) := by decide +kernel
theorem rd_d_X12_paid_33 : decode tX12_paid.1.2.1 33 = .ok (.if_icmp .lt 7, 3) := by decide +kernel
theorem rd_d_X12_paid_36 : decode tX12_paid.1.2.1 36 = .ok (.iconst 1, 1) := by decide +kernel
theorem rd_d_X12_paid_37 : decode tX12_paid.1.2.1 37 = .ok (.goto 4, 3) := by decide +kernel
theorem rd_d_X12_paid_40 : decode tX12_paid.1.2.1 40 = .ok (.iconst 0, 1) := by decide +kernel
theorem rd_d_X12_paid_41 : decode tX12_paid.1.2.1 41 = .ok (.ireturn, 1) := by decide +kernel
theorem rd_d_X12_paid_42 : decode tX12_paid.1.2.1 42 = .ok (.aload_n 0, 1) := by decide +kernel
theorem rd_d_X12_paid_43 : decode tX12_paid.1.2.1 43 = .ok (.iload_n 1, 1) := by decide +kernel
theorem rd_d_X12_paid_44 : decode tX12_paid.1.2.1 44 = .ok (.invokevirtual 323, 3) := by decide +kernel
theorem rd_k_X12_paid_44 : ex_lk ex_mt tX12_paid 44 (.invokevirtual 323) [0, 162, 524494] = true := by decide +kernel
theorem rd_d_X12_paid_47 : decode tX12_paid.1.2.1 47 = .ok (.iload_n 2, 1) := by decide +kernel
theorem rd_d_X12_paid_48 : decode tX12_paid.1.2.1 48 = .ok (.if_icmp .le 19, 3) := by decide +kernel
theorem rd_d_X12_paid_51 : decode tX12_paid.1.2.1 51 = .ok (.aload_n 0, 1) := by decide +kernel
theorem rd_d_X12_paid_52 : decode tX12_paid.1.2.1 52 = .ok (.bipush 12, 2) := by decide +kernel
theorem rd_d_X12_paid_54 : decode tX12_paid.1.2.1 54 = .ok (.invokevirtual 231, 3) := by decide +kernel
theorem rd_k_X12_paid_54 : ex_lk ex_mt tX12_paid 54 (.invokevirtual 231) [0, 98, 524362] = true := by decide +kernel
theorem rd_d_X12_paid_57 : decode tX12_paid.1.2.1 57 = .ok (.aload_n 0, 1) := by decide +kernel
theorem rd_d_X12_paid_58 : decode tX12_paid.1.2.1 58 = .ok (.getfield 33, 3) := by decide +kernel
theorem rd_k_X12_paid_58 : ex_lk ex_mt tX12_paid 58 (.getfield 33) [12, 6, 2, 458773] = true := by decide +kernel
theorem rd_d_X12_paid_61 : decode tX12_paid.1.2.1 61 = .ok (.bipush 56, 2) := by decide +kernel
theorem rd_d_X12_paid_63 : decode tX12_paid.1.2.1 63 = .ok (.iaload, 1) := by decide +kernel
theorem rd_d_X12_paid_64 : decode tX12_paid.1.2.1 64 = .ok (.if_icmp .ge 7, 3) := by decide +kernel
theorem rd_d_X12_paid_67 : decode tX12_paid.1.2.1 67 = .ok (.iconst 1, 1) := by decide +kernel
theorem rd_d_X12_paid_68 : decode tX12_paid.1.2.1 68 = .ok (.goto 4, 3) := by decide +kernel
theorem rd_d_X12_paid_71 : decode tX12_paid.1.2.1 71 = .ok (.iconst 0, 1) := by decide +kernel
theorem rd_d_X12_paid_72 : decode tX12_paid.1.2.1 72 = .ok (.ireturn, 1) := by decide +kernel
theorem rd_d_X12_draws_53 : decode tX12_draws.1.2.1 53 = .ok (.iload 5, 2) := by decide +kernel
theorem rd_d_X12_draws_55 : decode tX12_draws.1.2.1 55 = .ok (.aload_n 0, 1) := by decide +kernel
theorem rd_d_X12_draws_56 : decode tX12_draws.1.2.1 56 = .ok (.iload 6, 2) := by decide +kernel
theorem rd_d_X12_draws_58 : decode tX12_draws.1.2.1 58 = .ok (.invokevirtual 211, 3) := by decide +kernel
theorem rd_k_X12_draws_58 : ex_lk ex_mt tX12_draws 58 (.invokevirtual 211) [0, 185, 524310] = true := by decide +kernel
theorem rd_d_X12_draws_61 : decode tX12_draws.1.2.1 61 = .ok (.if_icmp .lt 20, 3) := by decide +kernel
theorem rd_d_X12_draws_64 : decode tX12_draws.1.2.1 64 = .ok (.iload 5, 2) := by decide +kernel
theorem rd_d_X12_draws_66 : decode tX12_draws.1.2.1 66 = .ok (.aload_n 0, 1) := by decide +kernel
theorem rd_d_X12_draws_67 : decode tX12_draws.1.2.1 67 = .ok (.iload 6, 2) := by decide +kernel
theorem rd_d_X12_draws_69 : decode tX12_draws.1.2.1 69 = .ok (.invokevirtual 211, 3) := by decide +kernel
theorem rd_k_X12_draws_69 : ex_lk ex_mt tX12_draws 69 (.invokevirtual 211) [0, 185, 524310] = true := by decide +kernel
theorem rd_d_X12_draws_72 : decode tX12_draws.1.2.1 72 = .ok (.isub, 1) := by decide +kernel
theorem rd_d_X12_draws_73 : decode tX12_draws.1.2.1 73 = .ok (.istore 5, 2) := by decide +kernel
theorem rd_d_X12_draws_75 : decode tX12_draws.1.2.1 75 = .ok (.iinc 6 1, 3) := by decide +kernel
theorem rd_d_X12_draws_78 : decode tX12_draws.1.2.1 78 = .ok (.goto (-25), 3) := by decide +kernel
theorem rd_d_X12_draws_87 : decode tX12_draws.1.2.1 87 = .ok (.iload 8, 2) := by decide +kernel
theorem rd_d_X12_draws_89 : decode tX12_draws.1.2.1 89 = .ok (.aload_n 0, 1) := by decide +kernel
theorem rd_d_X12_draws_90 : decode tX12_draws.1.2.1 90 = .ok (.getfield 320, 3) := by decide +kernel
theorem rd_k_X12_draws_90 : ex_lk ex_mt tX12_draws 90 (.getfield 320) [12, 28, 0, 458795] = true := by decide +kernel
theorem rd_d_X12_draws_93 : decode tX12_draws.1.2.1 93 = .ok (.if_icmp .ge 63, 3) := by decide +kernel
theorem rd_d_X12_draws_96 : decode tX12_draws.1.2.1 96 = .ok (.aload_n 0, 1) := by decide +kernel
theorem rd_d_X12_draws_97 : decode tX12_draws.1.2.1 97 = .ok (.getfield 55, 3) := by decide +kernel
theorem rd_k_X12_draws_97 : ex_lk ex_mt tX12_draws 97 (.getfield 55) [12, 24, 2, 458791] = true := by decide +kernel
theorem rd_d_X12_draws_100 : decode tX12_draws.1.2.1 100 = .ok (.iload 8, 2) := by decide +kernel
theorem rd_d_X12_draws_102 : decode tX12_draws.1.2.1 102 = .ok (.iaload, 1) := by decide +kernel
theorem rd_d_X12_draws_103 : decode tX12_draws.1.2.1 103 = .ok (.aload_n 0, 1) := by decide +kernel
theorem rd_d_X12_draws_104 : decode tX12_draws.1.2.1 104 = .ok (.iload 6, 2) := by decide +kernel
theorem rd_d_X12_draws_106 : decode tX12_draws.1.2.1 106 = .ok (.invokevirtual 208, 3) := by decide +kernel
theorem rd_k_X12_draws_106 : ex_lk ex_mt tX12_draws 106 (.invokevirtual 208) [0, 163, 524306] = true := by decide +kernel
theorem rd_d_X12_draws_109 : decode tX12_draws.1.2.1 109 = .ok (.if_icmp .ge 47, 3) := by decide +kernel
theorem rd_d_X12_draws_112 : decode tX12_draws.1.2.1 112 = .ok (.iload 7, 2) := by decide +kernel
theorem rd_d_X12_draws_114 : decode tX12_draws.1.2.1 114 = .ok (.aload_n 0, 1) := by decide +kernel
theorem rd_d_X12_draws_115 : decode tX12_draws.1.2.1 115 = .ok (.iload 8, 2) := by decide +kernel
theorem rd_d_X12_draws_117 : decode tX12_draws.1.2.1 117 = .ok (.aload_n 0, 1) := by decide +kernel
theorem rd_d_X12_draws_118 : decode tX12_draws.1.2.1 118 = .ok (.iload 6, 2) := by decide +kernel
theorem rd_d_X12_draws_120 : decode tX12_draws.1.2.1 120 = .ok (.invokevirtual 208, 3) := by decide +kernel
theorem rd_k_X12_draws_120 : ex_lk ex_mt tX12_draws 120 (.invokevirtual 208) [0, 163, 524306] = true := by decide +kernel
theorem rd_d_X12_draws_123 : decode tX12_draws.1.2.1 123 = .ok (.invokevirtual 353, 3) := by decide +kernel
theorem rd_k_X12_draws_123 : ex_lk ex_mt tX12_draws 123 (.invokevirtual 353) [0, 147, 589874] = true := by decide +kernel
theorem rd_d_X12_draws_126 : decode tX12_draws.1.2.1 126 = .ok (.ifCond .eq 20, 3) := by decide +kernel
theorem rd_d_X12_draws_129 : decode tX12_draws.1.2.1 129 = .ok (.aload_n 0, 1) := by decide +kernel
theorem rd_d_X12_draws_130 : decode tX12_draws.1.2.1 130 = .ok (.getfield 33, 3) := by decide +kernel
theorem rd_k_X12_draws_130 : ex_lk ex_mt tX12_draws 130 (.getfield 33) [12, 6, 2, 458773] = true := by decide +kernel
theorem rd_d_X12_draws_133 : decode tX12_draws.1.2.1 133 = .ok (.iconst 2, 1) := by decide +kernel
theorem rd_d_X12_draws_134 : decode tX12_draws.1.2.1 134 = .ok (.aload_n 0, 1) := by decide +kernel
theorem rd_d_X12_draws_135 : decode tX12_draws.1.2.1 135 = .ok (.getfield 58, 3) := by decide +kernel
theorem rd_k_X12_draws_135 : ex_lk ex_mt tX12_draws 135 (.getfield 58) [12, 25, 2, 458792] = true := by decide +kernel
theorem rd_d_X12_draws_138 : decode tX12_draws.1.2.1 138 = .ok (.iload 8, 2) := by decide +kernel
theorem rd_d_X12_draws_140 : decode tX12_draws.1.2.1 140 = .ok (.iaload, 1) := by decide +kernel
theorem rd_d_X12_draws_141 : decode tX12_draws.1.2.1 141 = .ok (.iadd, 1) := by decide +kernel
theorem rd_d_X12_draws_142 : decode tX12_draws.1.2.1 142 = .ok (.iaload, 1) := by decide +kernel
theorem rd_d_X12_draws_143 : decode tX12_draws.1.2.1 143 = .ok (.goto 4, 3) := by decide +kernel
theorem rd_d_X12_draws_146 : decode tX12_draws.1.2.1 146 = .ok (.iconst 0, 1) := by decide +kernel
theorem rd_d_X12_draws_147 : decode tX12_draws.1.2.1 147 = .ok (.iadd, 1) := by decide +kernel
theorem rd_d_X12_draws_148 : decode tX12_draws.1.2.1 148 = .ok (.istore 7, 2) := by decide +kernel
theorem rd_d_X12_draws_150 : decode tX12_draws.1.2.1 150 = .ok (.iinc 8 1, 3) := by decide +kernel
theorem rd_d_X12_draws_153 : decode tX12_draws.1.2.1 153 = .ok (.goto (-66), 3) := by decide +kernel
section AXX
variable {g : am_C} {L : Nat} {xs : Nat → Int32}
/-! trains drawn, the reference -/
theorem pn_Bc {s s' : Nat → Int32} (e : pc_E s s') (b : pn_B s) : pn_B s' := by
  obtain ⟨⟨⟨a1, a2⟩, a3, a4⟩, ⟨c1, c2, c3, c4, c5⟩, d1, d2, d3, d4⟩ := b
  refine ⟨⟨⟨?_, ?_⟩, ?_, ?_⟩, ⟨fun k hk => ?_, ?_, ?_, ?_, fun k hk => ?_⟩, fun k hk => ?_, fun k hk => ?_, ?_, ?_⟩
  · rw [e 0 (by decide)]; exact a1
  · rw [e 0 (by decide)]; exact a2
  · rw [e 1 (by decide)]; exact a3
  · rw [e 1 (by decide)]; exact a4
  · rw [e (2 + k) (by omega)]; exact c1 k hk
  · rw [e 56 (by decide)]; exact c2
  · rw [e 57 (by decide)]; exact c3
  · rw [e 60 (by decide)]; exact c4
  · rw [e (48 + k) (by omega)]; exact c5 k hk
  · rw [e (12 + k) (by omega)]; exact d1 k hk
  · rw [e (22 + k) (by omega)]; exact d2 k hk
  · rw [e 54 (by decide)]; exact d3
  · rw [e 54 (by decide)]; exact d4
theorem pz_rep_s (w t tk : Nat) : ∀ n, (pz_rep w t tk n).Pairwise (fun x y => x.2 ≤ y.2) := by
  intro n
  induction n with
  | zero => exact List.Pairwise.nil
  | succ n ih =>
    show (pz_rep w t tk n ++ [(w, t + n * tk)]).Pairwise _
    refine List.pairwise_append.mpr ⟨ih, List.pairwise_singleton _ _, fun x hx y hy => ?_⟩
    have h := pz_rep_m w t tk n x hx
    rw [List.mem_singleton.mp hy]
    show x.2 ≤ t + n * tk
    omega
theorem pz_tr_s {s : Nat → Int32} (b : pn_B s) : ∀ (ws : List Nat) (t f : Nat), (∀ v ∈ ws, v < 10) → (pz_tr s ws t f).Pairwise (fun x y => x.2 ≤ y.2) := by
  intro ws
  induction ws with
  | nil => intro t f _; exact List.Pairwise.nil
  | cons w ws ih =>
    intro t f h
    rw [pz_tr_c]
    refine List.pairwise_append.mpr ⟨pz_rep_s _ _ _ _, ih _ _ (fun v hv => h v (List.mem_cons_of_mem _ hv)), fun x hx y hy => ?_⟩
    have h1 := pz_rep_m _ _ _ _ x hx
    have h2 := pz_tr_m b ws _ _ (fun v hv => h v (List.mem_cons_of_mem _ hv)) y hy
    omega
theorem pz_best_s {s : Nat → Int32} (b : pn_B s) {i j : Nat} (hij : i ≤ j) (hj : j < (pz_best s).length) : ((pz_best s).getD i (0, 0)).2 ≤ ((pz_best s).getD j (0, 0)).2 := by
  obtain ⟨A9, AU, -⟩ := pb_A b
  have h1 := (pz_row_m b AU A9).1
  have h10 := b.1.1.2
  have hp : (pz_best s).Pairwise (fun x y => x.2 ≤ y.2) := pz_tr_s b _ _ _ (fun v hv => by have := h1 v hv; omega)
  rcases Nat.lt_or_eq_of_le hij with h | h
  · have := List.pairwise_iff_getElem.mp hp i j (by omega) hj h
    rw [List.getD_eq_getElem?_getD, List.getD_eq_getElem?_getD, List.getElem?_eq_getElem (by omega), List.getElem?_eq_getElem hj]
    exact this
  · subst h
    exact Nat.le_refl _
theorem pd_stop {s : Nat → Int32} (b : pn_B s) {S x : Int32} {j : Nat} (hj : j < (pz_best s).length) (h : ¬ (((pz_best s).getD j (0, 0)).2 : Int) < S.toInt) : ∀ n, j + n ≤ (pz_best s).length → pd_in s S x (j + n) = pd_in s S x j := by
  intro n
  induction n with
  | zero => intro _; rfl
  | succ n ih =>
    intro hn
    have h2 := pz_best_s b (i := j) (j := j + n) (by omega) (by omega)
    show (if (((pz_best s).getD (j + n) (0, 0)).2 : Int) < S.toInt then _ else pd_in s S x (j + n)) = _
    rw [if_neg (by omega)]
    exact ih (by omega)
theorem ax_drM (G : sx_G0 g L xs z9 hd_C ex_mt) {σ : am_S} (hS : ax_S σ) {n : Int32} (hn : 0 < n.toInt) : am_K g 1 tX12_draw.1 0 0 0 (lv_args 0 [.ref 118, .int n]) [] σ (fun r σ' => r = some (some (.int (ax_f_dof (ax_f_nxs (σ.2.1 120 75)) n))) ∧ ax_S σ' ∧ σ'.2.1 120 75 = ax_f_nxs (σ.2.1 120 75) ∧ ∀ a b, ¬ (a = 120 ∧ b = 75) → σ'.2.1 a b = σ.2.1 a b) := by
  have z0 : (0 : Int32).toInt = 0 := rfl
  refine kr_aload_n 0 rd_d_X12_draw_0 rfl ?_
  refine kr_getf G.1 (rd_FL rd_k_X12_draw_1).1 rd_d_X12_draw_1 (hS.1 118 (.inl 12) rfl) (v := .ref 120) (by unfold am_fa; rw [(rd_FL rd_k_X12_draw_1).2]; exact hS.2 118 6 120 rfl) ?_
  refine kr_bipush (v := 75) rd_d_X12_draw_4 (by decide) ?_
  refine kr_aload_n 0 rd_d_X12_draw_6 rfl ?_
  refine kr_getf G.1 (rd_FL rd_k_X12_draw_7).1 rd_d_X12_draw_7 (hS.1 118 (.inl 12) rfl) (v := .ref 120) (by unfold am_fa; rw [(rd_FL rd_k_X12_draw_7).2]; exact hS.2 118 6 120 rfl) ?_
  refine kr_bipush (v := 75) rd_d_X12_draw_10 (by decide) ?_
  refine kr_iald G.1 (n := 277) rd_d_X12_draw_12 (hS.1 120 (.inr (.int, 277)) rfl) (hd_in (n := 75) (by decide) (by decide)) ?_
  rw [hd_clamp (n := 75) (by decide)]
  refine kr_ldc G.1 (v := 1103515245) rd_d_X12_draw_13 (rd_c0 rd_k_X12_draw_13 (by decide)) ?_
  refine kr_imul rd_d_X12_draw_15 ?_
  refine kr_sipush (v := 12345) rd_d_X12_draw_16 (by decide) ?_
  refine kr_iadd rd_d_X12_draw_19 ?_
  refine ax_astW G hS rd_d_X12_draw_20 (n := 277) (hS.1 120 (.inr (.int, 277)) rfl) (ix := 75) (by decide) (by decide) ?_
  intro τ1 hT1 hw1 hf1
  refine kr_aload_n 0 rd_d_X12_draw_21 rfl ?_
  refine kr_getf G.1 (rd_FL rd_k_X12_draw_22).1 rd_d_X12_draw_22 (hT1.1 118 (.inl 12) rfl) (v := .ref 120) (by unfold am_fa; rw [(rd_FL rd_k_X12_draw_22).2]; exact hT1.2 118 6 120 rfl) ?_
  refine kr_bipush (v := 75) rd_d_X12_draw_25 (by decide) ?_
  refine kr_iald G.1 (n := 277) rd_d_X12_draw_27 (hT1.1 120 (.inr (.int, 277)) rfl) (hd_in (n := 75) (by decide) (by decide)) ?_
  rw [hd_clamp (n := 75) (by decide)]
  rw [show τ1.2.1 120 75 = ((σ.2.1 120 75) * 1103515245) + 12345 from hw1]
  refine kr_bipush (v := 8) rd_d_X12_draw_28 (by decide) ?_
  refine kr_iushr rd_d_X12_draw_30 ?_
  refine kr_iload_n 1 rd_d_X12_draw_31 rfl ?_
  refine kr_irem rd_d_X12_draw_32 (fun e => by rw [e] at hn; omega) ?_
  refine kr_ireturn rd_d_X12_draw_33 (ty := .int) rfl rfl ⟨?_, hT1, hw1, hf1⟩
  rw [ax_f_dof, if_neg (fun q => by have := Int32.le_iff_toInt_le.mp q; omega)]
  rfl
theorem ax_ipM (G : sx_G0 g L xs z9 hd_C ex_mt) {s : Nat → Int32} (b : pn_B s) (b6 : pl_B6 s) {σ : am_S} (hS : ax_S σ) (he : pc_E s (σ.2.1 120)) (hL : pb_M (pz_best s) σ.2.1) {k S : Int32} {i : Nat} (ek : k.toInt = (i : Int)) (hi : i < (pz_best s).length) : am_K g 6 tX12_paid.1 0 0 0 (lv_args 0 [.ref 118, .int k, .int S]) [] σ (fun r σ' => r = some (some (.int (if (pd_pd s ((pz_best s).getD i (0, 0)) S (σ.2.1 120 75)).1 = true then 1 else 0))) ∧ ax_S σ' ∧ σ'.2.1 120 75 = (pd_pd s ((pz_best s).getD i (0, 0)) S (σ.2.1 120 75)).2 ∧ ∀ a b, ¬ (a = 120 ∧ b = 75) → σ'.2.1 a b = σ.2.1 a b) := by
  have hok := pz_best_ok b b6
  have h24 := hok.1
  obtain ⟨g1, g2⟩ := hL.2 i hi
  obtain ⟨w1, t1⟩ := hok.2 i hi
  have h10 := b.1.1.2
  have b' : pn_B (σ.2.1 120) := pn_Bc he b
  have hb : pl_B (σ.2.1 120) := b'.1
  have hok' : pz_ok (σ.2.1 120) (pz_best s) := ⟨hok.1, fun i hi => by rw [he 0 (by decide)]; exact hok.2 i hi⟩
  have g3 : ax_f_bwM (σ.2.1 120) (σ.2.1 128 i) (σ.2.1 127 i) = ax_f_bwM s (Int32.ofNat ((pz_best s).getD i (0, 0)).1) (Int32.ofNat ((pz_best s).getD i (0, 0)).2) := by rw [bw_c he b.1 ⟨by omega, by omega⟩, ch_ofN g1, ch_ofN g2]
  have en : pz_en (σ.2.1 120) ((pz_best s).getD i (0, 0)) = pz_en s ((pz_best s).getD i (0, 0)) := by unfold pz_en pn_tk; rw [he (12 + ((pz_best s).getD i (0, 0)).1) (by omega)]
  have hq : ∃ q, (pz_best s).getD i (0, 0) = q := ⟨_, rfl⟩
  refine kr_aload_n 0 rd_d_X12_paid_0 rfl ?_
  refine kr_aload_n 0 rd_d_X12_paid_1 rfl ?_
  refine kr_getf G.1 (rd_FL rd_k_X12_paid_2).1 rd_d_X12_paid_2 (hS.1 118 (.inl 12) rfl) (v := .ref 128) (by unfold am_fa; rw [(rd_FL rd_k_X12_paid_2).2]; exact hS.2 118 25 128 rfl) ?_
  refine kr_iload_n 1 rd_d_X12_paid_5 rfl ?_
  refine kr_iald G.1 (n := 24) rd_d_X12_paid_6 (hS.1 128 (.inr (.int, 24)) rfl) (hd_in (n := i) ek (by omega)) ?_
  rw [hd_clamp (n := i) ek]
  refine kr_aload_n 0 rd_d_X12_paid_7 rfl ?_
  refine kr_getf G.1 (rd_FL rd_k_X12_paid_8).1 rd_d_X12_paid_8 (hS.1 118 (.inl 12) rfl) (v := .ref 127) (by unfold am_fa; rw [(rd_FL rd_k_X12_paid_8).2]; exact hS.2 118 24 127 rfl) ?_
  refine kr_iload_n 1 rd_d_X12_paid_11 rfl ?_
  refine kr_iald G.1 (n := 24) rd_d_X12_paid_12 (hS.1 127 (.inr (.int, 24)) rfl) (hd_in (n := i) ek (by omega)) ?_
  rw [hd_clamp (n := i) ek]
  refine rd_call G (T2 := tX12_betterOf) rfl rd_d_X12_paid_13 rd_k_X12_paid_13 rfl (hS.1 118 (.inl 12) rfl) (as := [.int (σ.2.1 128 i), .int (σ.2.1 127 i)]) (st := []) rfl (Nat.le_of_ble_eq_true rfl) rfl (Nat.le_of_ble_eq_true rfl) (d1 := 5) (by decide) (fun _ h => by cases h.1) (ax_bwM G hS (σ.2.1 128 i) (σ.2.1 127 i) hb ⟨by omega, by omega⟩) ?_
  intro v1 σ1 ⟨hv1, hs1⟩
  cases hv1
  rw [hs1]
  refine kr_iconst (v := 1) rd_d_X12_paid_16 (by decide) ?_
  refine kr_icmp_ne (tgt := 42) rd_d_X12_paid_17 rfl (fun h2 => ?_) (fun h2 => ?_)
  · refine kr_aload_n 0 rd_d_X12_paid_42 rfl ?_
    refine kr_iload_n 1 rd_d_X12_paid_43 rfl ?_
    refine rd_call G (T2 := tX12_saleEnd) rfl rd_d_X12_paid_44 rd_k_X12_paid_44 rfl (hS.1 118 (.inl 12) rfl) (as := [.int k]) (st := []) rfl (Nat.le_of_ble_eq_true rfl) rfl (Nat.le_of_ble_eq_true rfl) (d1 := 1) (by decide) (fun _ h => by obtain ⟨⟨y, h, -⟩, -⟩ := h; cases h) (ax_enM G b' hok' hS rfl hL ek hi) ?_
    intro v2 σ2 ⟨⟨y, hv2, hy⟩, hs2⟩
    cases hv2
    rw [hs2]
    rw [en] at hy
    refine kr_iload_n 2 rd_d_X12_paid_47 rfl ?_
    refine kr_icmp_le (tgt := 67) rd_d_X12_paid_48 rfl (fun h3 => ?_) (fun h3 => ?_)
    · refine kr_iconst (v := 1) rd_d_X12_paid_67 (by decide) ?_
      refine kr_goto (tgt := 72) rd_d_X12_paid_68 rfl ?_
      have e : pd_pd s ((pz_best s).getD i (0, 0)) S (σ.2.1 120 75) = (true, σ.2.1 120 75) := by rw [pd_pd, if_neg (fun z => h2 (g3.trans z)), if_pos (by have := Int32.le_iff_toInt_le.mp h3; omega)]
      rw [e]
      exact kr_ireturn rd_d_X12_paid_72 (ty := .boolean) rfl rfl ⟨rfl, hS, rfl, fun _ _ _ => rfl⟩
    · refine kr_aload_n 0 rd_d_X12_paid_51 rfl ?_
      refine kr_bipush (v := 12) rd_d_X12_paid_52 (by decide) ?_
      refine rd_call G (T2 := tX12_draw) rfl rd_d_X12_paid_54 rd_k_X12_paid_54 rfl (hS.1 118 (.inl 12) rfl) (as := [.int 12]) (st := []) rfl (Nat.le_of_ble_eq_true rfl) rfl (Nat.le_of_ble_eq_true rfl) (d1 := 1) (by decide) (fun _ h => by cases h.1) (ax_drM G hS (n := 12) (by decide)) ?_
      intro v1 σ1 ⟨hv1, hS1, hw1, hf1⟩
      cases hv1
      have e57 : σ1.2.1 120 57 = s 57 := (hf1 120 57 (by omega)).trans (he 57 (by decide))
      have e56 : σ1.2.1 120 56 = s 56 := (hf1 120 56 (by omega)).trans (he 56 (by decide))
      refine kr_aload_n 0 rd_d_X12_paid_57 rfl ?_
      refine kr_getf G.1 (rd_FL rd_k_X12_paid_58).1 rd_d_X12_paid_58 (hS1.1 118 (.inl 12) rfl) (v := .ref 120) (by unfold am_fa; rw [(rd_FL rd_k_X12_paid_58).2]; exact hS1.2 118 6 120 rfl) ?_
      refine kr_bipush (v := 56) rd_d_X12_paid_61 (by decide) ?_
      refine kr_iald G.1 (n := 277) rd_d_X12_paid_63 (hS1.1 120 (.inr (.int, 277)) rfl) (hd_in (n := 56) (by decide) (by decide)) ?_
      rw [hd_clamp (n := 56) (by decide)]
      refine kr_icmp_ge (tgt := 71) rd_d_X12_paid_64 rfl (fun h4 => ?_) (fun h4 => ?_)
      · refine kr_iconst (v := 0) rd_d_X12_paid_71 (by decide) ?_
        rw [e56] at h4
        have e : pd_pd s ((pz_best s).getD i (0, 0)) S (σ.2.1 120 75) = (decide (ax_f_dof (ax_f_nxs (σ.2.1 120 75)) 12 < s 56), ax_f_nxs (σ.2.1 120 75)) := by rw [pd_pd, if_neg (fun z => h2 (g3.trans z)), if_neg (fun z => h3 (Int32.le_iff_toInt_le.mpr (by omega)))]
        rw [e, decide_eq_false (pd_nlt h4)]
        exact kr_ireturn rd_d_X12_paid_72 (ty := .boolean) rfl rfl ⟨rfl, hS1, hw1, hf1⟩
      · refine kr_iconst (v := 1) rd_d_X12_paid_67 (by decide) ?_
        refine kr_goto (tgt := 72) rd_d_X12_paid_68 rfl ?_
        rw [e56] at h4
        have e : pd_pd s ((pz_best s).getD i (0, 0)) S (σ.2.1 120 75) = (decide (ax_f_dof (ax_f_nxs (σ.2.1 120 75)) 12 < s 56), ax_f_nxs (σ.2.1 120 75)) := by rw [pd_pd, if_neg (fun z => h2 (g3.trans z)), if_neg (fun z => h3 (Int32.le_iff_toInt_le.mpr (by omega)))]
        rw [e, decide_eq_true (pd_lt h4)]
        exact kr_ireturn rd_d_X12_paid_72 (ty := .boolean) rfl rfl ⟨rfl, hS1, hw1, hf1⟩
  · refine kr_aload_n 0 rd_d_X12_paid_20 rfl ?_
    refine kr_bipush (v := 12) rd_d_X12_paid_21 (by decide) ?_
    refine rd_call G (T2 := tX12_draw) rfl rd_d_X12_paid_23 rd_k_X12_paid_23 rfl (hS.1 118 (.inl 12) rfl) (as := [.int 12]) (st := []) rfl (Nat.le_of_ble_eq_true rfl) rfl (Nat.le_of_ble_eq_true rfl) (d1 := 1) (by decide) (fun _ h => by cases h.1) (ax_drM G hS (n := 12) (by decide)) ?_
    intro v1 σ1 ⟨hv1, hS1, hw1, hf1⟩
    cases hv1
    have e57 : σ1.2.1 120 57 = s 57 := (hf1 120 57 (by omega)).trans (he 57 (by decide))
    have e56 : σ1.2.1 120 56 = s 56 := (hf1 120 56 (by omega)).trans (he 56 (by decide))
    refine kr_aload_n 0 rd_d_X12_paid_26 rfl ?_
    refine kr_getf G.1 (rd_FL rd_k_X12_paid_27).1 rd_d_X12_paid_27 (hS1.1 118 (.inl 12) rfl) (v := .ref 120) (by unfold am_fa; rw [(rd_FL rd_k_X12_paid_27).2]; exact hS1.2 118 6 120 rfl) ?_
    refine kr_bipush (v := 57) rd_d_X12_paid_30 (by decide) ?_
    refine kr_iald G.1 (n := 277) rd_d_X12_paid_32 (hS1.1 120 (.inr (.int, 277)) rfl) (hd_in (n := 57) (by decide) (by decide)) ?_
    rw [hd_clamp (n := 57) (by decide)]
    refine kr_icmp_lt (tgt := 40) rd_d_X12_paid_33 rfl (fun h5 => ?_) (fun h5 => ?_)
    · refine kr_iconst (v := 0) rd_d_X12_paid_40 (by decide) ?_
      rw [e57] at h5
      have e : pd_pd s ((pz_best s).getD i (0, 0)) S (σ.2.1 120 75) = (!(decide (ax_f_dof (ax_f_nxs (σ.2.1 120 75)) 12 < s 57)), ax_f_nxs (σ.2.1 120 75)) := by rw [pd_pd, if_pos (by rw [← g3]; exact h2)]
      rw [e, decide_eq_true h5]
      exact kr_ireturn rd_d_X12_paid_41 (ty := .boolean) rfl rfl ⟨rfl, hS1, hw1, hf1⟩
    · refine kr_iconst (v := 1) rd_d_X12_paid_36 (by decide) ?_
      refine kr_goto (tgt := 41) rd_d_X12_paid_37 rfl ?_
      rw [e57] at h5
      have e : pd_pd s ((pz_best s).getD i (0, 0)) S (σ.2.1 120 75) = (!(decide (ax_f_dof (ax_f_nxs (σ.2.1 120 75)) 12 < s 57)), ax_f_nxs (σ.2.1 120 75)) := by rw [pd_pd, if_pos (by rw [← g3]; exact h2)]
      rw [e, decide_eq_false h5]
      exact kr_ireturn rd_d_X12_paid_41 (ty := .boolean) rfl rfl ⟨rfl, hS1, hw1, hf1⟩
theorem ax_dwL (G : sx_G0 g L xs z9 hd_C ex_mt) {s : Nat → Int32} (b : pn_B s) {σ : am_S} (hS : ax_S σ) (he : pc_E s (σ.2.1 120)) {V : Int} (hV : V < pd_W s (pz_sN s)) {i kept n x0 : Int32} {post : Option (Option Value) → am_S → Prop} : ∀ (f j : Nat) (v k : Int32), k.toInt = (j : Int) → j + f = pz_sN s → v.toInt = V - pd_W s j → pd_W s j ≤ V → (∀ (k2 v2 : Int32), k2.toInt = (pd_kf s V j f : Int) → pd_kf s V j f < pz_sN s → am_K g 11 tX12_draws.1 0 0 81 [(6, .int k2), (5, .int v2), (4, .int i), (3, .int kept), (0, .ref 118), (1, .int n), (2, .int x0)] [] σ post) → am_K g 11 tX12_draws.1 0 0 53 [(6, .int k), (5, .int v), (4, .int i), (3, .int kept), (0, .ref 118), (1, .int n), (2, .int x0)] [] σ post := by
  have h6 := ax_many6 (s := s) b.1.2
  have hN : (ax_f_many s).toInt = (pz_sN s : Int) := by unfold pz_sN; omega
  intro f
  induction f with
  | zero =>
    intro j v k ek hj ev hle kk
    have e : j = pz_sN s := by omega
    subst e
    omega
  | succ f ih =>
    intro j v k ek hj ev hle kk
    have hkj : k.toInt.toNat = j := by omega
    have hwgt : ax_f_wgtM (σ.2.1 120) k (k.toInt.toNat) = ax_f_wgtM s 0 j := by rw [hkj, ax_f_wgtM, ax_f_wgtM, he 1 (by decide), he (48 + j) (by omega)]
    have hw := wgt_b b 0 (j := j) (by omega)
    have hWb := pd_Wb b j (by omega)
    have hWN := pd_Wb b (pz_sN s) (by omega)
    have hstep : pd_W s (j + 1) = pd_W s j + (ax_f_wgtM s 0 j).toInt := rfl
    have hkf : pd_kf s V j (f + 1) = if V < pd_W s (j + 1) then j else pd_kf s V (j + 1) f := rfl
    refine kr_iload 1 rd_d_X12_draws_53 rfl ?_
    refine kr_aload_n 4 rd_d_X12_draws_55 rfl ?_
    refine kr_iload 0 rd_d_X12_draws_56 rfl ?_
    refine rd_call G (T2 := tX12_weightOf) rfl rd_d_X12_draws_58 rd_k_X12_draws_58 rfl (hS.1 118 (.inl 12) rfl) (as := [.int k]) (st := [.int v]) rfl (Nat.le_of_ble_eq_true rfl) rfl (Nat.le_of_ble_eq_true rfl) (d1 := 1) (by decide) (fun _ h => by cases h.1) (ax_wgtM G hS k (k.toInt.toNat) (by omega) (by omega)) ?_
    intro v21 σ21 ⟨hv21, hs21⟩
    cases hv21
    rw [hs21]
    refine kr_icmp_lt (tgt := 81) rd_d_X12_draws_61 rfl (fun h22 => ?_) (fun h22 => ?_)
    · have q := Int32.lt_iff_toInt_lt.mp (by rw [hwgt] at h22; exact h22)
      rw [hkf, if_pos (by omega)] at kk
      exact kk k v ek (by omega)
    · refine kr_iload 1 rd_d_X12_draws_64 rfl ?_
      refine kr_aload_n 4 rd_d_X12_draws_66 rfl ?_
      refine kr_iload 0 rd_d_X12_draws_67 rfl ?_
      refine rd_call G (T2 := tX12_weightOf) rfl rd_d_X12_draws_69 rd_k_X12_draws_69 rfl (hS.1 118 (.inl 12) rfl) (as := [.int k]) (st := [.int v]) rfl (Nat.le_of_ble_eq_true rfl) rfl (Nat.le_of_ble_eq_true rfl) (d1 := 1) (by decide) (fun _ h => by cases h.1) (ax_wgtM G hS k (k.toInt.toNat) (by omega) (by omega)) ?_
      intro v23 σ23 ⟨hv23, hs23⟩
      cases hv23
      rw [hs23]
      refine kr_isub rd_d_X12_draws_72 ?_
      refine kr_istore (lv' := [(5, .int (v - (ax_f_wgtM (σ.2.1 120) k (k.toInt.toNat)))), (6, .int k), (4, .int i), (3, .int kept), (0, .ref 118), (1, .int n), (2, .int x0)]) rd_d_X12_draws_73 (by decide) rfl ?_
      refine kr_iinc (v := k + 1) (lv' := [(6, .int (k + 1)), (5, .int (v - (ax_f_wgtM (σ.2.1 120) k (k.toInt.toNat)))), (4, .int i), (3, .int kept), (0, .ref 118), (1, .int n), (2, .int x0)]) 1 rd_d_X12_draws_75 rfl rfl (by decide) rfl ?_
      refine kr_goto (tgt := 53) rd_d_X12_draws_78 rfl ?_
      refine kr_sub (lv' := [(6, .int (k + 1)), (5, .int (v - (ax_f_wgtM (σ.2.1 120) k (k.toInt.toNat)))), (4, .int i), (3, .int kept), (0, .ref 118), (1, .int n), (2, .int x0)]) (by simp) ?_
      have q : ¬ v.toInt < (ax_f_wgtM s 0 j).toInt := fun q => h22 (by rw [hwgt]; exact Int32.lt_iff_toInt_lt.mpr q)
      rw [hkf, if_neg (by omega)] at kk
      refine ih (j + 1) (v - (ax_f_wgtM (σ.2.1 120) k (k.toInt.toNat))) (k + 1) (ax_inc ek (by omega)) (by omega) ?_ (by omega) kk
      rw [hwgt, sx_subI _ _ (by show (-2147483648 : Int) ≤ _; omega) (by show _ ≤ (2147483647 : Int); omega)]
      omega
theorem ax_drI (G : sx_G0 g L xs z9 hd_C ex_mt) {s : Nat → Int32} (b : pn_B s) (b6 : pl_B6 s) {S x k v i kept n x0 : Int32} {K : Nat} (ekK : k.toInt = (K : Int)) (hK : K < pz_sN s) (hSv : ax_f_secM s 0 K = S) {post : Option (Option Value) → am_S → Prop} : ∀ (f j : Nat) (sm sd : Int32) (σ : am_S), ax_S σ → pc_E s (σ.2.1 120) → pb_M (pz_best s) σ.2.1 → sd.toInt = (j : Int) → j + f = (pz_best s).length → sm = (pd_in s S x j).1 → σ.2.1 120 75 = (pd_in s S x j).2 → (∀ (sd2 : Int32) (σ' : am_S), ax_S σ' → (∀ a b, ¬ (a = 120 ∧ b = 75) → σ'.2.1 a b = σ.2.1 a b) → σ'.2.1 120 75 = (pd_in s S x (pz_best s).length).2 → am_K g 11 tX12_draws.1 0 0 156 [(8, .int sd2), (7, .int ((pd_in s S x (pz_best s).length).1)), (6, .int k), (5, .int v), (4, .int i), (3, .int kept), (0, .ref 118), (1, .int n), (2, .int x0)] [] σ' post) → am_K g 11 tX12_draws.1 0 0 87 [(8, .int sd), (7, .int sm), (6, .int k), (5, .int v), (4, .int i), (3, .int kept), (0, .ref 118), (1, .int n), (2, .int x0)] [] σ post := by
  have hok := pz_best_ok b b6
  have h24 := hok.1
  have h6 := ax_many6 (s := s) b.1.2
  have hN : (ax_f_many s).toInt = (pz_sN s : Int) := by unfold pz_sN; omega
  have hkK : k.toInt.toNat = K := by omega
  intro f
  induction f with
  | zero =>
    intro j sm sd σ hS he hL ej hj ep ex kk
    have hlen := hL.1
    refine kr_iload 0 rd_d_X12_draws_87 rfl ?_
    refine kr_aload_n 6 rd_d_X12_draws_89 rfl ?_
    refine kr_getf G.1 (rd_FL rd_k_X12_draws_90).1 rd_d_X12_draws_90 (hS.1 118 (.inl 12) rfl) (v := .int (σ.2.1 118 28)) (by unfold am_fa; rw [(rd_FL rd_k_X12_draws_90).2]; rfl) ?_
    refine kr_icmp_ge (tgt := 156) rd_d_X12_draws_93 rfl (fun h1 => ?_) (fun h1 => ?_)
    · have e : j = (pz_best s).length := by omega
      rw [e] at ep ex
      rw [ep]
      exact kk sd σ hS (fun _ _ _ => rfl) ex
    · exact absurd (Int32.le_iff_toInt_le.mpr (by omega)) h1
  | succ f ih =>
    intro j sm sd σ hS he hL ej hj ep ex kk
    have hlen := hL.1
    have hi : j < (pz_best s).length := by omega
    obtain ⟨g1, g2⟩ := hL.2 j hi
    obtain ⟨w1, t1⟩ := hok.2 j hi
    have h10 := b.1.1.2
    have hsec : ax_f_secM (σ.2.1 120) k (k.toInt.toNat) = S := by rw [hkK, ← hSv, ax_f_secM, ax_f_secM, he 1 (by decide), he (42 + K) (by omega)]
    have hin : pd_in s S x (j + 1) = if (((pz_best s).getD j (0, 0)).2 : Int) < S.toInt then (if (pd_pd s ((pz_best s).getD j (0, 0)) S (pd_in s S x j).2).1 = true then (pd_in s S x j).1 + s (2 + ((pz_best s).getD j (0, 0)).1) else (pd_in s S x j).1, (pd_pd s ((pz_best s).getD j (0, 0)) S (pd_in s S x j).2).2) else pd_in s S x j := rfl
    refine kr_iload 0 rd_d_X12_draws_87 rfl ?_
    refine kr_aload_n 6 rd_d_X12_draws_89 rfl ?_
    refine kr_getf G.1 (rd_FL rd_k_X12_draws_90).1 rd_d_X12_draws_90 (hS.1 118 (.inl 12) rfl) (v := .int (σ.2.1 118 28)) (by unfold am_fa; rw [(rd_FL rd_k_X12_draws_90).2]; rfl) ?_
    refine kr_icmp_ge (tgt := 156) rd_d_X12_draws_93 rfl (fun h21 => ?_) (fun h21 => ?_)
    · have := Int32.le_iff_toInt_le.mp h21
      omega
    · refine kr_aload_n 6 rd_d_X12_draws_96 rfl ?_
      refine kr_getf G.1 (rd_FL rd_k_X12_draws_97).1 rd_d_X12_draws_97 (hS.1 118 (.inl 12) rfl) (v := .ref 127) (by unfold am_fa; rw [(rd_FL rd_k_X12_draws_97).2]; exact hS.2 118 24 127 rfl) ?_
      refine kr_iload 0 rd_d_X12_draws_100 rfl ?_
      refine kr_iald G.1 (n := 24) rd_d_X12_draws_102 (hS.1 127 (.inr (.int, 24)) rfl) (hd_in (n := j) ej (by omega)) ?_
      rw [hd_clamp (n := j) ej]
      refine kr_aload_n 6 rd_d_X12_draws_103 rfl ?_
      refine kr_iload 2 rd_d_X12_draws_104 rfl ?_
      refine rd_call G (T2 := tX12_secondsOf) rfl rd_d_X12_draws_106 rd_k_X12_draws_106 rfl (hS.1 118 (.inl 12) rfl) (as := [.int k]) (st := [.int (σ.2.1 127 j)]) rfl (Nat.le_of_ble_eq_true rfl) rfl (Nat.le_of_ble_eq_true rfl) (d1 := 1) (by decide) (fun _ h => by cases h.1) (ax_secM G hS k (k.toInt.toNat) (by omega) (by omega)) ?_
      intro u41 τ41 ⟨hu41, hz41⟩
      cases hu41
      rw [hz41, hsec]
      refine kr_icmp_ge (tgt := 156) rd_d_X12_draws_109 rfl (fun h42 => ?_) (fun h42 => ?_)
      · have hlt : ¬ (((pz_best s).getD j (0, 0)).2 : Int) < S.toInt := by have := Int32.le_iff_toInt_le.mp h42; omega
        have hst := pd_stop b (S := S) (x := x) hi hlt ((pz_best s).length - j) (by omega)
        rw [show j + ((pz_best s).length - j) = (pz_best s).length by omega] at hst
        rw [← hst] at ep ex
        rw [ep]
        exact kk sd σ hS (fun _ _ _ => rfl) ex
      · refine kr_iload 1 rd_d_X12_draws_112 rfl ?_
        refine kr_aload_n 6 rd_d_X12_draws_114 rfl ?_
        refine kr_iload 0 rd_d_X12_draws_115 rfl ?_
        refine kr_aload_n 6 rd_d_X12_draws_117 rfl ?_
        refine kr_iload 2 rd_d_X12_draws_118 rfl ?_
        refine rd_call G (T2 := tX12_secondsOf) rfl rd_d_X12_draws_120 rd_k_X12_draws_120 rfl (hS.1 118 (.inl 12) rfl) (as := [.int k]) (st := [.int sd, .ref 118, .int sm]) rfl (Nat.le_of_ble_eq_true rfl) rfl (Nat.le_of_ble_eq_true rfl) (d1 := 1) (by decide) (fun _ h => by cases h.1) (ax_secM G hS k (k.toInt.toNat) (by omega) (by omega)) ?_
        intro u43 τ43 ⟨hu43, hz43⟩
        cases hu43
        rw [hz43, hsec]
        refine rd_call G (T2 := tX12_paid) rfl rd_d_X12_draws_123 rd_k_X12_draws_123 rfl (hS.1 118 (.inl 12) rfl) (as := [.int sd, .int S]) (st := [.int sm]) rfl (Nat.le_of_ble_eq_true rfl) rfl (Nat.le_of_ble_eq_true rfl) (d1 := 6) (by decide) (fun _ h => by cases h.1) (ax_ipM G b b6 hS he hL ej hi) ?_
        rw [ex]
        intro v1 σ1 ⟨hv1, hS1, hw1, hf1⟩
        cases hv1
        have he1 : pc_E s (σ1.2.1 120) := fun q hq => (hf1 120 q (by omega)).trans (he q hq)
        have hL1 : pb_M (pz_best s) σ1.2.1 := ⟨by rw [hf1 118 28 (by omega)]; exact hL.1, fun q h => by rw [hf1 128 q (by omega), hf1 127 q (by omega)]; exact hL.2 q h⟩
        have g4 := (hL1.2 j hi).1
        have ePr : (2 + σ1.2.1 128 j).toInt = ((2 + ((pz_best s).getD j (0, 0)).1 : Nat) : Int) := ch_ixw (C := 2) rfl (by decide) g4 (by omega)
        generalize hB : (pd_pd s ((pz_best s).getD j (0, 0)) S (pd_in s S x j).2).1 = B at hin ⊢
        refine kr_if_eq (tgt := 146) rd_d_X12_draws_126 rfl (fun h44 => ?_) (fun h44 => ?_)
        · refine kr_iconst (v := 0) rd_d_X12_draws_146 (by decide) ?_
          refine kr_iadd rd_d_X12_draws_147 ?_
          refine kr_istore (lv' := [(7, .int (sm + 0)), (8, .int sd), (6, .int k), (5, .int v), (4, .int i), (3, .int kept), (0, .ref 118), (1, .int n), (2, .int x0)]) rd_d_X12_draws_148 (by decide) rfl ?_
          refine kr_iinc (v := sd + 1) (lv' := [(8, .int (sd + 1)), (7, .int (sm + 0)), (6, .int k), (5, .int v), (4, .int i), (3, .int kept), (0, .ref 118), (1, .int n), (2, .int x0)]) 1 rd_d_X12_draws_150 rfl rfl (by decide) rfl ?_
          refine kr_goto (tgt := 87) rd_d_X12_draws_153 rfl ?_
          refine kr_sub (lv' := [(8, .int (sd + 1)), (7, .int (sm + 0)), (6, .int k), (5, .int v), (4, .int i), (3, .int kept), (0, .ref 118), (1, .int n), (2, .int x0)]) (by simp) ?_
          have hlt : (((pz_best s).getD j (0, 0)).2 : Int) < S.toInt := by have : ¬ S.toInt ≤ (σ.2.1 127 j).toInt := fun z => h42 (Int32.le_iff_toInt_le.mpr z); omega
          rw [if_pos hlt] at hin
          have hBt : ¬ B = true := fun z => by rw [z] at h44; exact absurd h44 (by decide)
          rw [if_neg hBt] at hin
          refine ih (j + 1) _ (sd + 1) σ1 hS1 he1 hL1 (ax_inc ej (by omega)) (by omega) (by rw [hin, Int32.add_zero]; exact ep) (by rw [hin]; exact hw1) (fun sd2 σ2 a1 a2 a4 => kk sd2 σ2 a1 (fun a y z => (a2 a y z).trans (hf1 a y z)) a4)
        · refine kr_aload_n 6 rd_d_X12_draws_129 rfl ?_
          refine kr_getf G.1 (rd_FL rd_k_X12_draws_130).1 rd_d_X12_draws_130 (hS1.1 118 (.inl 12) rfl) (v := .ref 120) (by unfold am_fa; rw [(rd_FL rd_k_X12_draws_130).2]; exact hS1.2 118 6 120 rfl) ?_
          refine kr_iconst (v := 2) rd_d_X12_draws_133 (by decide) ?_
          refine kr_aload_n 6 rd_d_X12_draws_134 rfl ?_
          refine kr_getf G.1 (rd_FL rd_k_X12_draws_135).1 rd_d_X12_draws_135 (hS1.1 118 (.inl 12) rfl) (v := .ref 128) (by unfold am_fa; rw [(rd_FL rd_k_X12_draws_135).2]; exact hS1.2 118 25 128 rfl) ?_
          refine kr_iload 0 rd_d_X12_draws_138 rfl ?_
          refine kr_iald G.1 (n := 24) rd_d_X12_draws_140 (hS1.1 128 (.inr (.int, 24)) rfl) (hd_in (n := j) ej (by omega)) ?_
          rw [hd_clamp (n := j) ej]
          refine kr_iadd rd_d_X12_draws_141 ?_
          refine kr_iald G.1 (n := 277) rd_d_X12_draws_142 (hS1.1 120 (.inr (.int, 277)) rfl) (hd_in (n := 2 + ((pz_best s).getD j (0, 0)).1) ePr (by omega)) ?_
          rw [hd_clamp (n := 2 + ((pz_best s).getD j (0, 0)).1) ePr]
          refine kr_goto (tgt := 147) rd_d_X12_draws_143 rfl ?_
          refine kr_iadd rd_d_X12_draws_147 ?_
          refine kr_istore (lv' := [(7, .int (sm + (σ1.2.1 120 (2 + ((pz_best s).getD j (0, 0)).1)))), (8, .int sd), (6, .int k), (5, .int v), (4, .int i), (3, .int kept), (0, .ref 118), (1, .int n), (2, .int x0)]) rd_d_X12_draws_148 (by decide) rfl ?_
          refine kr_iinc (v := sd + 1) (lv' := [(8, .int (sd + 1)), (7, .int (sm + (σ1.2.1 120 (2 + ((pz_best s).getD j (0, 0)).1)))), (6, .int k), (5, .int v), (4, .int i), (3, .int kept), (0, .ref 118), (1, .int n), (2, .int x0)]) 1 rd_d_X12_draws_150 rfl rfl (by decide) rfl ?_
          refine kr_goto (tgt := 87) rd_d_X12_draws_153 rfl ?_
          refine kr_sub (lv' := [(8, .int (sd + 1)), (7, .int (sm + (σ1.2.1 120 (2 + ((pz_best s).getD j (0, 0)).1)))), (6, .int k), (5, .int v), (4, .int i), (3, .int kept), (0, .ref 118), (1, .int n), (2, .int x0)]) (by simp) ?_
          have hlt : (((pz_best s).getD j (0, 0)).2 : Int) < S.toInt := by have : ¬ S.toInt ≤ (σ.2.1 127 j).toInt := fun z => h42 (Int32.le_iff_toInt_le.mpr z); omega
          rw [if_pos hlt] at hin
          have hBt : B = true := by cases B with | true => rfl | false => exact absurd rfl h44
          rw [if_pos hBt] at hin
          refine ih (j + 1) _ (sd + 1) σ1 hS1 he1 hL1 (ax_inc ej (by omega)) (by omega) (by rw [hin, he1 (2 + ((pz_best s).getD j (0, 0)).1) (by omega), ep]) (by rw [hin]; exact hw1) (fun sd2 σ2 a1 a2 a4 => kk sd2 σ2 a1 (fun a y z => (a2 a y z).trans (hf1 a y z)) a4)
end AXX
