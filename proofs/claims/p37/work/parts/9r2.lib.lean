/-! exact answers, further (rows written by a program) -/
theorem rd_d_J7_fill_53178_0 : decode tJ7_fill_53178.1.2.1 0 = .ok (.iconst 0, 1) := by decide +kernel
theorem rd_d_J7_fill_53178_1 : decode tJ7_fill_53178.1.2.1 1 = .ok (.istore_n 2, 1) := by decide +kernel
theorem rd_d_J7_fill_53178_2 : decode tJ7_fill_53178.1.2.1 2 = .ok (.aload_n 0, 1) := by decide +kernel
theorem rd_d_J7_fill_53178_3 : decode tJ7_fill_53178.1.2.1 3 = .ok (.arraylength, 1) := by decide +kernel
theorem rd_d_J7_fill_53178_4 : decode tJ7_fill_53178.1.2.1 4 = .ok (.istore_n 3, 1) := by decide +kernel
theorem rd_d_J7_fill_53178_5 : decode tJ7_fill_53178.1.2.1 5 = .ok (.iload_n 2, 1) := by decide +kernel
theorem rd_d_J7_fill_53178_6 : decode tJ7_fill_53178.1.2.1 6 = .ok (.iload_n 3, 1) := by decide +kernel
theorem rd_d_J7_fill_53178_7 : decode tJ7_fill_53178.1.2.1 7 = .ok (.if_icmp .ge 13, 3) := by decide +kernel
theorem rd_d_J7_fill_53178_10 : decode tJ7_fill_53178.1.2.1 10 = .ok (.aload_n 0, 1) := by decide +kernel
theorem rd_d_J7_fill_53178_11 : decode tJ7_fill_53178.1.2.1 11 = .ok (.iload_n 2, 1) := by decide +kernel
theorem rd_d_J7_fill_53178_12 : decode tJ7_fill_53178.1.2.1 12 = .ok (.iload_n 1, 1) := by decide +kernel
theorem rd_d_J7_fill_53178_13 : decode tJ7_fill_53178.1.2.1 13 = .ok (.iastore, 1) := by decide +kernel
theorem rd_d_J7_fill_53178_14 : decode tJ7_fill_53178.1.2.1 14 = .ok (.iinc 2 1, 3) := by decide +kernel
theorem rd_d_J7_fill_53178_17 : decode tJ7_fill_53178.1.2.1 17 = .ok (.goto (-12), 3) := by decide +kernel
theorem rd_d_J7_fill_53178_20 : decode tJ7_fill_53178.1.2.1 20 = .ok (.return_, 1) := by decide +kernel
theorem rd_d_X4_weighSales_0 : decode tX4_weighSales.1.2.1 0 = .ok (.iconst 0, 1) := by decide +kernel
theorem rd_d_X4_weighSales_1 : decode tX4_weighSales.1.2.1 1 = .ok (.istore 6, 2) := by decide +kernel
theorem rd_d_X4_weighSales_3 : decode tX4_weighSales.1.2.1 3 = .ok (.iload_n 2, 1) := by decide +kernel
theorem rd_d_X4_weighSales_4 : decode tX4_weighSales.1.2.1 4 = .ok (.istore 7, 2) := by decide +kernel
theorem rd_d_X4_weighSales_6 : decode tX4_weighSales.1.2.1 6 = .ok (.iconst 0, 1) := by decide +kernel
theorem rd_d_X4_weighSales_7 : decode tX4_weighSales.1.2.1 7 = .ok (.istore 8, 2) := by decide +kernel
theorem rd_d_X4_weighSales_9 : decode tX4_weighSales.1.2.1 9 = .ok (.iload 8, 2) := by decide +kernel
theorem rd_d_X4_weighSales_11 : decode tX4_weighSales.1.2.1 11 = .ok (.iload_n 3, 1) := by decide +kernel
theorem rd_d_X4_weighSales_12 : decode tX4_weighSales.1.2.1 12 = .ok (.if_icmp .gt 93, 3) := by decide +kernel
theorem rd_d_X4_weighSales_15 : decode tX4_weighSales.1.2.1 15 = .ok (.iload 7, 2) := by decide +kernel
theorem rd_d_X4_weighSales_17 : decode tX4_weighSales.1.2.1 17 = .ok (.iload 5, 2) := by decide +kernel
theorem rd_d_X4_weighSales_19 : decode tX4_weighSales.1.2.1 19 = .ok (.iadd, 1) := by decide +kernel
theorem rd_d_X4_weighSales_20 : decode tX4_weighSales.1.2.1 20 = .ok (.istore 9, 2) := by decide +kernel
theorem rd_d_X4_weighSales_22 : decode tX4_weighSales.1.2.1 22 = .ok (.aload_n 0, 1) := by decide +kernel
theorem rd_d_X4_weighSales_23 : decode tX4_weighSales.1.2.1 23 = .ok (.getfield 40, 3) := by decide +kernel
theorem rd_k_X4_weighSales_23 : ex_lk ex_mt tX4_weighSales 23 (.getfield 40) [4, 10, 2, 131093] = true := by decide +kernel
theorem rd_d_X4_weighSales_26 : decode tX4_weighSales.1.2.1 26 = .ok (.iload 8, 2) := by decide +kernel
theorem rd_d_X4_weighSales_28 : decode tX4_weighSales.1.2.1 28 = .ok (.iload 6, 2) := by decide +kernel
theorem rd_d_X4_weighSales_30 : decode tX4_weighSales.1.2.1 30 = .ok (.invokestatic 82, 3) := by decide +kernel
theorem rd_k_X4_weighSales_30 : ex_lk ex_mt tX4_weighSales 30 (.invokestatic 82) [0, 55, 262327] = true := by decide +kernel
theorem rd_d_X4_weighSales_33 : decode tX4_weighSales.1.2.1 33 = .ok (.aload_n 0, 1) := by decide +kernel
theorem rd_d_X4_weighSales_34 : decode tX4_weighSales.1.2.1 34 = .ok (.getfield 43, 3) := by decide +kernel
theorem rd_k_X4_weighSales_34 : ex_lk ex_mt tX4_weighSales 34 (.getfield 43) [4, 11, 2, 131094] = true := by decide +kernel
theorem rd_d_X4_weighSales_37 : decode tX4_weighSales.1.2.1 37 = .ok (.iload 8, 2) := by decide +kernel
theorem rd_d_X4_weighSales_39 : decode tX4_weighSales.1.2.1 39 = .ok (.iload 9, 2) := by decide +kernel
theorem rd_d_X4_weighSales_41 : decode tX4_weighSales.1.2.1 41 = .ok (.aload_n 0, 1) := by decide +kernel
theorem rd_d_X4_weighSales_42 : decode tX4_weighSales.1.2.1 42 = .ok (.getfield 72, 3) := by decide +kernel
theorem rd_k_X4_weighSales_42 : ex_lk ex_mt tX4_weighSales 42 (.getfield 72) [4, 16, 0, 131103] = true := by decide +kernel
theorem rd_d_X4_weighSales_45 : decode tX4_weighSales.1.2.1 45 = .ok (.if_icmp .ge 11, 3) := by decide +kernel
theorem rd_d_X4_weighSales_48 : decode tX4_weighSales.1.2.1 48 = .ok (.iload 9, 2) := by decide +kernel
theorem rd_d_X4_weighSales_50 : decode tX4_weighSales.1.2.1 50 = .ok (.bipush 25, 2) := by decide +kernel
theorem rd_d_X4_weighSales_52 : decode tX4_weighSales.1.2.1 52 = .ok (.imul, 1) := by decide +kernel
theorem rd_d_X4_weighSales_53 : decode tX4_weighSales.1.2.1 53 = .ok (.goto 4, 3) := by decide +kernel
theorem rd_d_X4_weighSales_56 : decode tX4_weighSales.1.2.1 56 = .ok (.iconst (-1), 1) := by decide +kernel
theorem rd_d_X4_weighSales_57 : decode tX4_weighSales.1.2.1 57 = .ok (.invokestatic 82, 3) := by decide +kernel
theorem rd_k_X4_weighSales_57 : ex_lk ex_mt tX4_weighSales 57 (.invokestatic 82) [0, 55, 262327] = true := by decide +kernel
theorem rd_d_X4_weighSales_60 : decode tX4_weighSales.1.2.1 60 = .ok (.iload 6, 2) := by decide +kernel
theorem rd_d_X4_weighSales_62 : decode tX4_weighSales.1.2.1 62 = .ok (.iload 7, 2) := by decide +kernel
theorem rd_d_X4_weighSales_64 : decode tX4_weighSales.1.2.1 64 = .ok (.aload_n 0, 1) := by decide +kernel
theorem rd_d_X4_weighSales_65 : decode tX4_weighSales.1.2.1 65 = .ok (.getfield 72, 3) := by decide +kernel
theorem rd_k_X4_weighSales_65 : ex_lk ex_mt tX4_weighSales 65 (.getfield 72) [4, 16, 0, 131103] = true := by decide +kernel
theorem rd_d_X4_weighSales_68 : decode tX4_weighSales.1.2.1 68 = .ok (.if_icmp .ge 20, 3) := by decide +kernel
theorem rd_d_X4_weighSales_71 : decode tX4_weighSales.1.2.1 71 = .ok (.aload_n 0, 1) := by decide +kernel
theorem rd_d_X4_weighSales_72 : decode tX4_weighSales.1.2.1 72 = .ok (.getfield 9, 3) := by decide +kernel
theorem rd_k_X4_weighSales_72 : ex_lk ex_mt tX4_weighSales 72 (.getfield 9) [4, 1, 2, 131084] = true := by decide +kernel
theorem rd_d_X4_weighSales_75 : decode tX4_weighSales.1.2.1 75 = .ok (.iload_n 1, 1) := by decide +kernel
theorem rd_d_X4_weighSales_76 : decode tX4_weighSales.1.2.1 76 = .ok (.bipush 60, 2) := by decide +kernel
theorem rd_d_X4_weighSales_78 : decode tX4_weighSales.1.2.1 78 = .ok (.imul, 1) := by decide +kernel
theorem rd_d_X4_weighSales_79 : decode tX4_weighSales.1.2.1 79 = .ok (.iload 7, 2) := by decide +kernel
theorem rd_d_X4_weighSales_81 : decode tX4_weighSales.1.2.1 81 = .ok (.iadd, 1) := by decide +kernel
theorem rd_d_X4_weighSales_82 : decode tX4_weighSales.1.2.1 82 = .ok (.invokestatic 112, 3) := by decide +kernel
theorem rd_k_X4_weighSales_82 : ex_lk ex_mt tX4_weighSales 82 (.invokestatic 112) [0, 32, 262344] = true := by decide +kernel
theorem rd_d_X4_weighSales_85 : decode tX4_weighSales.1.2.1 85 = .ok (.goto 4, 3) := by decide +kernel
theorem rd_d_X4_weighSales_88 : decode tX4_weighSales.1.2.1 88 = .ok (.iconst 0, 1) := by decide +kernel
theorem rd_d_X4_weighSales_89 : decode tX4_weighSales.1.2.1 89 = .ok (.iadd, 1) := by decide +kernel
theorem rd_d_X4_weighSales_90 : decode tX4_weighSales.1.2.1 90 = .ok (.istore 6, 2) := by decide +kernel
theorem rd_d_X4_weighSales_92 : decode tX4_weighSales.1.2.1 92 = .ok (.iload 7, 2) := by decide +kernel
theorem rd_d_X4_weighSales_94 : decode tX4_weighSales.1.2.1 94 = .ok (.iload 4, 2) := by decide +kernel
theorem rd_d_X4_weighSales_96 : decode tX4_weighSales.1.2.1 96 = .ok (.iadd, 1) := by decide +kernel
theorem rd_d_X4_weighSales_97 : decode tX4_weighSales.1.2.1 97 = .ok (.istore 7, 2) := by decide +kernel
theorem rd_d_X4_weighSales_99 : decode tX4_weighSales.1.2.1 99 = .ok (.iinc 8 1, 3) := by decide +kernel
theorem rd_d_X4_weighSales_102 : decode tX4_weighSales.1.2.1 102 = .ok (.goto (-93), 3) := by decide +kernel
theorem rd_d_X4_weighSales_105 : decode tX4_weighSales.1.2.1 105 = .ok (.return_, 1) := by decide +kernel
theorem rd_d_X4_restFrom_0 : decode tX4_restFrom.1.2.1 0 = .ok (.iload_n 1, 1) := by decide +kernel
theorem rd_d_X4_restFrom_1 : decode tX4_restFrom.1.2.1 1 = .ok (.iconst (-1), 1) := by decide +kernel
theorem rd_d_X4_restFrom_2 : decode tX4_restFrom.1.2.1 2 = .ok (.if_icmp .ne 7, 3) := by decide +kernel
theorem rd_d_X4_restFrom_5 : decode tX4_restFrom.1.2.1 5 = .ok (.iconst 0, 1) := by decide +kernel
theorem rd_d_X4_restFrom_6 : decode tX4_restFrom.1.2.1 6 = .ok (.goto 20, 3) := by decide +kernel
theorem rd_d_X4_restFrom_9 : decode tX4_restFrom.1.2.1 9 = .ok (.aload_n 0, 1) := by decide +kernel
theorem rd_d_X4_restFrom_10 : decode tX4_restFrom.1.2.1 10 = .ok (.getfield 15, 3) := by decide +kernel
theorem rd_k_X4_restFrom_10 : ex_lk ex_mt tX4_restFrom 10 (.getfield 15) [4, 2, 2, 131085] = true := by decide +kernel
theorem rd_d_X4_restFrom_13 : decode tX4_restFrom.1.2.1 13 = .ok (.iload_n 1, 1) := by decide +kernel
theorem rd_d_X4_restFrom_14 : decode tX4_restFrom.1.2.1 14 = .ok (.iload_n 2, 1) := by decide +kernel
theorem rd_d_X4_restFrom_15 : decode tX4_restFrom.1.2.1 15 = .ok (.aload_n 0, 1) := by decide +kernel
theorem rd_d_X4_restFrom_16 : decode tX4_restFrom.1.2.1 16 = .ok (.getfield 95, 3) := by decide +kernel
theorem rd_k_X4_restFrom_16 : ex_lk ex_mt tX4_restFrom 16 (.getfield 95) [4, 15, 0, 131102] = true := by decide +kernel
theorem rd_d_X4_restFrom_19 : decode tX4_restFrom.1.2.1 19 = .ok (.invokestatic 66, 3) := by decide +kernel
theorem rd_k_X4_restFrom_19 : ex_lk ex_mt tX4_restFrom 19 (.invokestatic 66) [1, 1, 262322, 0] = true := by decide +kernel
theorem rd_d_X4_restFrom_22 : decode tX4_restFrom.1.2.1 22 = .ok (.iadd, 1) := by decide +kernel
theorem rd_d_X4_restFrom_23 : decode tX4_restFrom.1.2.1 23 = .ok (.invokestatic 112, 3) := by decide +kernel
theorem rd_k_X4_restFrom_23 : ex_lk ex_mt tX4_restFrom 23 (.invokestatic 112) [0, 32, 262344] = true := by decide +kernel
theorem rd_d_X4_restFrom_26 : decode tX4_restFrom.1.2.1 26 = .ok (.ireturn, 1) := by decide +kernel
theorem rd_d_X4_putAhead_89 : decode tX4_putAhead.1.2.1 89 = .ok (.iload 15, 2) := by decide +kernel
theorem rd_d_X4_putAhead_91 : decode tX4_putAhead.1.2.1 91 = .ok (.iload 5, 2) := by decide +kernel
theorem rd_d_X4_putAhead_93 : decode tX4_putAhead.1.2.1 93 = .ok (.if_icmp .gt 61, 3) := by decide +kernel
theorem rd_d_X4_putAhead_96 : decode tX4_putAhead.1.2.1 96 = .ok (.iload 15, 2) := by decide +kernel
theorem rd_d_X4_putAhead_98 : decode tX4_putAhead.1.2.1 98 = .ok (.iload 12, 2) := by decide +kernel
theorem rd_d_X4_putAhead_100 : decode tX4_putAhead.1.2.1 100 = .ok (.if_icmp .gt 54, 3) := by decide +kernel
theorem rd_d_X4_putAhead_103 : decode tX4_putAhead.1.2.1 103 = .ok (.aload_n 0, 1) := by decide +kernel
theorem rd_d_X4_putAhead_104 : decode tX4_putAhead.1.2.1 104 = .ok (.getfield 40, 3) := by decide +kernel
theorem rd_k_X4_putAhead_104 : ex_lk ex_mt tX4_putAhead 104 (.getfield 40) [4, 10, 2, 131093] = true := by decide +kernel
theorem rd_d_X4_putAhead_107 : decode tX4_putAhead.1.2.1 107 = .ok (.iload 15, 2) := by decide +kernel
theorem rd_d_X4_putAhead_109 : decode tX4_putAhead.1.2.1 109 = .ok (.invokestatic 112, 3) := by decide +kernel
theorem rd_k_X4_putAhead_109 : ex_lk ex_mt tX4_putAhead 109 (.invokestatic 112) [0, 32, 262344] = true := by decide +kernel
theorem rd_d_X4_putAhead_112 : decode tX4_putAhead.1.2.1 112 = .ok (.aload_n 0, 1) := by decide +kernel
theorem rd_d_X4_putAhead_113 : decode tX4_putAhead.1.2.1 113 = .ok (.aload_n 0, 1) := by decide +kernel
theorem rd_d_X4_putAhead_114 : decode tX4_putAhead.1.2.1 114 = .ok (.getfield 43, 3) := by decide +kernel
theorem rd_k_X4_putAhead_114 : ex_lk ex_mt tX4_putAhead 114 (.getfield 43) [4, 11, 2, 131094] = true := by decide +kernel
theorem rd_d_X4_putAhead_117 : decode tX4_putAhead.1.2.1 117 = .ok (.iload 15, 2) := by decide +kernel
theorem rd_d_X4_putAhead_119 : decode tX4_putAhead.1.2.1 119 = .ok (.invokestatic 112, 3) := by decide +kernel
theorem rd_k_X4_putAhead_119 : ex_lk ex_mt tX4_putAhead 119 (.invokestatic 112) [0, 32, 262344] = true := by decide +kernel
theorem rd_d_X4_putAhead_122 : decode tX4_putAhead.1.2.1 122 = .ok (.iload 12, 2) := by decide +kernel
theorem rd_d_X4_putAhead_124 : decode tX4_putAhead.1.2.1 124 = .ok (.iload 15, 2) := by decide +kernel
theorem rd_d_X4_putAhead_126 : decode tX4_putAhead.1.2.1 126 = .ok (.isub, 1) := by decide +kernel
theorem rd_d_X4_putAhead_127 : decode tX4_putAhead.1.2.1 127 = .ok (.invokevirtual 92, 3) := by decide +kernel
theorem rd_k_X4_putAhead_127 : ex_lk ex_mt tX4_putAhead 127 (.invokevirtual 92) [0, 224, 262345] = true := by decide +kernel
theorem rd_d_X4_putAhead_130 : decode tX4_putAhead.1.2.1 130 = .ok (.iadd, 1) := by decide +kernel
theorem rd_d_X4_putAhead_131 : decode tX4_putAhead.1.2.1 131 = .ok (.istore 16, 2) := by decide +kernel
theorem rd_d_X4_putAhead_133 : decode tX4_putAhead.1.2.1 133 = .ok (.iload 16, 2) := by decide +kernel
theorem rd_d_X4_putAhead_135 : decode tX4_putAhead.1.2.1 135 = .ok (.iload 13, 2) := by decide +kernel
theorem rd_d_X4_putAhead_137 : decode tX4_putAhead.1.2.1 137 = .ok (.if_icmp .le 11, 3) := by decide +kernel
theorem rd_d_X4_putAhead_140 : decode tX4_putAhead.1.2.1 140 = .ok (.iload 16, 2) := by decide +kernel
theorem rd_d_X4_putAhead_142 : decode tX4_putAhead.1.2.1 142 = .ok (.istore 13, 2) := by decide +kernel
theorem rd_d_X4_putAhead_144 : decode tX4_putAhead.1.2.1 144 = .ok (.iload 15, 2) := by decide +kernel
theorem rd_d_X4_putAhead_146 : decode tX4_putAhead.1.2.1 146 = .ok (.istore 14, 2) := by decide +kernel
theorem rd_d_X4_putAhead_148 : decode tX4_putAhead.1.2.1 148 = .ok (.iinc 15 1, 3) := by decide +kernel
theorem rd_d_X4_putAhead_151 : decode tX4_putAhead.1.2.1 151 = .ok (.goto (-62), 3) := by decide +kernel
section AXX
variable {g : am_C} {L : Nat} {xs : Nat → Int32}
theorem ax_putWL (G : sx_G0 g L xs z9 hd_C ex_mt) {T : ex_T} {σ : am_S} (hS : ax_S σ) {o ci K kd p pc i : Nat} (hd : decode T.1.2.1 pc = .ok (.putfield i, 3)) (hk : ex_lk ex_mt T pc (.putfield i) [ci, K, kd, p] = true) (ho : σ.1[o]? = some (.inl ci)) {x : Int32} (hn : narrow (am_ty ci K) (.int x) = .int x) (hfit : fits (am_ty ci K) (.int x) = true) (hkd : am_kd (am_ty ci K) = 0) {d mc ms : Nat} {lv : List (Nat × Value)} {st : List Value} {post : Option (Option Value) → am_S → Prop} (kk : ∀ τ : am_S, ax_S τ → τ.2.1 o K = x → (∀ a b, ¬ (a = o ∧ b = K) → τ.2.1 a b = σ.2.1 a b) → τ.2.2 = σ.2.2 → am_K g d T.1 mc ms (pc + 3) lv st τ post) : am_K g d T.1 mc ms pc lv (.int x :: .ref o :: st) σ post := by
  refine kr_putI G.1 (rd_FPk hk) hd ho hn hfit hkd ?_
  exact kk _ hS (am_up_s _ _ _ _) (fun a b h => am_up_n _ _ h) rfl
theorem ax_astWL (G : sx_G0 g L xs z9 hd_C ex_mt) {T : ex_T} {σ : am_S} (hS : ax_S σ) {o n pc : Nat} (hd : decode T.1.2.1 pc = .ok (.iastore, 1)) (ho : σ.1[o]? = some (.inr (.int, n))) {i : Int32} {ix : Nat} (he : i.toInt = (ix : Int)) (hl : ix < n) {d mc ms : Nat} {lv : List (Nat × Value)} {st : List Value} {x : Int32} {post : Option (Option Value) → am_S → Prop} (kk : ∀ τ : am_S, ax_S τ → τ.2.1 o ix = x → (∀ a b, ¬ (a = o ∧ b = ix) → τ.2.1 a b = σ.2.1 a b) → τ.2.2 = σ.2.2 → am_K g d T.1 mc ms (pc + 1) lv st τ post) : am_K g d T.1 mc ms pc lv (.int x :: .int i :: .ref o :: st) σ post := by
  refine kr_iast G.1 hd ho (hd_in he hl) ?_
  rw [hd_clamp he]
  exact kk _ hS (am_up_s _ _ _ _) (fun a b h => am_up_n _ _ h) rfl
/-! the class's plans -/
theorem ax_filL (G : sx_G0 g L xs z9 hd_C ex_mt) {o n : Nat} {v : Int32} (hn : n < 100000) {post : Option (Option Value) → am_S → Prop} : ∀ (f j : Nat) (i : Int32) (σ : am_S), ax_S σ → σ.1[o]? = some (.inr (.int, n)) → i.toInt = (j : Int) → j + f = n → (∀ σ' : am_S, ax_S σ' → (∀ y, j ≤ y → y < n → σ'.2.1 o y = v) → (∀ x y, ¬ (x = o ∧ j ≤ y ∧ y < n) → σ'.2.1 x y = σ.2.1 x y) → σ'.2.2 = σ.2.2 → post (some none) σ') → am_K g 1 tJ7_fill_53178.1 0 0 5 [(3, .int (nI n)), (2, .int i), (0, .ref o), (1, .int v)] [] σ post := by
  have zn : (nI n).toInt = (n : Int) := Int32.toInt_ofNat_of_lt (by omega)
  intro f
  induction f with
  | zero =>
    intro j i σ hS ho ei hj kk
    refine kr_iload_n 1 rd_d_J7_fill_53178_5 rfl ?_
    refine kr_iload_n 0 rd_d_J7_fill_53178_6 rfl ?_
    refine kr_icmp_ge (tgt := 20) rd_d_J7_fill_53178_7 rfl (fun _ => ?_) (fun h => absurd (Int32.le_iff_toInt_le.mpr (by omega)) h)
    exact kr_return rd_d_J7_fill_53178_20 rfl (kk σ hS (fun y h1 h2 => by omega) (fun _ _ _ => rfl) rfl)
  | succ f ih =>
    intro j i σ hS ho ei hj kk
    refine kr_iload_n 1 rd_d_J7_fill_53178_5 rfl ?_
    refine kr_iload_n 0 rd_d_J7_fill_53178_6 rfl ?_
    refine kr_icmp_ge (tgt := 20) rd_d_J7_fill_53178_7 rfl (fun h => by have := Int32.le_iff_toInt_le.mp h; omega) (fun _ => ?_)
    refine kr_aload_n 2 rd_d_J7_fill_53178_10 rfl ?_
    refine kr_iload_n 1 rd_d_J7_fill_53178_11 rfl ?_
    refine kr_iload_n 3 rd_d_J7_fill_53178_12 rfl ?_
    refine kr_iast G.1 rd_d_J7_fill_53178_13 ho (hd_in ei (by omega)) ?_
    rw [hd_clamp ei]
    refine kr_iinc (v := i + 1) (lv' := [(2, .int (i + 1)), (3, .int (nI n)), (0, .ref o), (1, .int v)]) 1 rd_d_J7_fill_53178_14 rfl rfl (by decide) rfl ?_
    refine kr_goto (tgt := 5) rd_d_J7_fill_53178_17 rfl ?_
    refine kr_sub (lv' := [(3, .int (nI n)), (2, .int (i + 1)), (0, .ref o), (1, .int v)]) (by simp) ?_
    refine ih (j + 1) (i + 1) (σ.1, am_up σ.2.1 o j v, σ.2.2.1, σ.2.2.2) hS ho (ax_inc ei (by omega)) (by omega) ?_
    intro σ' a1 a2 a3 a4
    refine kk σ' a1 (fun y h1 h2 => ?_) (fun x y hx => ?_) a4
    · by_cases e : y = j
      · subst e
        rw [a3 o y (fun q => by omega)]
        exact am_up_s _ _ _ _
      · exact a2 y (by omega) h2
    · rw [a3 x y (fun q => hx ⟨q.1, by omega, q.2.2⟩)]
      exact am_up_n _ _ (fun q => hx ⟨q.1, by omega, by omega⟩)
theorem ax_fill (G : sx_G0 g L xs z9 hd_C ex_mt) {o n : Nat} (hn : n < 100000) {σ : am_S} (hS : ax_S σ) (ho : σ.1[o]? = some (.inr (.int, n))) (v : Int32) : am_K g 1 tJ7_fill_53178.1 0 0 0 (lv_args 0 [.ref o, .int v]) [] σ (fun r σ' => r = some none ∧ ax_S σ' ∧ (∀ y, y < n → σ'.2.1 o y = v) ∧ (∀ x y, ¬ (x = o ∧ y < n) → σ'.2.1 x y = σ.2.1 x y) ∧ σ'.2.2 = σ.2.2) := by
  refine kr_iconst (v := 0) rd_d_J7_fill_53178_0 (by decide) ?_
  refine kr_istore_n (lv' := [(2, .int 0), (0, .ref o), (1, .int v)]) rd_d_J7_fill_53178_1 (by decide) rfl ?_
  refine kr_aload_n 1 rd_d_J7_fill_53178_2 rfl ?_
  refine kr_alenI G.1 rd_d_J7_fill_53178_3 ho ?_
  refine kr_istore_n (lv' := [(3, .int (nI n)), (2, .int 0), (0, .ref o), (1, .int v)]) rd_d_J7_fill_53178_4 (by decide) rfl ?_
  exact ax_filL G hn n 0 0 σ hS ho rfl (by omega) (fun σ' a1 a2 a3 a4 => ⟨rfl, a1, fun y hy => a2 y (Nat.zero_le _) hy, fun x y hx => a3 x y (fun q => hx ⟨q.1, q.2.2⟩), a4⟩)
theorem ax_putA (G : sx_G0 g L xs z9 hd_C ex_mt) {σ : am_S} (hS : ax_S σ) {o n : Nat} (ho : σ.1[o]? = some (.inr (.int, n))) (hn : n < 100000) {i v : Int32} {ix : Nat} (ei : i.toInt = (ix : Int)) (hi : ix < n) : am_K g 1 tX11_put.1 0 0 0 (lv_args 0 [.ref o, .int i, .int v]) [] σ (fun r σ' => r = some none ∧ ax_S σ' ∧ σ'.2.1 o ix = v ∧ (∀ a b, ¬ (a = o ∧ b = ix) → σ'.2.1 a b = σ.2.1 a b) ∧ σ'.2.2 = σ.2.2) := by
  have z0 : (0 : Int32).toInt = 0 := rfl
  have zn : (nI n).toInt = (n : Int) := Int32.toInt_ofNat_of_lt (by omega)
  refine kr_iload_n 1 rd_d_X11_put_0 rfl ?_
  refine kr_if_lt (tgt := 14) rd_d_X11_put_1 rfl (fun h => by have := Int32.lt_iff_toInt_lt.mp h; omega) (fun _ => ?_)
  refine kr_iload_n 1 rd_d_X11_put_4 rfl ?_
  refine kr_aload_n 0 rd_d_X11_put_5 rfl ?_
  refine kr_alenI G.1 rd_d_X11_put_6 ho ?_
  refine kr_icmp_ge (tgt := 14) rd_d_X11_put_7 rfl (fun h => by have := Int32.le_iff_toInt_le.mp h; omega) (fun _ => ?_)
  refine kr_aload_n 0 rd_d_X11_put_10 rfl ?_
  refine kr_iload_n 1 rd_d_X11_put_11 rfl ?_
  refine kr_iload_n 2 rd_d_X11_put_12 rfl ?_
  refine ax_astWL G hS rd_d_X11_put_13 ho ei hi ?_
  intro τ hT hw hf hl
  exact kr_return rd_d_X11_put_14 rfl ⟨rfl, hT, hw, hf, hl⟩
/-- what n sales gain, and where the rests behind them begin -/
def pw_S (gg : Nat → Nat) (TK WK T H : Nat) (m : Nat → Nat → Int32) (n : Nat) : Prop := (m 78 n).toInt = (pv_S gg TK T n : Int) ∧ (m 79 n).toInt = (if T + n * TK + WK < H then ((25 * (T + n * TK + WK) : Nat) : Int) else -1)
theorem ax_wsL (G : sx_G0 g L xs z9 hd_C ex_mt) {w t of tk wk : Int32} {ww T OF TK WK H : Nat} {gg : Nat → Nat} (ew : w.toInt = (ww : Int)) (hw : ww < 10) (et : t.toInt = (T : Int)) (hT : T ≤ 60) (eo : of.toInt = (OF : Int)) (ho : OF ≤ 3) (ek : tk.toInt = (TK : Int)) (hk : TK ≤ 9) (ewk : wk.toInt = (WK : Int)) (hwk : WK ≤ 5) (hH : H ≤ 60) (hg2 : ∀ x, H ≤ x → gg x = 0) (hg3 : ∀ x, gg x ≤ 128304) {post : Option (Option Value) → am_S → Prop} : ∀ (f j : Nat) (mn sc sd : Int32) (σ : am_S), ax_S σ → (σ.2.1 68 16).toInt = (H : Int) → (∀ x, x < H → (σ.2.1 69 (ww * 60 + x)).toInt = (gg x : Int)) → mn.toInt = (j : Int) → sc.toInt = ((T + j * TK : Nat) : Int) → sd.toInt = (pv_S gg TK T j : Int) → j + f = OF + 1 → (∀ n, n < j → pw_S gg TK WK T H σ.2.1 n) → (∀ σ' : am_S, ax_S σ' → (∀ x y, x ≠ 78 → x ≠ 79 → σ'.2.1 x y = σ.2.1 x y) → σ'.2.2 = σ.2.2 → (∀ n, n ≤ OF → pw_S gg TK WK T H σ'.2.1 n) → post (some none) σ') → am_K g 3 tX4_weighSales.1 0 0 9 [(8, .int mn), (7, .int sc), (6, .int sd), (0, .ref 68), (1, .int w), (2, .int t), (3, .int of), (4, .int tk), (5, .int wk)] [] σ post := by
  intro f
  induction f with
  | zero =>
    intro j mn sc sd σ hS hh hgg en es ed hj tab kk
    refine kr_iload 0 rd_d_X4_weighSales_9 rfl ?_
    refine kr_iload_n 6 rd_d_X4_weighSales_11 rfl ?_
    refine kr_icmp_gt (tgt := 105) rd_d_X4_weighSales_12 rfl (fun _ => ?_) (fun h => absurd (Int32.lt_iff_toInt_lt.mpr (by omega)) h)
    exact kr_return rd_d_X4_weighSales_105 rfl (kk σ hS (fun _ _ _ _ => rfl) rfl (fun n hn => tab n (by omega)))
  | succ f ih =>
    intro j mn sc sd σ hS hh hgg en es ed hj tab kk
    refine kr_iload 0 rd_d_X4_weighSales_9 rfl ?_
    refine kr_iload_n 6 rd_d_X4_weighSales_11 rfl ?_
    refine kr_icmp_gt (tgt := 105) rd_d_X4_weighSales_12 rfl (fun h => by have := Int32.lt_iff_toInt_lt.mp h; omega) (fun _ => ?_)
    have hj3 : j ≤ 3 := by omega
    have hjk : j * TK ≤ 3 * 9 := Nat.mul_le_mul hj3 hk
    have eon := ch_add es ewk (by omega)
    refine kr_iload 1 rd_d_X4_weighSales_15 rfl ?_
    refine kr_iload 8 rd_d_X4_weighSales_17 rfl ?_
    refine kr_iadd rd_d_X4_weighSales_19 ?_
    refine kr_istore (lv' := [(9, .int (sc + wk)), (8, .int mn), (7, .int sc), (6, .int sd), (0, .ref 68), (1, .int w), (2, .int t), (3, .int of), (4, .int tk), (5, .int wk)]) rd_d_X4_weighSales_20 (by decide) rfl ?_
    refine kr_aload_n 4 rd_d_X4_weighSales_22 rfl ?_
    refine kr_getf G.1 (rd_FL rd_k_X4_weighSales_23).1 rd_d_X4_weighSales_23 (hS.1 68 (.inl 4) rfl) (v := .ref 78) (by unfold am_fa; rw [(rd_FL rd_k_X4_weighSales_23).2]; exact hS.2 68 10 78 rfl) ?_
    refine kr_iload 1 rd_d_X4_weighSales_26 rfl ?_
    refine kr_iload 3 rd_d_X4_weighSales_28 rfl ?_
    refine rd_callS G (T2 := tX11_put) rfl rd_d_X4_weighSales_30 rd_k_X4_weighSales_30 rfl rfl (as := [.ref 78, .int mn, .int sd]) (st := []) rfl (Nat.le_of_ble_eq_true rfl) rfl (Nat.le_of_ble_eq_true rfl) (d1 := 1) (by decide) (fun _ h => by cases h.1) (ax_putA G hS (n := 4) (hS.1 78 (.inr (.int, 4)) rfl) (by decide) (ix := j) en (by omega)) ?_
    intro vvτ1 τ1 ⟨hvvτ1, hT1, hw1, hf1, hl1⟩
    cases hvvτ1
    have hsτ1 : τ1.2.1 120 = σ.2.1 120 := (ax_120F hf1 (by decide))
    have hqτ1 : ax_pl τ1.2.1 = ax_pl σ.2.1 := (ax_plF hf1 (by decide))
    have hLτ1 : τ1.2.2 = σ.2.2 := hl1
    refine kr_aload_n 4 rd_d_X4_weighSales_33 rfl ?_
    refine kr_getf G.1 (rd_FL rd_k_X4_weighSales_34).1 rd_d_X4_weighSales_34 (hT1.1 68 (.inl 4) rfl) (v := .ref 79) (by unfold am_fa; rw [(rd_FL rd_k_X4_weighSales_34).2]; exact hT1.2 68 11 79 rfl) ?_
    refine kr_iload 1 rd_d_X4_weighSales_37 rfl ?_
    refine kr_iload 0 rd_d_X4_weighSales_39 rfl ?_
    refine kr_aload_n 4 rd_d_X4_weighSales_41 rfl ?_
    refine kr_getf G.1 (rd_FL rd_k_X4_weighSales_42).1 rd_d_X4_weighSales_42 (hT1.1 68 (.inl 4) rfl) (v := .int (σ.2.1 68 16)) (by unfold am_fa; rw [(rd_FL rd_k_X4_weighSales_42).2]; exact congrArg Value.int (hf1 68 16 (fun q => absurd q.1 (by decide)))) ?_
    refine kr_icmp_ge (tgt := 56) rd_d_X4_weighSales_45 rfl (fun h11 => ?_) (fun h11 => ?_)
    · refine kr_iconst (v := (-1)) rd_d_X4_weighSales_56 (by decide) ?_
      refine rd_callS G (T2 := tX11_put) rfl rd_d_X4_weighSales_57 rd_k_X4_weighSales_57 rfl rfl (as := [.ref 79, .int mn, .int ((-1))]) (st := []) rfl (Nat.le_of_ble_eq_true rfl) rfl (Nat.le_of_ble_eq_true rfl) (d1 := 1) (by decide) (fun _ h => by cases h.1) (ax_putA G hT1 (n := 4) (hT1.1 79 (.inr (.int, 4)) rfl) (by decide) (ix := j) en (by omega)) ?_
      intro vvτ2 τ2 ⟨hvvτ2, hT2, hw2, hf2, hl2⟩
      cases hvvτ2
      have hsτ2 : τ2.2.1 120 = σ.2.1 120 := (ax_120F hf2 (by decide)).trans hsτ1
      have hqτ2 : ax_pl τ2.2.1 = ax_pl σ.2.1 := (ax_plF hf2 (by decide)).trans hqτ1
      have hLτ2 : τ2.2.2 = σ.2.2 := hl2.trans hLτ1
      refine kr_iload 3 rd_d_X4_weighSales_60 rfl ?_
      refine kr_iload 2 rd_d_X4_weighSales_62 rfl ?_
      refine kr_aload_n 4 rd_d_X4_weighSales_64 rfl ?_
      refine kr_getf G.1 (rd_FL rd_k_X4_weighSales_65).1 rd_d_X4_weighSales_65 (hT2.1 68 (.inl 4) rfl) (v := .int (σ.2.1 68 16)) (by unfold am_fa; rw [(rd_FL rd_k_X4_weighSales_65).2]; exact congrArg Value.int ((hf2 68 16 (fun q => absurd q.1 (by decide))).trans (hf1 68 16 (fun q => absurd q.1 (by decide))))) ?_
      refine kr_icmp_ge (tgt := 88) rd_d_X4_weighSales_68 rfl (fun h12 => ?_) (fun h12 => ?_)
      · refine kr_iconst (v := 0) rd_d_X4_weighSales_88 (by decide) ?_
        refine kr_iadd rd_d_X4_weighSales_89 ?_
        refine kr_istore (lv' := [(6, .int (sd + 0)), (9, .int (sc + wk)), (8, .int mn), (7, .int sc), (0, .ref 68), (1, .int w), (2, .int t), (3, .int of), (4, .int tk), (5, .int wk)]) rd_d_X4_weighSales_90 (by decide) rfl ?_
        refine kr_iload 3 rd_d_X4_weighSales_92 rfl ?_
        refine kr_iload 8 rd_d_X4_weighSales_94 rfl ?_
        refine kr_iadd rd_d_X4_weighSales_96 ?_
        refine kr_istore (lv' := [(7, .int (sc + tk)), (6, .int (sd + 0)), (9, .int (sc + wk)), (8, .int mn), (0, .ref 68), (1, .int w), (2, .int t), (3, .int of), (4, .int tk), (5, .int wk)]) rd_d_X4_weighSales_97 (by decide) rfl ?_
        refine kr_iinc (v := mn + 1) (lv' := [(8, .int (mn + 1)), (7, .int (sc + tk)), (6, .int (sd + 0)), (9, .int (sc + wk)), (0, .ref 68), (1, .int w), (2, .int t), (3, .int of), (4, .int tk), (5, .int wk)]) 3 rd_d_X4_weighSales_99 rfl rfl (by decide) rfl ?_
        refine kr_goto (tgt := 9) rd_d_X4_weighSales_102 rfl ?_
        have p1 : (τ2.2.1 78 j).toInt = (pv_S gg TK T j : Int) := by rw [show τ2.2.1 78 j = sd from (hf2 78 j (fun q => absurd q.1 (by decide))).trans (hw1)]; exact ed
        have p2 : (τ2.2.1 79 j).toInt = (if T + j * TK + WK < H then ((25 * (T + j * TK + WK) : Nat) : Int) else -1) := by rw [show τ2.2.1 79 j = -1 from hw2, if_neg (by have := Int32.le_iff_toInt_le.mp h11; omega)]; rfl
        have p3 : (sd + 0).toInt = (pv_S gg TK T (j + 1) : Int) := by rw [Int32.add_zero, pv_S, hg2 (T + j * TK) (by have := Int32.le_iff_toInt_le.mp h12; omega)]; exact ed
        have p4 : (sc + tk).toInt = ((T + (j + 1) * TK : Nat) : Int) := by rw [ch_add es ek (by omega), Nat.succ_mul]; congr 1; omega
        have hfr : ∀ x y, x ≠ 78 → x ≠ 79 → τ2.2.1 x y = σ.2.1 x y := fun x y x8 x9 => (hf2 x y (fun q => x9 q.1)).trans (hf1 x y (fun q => x8 q.1))
        refine kr_sub (lv' := [(8, .int (mn + 1)), (7, .int (sc + tk)), (6, .int (sd + 0)), (0, .ref 68), (1, .int w), (2, .int t), (3, .int of), (4, .int tk), (5, .int wk)]) (by simp) ?_
        refine ih (j + 1) (mn + 1) (sc + tk) (sd + 0) τ2 hT2 (by rw [hfr 68 16 (by decide) (by decide)]; exact hh) (fun x hx => by rw [hfr 69 _ (by decide) (by decide)]; exact hgg x hx) (ax_inc en (by omega)) p4 p3 (by omega) ?_ ?_
        · intro n hn
          by_cases e : n = j
          · subst e; exact ⟨p1, p2⟩
          · have := tab n (by omega)
            unfold pw_S at this ⊢
            rw [show τ2.2.1 78 n = σ.2.1 78 n from (hf2 78 n (fun q => absurd q.1 (by decide))).trans (hf1 78 n (fun q => e q.2)), show τ2.2.1 79 n = σ.2.1 79 n from (hf2 79 n (fun q => e q.2)).trans (hf1 79 n (fun q => absurd q.1 (by decide)))]
            exact this
        · intro σ' a1 a2 a4 a3
          exact kk σ' a1 (fun x y x8 x9 => (a2 x y x8 x9).trans (hfr x y x8 x9)) (a4.trans hLτ2) a3
      · refine kr_aload_n 4 rd_d_X4_weighSales_71 rfl ?_
        refine kr_getf G.1 (rd_FL rd_k_X4_weighSales_72).1 rd_d_X4_weighSales_72 (hT2.1 68 (.inl 4) rfl) (v := .ref 69) (by unfold am_fa; rw [(rd_FL rd_k_X4_weighSales_72).2]; exact hT2.2 68 1 69 rfl) ?_
        refine kr_iload_n 5 rd_d_X4_weighSales_75 rfl ?_
        refine kr_bipush (v := 60) rd_d_X4_weighSales_76 (by decide) ?_
        refine kr_imul rd_d_X4_weighSales_78 ?_
        refine kr_iload 2 rd_d_X4_weighSales_79 rfl ?_
        refine kr_iadd rd_d_X4_weighSales_81 ?_
        have eix : (w * 60 + sc).toInt = ((ww * 60 + (T + j * TK) : Nat) : Int) := ch_add (ch_mul ew (y := 60) (b := 60) rfl (A := 10) (B := 60) (by omega) (Nat.le_refl _) (by decide)) es (by omega)
        have hlt : T + j * TK < H := by have : ¬ (σ.2.1 68 16).toInt ≤ sc.toInt := fun q => h12 (Int32.le_iff_toInt_le.mpr q); omega
        refine rd_callS G (T2 := tX11_entry) rfl rd_d_X4_weighSales_82 rd_k_X4_weighSales_82 rfl rfl (as := [.ref 69, .int ((w * 60) + sc)]) (st := [.int sd]) rfl (Nat.le_of_ble_eq_true rfl) rfl (Nat.le_of_ble_eq_true rfl) (d1 := 1) (by decide) (fun _ h => by cases h.1) (ax_entry G (hT2.1 69 (.inr (.int, 600)) rfl) (by decide) (w * 60 + sc)) ?_
        intro v9 σ9 ⟨hv9, hs9⟩
        cases hv9
        rw [hs9, ax_ent_in (k := ww * 60 + (T + j * TK)) (by decide) eix (by omega), show τ2.2.1 69 (ww * 60 + (T + j * TK)) = σ.2.1 69 (ww * 60 + (T + j * TK)) from (hf2 69 (ww * 60 + (T + j * TK)) (fun q => absurd q.1 (by decide))).trans (hf1 69 (ww * 60 + (T + j * TK)) (fun q => absurd q.1 (by decide)))]
        have hent := hgg (T + j * TK) hlt
        refine kr_goto (tgt := 89) rd_d_X4_weighSales_85 rfl ?_
        refine kr_iadd rd_d_X4_weighSales_89 ?_
        refine kr_istore (lv' := [(6, .int (sd + (σ.2.1 69 (ww * 60 + (T + j * TK))))), (9, .int (sc + wk)), (8, .int mn), (7, .int sc), (0, .ref 68), (1, .int w), (2, .int t), (3, .int of), (4, .int tk), (5, .int wk)]) rd_d_X4_weighSales_90 (by decide) rfl ?_
        refine kr_iload 3 rd_d_X4_weighSales_92 rfl ?_
        refine kr_iload 8 rd_d_X4_weighSales_94 rfl ?_
        refine kr_iadd rd_d_X4_weighSales_96 ?_
        refine kr_istore (lv' := [(7, .int (sc + tk)), (6, .int (sd + (σ.2.1 69 (ww * 60 + (T + j * TK))))), (9, .int (sc + wk)), (8, .int mn), (0, .ref 68), (1, .int w), (2, .int t), (3, .int of), (4, .int tk), (5, .int wk)]) rd_d_X4_weighSales_97 (by decide) rfl ?_
        refine kr_iinc (v := mn + 1) (lv' := [(8, .int (mn + 1)), (7, .int (sc + tk)), (6, .int (sd + (σ.2.1 69 (ww * 60 + (T + j * TK))))), (9, .int (sc + wk)), (0, .ref 68), (1, .int w), (2, .int t), (3, .int of), (4, .int tk), (5, .int wk)]) 3 rd_d_X4_weighSales_99 rfl rfl (by decide) rfl ?_
        refine kr_goto (tgt := 9) rd_d_X4_weighSales_102 rfl ?_
        have p1 : (τ2.2.1 78 j).toInt = (pv_S gg TK T j : Int) := by rw [show τ2.2.1 78 j = sd from (hf2 78 j (fun q => absurd q.1 (by decide))).trans (hw1)]; exact ed
        have p2 : (τ2.2.1 79 j).toInt = (if T + j * TK + WK < H then ((25 * (T + j * TK + WK) : Nat) : Int) else -1) := by rw [show τ2.2.1 79 j = -1 from hw2, if_neg (by have := Int32.le_iff_toInt_le.mp h11; omega)]; rfl
        have p3 : (sd + (σ.2.1 69 (ww * 60 + (T + j * TK)))).toInt = (pv_S gg TK T (j + 1) : Int) := ch_add ed hent (by have := hg3 (T + j * TK); have := pv_S_le hg3 TK T j; have : j * 128304 ≤ 3 * 128304 := Nat.mul_le_mul_right _ hj3; omega)
        have p4 : (sc + tk).toInt = ((T + (j + 1) * TK : Nat) : Int) := by rw [ch_add es ek (by omega), Nat.succ_mul]; congr 1; omega
        have hfr : ∀ x y, x ≠ 78 → x ≠ 79 → τ2.2.1 x y = σ.2.1 x y := fun x y x8 x9 => (hf2 x y (fun q => x9 q.1)).trans (hf1 x y (fun q => x8 q.1))
        refine kr_sub (lv' := [(8, .int (mn + 1)), (7, .int (sc + tk)), (6, .int (sd + (σ.2.1 69 (ww * 60 + (T + j * TK))))), (0, .ref 68), (1, .int w), (2, .int t), (3, .int of), (4, .int tk), (5, .int wk)]) (by simp) ?_
        refine ih (j + 1) (mn + 1) (sc + tk) (sd + (σ.2.1 69 (ww * 60 + (T + j * TK)))) τ2 hT2 (by rw [hfr 68 16 (by decide) (by decide)]; exact hh) (fun x hx => by rw [hfr 69 _ (by decide) (by decide)]; exact hgg x hx) (ax_inc en (by omega)) p4 p3 (by omega) ?_ ?_
        · intro n hn
          by_cases e : n = j
          · subst e; exact ⟨p1, p2⟩
          · have := tab n (by omega)
            unfold pw_S at this ⊢
            rw [show τ2.2.1 78 n = σ.2.1 78 n from (hf2 78 n (fun q => absurd q.1 (by decide))).trans (hf1 78 n (fun q => e q.2)), show τ2.2.1 79 n = σ.2.1 79 n from (hf2 79 n (fun q => e q.2)).trans (hf1 79 n (fun q => absurd q.1 (by decide)))]
            exact this
        · intro σ' a1 a2 a4 a3
          exact kk σ' a1 (fun x y x8 x9 => (a2 x y x8 x9).trans (hfr x y x8 x9)) (a4.trans hLτ2) a3
    · refine kr_iload 0 rd_d_X4_weighSales_48 rfl ?_
      refine kr_bipush (v := 25) rd_d_X4_weighSales_50 (by decide) ?_
      refine kr_imul rd_d_X4_weighSales_52 ?_
      refine kr_goto (tgt := 57) rd_d_X4_weighSales_53 rfl ?_
      refine rd_callS G (T2 := tX11_put) rfl rd_d_X4_weighSales_57 rd_k_X4_weighSales_57 rfl rfl (as := [.ref 79, .int mn, .int ((sc + wk) * 25)]) (st := []) rfl (Nat.le_of_ble_eq_true rfl) rfl (Nat.le_of_ble_eq_true rfl) (d1 := 1) (by decide) (fun _ h => by cases h.1) (ax_putA G hT1 (n := 4) (hT1.1 79 (.inr (.int, 4)) rfl) (by decide) (ix := j) en (by omega)) ?_
      intro vvτ3 τ3 ⟨hvvτ3, hT3, hw3, hf3, hl3⟩
      cases hvvτ3
      have hsτ3 : τ3.2.1 120 = σ.2.1 120 := (ax_120F hf3 (by decide)).trans hsτ1
      have hqτ3 : ax_pl τ3.2.1 = ax_pl σ.2.1 := (ax_plF hf3 (by decide)).trans hqτ1
      have hLτ3 : τ3.2.2 = σ.2.2 := hl3.trans hLτ1
      refine kr_iload 3 rd_d_X4_weighSales_60 rfl ?_
      refine kr_iload 2 rd_d_X4_weighSales_62 rfl ?_
      refine kr_aload_n 4 rd_d_X4_weighSales_64 rfl ?_
      refine kr_getf G.1 (rd_FL rd_k_X4_weighSales_65).1 rd_d_X4_weighSales_65 (hT3.1 68 (.inl 4) rfl) (v := .int (σ.2.1 68 16)) (by unfold am_fa; rw [(rd_FL rd_k_X4_weighSales_65).2]; exact congrArg Value.int ((hf3 68 16 (fun q => absurd q.1 (by decide))).trans (hf1 68 16 (fun q => absurd q.1 (by decide))))) ?_
      refine kr_icmp_ge (tgt := 88) rd_d_X4_weighSales_68 rfl (fun h13 => ?_) (fun h13 => ?_)
      · refine kr_iconst (v := 0) rd_d_X4_weighSales_88 (by decide) ?_
        refine kr_iadd rd_d_X4_weighSales_89 ?_
        refine kr_istore (lv' := [(6, .int (sd + 0)), (9, .int (sc + wk)), (8, .int mn), (7, .int sc), (0, .ref 68), (1, .int w), (2, .int t), (3, .int of), (4, .int tk), (5, .int wk)]) rd_d_X4_weighSales_90 (by decide) rfl ?_
        refine kr_iload 3 rd_d_X4_weighSales_92 rfl ?_
        refine kr_iload 8 rd_d_X4_weighSales_94 rfl ?_
        refine kr_iadd rd_d_X4_weighSales_96 ?_
        refine kr_istore (lv' := [(7, .int (sc + tk)), (6, .int (sd + 0)), (9, .int (sc + wk)), (8, .int mn), (0, .ref 68), (1, .int w), (2, .int t), (3, .int of), (4, .int tk), (5, .int wk)]) rd_d_X4_weighSales_97 (by decide) rfl ?_
        refine kr_iinc (v := mn + 1) (lv' := [(8, .int (mn + 1)), (7, .int (sc + tk)), (6, .int (sd + 0)), (9, .int (sc + wk)), (0, .ref 68), (1, .int w), (2, .int t), (3, .int of), (4, .int tk), (5, .int wk)]) 3 rd_d_X4_weighSales_99 rfl rfl (by decide) rfl ?_
        refine kr_goto (tgt := 9) rd_d_X4_weighSales_102 rfl ?_
        have p1 : (τ3.2.1 78 j).toInt = (pv_S gg TK T j : Int) := by rw [show τ3.2.1 78 j = sd from (hf3 78 j (fun q => absurd q.1 (by decide))).trans (hw1)]; exact ed
        have p2 : (τ3.2.1 79 j).toInt = (if T + j * TK + WK < H then ((25 * (T + j * TK + WK) : Nat) : Int) else -1) := by rw [show τ3.2.1 79 j = (sc + wk) * 25 from hw3, if_pos (by have : ¬ (σ.2.1 68 16).toInt ≤ (sc + wk).toInt := fun q => h11 (Int32.le_iff_toInt_le.mpr q); omega), ch_mul eon (y := 25) (b := 25) rfl (A := 100) (B := 25) (by omega) (Nat.le_refl _) (by decide), Nat.mul_comm]
        have p3 : (sd + 0).toInt = (pv_S gg TK T (j + 1) : Int) := by rw [Int32.add_zero, pv_S, hg2 (T + j * TK) (by have := Int32.le_iff_toInt_le.mp h13; omega)]; exact ed
        have p4 : (sc + tk).toInt = ((T + (j + 1) * TK : Nat) : Int) := by rw [ch_add es ek (by omega), Nat.succ_mul]; congr 1; omega
        have hfr : ∀ x y, x ≠ 78 → x ≠ 79 → τ3.2.1 x y = σ.2.1 x y := fun x y x8 x9 => (hf3 x y (fun q => x9 q.1)).trans (hf1 x y (fun q => x8 q.1))
        refine kr_sub (lv' := [(8, .int (mn + 1)), (7, .int (sc + tk)), (6, .int (sd + 0)), (0, .ref 68), (1, .int w), (2, .int t), (3, .int of), (4, .int tk), (5, .int wk)]) (by simp) ?_
        refine ih (j + 1) (mn + 1) (sc + tk) (sd + 0) τ3 hT3 (by rw [hfr 68 16 (by decide) (by decide)]; exact hh) (fun x hx => by rw [hfr 69 _ (by decide) (by decide)]; exact hgg x hx) (ax_inc en (by omega)) p4 p3 (by omega) ?_ ?_
        · intro n hn
          by_cases e : n = j
          · subst e; exact ⟨p1, p2⟩
          · have := tab n (by omega)
            unfold pw_S at this ⊢
            rw [show τ3.2.1 78 n = σ.2.1 78 n from (hf3 78 n (fun q => absurd q.1 (by decide))).trans (hf1 78 n (fun q => e q.2)), show τ3.2.1 79 n = σ.2.1 79 n from (hf3 79 n (fun q => e q.2)).trans (hf1 79 n (fun q => absurd q.1 (by decide)))]
            exact this
        · intro σ' a1 a2 a4 a3
          exact kk σ' a1 (fun x y x8 x9 => (a2 x y x8 x9).trans (hfr x y x8 x9)) (a4.trans hLτ3) a3
      · refine kr_aload_n 4 rd_d_X4_weighSales_71 rfl ?_
        refine kr_getf G.1 (rd_FL rd_k_X4_weighSales_72).1 rd_d_X4_weighSales_72 (hT3.1 68 (.inl 4) rfl) (v := .ref 69) (by unfold am_fa; rw [(rd_FL rd_k_X4_weighSales_72).2]; exact hT3.2 68 1 69 rfl) ?_
        refine kr_iload_n 5 rd_d_X4_weighSales_75 rfl ?_
        refine kr_bipush (v := 60) rd_d_X4_weighSales_76 (by decide) ?_
        refine kr_imul rd_d_X4_weighSales_78 ?_
        refine kr_iload 2 rd_d_X4_weighSales_79 rfl ?_
        refine kr_iadd rd_d_X4_weighSales_81 ?_
        have eix : (w * 60 + sc).toInt = ((ww * 60 + (T + j * TK) : Nat) : Int) := ch_add (ch_mul ew (y := 60) (b := 60) rfl (A := 10) (B := 60) (by omega) (Nat.le_refl _) (by decide)) es (by omega)
        have hlt : T + j * TK < H := by have : ¬ (σ.2.1 68 16).toInt ≤ sc.toInt := fun q => h13 (Int32.le_iff_toInt_le.mpr q); omega
        refine rd_callS G (T2 := tX11_entry) rfl rd_d_X4_weighSales_82 rd_k_X4_weighSales_82 rfl rfl (as := [.ref 69, .int ((w * 60) + sc)]) (st := [.int sd]) rfl (Nat.le_of_ble_eq_true rfl) rfl (Nat.le_of_ble_eq_true rfl) (d1 := 1) (by decide) (fun _ h => by cases h.1) (ax_entry G (hT3.1 69 (.inr (.int, 600)) rfl) (by decide) (w * 60 + sc)) ?_
        intro v9 σ9 ⟨hv9, hs9⟩
        cases hv9
        rw [hs9, ax_ent_in (k := ww * 60 + (T + j * TK)) (by decide) eix (by omega), show τ3.2.1 69 (ww * 60 + (T + j * TK)) = σ.2.1 69 (ww * 60 + (T + j * TK)) from (hf3 69 (ww * 60 + (T + j * TK)) (fun q => absurd q.1 (by decide))).trans (hf1 69 (ww * 60 + (T + j * TK)) (fun q => absurd q.1 (by decide)))]
        have hent := hgg (T + j * TK) hlt
        refine kr_goto (tgt := 89) rd_d_X4_weighSales_85 rfl ?_
        refine kr_iadd rd_d_X4_weighSales_89 ?_
        refine kr_istore (lv' := [(6, .int (sd + (σ.2.1 69 (ww * 60 + (T + j * TK))))), (9, .int (sc + wk)), (8, .int mn), (7, .int sc), (0, .ref 68), (1, .int w), (2, .int t), (3, .int of), (4, .int tk), (5, .int wk)]) rd_d_X4_weighSales_90 (by decide) rfl ?_
        refine kr_iload 3 rd_d_X4_weighSales_92 rfl ?_
        refine kr_iload 8 rd_d_X4_weighSales_94 rfl ?_
        refine kr_iadd rd_d_X4_weighSales_96 ?_
        refine kr_istore (lv' := [(7, .int (sc + tk)), (6, .int (sd + (σ.2.1 69 (ww * 60 + (T + j * TK))))), (9, .int (sc + wk)), (8, .int mn), (0, .ref 68), (1, .int w), (2, .int t), (3, .int of), (4, .int tk), (5, .int wk)]) rd_d_X4_weighSales_97 (by decide) rfl ?_
        refine kr_iinc (v := mn + 1) (lv' := [(8, .int (mn + 1)), (7, .int (sc + tk)), (6, .int (sd + (σ.2.1 69 (ww * 60 + (T + j * TK))))), (9, .int (sc + wk)), (0, .ref 68), (1, .int w), (2, .int t), (3, .int of), (4, .int tk), (5, .int wk)]) 3 rd_d_X4_weighSales_99 rfl rfl (by decide) rfl ?_
        refine kr_goto (tgt := 9) rd_d_X4_weighSales_102 rfl ?_
        have p1 : (τ3.2.1 78 j).toInt = (pv_S gg TK T j : Int) := by rw [show τ3.2.1 78 j = sd from (hf3 78 j (fun q => absurd q.1 (by decide))).trans (hw1)]; exact ed
        have p2 : (τ3.2.1 79 j).toInt = (if T + j * TK + WK < H then ((25 * (T + j * TK + WK) : Nat) : Int) else -1) := by rw [show τ3.2.1 79 j = (sc + wk) * 25 from hw3, if_pos (by have : ¬ (σ.2.1 68 16).toInt ≤ (sc + wk).toInt := fun q => h11 (Int32.le_iff_toInt_le.mpr q); omega), ch_mul eon (y := 25) (b := 25) rfl (A := 100) (B := 25) (by omega) (Nat.le_refl _) (by decide), Nat.mul_comm]
        have p3 : (sd + (σ.2.1 69 (ww * 60 + (T + j * TK)))).toInt = (pv_S gg TK T (j + 1) : Int) := ch_add ed hent (by have := hg3 (T + j * TK); have := pv_S_le hg3 TK T j; have : j * 128304 ≤ 3 * 128304 := Nat.mul_le_mul_right _ hj3; omega)
        have p4 : (sc + tk).toInt = ((T + (j + 1) * TK : Nat) : Int) := by rw [ch_add es ek (by omega), Nat.succ_mul]; congr 1; omega
        have hfr : ∀ x y, x ≠ 78 → x ≠ 79 → τ3.2.1 x y = σ.2.1 x y := fun x y x8 x9 => (hf3 x y (fun q => x9 q.1)).trans (hf1 x y (fun q => x8 q.1))
        refine kr_sub (lv' := [(8, .int (mn + 1)), (7, .int (sc + tk)), (6, .int (sd + (σ.2.1 69 (ww * 60 + (T + j * TK))))), (0, .ref 68), (1, .int w), (2, .int t), (3, .int of), (4, .int tk), (5, .int wk)]) (by simp) ?_
        refine ih (j + 1) (mn + 1) (sc + tk) (sd + (σ.2.1 69 (ww * 60 + (T + j * TK)))) τ3 hT3 (by rw [hfr 68 16 (by decide) (by decide)]; exact hh) (fun x hx => by rw [hfr 69 _ (by decide) (by decide)]; exact hgg x hx) (ax_inc en (by omega)) p4 p3 (by omega) ?_ ?_
        · intro n hn
          by_cases e : n = j
          · subst e; exact ⟨p1, p2⟩
          · have := tab n (by omega)
            unfold pw_S at this ⊢
            rw [show τ3.2.1 78 n = σ.2.1 78 n from (hf3 78 n (fun q => absurd q.1 (by decide))).trans (hf1 78 n (fun q => e q.2)), show τ3.2.1 79 n = σ.2.1 79 n from (hf3 79 n (fun q => e q.2)).trans (hf1 79 n (fun q => absurd q.1 (by decide)))]
            exact this
        · intro σ' a1 a2 a4 a3
          exact kk σ' a1 (fun x y x8 x9 => (a2 x y x8 x9).trans (hfr x y x8 x9)) (a4.trans hLτ3) a3
theorem ax_ws (G : sx_G0 g L xs z9 hd_C ex_mt) {σ : am_S} (hS : ax_S σ) {w t of tk wk : Int32} {ww T OF TK WK H : Nat} {gg : Nat → Nat} (ew : w.toInt = (ww : Int)) (hw : ww < 10) (et : t.toInt = (T : Int)) (hT : T ≤ 60) (eo : of.toInt = (OF : Int)) (ho : OF ≤ 3) (ek : tk.toInt = (TK : Int)) (hk : TK ≤ 9) (ewk : wk.toInt = (WK : Int)) (hwk : WK ≤ 5) (hH : H ≤ 60) (hg2 : ∀ x, H ≤ x → gg x = 0) (hg3 : ∀ x, gg x ≤ 128304) (hh : (σ.2.1 68 16).toInt = (H : Int)) (hgg : ∀ x, x < H → (σ.2.1 69 (ww * 60 + x)).toInt = (gg x : Int)) : am_K g 3 tX4_weighSales.1 0 0 0 (lv_args 0 [.ref 68, .int w, .int t, .int of, .int tk, .int wk]) [] σ (fun r σ' => r = some none ∧ ax_S σ' ∧ (∀ x y, x ≠ 78 → x ≠ 79 → σ'.2.1 x y = σ.2.1 x y) ∧ σ'.2.2 = σ.2.2 ∧ ∀ n, n ≤ OF → pw_S gg TK WK T H σ'.2.1 n) := by
  refine kr_iconst (v := 0) rd_d_X4_weighSales_0 (by decide) ?_
  refine kr_istore (lv' := [(6, .int 0), (0, .ref 68), (1, .int w), (2, .int t), (3, .int of), (4, .int tk), (5, .int wk)]) rd_d_X4_weighSales_1 (by decide) rfl ?_
  refine kr_iload_n 3 rd_d_X4_weighSales_3 rfl ?_
  refine kr_istore (lv' := [(7, .int t), (6, .int 0), (0, .ref 68), (1, .int w), (2, .int t), (3, .int of), (4, .int tk), (5, .int wk)]) rd_d_X4_weighSales_4 (by decide) rfl ?_
  refine kr_iconst (v := 0) rd_d_X4_weighSales_6 (by decide) ?_
  refine kr_istore (lv' := [(8, .int 0), (7, .int t), (6, .int 0), (0, .ref 68), (1, .int w), (2, .int t), (3, .int of), (4, .int tk), (5, .int wk)]) rd_d_X4_weighSales_7 (by decide) rfl ?_
  refine ax_wsL G ew hw et hT eo ho ek hk ewk hwk hH hg2 hg3 (OF + 1) 0 0 t 0 σ hS hh hgg rfl (by rw [Nat.zero_mul, Nat.add_zero]; exact et) rfl (by omega) (fun n hn => absurd hn (Nat.not_lt_zero n)) (fun σ' a1 a2 a4 a3 => ⟨rfl, a1, a2, a4, a3⟩)
def ax_f_rsf (m : Nat → Nat → Int32) (a b : Int32) : Int32 := if a = ((-1)) then 0 else ax_ent (m 70) 1500 (a + (ax_f_min b (m 68 15)))
theorem ax_rsf (G : sx_G0 g L xs z9 hd_C ex_mt) {σ : am_S} (hS : ax_S σ) (a b : Int32) : am_K g 2 tX4_restFrom.1 0 0 0 (lv_args 0 [.ref 68, .int a, .int b]) [] σ (ax_R (ax_f_rsf σ.2.1 a b) σ) := by
  refine kr_iload_n 1 rd_d_X4_restFrom_0 rfl ?_
  refine kr_iconst (v := (-1)) rd_d_X4_restFrom_1 (by decide) ?_
  refine kr_icmp_ne (tgt := 9) rd_d_X4_restFrom_2 rfl (fun h1 => ?_) (fun h1 => ?_)
  · refine kr_aload_n 0 rd_d_X4_restFrom_9 rfl ?_
    refine kr_getf G.1 (rd_FL rd_k_X4_restFrom_10).1 rd_d_X4_restFrom_10 (hS.1 68 (.inl 4) rfl) (v := .ref 70) (by unfold am_fa; rw [(rd_FL rd_k_X4_restFrom_10).2]; exact hS.2 68 2 70 rfl) ?_
    refine kr_iload_n 1 rd_d_X4_restFrom_13 rfl ?_
    refine kr_iload_n 2 rd_d_X4_restFrom_14 rfl ?_
    refine kr_aload_n 0 rd_d_X4_restFrom_15 rfl ?_
    refine kr_getf G.1 (rd_FL rd_k_X4_restFrom_16).1 rd_d_X4_restFrom_16 (hS.1 68 (.inl 4) rfl) (v := .int (σ.2.1 68 15)) (by unfold am_fa; rw [(rd_FL rd_k_X4_restFrom_16).2]; rfl) ?_
    refine kr_mmin G.1 (ex_mem_ok (show ex_mem 262322 (Cond.methodLink tX4_restFrom.1.1.cls 66 Lib.Math.min.name) = true from rd_k_X4_restFrom_19)) rd_d_X4_restFrom_19 (by decide) (Nat.le_of_ble_eq_true rfl) ?_
    show am_K g 2 tX4_restFrom.1 0 0 22 [(0, .ref 68), (1, .int a), (2, .int b)] [.int (ax_f_min b (σ.2.1 68 15)), .int a, .ref 70] σ _
    refine kr_iadd rd_d_X4_restFrom_22 ?_
    refine rd_callS G (T2 := tX11_entry) rfl rd_d_X4_restFrom_23 rd_k_X4_restFrom_23 rfl rfl (as := [.ref 70, .int (a + (ax_f_min b (σ.2.1 68 15)))]) (st := []) rfl (Nat.le_of_ble_eq_true rfl) rfl (Nat.le_of_ble_eq_true rfl) (d1 := 1) (by decide) (fun _ h => by cases h.1) (ax_entry G (hS.1 70 (.inr (.int, 1500)) rfl) (by decide) (a + (ax_f_min b (σ.2.1 68 15)))) ?_
    intro v2 σ2 ⟨hv2, hs2⟩
    cases hv2
    rw [hs2]
    exact kr_ireturn rd_d_X4_restFrom_26 (ty := .int) rfl rfl ⟨by rw [ax_f_rsf, if_neg h1], rfl⟩
  · refine kr_iconst (v := 0) rd_d_X4_restFrom_5 (by decide) ?_
    refine kr_goto (tgt := 26) rd_d_X4_restFrom_6 rfl ?_
    exact kr_ireturn rd_d_X4_restFrom_26 (ty := .int) rfl rfl ⟨by rw [ax_f_rsf, if_pos h1], rfl⟩
theorem ax_mnL (G : sx_G0 g L xs z9 hd_C ex_mt) {σ : am_S} (hS : ax_S σ) {fx t rc wk tk of w mf up kp : Int32} {ch : Int64} {F OF : Nat} {v : Nat → Nat} (ef : fx.toInt = (F : Int)) (eo : of.toInt = (OF : Int)) (ho : OF ≤ 3) (hv : ∀ (n : Nat) (x : Int32), n ≤ min F OF → x.toInt = (n : Int) → (ax_ent (σ.2.1 78) 4 x + ax_f_rsf σ.2.1 (ax_ent (σ.2.1 79) 4 x) (fx - x)).toInt = (v n : Int)) {post : Option (Option Value) → am_S → Prop} (kk : ∀ fo2 mo2 : Int32, fo2.toInt = ((pv_best v (min F OF)).2 : Int) → mo2.toInt = ((pv_best v (min F OF)).1 : Int) → am_K g 5 tX4_putAhead.1 0 0 154 [(14, .int fo2), (13, .int mo2), (12, .int fx), (10, .long ch), (9, .int t), (8, .int rc), (7, .int wk), (6, .int tk), (5, .int of), (0, .ref 68), (1, .int w), (2, .int mf), (3, .int up), (4, .int kp)] [] σ post) : ∀ (f j : Nat) (n fo mo : Int32), n.toInt = (j : Int) → j + f = min F OF + 1 → ch_I v (fun _ => 0) j 0 fo mo → am_K g 5 tX4_putAhead.1 0 0 89 [(15, .int n), (14, .int fo), (13, .int mo), (12, .int fx), (10, .long ch), (9, .int t), (8, .int rc), (7, .int wk), (6, .int tk), (5, .int of), (0, .ref 68), (1, .int w), (2, .int mf), (3, .int up), (4, .int kp)] [] σ post := by
  intro f
  induction f with
  | zero =>
    intro j n fo mo en hj hI
    refine kr_iload 0 rd_d_X4_putAhead_89 rfl ?_
    refine kr_iload 9 rd_d_X4_putAhead_91 rfl ?_
    refine kr_icmp_gt (tgt := 154) rd_d_X4_putAhead_93 rfl (fun h1 => ?_) (fun h1 => ?_)
    · refine kr_sub (lv' := [(14, .int fo), (13, .int mo), (12, .int fx), (10, .long ch), (9, .int t), (8, .int rc), (7, .int wk), (6, .int tk), (5, .int of), (0, .ref 68), (1, .int w), (2, .int mf), (3, .int up), (4, .int kp)]) (by simp) ?_
      rcases hI with ⟨h0, -⟩ | ⟨k2, hk2, -, h3, h4⟩
      · omega
      · have : k2 = min F OF := by omega
        subst this
        exact kk fo mo h3 h4
    · refine kr_iload 0 rd_d_X4_putAhead_96 rfl ?_
      refine kr_iload 3 rd_d_X4_putAhead_98 rfl ?_
      refine kr_icmp_gt (tgt := 154) rd_d_X4_putAhead_100 rfl (fun h2 => ?_) (fun h2 => ?_)
      · refine kr_sub (lv' := [(14, .int fo), (13, .int mo), (12, .int fx), (10, .long ch), (9, .int t), (8, .int rc), (7, .int wk), (6, .int tk), (5, .int of), (0, .ref 68), (1, .int w), (2, .int mf), (3, .int up), (4, .int kp)]) (by simp) ?_
        rcases hI with ⟨h0, -⟩ | ⟨k2, hk2, -, h3, h4⟩
        · omega
        · have : k2 = min F OF := by omega
          subst this
          exact kk fo mo h3 h4
      · have q1 : ¬ of.toInt < n.toInt := fun q => h1 (Int32.lt_iff_toInt_lt.mpr q)
        have q2 : ¬ fx.toInt < n.toInt := fun q => h2 (Int32.lt_iff_toInt_lt.mpr q)
        omega
  | succ f ih =>
    intro j n fo mo en hj hI
    refine kr_iload 0 rd_d_X4_putAhead_89 rfl ?_
    refine kr_iload 9 rd_d_X4_putAhead_91 rfl ?_
    refine kr_icmp_gt (tgt := 154) rd_d_X4_putAhead_93 rfl (fun h21 => ?_) (fun h21 => ?_)
    · have := Int32.lt_iff_toInt_lt.mp h21
      omega
    · refine kr_iload 0 rd_d_X4_putAhead_96 rfl ?_
      refine kr_iload 3 rd_d_X4_putAhead_98 rfl ?_
      refine kr_icmp_gt (tgt := 154) rd_d_X4_putAhead_100 rfl (fun h22 => ?_) (fun h22 => ?_)
      · have := Int32.lt_iff_toInt_lt.mp h22
        omega
      · refine kr_aload_n 10 rd_d_X4_putAhead_103 rfl ?_
        refine kr_getf G.1 (rd_FL rd_k_X4_putAhead_104).1 rd_d_X4_putAhead_104 (hS.1 68 (.inl 4) rfl) (v := .ref 78) (by unfold am_fa; rw [(rd_FL rd_k_X4_putAhead_104).2]; exact hS.2 68 10 78 rfl) ?_
        refine kr_iload 0 rd_d_X4_putAhead_107 rfl ?_
        refine rd_callS G (T2 := tX11_entry) rfl rd_d_X4_putAhead_109 rd_k_X4_putAhead_109 rfl rfl (as := [.ref 78, .int n]) (st := []) rfl (Nat.le_of_ble_eq_true rfl) rfl (Nat.le_of_ble_eq_true rfl) (d1 := 1) (by decide) (fun _ h => by cases h.1) (ax_entry G (hS.1 78 (.inr (.int, 4)) rfl) (by decide) n) ?_
        intro v23 σ23 ⟨hv23, hs23⟩
        cases hv23
        rw [hs23]
        refine kr_aload_n 10 rd_d_X4_putAhead_112 rfl ?_
        refine kr_aload_n 10 rd_d_X4_putAhead_113 rfl ?_
        refine kr_getf G.1 (rd_FL rd_k_X4_putAhead_114).1 rd_d_X4_putAhead_114 (hS.1 68 (.inl 4) rfl) (v := .ref 79) (by unfold am_fa; rw [(rd_FL rd_k_X4_putAhead_114).2]; exact hS.2 68 11 79 rfl) ?_
        refine kr_iload 0 rd_d_X4_putAhead_117 rfl ?_
        refine rd_callS G (T2 := tX11_entry) rfl rd_d_X4_putAhead_119 rd_k_X4_putAhead_119 rfl rfl (as := [.ref 79, .int n]) (st := [.ref 68, .int (ax_ent (σ.2.1 78) 4 n)]) rfl (Nat.le_of_ble_eq_true rfl) rfl (Nat.le_of_ble_eq_true rfl) (d1 := 1) (by decide) (fun _ h => by cases h.1) (ax_entry G (hS.1 79 (.inr (.int, 4)) rfl) (by decide) n) ?_
        intro v24 σ24 ⟨hv24, hs24⟩
        cases hv24
        rw [hs24]
        refine kr_iload 3 rd_d_X4_putAhead_122 rfl ?_
        refine kr_iload 0 rd_d_X4_putAhead_124 rfl ?_
        refine kr_isub rd_d_X4_putAhead_126 ?_
        refine rd_call G (T2 := tX4_restFrom) rfl rd_d_X4_putAhead_127 rd_k_X4_putAhead_127 rfl (hS.1 68 (.inl 4) rfl) (as := [.int (ax_ent (σ.2.1 79) 4 n), .int (fx - n)]) (st := [.int (ax_ent (σ.2.1 78) 4 n)]) rfl (Nat.le_of_ble_eq_true rfl) rfl (Nat.le_of_ble_eq_true rfl) (d1 := 2) (by decide) (fun _ h => by cases h.1) (ax_rsf G hS (ax_ent (σ.2.1 79) 4 n) (fx - n)) ?_
        intro v25 σ25 ⟨hv25, hs25⟩
        cases hv25
        rw [hs25]
        refine kr_iadd rd_d_X4_putAhead_130 ?_
        refine kr_istore (lv' := [(16, .int ((ax_ent (σ.2.1 78) 4 n) + (ax_f_rsf σ.2.1 (ax_ent (σ.2.1 79) 4 n) (fx - n)))), (15, .int n), (14, .int fo), (13, .int mo), (12, .int fx), (10, .long ch), (9, .int t), (8, .int rc), (7, .int wk), (6, .int tk), (5, .int of), (0, .ref 68), (1, .int w), (2, .int mf), (3, .int up), (4, .int kp)]) rd_d_X4_putAhead_131 (by decide) rfl ?_
        refine kr_iload 0 rd_d_X4_putAhead_133 rfl ?_
        refine kr_iload 3 rd_d_X4_putAhead_135 rfl ?_
        refine kr_icmp_le (tgt := 148) rd_d_X4_putAhead_137 rfl (fun h26 => ?_) (fun h26 => ?_)
        · refine kr_iinc (v := n + 1) (lv' := [(15, .int (n + 1)), (16, .int ((ax_ent (σ.2.1 78) 4 n) + (ax_f_rsf σ.2.1 (ax_ent (σ.2.1 79) 4 n) (fx - n)))), (14, .int fo), (13, .int mo), (12, .int fx), (10, .long ch), (9, .int t), (8, .int rc), (7, .int wk), (6, .int tk), (5, .int of), (0, .ref 68), (1, .int w), (2, .int mf), (3, .int up), (4, .int kp)]) 1 rd_d_X4_putAhead_148 rfl rfl (by decide) rfl ?_
          refine kr_goto (tgt := 89) rd_d_X4_putAhead_151 rfl ?_
          have hx := hv j n (by omega) en
          have I2 := ch_Is (sum' := 0) hI en rfl hx
          refine kr_sub (lv' := [(15, .int (n + 1)), (14, .int fo), (13, .int mo), (12, .int fx), (10, .long ch), (9, .int t), (8, .int rc), (7, .int wk), (6, .int tk), (5, .int of), (0, .ref 68), (1, .int w), (2, .int mf), (3, .int up), (4, .int kp)]) (by simp) ?_
          exact ih (j + 1) (n + 1) fo mo (ax_inc en (by omega)) (by omega) (I2.2 (fun q => by have q1 := Int32.lt_iff_toInt_lt.mp q; have q2 := Int32.le_iff_toInt_le.mp h26; omega))
        · refine kr_iload 0 rd_d_X4_putAhead_140 rfl ?_
          refine kr_istore (lv' := [(13, .int ((ax_ent (σ.2.1 78) 4 n) + (ax_f_rsf σ.2.1 (ax_ent (σ.2.1 79) 4 n) (fx - n)))), (16, .int ((ax_ent (σ.2.1 78) 4 n) + (ax_f_rsf σ.2.1 (ax_ent (σ.2.1 79) 4 n) (fx - n)))), (15, .int n), (14, .int fo), (12, .int fx), (10, .long ch), (9, .int t), (8, .int rc), (7, .int wk), (6, .int tk), (5, .int of), (0, .ref 68), (1, .int w), (2, .int mf), (3, .int up), (4, .int kp)]) rd_d_X4_putAhead_142 (by decide) rfl ?_
          refine kr_iload 2 rd_d_X4_putAhead_144 rfl ?_
          refine kr_istore (lv' := [(14, .int n), (13, .int ((ax_ent (σ.2.1 78) 4 n) + (ax_f_rsf σ.2.1 (ax_ent (σ.2.1 79) 4 n) (fx - n)))), (16, .int ((ax_ent (σ.2.1 78) 4 n) + (ax_f_rsf σ.2.1 (ax_ent (σ.2.1 79) 4 n) (fx - n)))), (15, .int n), (12, .int fx), (10, .long ch), (9, .int t), (8, .int rc), (7, .int wk), (6, .int tk), (5, .int of), (0, .ref 68), (1, .int w), (2, .int mf), (3, .int up), (4, .int kp)]) rd_d_X4_putAhead_146 (by decide) rfl ?_
          refine kr_iinc (v := n + 1) (lv' := [(15, .int (n + 1)), (14, .int n), (13, .int ((ax_ent (σ.2.1 78) 4 n) + (ax_f_rsf σ.2.1 (ax_ent (σ.2.1 79) 4 n) (fx - n)))), (16, .int ((ax_ent (σ.2.1 78) 4 n) + (ax_f_rsf σ.2.1 (ax_ent (σ.2.1 79) 4 n) (fx - n)))), (12, .int fx), (10, .long ch), (9, .int t), (8, .int rc), (7, .int wk), (6, .int tk), (5, .int of), (0, .ref 68), (1, .int w), (2, .int mf), (3, .int up), (4, .int kp)]) 3 rd_d_X4_putAhead_148 rfl rfl (by decide) rfl ?_
          refine kr_goto (tgt := 89) rd_d_X4_putAhead_151 rfl ?_
          have hx := hv j n (by omega) en
          have I2 := ch_Is (sum' := 0) hI en rfl hx
          refine kr_sub (lv' := [(15, .int (n + 1)), (14, .int n), (13, .int ((ax_ent (σ.2.1 78) 4 n) + (ax_f_rsf σ.2.1 (ax_ent (σ.2.1 79) 4 n) (fx - n)))), (12, .int fx), (10, .long ch), (9, .int t), (8, .int rc), (7, .int wk), (6, .int tk), (5, .int of), (0, .ref 68), (1, .int w), (2, .int mf), (3, .int up), (4, .int kp)]) (by simp) ?_
          exact ih (j + 1) (n + 1) n ((ax_ent (σ.2.1 78) 4 n) + (ax_f_rsf σ.2.1 (ax_ent (σ.2.1 79) 4 n) (fx - n))) (ax_inc en (by omega)) (by omega) (I2.1 (Int32.lt_iff_toInt_lt.mpr (by have q1 : ¬ ((ax_ent (σ.2.1 78) 4 n) + (ax_f_rsf σ.2.1 (ax_ent (σ.2.1 79) 4 n) (fx - n))).toInt ≤ mo.toInt := fun q => h26 (Int32.le_iff_toInt_le.mpr q); omega)))
end AXX
