/-! exact answers, further (rows written by a program) -/
theorem rd_d_X4_clearRests_0 : decode tX4_clearRests.1.2.1 0 = .ok (.aload_n 0, 1) := by decide +kernel
theorem rd_d_X4_clearRests_1 : decode tX4_clearRests.1.2.1 1 = .ok (.getfield 15, 3) := by decide +kernel
theorem rd_k_X4_clearRests_1 : ex_lk ex_mt tX4_clearRests 1 (.getfield 15) [4, 2, 2, 131085] = true := by decide +kernel
theorem rd_d_X4_clearRests_4 : decode tX4_clearRests.1.2.1 4 = .ok (.iconst 0, 1) := by decide +kernel
theorem rd_d_X4_clearRests_5 : decode tX4_clearRests.1.2.1 5 = .ok (.invokestatic 86, 3) := by decide +kernel
theorem rd_k_X4_clearRests_5 : ex_lk ex_mt tX4_clearRests 5 (.invokestatic 86) [0, 3, 262328] = true := by decide +kernel
theorem rd_d_X4_clearRests_8 : decode tX4_clearRests.1.2.1 8 = .ok (.aload_n 0, 1) := by decide +kernel
theorem rd_d_X4_clearRests_9 : decode tX4_clearRests.1.2.1 9 = .ok (.iconst 0, 1) := by decide +kernel
theorem rd_d_X4_clearRests_10 : decode tX4_clearRests.1.2.1 10 = .ok (.putfield 95, 3) := by decide +kernel
theorem rd_k_X4_clearRests_10 : ex_lk ex_mt tX4_clearRests 10 (.putfield 95) [4, 15, 0, 131102] = true := by decide +kernel
theorem rd_d_X4_clearRests_13 : decode tX4_clearRests.1.2.1 13 = .ok (.return_, 1) := by decide +kernel
theorem rd_d_X4_gainInAll_0 : decode tX4_gainInAll.1.2.1 0 = .ok (.aload_n 0, 1) := by decide +kernel
theorem rd_d_X4_gainInAll_1 : decode tX4_gainInAll.1.2.1 1 = .ok (.iconst 0, 1) := by decide +kernel
theorem rd_d_X4_gainInAll_2 : decode tX4_gainInAll.1.2.1 2 = .ok (.iload_n 1, 1) := by decide +kernel
theorem rd_d_X4_gainInAll_3 : decode tX4_gainInAll.1.2.1 3 = .ok (.invokevirtual 92, 3) := by decide +kernel
theorem rd_k_X4_gainInAll_3 : ex_lk ex_mt tX4_gainInAll 3 (.invokevirtual 92) [0, 224, 262345] = true := by decide +kernel
theorem rd_d_X4_gainInAll_6 : decode tX4_gainInAll.1.2.1 6 = .ok (.ireturn, 1) := by decide +kernel
theorem rd_d_X9_longest_0 : decode tX9_longest.1.2.1 0 = .ok (.iconst 0, 1) := by decide +kernel
theorem rd_d_X9_longest_1 : decode tX9_longest.1.2.1 1 = .ok (.istore_n 1, 1) := by decide +kernel
theorem rd_d_X9_longest_2 : decode tX9_longest.1.2.1 2 = .ok (.iconst 0, 1) := by decide +kernel
theorem rd_d_X9_longest_3 : decode tX9_longest.1.2.1 3 = .ok (.istore_n 2, 1) := by decide +kernel
theorem rd_d_X9_longest_4 : decode tX9_longest.1.2.1 4 = .ok (.iload_n 2, 1) := by decide +kernel
theorem rd_d_X9_longest_5 : decode tX9_longest.1.2.1 5 = .ok (.aload_n 0, 1) := by decide +kernel
theorem rd_d_X9_longest_6 : decode tX9_longest.1.2.1 6 = .ok (.getfield 43, 3) := by decide +kernel
theorem rd_k_X9_longest_6 : ex_lk ex_mt tX9_longest 6 (.getfield 43) [9, 8, 0, 65660] = true := by decide +kernel
theorem rd_d_X9_longest_9 : decode tX9_longest.1.2.1 9 = .ok (.if_icmp .ge 19, 3) := by decide +kernel
theorem rd_d_X9_longest_12 : decode tX9_longest.1.2.1 12 = .ok (.iload_n 1, 1) := by decide +kernel
theorem rd_d_X9_longest_13 : decode tX9_longest.1.2.1 13 = .ok (.aload_n 0, 1) := by decide +kernel
theorem rd_d_X9_longest_14 : decode tX9_longest.1.2.1 14 = .ok (.iload_n 2, 1) := by decide +kernel
theorem rd_d_X9_longest_15 : decode tX9_longest.1.2.1 15 = .ok (.invokevirtual 108, 3) := by decide +kernel
theorem rd_k_X9_longest_15 : ex_lk ex_mt tX9_longest 15 (.invokevirtual 108) [0, 308, 196741] = true := by decide +kernel
theorem rd_d_X9_longest_18 : decode tX9_longest.1.2.1 18 = .ok (.invokestatic 128, 3) := by decide +kernel
theorem rd_k_X9_longest_18 : ex_lk ex_mt tX9_longest 18 (.invokestatic 128) [1, 0, 262271, 0] = true := by decide +kernel
theorem rd_d_X9_longest_21 : decode tX9_longest.1.2.1 21 = .ok (.istore_n 1, 1) := by decide +kernel
theorem rd_d_X9_longest_22 : decode tX9_longest.1.2.1 22 = .ok (.iinc 2 1, 3) := by decide +kernel
theorem rd_d_X9_longest_25 : decode tX9_longest.1.2.1 25 = .ok (.goto (-21), 3) := by decide +kernel
theorem rd_d_X9_longest_28 : decode tX9_longest.1.2.1 28 = .ok (.iload_n 1, 1) := by decide +kernel
theorem rd_d_X9_longest_29 : decode tX9_longest.1.2.1 29 = .ok (.ireturn, 1) := by decide +kernel
theorem rd_d_X4_prepareGains_0 : decode tX4_prepareGains.1.2.1 0 = .ok (.aload_n 0, 1) := by decide +kernel
theorem rd_d_X4_prepareGains_1 : decode tX4_prepareGains.1.2.1 1 = .ok (.getfield 50, 3) := by decide +kernel
theorem rd_k_X4_prepareGains_1 : ex_lk ex_mt tX4_prepareGains 1 (.getfield 50) [4, 17, 0, 131104] = true := by decide +kernel
theorem rd_d_X4_prepareGains_4 : decode tX4_prepareGains.1.2.1 4 = .ok (.ifCond .eq 4, 3) := by decide +kernel
theorem rd_d_X4_prepareGains_7 : decode tX4_prepareGains.1.2.1 7 = .ok (.return_, 1) := by decide +kernel
theorem rd_d_X4_prepareGains_8 : decode tX4_prepareGains.1.2.1 8 = .ok (.aload_n 0, 1) := by decide +kernel
theorem rd_d_X4_prepareGains_9 : decode tX4_prepareGains.1.2.1 9 = .ok (.iconst 1, 1) := by decide +kernel
theorem rd_d_X4_prepareGains_10 : decode tX4_prepareGains.1.2.1 10 = .ok (.putfield 50, 3) := by decide +kernel
theorem rd_k_X4_prepareGains_10 : ex_lk ex_mt tX4_prepareGains 10 (.putfield 50) [4, 17, 3, 131104] = true := by decide +kernel
theorem rd_d_X4_prepareGains_13 : decode tX4_prepareGains.1.2.1 13 = .ok (.aload_n 0, 1) := by decide +kernel
theorem rd_d_X4_prepareGains_14 : decode tX4_prepareGains.1.2.1 14 = .ok (.aload_n 0, 1) := by decide +kernel
theorem rd_d_X4_prepareGains_15 : decode tX4_prepareGains.1.2.1 15 = .ok (.getfield 46, 3) := by decide +kernel
theorem rd_k_X4_prepareGains_15 : ex_lk ex_mt tX4_prepareGains 15 (.getfield 46) [4, 0, 2, 131083] = true := by decide +kernel
theorem rd_d_X4_prepareGains_18 : decode tX4_prepareGains.1.2.1 18 = .ok (.invokevirtual 60, 3) := by decide +kernel
theorem rd_k_X4_prepareGains_18 : ex_lk ex_mt tX4_prepareGains 18 (.invokevirtual 60) [0, 297, 262318] = true := by decide +kernel
theorem rd_d_X4_prepareGains_21 : decode tX4_prepareGains.1.2.1 21 = .ok (.bipush 60, 2) := by decide +kernel
theorem rd_d_X4_prepareGains_23 : decode tX4_prepareGains.1.2.1 23 = .ok (.invokestatic 66, 3) := by decide +kernel
theorem rd_k_X4_prepareGains_23 : ex_lk ex_mt tX4_prepareGains 23 (.invokestatic 66) [1, 1, 262322, 0] = true := by decide +kernel
theorem rd_d_X4_prepareGains_26 : decode tX4_prepareGains.1.2.1 26 = .ok (.putfield 72, 3) := by decide +kernel
theorem rd_k_X4_prepareGains_26 : ex_lk ex_mt tX4_prepareGains 26 (.putfield 72) [4, 16, 0, 131103] = true := by decide +kernel
theorem rd_d_X4_prepareGains_29 : decode tX4_prepareGains.1.2.1 29 = .ok (.iconst 0, 1) := by decide +kernel
theorem rd_d_X4_prepareGains_30 : decode tX4_prepareGains.1.2.1 30 = .ok (.istore_n 1, 1) := by decide +kernel
theorem rd_d_X4_prepareGains_31 : decode tX4_prepareGains.1.2.1 31 = .ok (.iload_n 1, 1) := by decide +kernel
theorem rd_d_X4_prepareGains_32 : decode tX4_prepareGains.1.2.1 32 = .ok (.aload_n 0, 1) := by decide +kernel
theorem rd_d_X4_prepareGains_33 : decode tX4_prepareGains.1.2.1 33 = .ok (.getfield 46, 3) := by decide +kernel
theorem rd_k_X4_prepareGains_33 : ex_lk ex_mt tX4_prepareGains 33 (.getfield 46) [4, 0, 2, 131083] = true := by decide +kernel
theorem rd_d_X4_prepareGains_36 : decode tX4_prepareGains.1.2.1 36 = .ok (.getfield 76, 3) := by decide +kernel
theorem rd_k_X4_prepareGains_36 : ex_lk ex_mt tX4_prepareGains 36 (.getfield 76) [9, 7, 0, 65657] = true := by decide +kernel
theorem rd_d_X4_prepareGains_39 : decode tX4_prepareGains.1.2.1 39 = .ok (.if_icmp .ge 47, 3) := by decide +kernel
theorem rd_d_X4_prepareGains_42 : decode tX4_prepareGains.1.2.1 42 = .ok (.iconst 0, 1) := by decide +kernel
theorem rd_d_X4_prepareGains_43 : decode tX4_prepareGains.1.2.1 43 = .ok (.istore_n 2, 1) := by decide +kernel
theorem rd_d_X4_prepareGains_44 : decode tX4_prepareGains.1.2.1 44 = .ok (.iload_n 2, 1) := by decide +kernel
theorem rd_d_X4_prepareGains_45 : decode tX4_prepareGains.1.2.1 45 = .ok (.aload_n 0, 1) := by decide +kernel
theorem rd_d_X4_prepareGains_46 : decode tX4_prepareGains.1.2.1 46 = .ok (.getfield 72, 3) := by decide +kernel
theorem rd_k_X4_prepareGains_46 : ex_lk ex_mt tX4_prepareGains 46 (.getfield 72) [4, 16, 0, 131103] = true := by decide +kernel
theorem rd_d_X4_prepareGains_49 : decode tX4_prepareGains.1.2.1 49 = .ok (.if_icmp .ge 31, 3) := by decide +kernel
theorem rd_d_X4_prepareGains_52 : decode tX4_prepareGains.1.2.1 52 = .ok (.aload_n 0, 1) := by decide +kernel
theorem rd_d_X4_prepareGains_53 : decode tX4_prepareGains.1.2.1 53 = .ok (.getfield 9, 3) := by decide +kernel
theorem rd_k_X4_prepareGains_53 : ex_lk ex_mt tX4_prepareGains 53 (.getfield 9) [4, 1, 2, 131084] = true := by decide +kernel
theorem rd_d_X4_prepareGains_56 : decode tX4_prepareGains.1.2.1 56 = .ok (.iload_n 1, 1) := by decide +kernel
theorem rd_d_X4_prepareGains_57 : decode tX4_prepareGains.1.2.1 57 = .ok (.bipush 60, 2) := by decide +kernel
theorem rd_d_X4_prepareGains_59 : decode tX4_prepareGains.1.2.1 59 = .ok (.imul, 1) := by decide +kernel
theorem rd_d_X4_prepareGains_60 : decode tX4_prepareGains.1.2.1 60 = .ok (.iload_n 2, 1) := by decide +kernel
theorem rd_d_X4_prepareGains_61 : decode tX4_prepareGains.1.2.1 61 = .ok (.iadd, 1) := by decide +kernel
theorem rd_d_X4_prepareGains_62 : decode tX4_prepareGains.1.2.1 62 = .ok (.aload_n 0, 1) := by decide +kernel
theorem rd_d_X4_prepareGains_63 : decode tX4_prepareGains.1.2.1 63 = .ok (.getfield 46, 3) := by decide +kernel
theorem rd_k_X4_prepareGains_63 : ex_lk ex_mt tX4_prepareGains 63 (.getfield 46) [4, 0, 2, 131083] = true := by decide +kernel
theorem rd_d_X4_prepareGains_66 : decode tX4_prepareGains.1.2.1 66 = .ok (.iload_n 1, 1) := by decide +kernel
theorem rd_d_X4_prepareGains_67 : decode tX4_prepareGains.1.2.1 67 = .ok (.iload_n 2, 1) := by decide +kernel
theorem rd_d_X4_prepareGains_68 : decode tX4_prepareGains.1.2.1 68 = .ok (.invokevirtual 79, 3) := by decide +kernel
theorem rd_k_X4_prepareGains_68 : ex_lk ex_mt tX4_prepareGains 68 (.invokevirtual 79) [0, 287, 262323] = true := by decide +kernel
theorem rd_d_X4_prepareGains_71 : decode tX4_prepareGains.1.2.1 71 = .ok (.invokestatic 82, 3) := by decide +kernel
theorem rd_k_X4_prepareGains_71 : ex_lk ex_mt tX4_prepareGains 71 (.invokestatic 82) [0, 55, 262327] = true := by decide +kernel
theorem rd_d_X4_prepareGains_74 : decode tX4_prepareGains.1.2.1 74 = .ok (.iinc 2 1, 3) := by decide +kernel
theorem rd_d_X4_prepareGains_77 : decode tX4_prepareGains.1.2.1 77 = .ok (.goto (-33), 3) := by decide +kernel
theorem rd_d_X4_prepareGains_80 : decode tX4_prepareGains.1.2.1 80 = .ok (.iinc 1 1, 3) := by decide +kernel
theorem rd_d_X4_prepareGains_83 : decode tX4_prepareGains.1.2.1 83 = .ok (.goto (-52), 3) := by decide +kernel
theorem rd_d_X4_prepareGains_86 : decode tX4_prepareGains.1.2.1 86 = .ok (.aload_n 0, 1) := by decide +kernel
theorem rd_d_X4_prepareGains_87 : decode tX4_prepareGains.1.2.1 87 = .ok (.getfield 25, 3) := by decide +kernel
theorem rd_k_X4_prepareGains_87 : ex_lk ex_mt tX4_prepareGains 87 (.getfield 25) [4, 5, 2, 131088] = true := by decide +kernel
theorem rd_d_X4_prepareGains_90 : decode tX4_prepareGains.1.2.1 90 = .ok (.iconst (-1), 1) := by decide +kernel
theorem rd_d_X4_prepareGains_91 : decode tX4_prepareGains.1.2.1 91 = .ok (.invokestatic 86, 3) := by decide +kernel
theorem rd_k_X4_prepareGains_91 : ex_lk ex_mt tX4_prepareGains 91 (.invokestatic 86) [0, 3, 262328] = true := by decide +kernel
theorem rd_d_X4_prepareGains_94 : decode tX4_prepareGains.1.2.1 94 = .ok (.aload_n 0, 1) := by decide +kernel
theorem rd_d_X4_prepareGains_95 : decode tX4_prepareGains.1.2.1 95 = .ok (.getfield 28, 3) := by decide +kernel
theorem rd_k_X4_prepareGains_95 : ex_lk ex_mt tX4_prepareGains 95 (.getfield 28) [4, 6, 2, 131089] = true := by decide +kernel
theorem rd_d_X4_prepareGains_98 : decode tX4_prepareGains.1.2.1 98 = .ok (.iconst (-1), 1) := by decide +kernel
theorem rd_d_X4_prepareGains_99 : decode tX4_prepareGains.1.2.1 99 = .ok (.invokestatic 86, 3) := by decide +kernel
theorem rd_k_X4_prepareGains_99 : ex_lk ex_mt tX4_prepareGains 99 (.invokestatic 86) [0, 3, 262328] = true := by decide +kernel
theorem rd_d_X4_prepareGains_102 : decode tX4_prepareGains.1.2.1 102 = .ok (.return_, 1) := by decide +kernel
section AXX
variable {g : am_C} {L : Nat} {xs : Nat → Int32}
theorem ax_clr (G : sx_G0 g L xs z9 hd_C ex_mt) {σ : am_S} (hS : ax_S σ) : am_K g 2 tX4_clearRests.1 0 0 0 (lv_args 0 [.ref 68]) [] σ (fun r σ' => r = some none ∧ ax_S σ' ∧ σ'.2.1 68 15 = 0 ∧ (∀ y, y < 1500 → σ'.2.1 70 y = 0) ∧ (∀ x y, x ≠ 70 → ¬ (x = 68 ∧ y = 15) → σ'.2.1 x y = σ.2.1 x y) ∧ σ'.2.2 = σ.2.2) := by
  refine kr_aload_n 0 rd_d_X4_clearRests_0 rfl ?_
  refine kr_getf G.1 (rd_FL rd_k_X4_clearRests_1).1 rd_d_X4_clearRests_1 (hS.1 68 (.inl 4) rfl) (v := .ref 70) (by unfold am_fa; rw [(rd_FL rd_k_X4_clearRests_1).2]; exact hS.2 68 2 70 rfl) ?_
  refine kr_iconst (v := 0) rd_d_X4_clearRests_4 (by decide) ?_
  refine rd_callS G (T2 := tJ7_fill_53178) rfl rd_d_X4_clearRests_5 rd_k_X4_clearRests_5 rfl rfl (as := [.ref 70, .int 0]) (st := []) rfl (Nat.le_of_ble_eq_true rfl) rfl (Nat.le_of_ble_eq_true rfl) (d1 := 1) (by decide) (fun _ h => by cases h.1) (ax_fill G (n := 1500) (by decide) hS (hS.1 70 (.inr (.int, 1500)) rfl) 0) ?_
  intro vA σA ⟨hvA, hSA, hwA, hfA, hlA⟩
  cases hvA
  refine kr_aload_n 0 rd_d_X4_clearRests_8 rfl ?_
  refine kr_iconst (v := 0) rd_d_X4_clearRests_9 (by decide) ?_
  refine ax_putWL G hSA rd_d_X4_clearRests_10 rd_k_X4_clearRests_10 (hSA.1 68 (.inl 4) rfl) rfl rfl rfl ?_
  intro τ1 hT1 hw1 hf1 hl1
  have hsτ1 : τ1.2.1 120 = σA.2.1 120 := (ax_120F hf1 (by decide))
  have hqτ1 : ax_pl τ1.2.1 = ax_pl σA.2.1 := (ax_plF hf1 (by decide))
  have hLτ1 : τ1.2.2 = σA.2.2 := hl1
  exact kr_return rd_d_X4_clearRests_13 rfl ⟨rfl, hT1, hw1, fun y hy => (hf1 70 y (fun q => absurd q.1 (by decide))).trans (hwA y hy), fun x y x0 hx => (hf1 x y hx).trans (hfA x y (fun q => x0 q.1)), hLτ1.trans hlA⟩
theorem pr_T0 (s : Nat → Int32) {H : Nat} (hH : H ≤ 60) {m : Nat → Nat → Int32} (h1 : m 68 15 = 0) (h2 : ∀ y, y < 1500 → m 70 y = 0) : pr_T s [] 0 H m := by
  refine ⟨by rw [h1]; rfl, fun y f hy hf => ?_⟩
  rw [h2 _ (by omega)]
  rfl
def ax_f_gia (m : Nat → Nat → Int32) (a : Int32) : Int32 := ax_f_rsf m 0 a
theorem ax_gia (G : sx_G0 g L xs z9 hd_C ex_mt) {σ : am_S} (hS : ax_S σ) (a : Int32) : am_K g 3 tX4_gainInAll.1 0 0 0 (lv_args 0 [.ref 68, .int a]) [] σ (ax_R (ax_f_gia σ.2.1 a) σ) := by
  refine kr_aload_n 0 rd_d_X4_gainInAll_0 rfl ?_
  refine kr_iconst (v := 0) rd_d_X4_gainInAll_1 (by decide) ?_
  refine kr_iload_n 1 rd_d_X4_gainInAll_2 rfl ?_
  refine rd_call G (T2 := tX4_restFrom) rfl rd_d_X4_gainInAll_3 rd_k_X4_gainInAll_3 rfl (hS.1 68 (.inl 4) rfl) (as := [.int 0, .int a]) (st := []) rfl (Nat.le_of_ble_eq_true rfl) rfl (Nat.le_of_ble_eq_true rfl) (d1 := 2) (by decide) (fun _ h => by cases h.1) (ax_rsf G hS 0 a) ?_
  intro v1 σ1 ⟨hv1, hs1⟩
  cases hv1
  rw [hs1]
  exact kr_ireturn rd_d_X4_gainInAll_6 (ty := .int) rfl rfl ⟨rfl, rfl⟩
theorem pr_gia {s : Nat → Int32} {m : Nat → Nat → Int32} {ws : List Nat} {U H mfn F : Nat} {f : Int32} (ht : pr_T s ws U H m) (hU : U = min mfn (pv_U (pn_of s) ws)) (hmf : mfn ≤ 24) (hF : F ≤ mfn) (ef : f.toInt = (F : Int)) (hH1 : 1 ≤ H) : (ax_f_gia m f).toInt = ((pn_v s ws 0 F).1 : Int) := by
  have z0 : (0 : Int32).toInt = ((0 : Nat) : Int) := rfl
  have e1 := ch_add z0 (pa_min ef ht.1) (by omega)
  have e2 := ht.2 0 (min F U) (by omega) (by omega)
  rw [ax_f_gia, ax_f_rsf, if_neg (c := (0 : Int32) = -1) (by decide), ax_ent_in (k := 0 + min F U) (by decide) e1 (by omega), show 0 + min F U = 25 * 0 + min F U by omega, e2, pn_min hU hF]
def ax_s_lng (m : Nat → Nat → Int32) (rec : Int32 → Int32 → Int32) (z k : Int32) : Int32 := if (m 4 8) ≤ k then z else rec (ax_f_max z (ax_f_secX m k)) (k + 1)
def ax_l_lng (m : Nat → Nat → Int32) : Nat → Int32 → Int32 → Int32
  | 0, z, k => ax_s_lng m (fun _ _ => 0) z k
  | f + 1, z, k => ax_s_lng m (ax_l_lng m f) z k
theorem ax_l_lng_zero (m : Nat → Nat → Int32) (z k : Int32) : ax_l_lng m 0 z k = ax_s_lng m (fun _ _ => 0) z k := rfl
theorem ax_l_lng_succ (m : Nat → Nat → Int32) (f : Nat) (z k : Int32) : ax_l_lng m (f + 1) z k = ax_s_lng m (ax_l_lng m f) z k := rfl
theorem ax_lo_lng (G : sx_G0 g L xs z9 hd_C ex_mt) {σ : am_S} (hS : ax_S σ) (hb : (σ.2.1 4 8).toInt ≤ 6) : ∀ (f j : Nat) (z k : Int32), k.toInt = (j : Int) → j + f = 6 → am_K g 3 tX9_longest.1 0 0 4 [(2, .int k), (1, .int z), (0, .ref 4)] [] σ (ax_R (ax_l_lng σ.2.1 f z k) σ) := by
  intro f
  induction f with
  | zero =>
    intro j z k ek hj
    refine kr_iload_n 0 rd_d_X9_longest_4 rfl ?_
    refine kr_aload_n 2 rd_d_X9_longest_5 rfl ?_
    refine kr_getf G.1 (rd_FL rd_k_X9_longest_6).1 rd_d_X9_longest_6 (hS.1 4 (.inl 9) rfl) (v := .int (σ.2.1 4 8)) (by unfold am_fa; rw [(rd_FL rd_k_X9_longest_6).2]; rfl) ?_
    refine kr_icmp_ge (tgt := 28) rd_d_X9_longest_9 rfl (fun h1 => ?_) (fun h1 => ?_)
    · refine kr_iload_n 1 rd_d_X9_longest_28 rfl ?_
      exact kr_ireturn rd_d_X9_longest_29 (ty := .int) rfl rfl ⟨by rw [ax_l_lng_zero, ax_s_lng, if_pos h1], rfl⟩
    · exact absurd (Int32.le_iff_toInt_le.mpr (by omega)) h1
  | succ f ih =>
    intro j z k ek hj
    refine kr_iload_n 0 rd_d_X9_longest_4 rfl ?_
    refine kr_aload_n 2 rd_d_X9_longest_5 rfl ?_
    refine kr_getf G.1 (rd_FL rd_k_X9_longest_6).1 rd_d_X9_longest_6 (hS.1 4 (.inl 9) rfl) (v := .int (σ.2.1 4 8)) (by unfold am_fa; rw [(rd_FL rd_k_X9_longest_6).2]; rfl) ?_
    refine kr_icmp_ge (tgt := 28) rd_d_X9_longest_9 rfl (fun h1 => ?_) (fun h1 => ?_)
    · refine kr_iload_n 1 rd_d_X9_longest_28 rfl ?_
      exact kr_ireturn rd_d_X9_longest_29 (ty := .int) rfl rfl ⟨by rw [ax_l_lng_succ, ax_s_lng, if_pos h1], rfl⟩
    · refine kr_iload_n 1 rd_d_X9_longest_12 rfl ?_
      refine kr_aload_n 2 rd_d_X9_longest_13 rfl ?_
      refine kr_iload_n 0 rd_d_X9_longest_14 rfl ?_
      refine rd_call G (T2 := tX9_secondsOf) rfl rd_d_X9_longest_15 rd_k_X9_longest_15 rfl (hS.1 4 (.inl 9) rfl) (as := [.int k]) (st := [.int z]) rfl (Nat.le_of_ble_eq_true rfl) rfl (Nat.le_of_ble_eq_true rfl) (d1 := 2) (by decide) (fun _ h => by cases h.1) (ax_secX G hS k) ?_
      intro v2 σ2 ⟨hv2, hs2⟩
      cases hv2
      rw [hs2]
      refine kr_mmax G.1 (ex_mem_ok (show ex_mem 262271 (Cond.methodLink tX9_longest.1.1.cls 128 Lib.Math.max.name) = true from rd_k_X9_longest_18)) rd_d_X9_longest_18 (by decide) (Nat.le_of_ble_eq_true rfl) ?_
      show am_K g 3 tX9_longest.1 0 0 21 [(2, .int k), (1, .int z), (0, .ref 4)] [.int (ax_f_max z (ax_f_secX σ.2.1 k))] σ _
      refine kr_istore_n (lv' := [(1, .int (ax_f_max z (ax_f_secX σ.2.1 k))), (2, .int k), (0, .ref 4)]) rd_d_X9_longest_21 (by decide) rfl ?_
      refine kr_iinc (v := k + 1) (lv' := [(2, .int (k + 1)), (1, .int (ax_f_max z (ax_f_secX σ.2.1 k))), (0, .ref 4)]) 1 rd_d_X9_longest_22 rfl rfl (by decide) rfl ?_
      refine kr_goto (tgt := 4) rd_d_X9_longest_25 rfl ?_
      rw [ax_l_lng_succ, ax_s_lng, if_neg h1]
      exact ih (j + 1) (ax_f_max z (ax_f_secX σ.2.1 k)) (k + 1) (ax_inc ek (by omega)) (by omega)
def ax_f_lg (m : Nat → Nat → Int32) : Int32 := ax_l_lng m 6 0 0
theorem ax_lg (G : sx_G0 g L xs z9 hd_C ex_mt) {σ : am_S} (hS : ax_S σ) (hb : pl_Bm σ) : am_K g 3 tX9_longest.1 0 0 0 (lv_args 0 [.ref 4]) [] σ (ax_R (ax_f_lg σ.2.1) σ) := by
  refine kr_iconst (v := 0) rd_d_X9_longest_0 (by decide) ?_
  refine kr_istore_n (lv' := [(1, .int 0), (0, .ref 4)]) rd_d_X9_longest_1 (by decide) rfl ?_
  refine kr_iconst (v := 0) rd_d_X9_longest_2 (by decide) ?_
  refine kr_istore_n (lv' := [(2, .int 0), (1, .int 0), (0, .ref 4)]) rd_d_X9_longest_3 (by decide) rfl ?_
  rw [ax_f_lg]
  exact kr_less (by decide) (Nat.le_refl _) (Nat.le_refl _) (ax_lo_lng G hS hb.2.1.2 6 0 0 0 rfl rfl)
theorem lg_mx (x y : Int32) : x.toInt ≤ (ax_f_max x y).toInt ∧ y.toInt ≤ (ax_f_max x y).toInt ∧ ((ax_f_max x y).toInt = x.toInt ∨ (ax_f_max x y).toInt = y.toInt) := by
  rw [ax_f_max]
  split
  · rename_i h
    have := Int32.lt_iff_toInt_lt.mp h
    omega
  · rename_i h
    have : ¬ x.toInt < y.toInt := fun q => h (Int32.lt_iff_toInt_lt.mpr q)
    omega
theorem lg_ge {m : Nat → Nat → Int32} (hb : (m 4 8).toInt ≤ 6) : ∀ (f j : Nat) (z k : Int32), k.toInt = (j : Int) → j + f = 6 → z.toInt ≤ (ax_l_lng m f z k).toInt := by
  intro f
  induction f with
  | zero =>
    intro j z k ek hj
    rw [ax_l_lng_zero, ax_s_lng, if_pos (Int32.le_iff_toInt_le.mpr (by omega))]
    exact Int.le_refl _
  | succ f ih =>
    intro j z k ek hj
    rw [ax_l_lng_succ, ax_s_lng]
    split
    · exact Int.le_refl _
    · have h1 := ih (j + 1) (ax_f_max z (ax_f_secX m k)) (k + 1) (ax_inc ek (by omega)) (by omega)
      have h2 := (lg_mx z (ax_f_secX m k)).1
      omega
theorem lg_le {m : Nat → Nat → Int32} (hb : (m 4 8).toInt ≤ 6) (h60 : ∀ k : Int32, 0 ≤ k.toInt → k.toInt < (m 4 8).toInt → (ax_f_secX m k).toInt ≤ 60) : ∀ (f j : Nat) (z k : Int32), k.toInt = (j : Int) → j + f = 6 → z.toInt ≤ 60 → (ax_l_lng m f z k).toInt ≤ 60 := by
  intro f
  induction f with
  | zero =>
    intro j z k ek hj hz
    rw [ax_l_lng_zero, ax_s_lng, if_pos (Int32.le_iff_toInt_le.mpr (by omega))]
    exact hz
  | succ f ih =>
    intro j z k ek hj hz
    rw [ax_l_lng_succ, ax_s_lng]
    split
    · exact hz
    · rename_i q
      have q' : ¬ (m 4 8).toInt ≤ k.toInt := fun e => q (Int32.le_iff_toInt_le.mpr e)
      have h1 := h60 k (by omega) (by omega)
      have h2 := (lg_mx z (ax_f_secX m k)).2.2
      exact ih (j + 1) _ _ (ax_inc ek (by omega)) (by omega) (by omega)
theorem lg_sd {m : Nat → Nat → Int32} {s : Nat → Int32} (h : pl_R m 4 s) (b : pl_B s) {u : Int32} : ∀ (f j : Nat) (z k y : Int32), k.toInt = (j : Int) → j + f = 6 → (ax_l_lng m f z k).toInt < u.toInt → ax_l_sdM s u f k y = y := by
  have hN := pl_many h b
  have hn := ax_many6 (s := s) b.2
  have hm : ax_f_many s = m 4 8 := Int32.toInt_inj.mp hN
  have z0 : ∀ x : Int32, x + 0 = x := fun x => Int32.add_zero x
  intro f
  induction f with
  | zero =>
    intro j z k y ek hj hlt
    rw [ax_l_sdM_zero, ax_s_sdM, hm, if_pos (Int32.le_iff_toInt_le.mpr (by omega))]
  | succ f ih =>
    intro j z k y ek hj hlt
    rw [ax_l_sdM_succ, ax_s_sdM, hm]
    by_cases q : m 4 8 ≤ k
    · rw [if_pos q]
    · have q' : ¬ (m 4 8).toInt ≤ k.toInt := fun e => q (Int32.le_iff_toInt_le.mpr e)
      obtain ⟨p1, -⟩ := pl_sec h b (a := k) (j := k.toInt.toNat) (by omega) (by omega)
      rw [ax_l_lng_succ, ax_s_lng, if_neg q, p1] at hlt
      have hge := lg_ge (m := m) (by omega) f (j + 1) (ax_f_max z (ax_f_secM s k k.toInt.toNat)) (k + 1) (ax_inc ek (by omega)) (by omega)
      have hmx := (lg_mx z (ax_f_secM s k k.toInt.toNat)).2.1
      rw [if_neg q, if_pos (Int32.lt_iff_toInt_lt.mpr (by omega)), z0]
      exact ih (j + 1) _ _ _ (ax_inc ek (by omega)) (by omega) hlt
/-- SECONDS of 60 at most -/
def pl_B5 (s : Nat → Int32) : Prop := ∀ k, k < 6 → 0 ≤ (s (42 + k)).toInt ∧ (s (42 + k)).toInt ≤ 60
theorem pl_z5 : ∀ k, k < 6 → sx_atl (z9.1 120) (42 + k) = some (.ofNat 0, .ofNat 60, 413) := by decide +kernel
theorem pl_B5M' {σe σ : am_S} {m : Nat} (hM : sx_M z9 hd_C σe m 0 σ) : pl_B5 (σ.2.1 120) := fun k hk => hM.2.2.1 120 (42 + k) _ _ _ (pl_z5 k hk)
theorem lg_sec {m : Nat → Nat → Int32} {s : Nat → Int32} (h : pl_R m 4 s) (b : pl_B s) {k : Int32} (h0 : 0 ≤ k.toInt) (h1 : k.toInt < (m 4 8).toInt) : ax_f_secX m k = ax_f_secM s k k.toInt.toNat := by
  have hN := pl_many h b
  exact (pl_sec h b (a := k) (j := k.toInt.toNat) (by omega) (by omega)).1
theorem lg_60 {m : Nat → Nat → Int32} {s : Nat → Int32} (h : pl_R m 4 s) (b : pl_B s) (b5 : pl_B5 s) (bw : pl_W s) : 1 ≤ (ax_l_lng m 6 0 0).toInt ∧ (ax_l_lng m 6 0 0).toInt ≤ 60 := by
  have hN := pl_many h b
  have hn := ax_many6 (s := s) b.2
  have z0 : (0 : Int32).toInt = 0 := rfl
  have z1 : (1 : Int32).toInt = 1 := rfl
  refine ⟨?_, lg_le (by omega) (fun k k0 k1 => ?_) 6 0 0 0 rfl rfl (by decide)⟩
  · have q : ¬ m 4 8 ≤ 0 := fun q => by have := Int32.le_iff_toInt_le.mp q; omega
    have e := lg_sec h b (k := 0) (by omega) (by omega)
    have e2 : 1 ≤ (ax_f_secX m 0).toInt := by
      rw [e, ax_f_secM]
      split
      · decide
      · rename_i n0
        have n1 : ¬ (s 1).toInt = 0 := fun e => n0 (Int32.toInt_inj.mp (by omega))
        have b1 := b.2.1
        exact bw.2.1 0 (by omega)
    have h1 := lg_ge (m := m) (by omega) 5 1 (ax_f_max 0 (ax_f_secX m 0)) (0 + 1) rfl rfl
    have h2 := (lg_mx 0 (ax_f_secX m 0)).2.1
    rw [ax_l_lng_succ, ax_s_lng, if_neg q]
    omega
  · rw [lg_sec h b k0 k1, ax_f_secM]
    split
    · decide
    · exact (b5 k.toInt.toNat (by omega)).2
/-- from the longest stand on nothing gains -/
theorem pn_zero {m : Nat → Nat → Int32} {s : Nat → Int32} (h : pl_R m 4 s) (b : pn_B s) (bw : pl_W s) (b5 : pl_B5 s) {w x : Nat} (hW : (w : Int) < (s 0).toInt) (hx : (ax_l_lng m 6 0 0).toInt ≤ (x : Int)) : pn_g s w x = 0 := by
  have l60 := lg_60 h b.1 b5 bw
  have h10 : w < 10 := by have := b.1.1.2; omega
  unfold pn_g
  split
  · rename_i h61
    have ew : (Int32.ofNat w).toInt = (w : Int) := Int32.toInt_ofNat_of_lt (by omega)
    have ex : (Int32.ofNat x).toInt = (x : Int) := Int32.toInt_ofNat_of_lt (by omega)
    have ex1 : (Int32.ofNat x + 1).toInt = ((x + 1 : Nat) : Int) := ax_inc ex (by omega)
    have tk1 := bw.1 w (by omega)
    have tk9 := b.2.2.1 w h10
    have ext : (Int32.ofNat x + s (12 + w)).toInt = (x : Int) + (s (12 + w)).toInt := by
      rw [sx_addI _ _ (by show (-2147483648 : Int) ≤ _; omega) (by show _ ≤ (2147483647 : Int); omega), ex]
    have d1 : ax_f_sd s (Int32.ofNat x + 1) = 0 := by rw [ax_f_sd]; exact lg_sd h b.1 6 0 0 0 0 rfl rfl (by omega)
    have d2 : ax_f_sd s (Int32.ofNat x + s (12 + (Int32.ofNat w).toInt.toNat)) = 0 := by
      rw [show (Int32.ofNat w).toInt.toNat = w by omega, ax_f_sd]
      exact lg_sd h b.1 6 0 0 0 0 rfl rfl (by omega)
    have g : ∀ c, ax_f_gnM s (Int32.ofNat w) c (Int32.ofNat x) = 0 := by
      intro c
      rw [ax_f_gnM, d1, d2]
      split
      · rw [Int32.mul_zero]
      · rw [Int32.sub_self, Int32.mul_zero, Int32.mul_zero, Int32.add_zero, Int32.mul_zero]
    rw [ax_f_bgM, g, g]
    decide
  · rfl
/-- the class's place and the reference's STATION, where plans look -/
def pc_X (s : Nat → Int32) (σ : am_S) : Prop := pl_R σ.2.1 4 s ∧ σ.2.1 120 = s
theorem pc_F {s : Nat → Int32} {σ σ' : am_S} (h : pc_X s σ) (f : ∀ x y, x ≤ 11 ∨ x = 120 → σ'.2.1 x y = σ.2.1 x y) : pc_X s σ' := by
  obtain ⟨⟨h1, h2, h3, h4⟩, h5⟩ := h
  refine ⟨⟨?_, ?_, ?_, ?_⟩, ?_⟩
  · rw [f 4 7 (Or.inl (by decide))]; exact h1
  · rw [f 4 8 (Or.inl (by decide)), f (4 + 1 + 4) 0 (Or.inl (by decide)), f (4 + 1 + 5) 0 (Or.inl (by decide))]; exact h2
  · rw [f 4 8 (Or.inl (by decide))]; exact h3
  · intro r hr k hk
    rw [f (4 + 1 + r) k (Or.inl (by omega))]
    exact h4 r hr k hk
  · exact (funext fun y => f 120 y (Or.inr rfl)).trans h5
theorem pc_B {s : Nat → Int32} {σ : am_S} (b : pl_B s) (h : pc_X s σ) : pl_Bm σ := by
  obtain ⟨⟨h1, h2, h3, -⟩, h5⟩ := h
  obtain ⟨⟨b1, b2⟩, b3, b4⟩ := id b
  refine ⟨by rw [h1]; exact ⟨b1, b2⟩, ?_, by rw [h5]; exact b⟩
  by_cases z : (s 1).toInt = 0
  · rw [(h2 z).1]; exact ⟨by decide, by decide⟩
  · rw [h3 z]; exact ⟨b3, b4⟩
theorem pa_g {m : Nat → Nat → Int32} {s : Nat → Int32} (h : pl_R m 4 s) (b : pn_B s) {w t : Int32} {ww T : Nat} (ew : w.toInt = (ww : Int)) (et : t.toInt = (T : Int)) (hW : (ww : Int) < (s 0).toInt) (hT : T < 61) : (ax_f_bgX m w t).toInt = (pn_g s ww T : Int) := by
  have ha : ¬ ax_f_win s w = 0 := ax_winV b.1 ⟨by omega, by omega⟩
  have h10 : ww < 10 := by have := b.1.1.2; omega
  have g := bg_b2 b.1 b.2.1 (a := w) ⟨by omega, by omega⟩ t
  rw [bg_eq h b.1 ha]
  unfold pn_g
  rw [if_pos hT, ← ch_ofN ew, ← ch_ofN et]
  omega
theorem ax_pgT (G : sx_G0 g L xs z9 hd_C ex_mt) {s : Nat → Int32} {H : Nat} (b : pn_B s) (hH : H ≤ 60) {w : Int32} {ww : Nat} (ew : w.toInt = (ww : Int)) (hW : (ww : Int) < (s 0).toInt) {post : Option (Option Value) → am_S → Prop} : ∀ (n T : Nat) (t : Int32) (σ : am_S), ax_S σ → pc_X s σ → (σ.2.1 68 16).toInt = (H : Int) → t.toInt = (T : Int) → T + n = H → (∀ x, x < T → (σ.2.1 69 (ww * 60 + x)).toInt = (pn_g s ww x : Int)) → (∀ (σ' : am_S) (t2 : Int32), ax_S σ' → (∀ x y, ¬ (x = 69 ∧ ww * 60 ≤ y ∧ y < ww * 60 + 60) → σ'.2.1 x y = σ.2.1 x y) → σ'.2.2 = σ.2.2 → (∀ x, x < H → (σ'.2.1 69 (ww * 60 + x)).toInt = (pn_g s ww x : Int)) → am_K g 5 tX4_prepareGains.1 0 0 80 [(2, .int t2), (1, .int w), (0, .ref 68)] [] σ' post) → am_K g 5 tX4_prepareGains.1 0 0 44 [(2, .int t), (1, .int w), (0, .ref 68)] [] σ post := by
  have h10 : ww < 10 := by
    have := b.1.1.2
    omega
  intro n
  induction n with
  | zero =>
    intro T t σ hS hX hh et hj tab kk
    refine kr_iload_n 0 rd_d_X4_prepareGains_44 rfl ?_
    refine kr_aload_n 2 rd_d_X4_prepareGains_45 rfl ?_
    refine kr_getf G.1 (rd_FL rd_k_X4_prepareGains_46).1 rd_d_X4_prepareGains_46 (hS.1 68 (.inl 4) rfl) (v := .int (σ.2.1 68 16)) (by unfold am_fa; rw [(rd_FL rd_k_X4_prepareGains_46).2]; rfl) ?_
    refine kr_icmp_ge (tgt := 80) rd_d_X4_prepareGains_49 rfl (fun h1 => ?_) (fun h1 => ?_)
    · have e : T = H := by omega
      subst e
      exact kk σ t hS (fun _ _ _ => rfl) rfl tab
    · exact absurd (Int32.le_iff_toInt_le.mpr (by omega)) h1
  | succ n ih =>
    intro T t σ hS hX hh et hj tab kk
    refine kr_iload_n 0 rd_d_X4_prepareGains_44 rfl ?_
    refine kr_aload_n 2 rd_d_X4_prepareGains_45 rfl ?_
    refine kr_getf G.1 (rd_FL rd_k_X4_prepareGains_46).1 rd_d_X4_prepareGains_46 (hS.1 68 (.inl 4) rfl) (v := .int (σ.2.1 68 16)) (by unfold am_fa; rw [(rd_FL rd_k_X4_prepareGains_46).2]; rfl) ?_
    refine kr_icmp_ge (tgt := 80) rd_d_X4_prepareGains_49 rfl (fun h21 => ?_) (fun h21 => ?_)
    · have := Int32.le_iff_toInt_le.mp h21
      omega
    · have hb := pc_B b.1 hX
      have eix : (w * 60 + t).toInt = ((ww * 60 + T : Nat) : Int) := ch_add (ch_mul ew (y := 60) (b := 60) rfl (A := 10) (B := 60) (by omega) (Nat.le_refl _) (by decide)) et (by omega)
      refine kr_aload_n 2 rd_d_X4_prepareGains_52 rfl ?_
      refine kr_getf G.1 (rd_FL rd_k_X4_prepareGains_53).1 rd_d_X4_prepareGains_53 (hS.1 68 (.inl 4) rfl) (v := .ref 69) (by unfold am_fa; rw [(rd_FL rd_k_X4_prepareGains_53).2]; exact hS.2 68 1 69 rfl) ?_
      refine kr_iload_n 1 rd_d_X4_prepareGains_56 rfl ?_
      refine kr_bipush (v := 60) rd_d_X4_prepareGains_57 (by decide) ?_
      refine kr_imul rd_d_X4_prepareGains_59 ?_
      refine kr_iload_n 0 rd_d_X4_prepareGains_60 rfl ?_
      refine kr_iadd rd_d_X4_prepareGains_61 ?_
      refine kr_aload_n 2 rd_d_X4_prepareGains_62 rfl ?_
      refine kr_getf G.1 (rd_FL rd_k_X4_prepareGains_63).1 rd_d_X4_prepareGains_63 (hS.1 68 (.inl 4) rfl) (v := .ref 4) (by unfold am_fa; rw [(rd_FL rd_k_X4_prepareGains_63).2]; exact hS.2 68 0 4 rfl) ?_
      refine kr_iload_n 1 rd_d_X4_prepareGains_66 rfl ?_
      refine kr_iload_n 0 rd_d_X4_prepareGains_67 rfl ?_
      refine rd_call G (T2 := tX9_betterGain) rfl rd_d_X4_prepareGains_68 rd_k_X4_prepareGains_68 rfl (hS.1 4 (.inl 9) rfl) (as := [.int w, .int t]) (st := [.int ((w * 60) + t), .ref 69]) rfl (Nat.le_of_ble_eq_true rfl) rfl (Nat.le_of_ble_eq_true rfl) (d1 := 4) (by decide) (fun _ h => by cases h.1) (ax_bgX G hS w t hb) ?_
      intro v41 σ41 ⟨hv41, hs41⟩
      cases hv41
      rw [hs41]
      refine rd_callS G (T2 := tX11_put) rfl rd_d_X4_prepareGains_71 rd_k_X4_prepareGains_71 rfl rfl (as := [.ref 69, .int ((w * 60) + t), .int (ax_f_bgX σ.2.1 w t)]) (st := []) rfl (Nat.le_of_ble_eq_true rfl) rfl (Nat.le_of_ble_eq_true rfl) (d1 := 1) (by decide) (fun _ h => by cases h.1) (ax_putA G hS (n := 600) (hS.1 69 (.inr (.int, 600)) rfl) (by decide) (ix := ww * 60 + T) eix (by omega)) ?_
      intro vvτ1 τ1 ⟨hvvτ1, hT1, hw1, hf1, hl1⟩
      cases hvvτ1
      have hsτ1 : τ1.2.1 120 = σ.2.1 120 := (ax_120F hf1 (by decide))
      have hqτ1 : ax_pl τ1.2.1 = ax_pl σ.2.1 := (ax_plF hf1 (by decide))
      have hLτ1 : τ1.2.2 = σ.2.2 := hl1
      refine kr_iinc (v := t + 1) (lv' := [(2, .int (t + 1)), (1, .int w), (0, .ref 68)]) 0 rd_d_X4_prepareGains_74 rfl rfl (by decide) rfl ?_
      refine kr_goto (tgt := 44) rd_d_X4_prepareGains_77 rfl ?_
      refine kr_sub (lv' := [(2, .int (t + 1)), (1, .int w), (0, .ref 68)]) (by simp) ?_
      refine ih (T + 1) (t + 1) τ1 hT1 (pc_F hX (fun x y q => hf1 x y (fun z => by omega))) (by rw [hf1 68 16 (fun q => absurd q.1 (by decide))]; exact hh) (ax_inc et (by omega)) (by omega) ?_ ?_
      · intro x hx
        by_cases e : x = T
        · subst e; rw [hw1]; exact pa_g hX.1 b ew et hW (by omega)
        · rw [hf1 69 _ (fun q => by have := q.2; omega)]; exact tab x (by omega)
      · exact fun σ' t2 a1 a2 a3 a4 => kk σ' t2 a1 (fun x y q => (a2 x y q).trans (hf1 x y (fun z => q ⟨z.1, by have := z.2; omega, by have := z.2; omega⟩))) (a3.trans hLτ1) a4
theorem ax_pgW (G : sx_G0 g L xs z9 hd_C ex_mt) {s : Nat → Int32} {H : Nat} (b : pn_B s) (hH : H ≤ 60) {post : Option (Option Value) → am_S → Prop} : ∀ (n T : Nat) (w : Int32) (σ : am_S), ax_S σ → pc_X s σ → (σ.2.1 68 16).toInt = (H : Int) → w.toInt = (T : Int) → (T : Int) + (n : Int) = (s 0).toInt → (∀ v x : Nat, v < T → x < H → (σ.2.1 69 (v * 60 + x)).toInt = (pn_g s v x : Int)) → (∀ (σ' : am_S) (w2 : Int32), ax_S σ' → (∀ x y, x ≠ 69 → σ'.2.1 x y = σ.2.1 x y) → σ'.2.2 = σ.2.2 → (∀ v x : Nat, (v : Int) < (s 0).toInt → x < H → (σ'.2.1 69 (v * 60 + x)).toInt = (pn_g s v x : Int)) → am_K g 5 tX4_prepareGains.1 0 0 86 [(1, .int w2), (0, .ref 68)] [] σ' post) → am_K g 5 tX4_prepareGains.1 0 0 31 [(1, .int w), (0, .ref 68)] [] σ post := by
  have hs10 := b.1.1.2
  intro n
  induction n with
  | zero =>
    intro T w σ hS hX hh ew hj tab kk
    have hw7 := hX.1.1
    refine kr_iload_n 0 rd_d_X4_prepareGains_31 rfl ?_
    refine kr_aload_n 1 rd_d_X4_prepareGains_32 rfl ?_
    refine kr_getf G.1 (rd_FL rd_k_X4_prepareGains_33).1 rd_d_X4_prepareGains_33 (hS.1 68 (.inl 4) rfl) (v := .ref 4) (by unfold am_fa; rw [(rd_FL rd_k_X4_prepareGains_33).2]; exact hS.2 68 0 4 rfl) ?_
    refine kr_getf G.1 (rd_FL rd_k_X4_prepareGains_36).1 rd_d_X4_prepareGains_36 (hS.1 4 (.inl 9) rfl) (v := .int (σ.2.1 4 7)) (by unfold am_fa; rw [(rd_FL rd_k_X4_prepareGains_36).2]; rfl) ?_
    refine kr_icmp_ge (tgt := 86) rd_d_X4_prepareGains_39 rfl (fun h1 => ?_) (fun h1 => ?_)
    · exact kk σ w hS (fun _ _ _ => rfl) rfl (fun v x h1 h2 => tab v x (by omega) h2)
    · exact absurd (Int32.le_iff_toInt_le.mpr (by omega)) h1
  | succ n ih =>
    intro T w σ hS hX hh ew hj tab kk
    have hw7 := hX.1.1
    refine kr_iload_n 0 rd_d_X4_prepareGains_31 rfl ?_
    refine kr_aload_n 1 rd_d_X4_prepareGains_32 rfl ?_
    refine kr_getf G.1 (rd_FL rd_k_X4_prepareGains_33).1 rd_d_X4_prepareGains_33 (hS.1 68 (.inl 4) rfl) (v := .ref 4) (by unfold am_fa; rw [(rd_FL rd_k_X4_prepareGains_33).2]; exact hS.2 68 0 4 rfl) ?_
    refine kr_getf G.1 (rd_FL rd_k_X4_prepareGains_36).1 rd_d_X4_prepareGains_36 (hS.1 4 (.inl 9) rfl) (v := .int (σ.2.1 4 7)) (by unfold am_fa; rw [(rd_FL rd_k_X4_prepareGains_36).2]; rfl) ?_
    refine kr_icmp_ge (tgt := 86) rd_d_X4_prepareGains_39 rfl (fun h21 => ?_) (fun h21 => ?_)
    · have := Int32.le_iff_toInt_le.mp h21
      omega
    · have hW : (T : Int) < (s 0).toInt := by omega
      refine kr_iconst (v := 0) rd_d_X4_prepareGains_42 (by decide) ?_
      refine kr_istore_n (lv' := [(2, .int 0), (1, .int w), (0, .ref 68)]) rd_d_X4_prepareGains_43 (by decide) rfl ?_
      refine ax_pgT G b hH ew hW H 0 0 σ hS hX hh rfl (by omega) (fun x hx => absurd hx (Nat.not_lt_zero x)) ?_
      intro σ1 t2 a1 a2 a3 a4
      refine kr_iinc (v := w + 1) (lv' := [(1, .int (w + 1)), (2, .int t2), (0, .ref 68)]) 1 rd_d_X4_prepareGains_80 rfl rfl (by decide) rfl ?_
      refine kr_goto (tgt := 31) rd_d_X4_prepareGains_83 rfl ?_
      refine kr_sub (lv' := [(1, .int (w + 1)), (0, .ref 68)]) (by simp) ?_
      refine ih (T + 1) (w + 1) σ1 a1 (pc_F hX (fun x y q => a2 x y (fun z => by omega))) (by rw [a2 68 16 (fun q => absurd q.1 (by decide))]; exact hh) (ax_inc ew (by omega)) (by omega) ?_ ?_
      · intro v x h1 h2
        by_cases e : v = T
        · subst e; exact a4 x h2
        · rw [a2 69 _ (fun q => by have := q.2; omega)]; exact tab v x (by omega) h2
      · exact fun σ' w2 c1 c2 c3 c4 => kk σ' w2 c1 (fun x y q => (c2 x y q).trans (a2 x y (fun z => q z.1))) (c3.trans a3) c4
/-- so many windows from a on upwards; from a on downwards -/
def pl_up : Nat → Nat → List Nat
  | 0, _ => []
  | k + 1, a => a :: pl_up k (a + 1)
def pl_dn : Nat → Nat → List Nat
  | 0, _ => []
  | k + 1, a => a :: pl_dn k (a - 1)
theorem pl_up_m {v : Nat} : ∀ (k a : Nat), v ∈ pl_up k a → a ≤ v ∧ v < a + k := by
  intro k
  induction k with
  | zero => intro a h; cases h
  | succ k ih =>
    intro a h
    rcases List.mem_cons.mp h with e | e
    · omega
    · have := ih (a + 1) e; omega
theorem pl_dn_m {v : Nat} : ∀ (k a : Nat), v ∈ pl_dn k a → v ≤ a := by
  intro k
  induction k with
  | zero => intro a h; cases h
  | succ k ih =>
    intro a h
    rcases List.mem_cons.mp h with e | e
    · omega
    · have := ih (a - 1) e; omega
/-- GAINS of rows, as far as they are measured -/
def pk_r (s : Nat → Int32) (m : Nat → Nat → Int32) : Prop := ∀ f l : Nat, f ≤ l → (l : Int) < (s 0).toInt → ((m 73 (f * 10 + l)).toInt = -1 ∨ (m 73 (f * 10 + l)).toInt = ((pn_v s (pl_up (l - f + 1) f) 0 (s 55).toInt.toNat).1 : Int)) ∧ ((m 74 (f * 10 + l)).toInt = -1 ∨ (m 74 (f * 10 + l)).toInt = ((pn_v s (pl_dn (l - f + 1) l) 0 (s 55).toInt.toNat).1 : Int))
/-- what is kept of the gains -/
def pk_G (s : Nat → Int32) (m : Nat → Nat → Int32) : Prop := (∃ H, pg_K s H m) ∧ pk_r s m
theorem pg_F {s : Nat → Int32} {H : Nat} {m m' : Nat → Nat → Int32} (h : pg_K s H m) (f : ∀ x y, (x = 69 ∨ (x = 68 ∧ y = 16)) → m' x y = m x y) : pg_K s H m' := by
  obtain ⟨h1, h2, h3, h4⟩ := h
  refine ⟨h1, by rw [f 68 16 (Or.inr ⟨rfl, rfl⟩)]; exact h2, h3, fun w x q1 q2 => ?_⟩
  rw [f 69 _ (Or.inl rfl)]
  exact h4 w x q1 q2
theorem pk_rF {s : Nat → Int32} {m m' : Nat → Nat → Int32} (h : pk_r s m) (f : ∀ y, m' 73 y = m 73 y ∧ m' 74 y = m 74 y) : pk_r s m' := by
  intro a l h1 h2
  rw [(f _).1, (f _).2]
  exact h a l h1 h2
theorem ax_pg (G : sx_G0 g L xs z9 hd_C ex_mt) {σ : am_S} (hS : ax_S σ) {s : Nat → Int32} (b : pn_B s) (bw : pl_W s) (b5 : pl_B5 s) (hX : pc_X s σ) (hk : ¬ σ.2.1 68 17 = 0 → pk_G s σ.2.1) : am_K g 5 tX4_prepareGains.1 0 0 0 (lv_args 0 [.ref 68]) [] σ (fun r σ' => r = some none ∧ ax_S σ' ∧ (∀ x y, x ≠ 69 → x ≠ 73 → x ≠ 74 → ¬ (x = 68 ∧ (y = 16 ∨ y = 17)) → σ'.2.1 x y = σ.2.1 x y) ∧ σ'.2.2 = σ.2.2 ∧ ¬ σ'.2.1 68 17 = 0 ∧ (¬ σ.2.1 68 17 = 0 → σ'.2.1 = σ.2.1) ∧ pk_G s σ'.2.1) := by
  refine kr_aload_n 0 rd_d_X4_prepareGains_0 rfl ?_
  refine kr_getf G.1 (rd_FL rd_k_X4_prepareGains_1).1 rd_d_X4_prepareGains_1 (hS.1 68 (.inl 4) rfl) (v := .int (σ.2.1 68 17)) (by unfold am_fa; rw [(rd_FL rd_k_X4_prepareGains_1).2]; rfl) ?_
  refine kr_if_eq (tgt := 8) rd_d_X4_prepareGains_4 rfl (fun h1 => ?_) (fun h1 => ?_)
  · refine kr_aload_n 0 rd_d_X4_prepareGains_8 rfl ?_
    refine kr_iconst (v := 1) rd_d_X4_prepareGains_9 (by decide) ?_
    refine ax_putWL G hS rd_d_X4_prepareGains_10 rd_k_X4_prepareGains_10 (hS.1 68 (.inl 4) rfl) rfl rfl rfl ?_
    intro τ1 hT1 hw1 hf1 hl1
    have hsτ1 : τ1.2.1 120 = σ.2.1 120 := (ax_120F hf1 (by decide))
    have hqτ1 : ax_pl τ1.2.1 = ax_pl σ.2.1 := (ax_plF hf1 (by decide))
    have hLτ1 : τ1.2.2 = σ.2.2 := hl1
    refine kr_aload_n 0 rd_d_X4_prepareGains_13 rfl ?_
    refine kr_aload_n 0 rd_d_X4_prepareGains_14 rfl ?_
    refine kr_getf G.1 (rd_FL rd_k_X4_prepareGains_15).1 rd_d_X4_prepareGains_15 (hT1.1 68 (.inl 4) rfl) (v := .ref 4) (by unfold am_fa; rw [(rd_FL rd_k_X4_prepareGains_15).2]; exact hT1.2 68 0 4 rfl) ?_
    have hX0 : pc_X s τ1 := pc_F hX (fun x y q => hf1 x y (fun z => by omega))
    have l60 := lg_60 hX0.1 b.1 b5 bw
    refine rd_call G (T2 := tX9_longest) rfl rd_d_X4_prepareGains_18 rd_k_X4_prepareGains_18 rfl (hT1.1 4 (.inl 9) rfl) (as := []) (st := [.ref 68]) rfl (Nat.le_of_ble_eq_true rfl) rfl (Nat.le_of_ble_eq_true rfl) (d1 := 3) (by decide) (fun _ h => by cases h.1) (ax_lg G hT1 (pc_B b.1 hX0)) ?_
    intro v9 σ9 ⟨hv9, hs9⟩
    cases hv9
    rw [hs9]
    refine kr_bipush (v := 60) rd_d_X4_prepareGains_21 (by decide) ?_
    refine kr_mmin G.1 (ex_mem_ok (show ex_mem 262322 (Cond.methodLink tX4_prepareGains.1.1.cls 66 Lib.Math.min.name) = true from rd_k_X4_prepareGains_23)) rd_d_X4_prepareGains_23 (by decide) (Nat.le_of_ble_eq_true rfl) ?_
    show am_K g 5 tX4_prepareGains.1 0 0 26 [(0, .ref 68)] [.int (ax_f_min (ax_f_lg τ1.2.1) 60), .ref 68] τ1 _
    refine ax_putWL G hT1 rd_d_X4_prepareGains_26 rd_k_X4_prepareGains_26 (hT1.1 68 (.inl 4) rfl) rfl rfl rfl ?_
    intro τ2 hT2 hw2 hf2 hl2
    have hsτ2 : τ2.2.1 120 = σ.2.1 120 := (ax_120F hf2 (by decide)).trans hsτ1
    have hqτ2 : ax_pl τ2.2.1 = ax_pl σ.2.1 := (ax_plF hf2 (by decide)).trans hqτ1
    have hLτ2 : τ2.2.2 = σ.2.2 := hl2.trans hLτ1
    refine kr_iconst (v := 0) rd_d_X4_prepareGains_29 (by decide) ?_
    refine kr_istore_n (lv' := [(1, .int 0), (0, .ref 68)]) rd_d_X4_prepareGains_30 (by decide) rfl ?_
    obtain ⟨H, hH⟩ : ∃ H : Nat, (ax_l_lng τ1.2.1 6 0 0).toInt = (H : Int) := ⟨(ax_l_lng τ1.2.1 6 0 0).toInt.toNat, by omega⟩
    have eH : (τ2.2.1 68 16).toInt = (H : Int) := by
      have e := pa_min (x := ax_f_lg τ1.2.1) (y := 60) (a := H) (b := 60) (by rw [ax_f_lg]; exact hH) rfl
      rw [hw2, e, Nat.min_eq_left (by omega)]
    have hX1 : pc_X s τ2 := pc_F hX0 (fun x y q => hf2 x y (fun z => by omega))
    have hw7 := hX.1.1
    have hs0 := b.1.1.1
    refine kr_sub (lv' := [(1, .int 0), (0, .ref 68)]) (by simp) ?_
    refine ax_pgW G b (by omega) (s 0).toInt.toNat 0 0 τ2 hT2 hX1 eH rfl (by omega) (fun v x h _ => absurd h (Nat.not_lt_zero v)) ?_
    intro σ2 w2 c1 c2 c3 c4
    refine kr_aload_n 1 rd_d_X4_prepareGains_86 rfl ?_
    refine kr_getf G.1 (rd_FL rd_k_X4_prepareGains_87).1 rd_d_X4_prepareGains_87 (c1.1 68 (.inl 4) rfl) (v := .ref 73) (by unfold am_fa; rw [(rd_FL rd_k_X4_prepareGains_87).2]; exact c1.2 68 5 73 rfl) ?_
    refine kr_iconst (v := (-1)) rd_d_X4_prepareGains_90 (by decide) ?_
    refine rd_callS G (T2 := tJ7_fill_53178) rfl rd_d_X4_prepareGains_91 rd_k_X4_prepareGains_91 rfl rfl (as := [.ref 73, .int ((-1))]) (st := []) rfl (Nat.le_of_ble_eq_true rfl) rfl (Nat.le_of_ble_eq_true rfl) (d1 := 1) (by decide) (fun _ h => by cases h.1) (ax_fill G (n := 100) (by decide) c1 (c1.1 73 (.inr (.int, 100)) rfl) ((-1))) ?_
    intro vA σA ⟨hvA, hSA, hwA, hfA, hlA⟩
    cases hvA
    refine kr_aload_n 1 rd_d_X4_prepareGains_94 rfl ?_
    refine kr_getf G.1 (rd_FL rd_k_X4_prepareGains_95).1 rd_d_X4_prepareGains_95 (hSA.1 68 (.inl 4) rfl) (v := .ref 74) (by unfold am_fa; rw [(rd_FL rd_k_X4_prepareGains_95).2]; exact hSA.2 68 6 74 rfl) ?_
    refine kr_iconst (v := (-1)) rd_d_X4_prepareGains_98 (by decide) ?_
    refine rd_callS G (T2 := tJ7_fill_53178) rfl rd_d_X4_prepareGains_99 rd_k_X4_prepareGains_99 rfl rfl (as := [.ref 74, .int ((-1))]) (st := []) rfl (Nat.le_of_ble_eq_true rfl) rfl (Nat.le_of_ble_eq_true rfl) (d1 := 1) (by decide) (fun _ h => by cases h.1) (ax_fill G (n := 100) (by decide) hSA (hSA.1 74 (.inr (.int, 100)) rfl) ((-1))) ?_
    intro vB σB ⟨hvB, hSB, hwB, hfB, hlB⟩
    cases hvB
    have fr : ∀ x y, x ≠ 69 → x ≠ 73 → x ≠ 74 → σB.2.1 x y = τ2.2.1 x y := fun x y x9 x3 x4 => (hfB x y (fun q => x4 q.1)).trans ((hfA x y (fun q => x3 q.1)).trans (c2 x y x9))
    have hkg : pg_K s H σB.2.1 := ⟨⟨by omega, by omega⟩, by rw [fr 68 16 (by decide) (by decide) (by decide)]; exact eH, fun v x h1 h2 => pn_zero hX0.1 b bw b5 h1 (by omega), fun v x h1 h2 => by rw [hfB 69 _ (fun q => absurd q.1 (by decide)), hfA 69 _ (fun q => absurd q.1 (by decide))]; exact c4 v x h1 h2⟩
    have hs10 := b.1.1.2
    have hkr : pk_r s σB.2.1 := fun f l h1 h2 => ⟨Or.inl (by rw [hfB 73 _ (fun q => absurd q.1 (by decide)), hwA _ (by omega)]; rfl), Or.inl (by rw [hwB _ (by omega)]; rfl)⟩
    exact kr_return rd_d_X4_prepareGains_102 rfl ⟨rfl, hSB, fun x y x9 x3 x4 hx => (fr x y x9 x3 x4).trans ((hf2 x y (fun q => hx ⟨q.1, Or.inl q.2⟩)).trans (hf1 x y (fun q => hx ⟨q.1, Or.inr q.2⟩))), hlB.trans (hlA.trans (c3.trans hLτ2)), by rw [fr 68 17 (by decide) (by decide) (by decide), hf2 68 17 (fun q => absurd q.2 (by decide)), hw1]; decide, fun q => absurd h1 q, ⟨H, hkg⟩, hkr⟩
  · exact kr_return rd_d_X4_prepareGains_7 rfl ⟨rfl, hS, fun _ _ _ _ _ _ => rfl, rfl, h1, fun _ => rfl, hk h1⟩
end AXX
