/-! exact answers, further (rows written by a program) -/
theorem rd_d_X11_earns_0 : decode tX11_earns.1.2.1 0 = .ok (.iload_n 1, 1) := by decide +kernel
theorem rd_d_X11_earns_1 : decode tX11_earns.1.2.1 1 = .ok (.iconst 1, 1) := by decide +kernel
theorem rd_d_X11_earns_2 : decode tX11_earns.1.2.1 2 = .ok (.if_icmp .lt 30, 3) := by decide +kernel
theorem rd_d_X11_earns_5 : decode tX11_earns.1.2.1 5 = .ok (.iload_n 1, 1) := by decide +kernel
theorem rd_d_X11_earns_6 : decode tX11_earns.1.2.1 6 = .ok (.aload_n 0, 1) := by decide +kernel
theorem rd_d_X11_earns_7 : decode tX11_earns.1.2.1 7 = .ok (.getfield 28, 3) := by decide +kernel
theorem rd_k_X11_earns_7 : ex_lk ex_mt tX11_earns 7 (.getfield 28) [11, 2, 2, 131261] = true := by decide +kernel
theorem rd_d_X11_earns_10 : decode tX11_earns.1.2.1 10 = .ok (.getfield 291, 3) := by decide +kernel
theorem rd_k_X11_earns_10 : ex_lk ex_mt tX11_earns 10 (.getfield 291) [9, 7, 0, 65659] = true := by decide +kernel
theorem rd_d_X11_earns_13 : decode tX11_earns.1.2.1 13 = .ok (.if_icmp .gt 19, 3) := by decide +kernel
theorem rd_d_X11_earns_16 : decode tX11_earns.1.2.1 16 = .ok (.iload_n 2, 1) := by decide +kernel
theorem rd_d_X11_earns_17 : decode tX11_earns.1.2.1 17 = .ok (.ifCond .lt 15, 3) := by decide +kernel
theorem rd_d_X11_earns_20 : decode tX11_earns.1.2.1 20 = .ok (.iload_n 2, 1) := by decide +kernel
theorem rd_d_X11_earns_21 : decode tX11_earns.1.2.1 21 = .ok (.iload_n 1, 1) := by decide +kernel
theorem rd_d_X11_earns_22 : decode tX11_earns.1.2.1 22 = .ok (.if_icmp .ge 10, 3) := by decide +kernel
theorem rd_d_X11_earns_25 : decode tX11_earns.1.2.1 25 = .ok (.iload_n 3, 1) := by decide +kernel
theorem rd_d_X11_earns_26 : decode tX11_earns.1.2.1 26 = .ok (.invokestatic 255, 3) := by decide +kernel
theorem rd_k_X11_earns_26 : ex_lk ex_mt tX11_earns 26 (.invokestatic 255) [0, 41, 393386] = true := by decide +kernel
theorem rd_d_X11_earns_29 : decode tX11_earns.1.2.1 29 = .ok (.ifCond .ne 14, 3) := by decide +kernel
theorem rd_d_X11_earns_32 : decode tX11_earns.1.2.1 32 = .ok (.new 151, 3) := by decide +kernel
theorem rd_k_X11_earns_32 : ex_lk ex_mt tX11_earns 32 (.new 151) [1, 327, 1, 393310, 393427] = true := by decide +kernel
theorem rd_d_X11_earns_43 : decode tX11_earns.1.2.1 43 = .ok (.aload_n 0, 1) := by decide +kernel
theorem rd_d_X11_earns_44 : decode tX11_earns.1.2.1 44 = .ok (.getfield 67, 3) := by decide +kernel
theorem rd_k_X11_earns_44 : ex_lk ex_mt tX11_earns 44 (.getfield 67) [11, 9, 2, 131268] = true := by decide +kernel
theorem rd_d_X11_earns_47 : decode tX11_earns.1.2.1 47 = .ok (.invokevirtual 321, 3) := by decide +kernel
theorem rd_k_X11_earns_47 : ex_lk ex_mt tX11_earns 47 (.invokevirtual 321) [0, 221, 327709] = true := by decide +kernel
theorem rd_d_X11_earns_50 : decode tX11_earns.1.2.1 50 = .ok (.aload_n 0, 1) := by decide +kernel
theorem rd_d_X11_earns_51 : decode tX11_earns.1.2.1 51 = .ok (.getfield 67, 3) := by decide +kernel
theorem rd_k_X11_earns_51 : ex_lk ex_mt tX11_earns 51 (.getfield 67) [11, 9, 2, 131268] = true := by decide +kernel
theorem rd_d_X11_earns_54 : decode tX11_earns.1.2.1 54 = .ok (.iload_n 1, 1) := by decide +kernel
theorem rd_d_X11_earns_55 : decode tX11_earns.1.2.1 55 = .ok (.iload_n 2, 1) := by decide +kernel
theorem rd_d_X11_earns_56 : decode tX11_earns.1.2.1 56 = .ok (.invokevirtual 329, 3) := by decide +kernel
theorem rd_k_X11_earns_56 : ex_lk ex_mt tX11_earns 56 (.invokevirtual 329) [0, 230, 393428] = true := by decide +kernel
theorem rd_d_X11_earns_59 : decode tX11_earns.1.2.1 59 = .ok (.aload_n 0, 1) := by decide +kernel
theorem rd_d_X11_earns_60 : decode tX11_earns.1.2.1 60 = .ok (.getfield 28, 3) := by decide +kernel
theorem rd_k_X11_earns_60 : ex_lk ex_mt tX11_earns 60 (.getfield 28) [11, 2, 2, 131261] = true := by decide +kernel
theorem rd_d_X11_earns_63 : decode tX11_earns.1.2.1 63 = .ok (.invokevirtual 278, 3) := by decide +kernel
theorem rd_k_X11_earns_63 : ex_lk ex_mt tX11_earns 63 (.invokevirtual 278) [0, 312, 393407] = true := by decide +kernel
theorem rd_d_X11_earns_66 : decode tX11_earns.1.2.1 66 = .ok (.iload_n 3, 1) := by decide +kernel
theorem rd_d_X11_earns_67 : decode tX11_earns.1.2.1 67 = .ok (.invokestatic 266, 3) := by decide +kernel
theorem rd_k_X11_earns_67 : ex_lk ex_mt tX11_earns 67 (.invokestatic 266) [0, 53, 393396] = true := by decide +kernel
theorem rd_d_X11_earns_70 : decode tX11_earns.1.2.1 70 = .ok (.ireturn, 1) := by decide +kernel
theorem rd_d_L_earns_0 : decode tL_earns.1.2.1 0 = .ok (.aload 4, 2) := by decide +kernel
theorem rd_d_L_earns_2 : decode tL_earns.1.2.1 2 = .ok (.iconst 0, 1) := by decide +kernel
theorem rd_d_L_earns_3 : decode tL_earns.1.2.1 3 = .ok (.aload_n 0, 1) := by decide +kernel
theorem rd_d_L_earns_4 : decode tL_earns.1.2.1 4 = .ok (.iload_n 1, 1) := by decide +kernel
theorem rd_d_L_earns_5 : decode tL_earns.1.2.1 5 = .ok (.iload_n 2, 1) := by decide +kernel
theorem rd_d_L_earns_6 : decode tL_earns.1.2.1 6 = .ok (.iload_n 3, 1) := by decide +kernel
theorem rd_d_L_earns_7 : decode tL_earns.1.2.1 7 = .ok (.invokevirtual 25, 3) := by decide +kernel
theorem rd_k_L_earns_7 : ex_lk ex_mt tL_earns 7 (.invokevirtual 25) [1, 30, 393423, 5, 393305] = true := by decide +kernel
theorem rd_d_L_earns_10 : decode tL_earns.1.2.1 10 = .ok (.i2l, 1) := by decide +kernel
theorem rd_d_L_earns_11 : decode tL_earns.1.2.1 11 = .ok (.lastore, 1) := by decide +kernel
theorem rd_d_L_earns_12 : decode tL_earns.1.2.1 12 = .ok (.goto 7, 3) := by decide +kernel
theorem rd_d_L_earns_19 : decode tL_earns.1.2.1 19 = .ok (.iconst 0, 1) := by decide +kernel
theorem rd_d_L_earns_20 : decode tL_earns.1.2.1 20 = .ok (.ireturn, 1) := by decide +kernel
theorem rd_d_X11_curve_0 : decode tX11_curve.1.2.1 0 = .ok (.iload_n 1, 1) := by decide +kernel
theorem rd_d_X11_curve_1 : decode tX11_curve.1.2.1 1 = .ok (.iconst 1, 1) := by decide +kernel
theorem rd_d_X11_curve_2 : decode tX11_curve.1.2.1 2 = .ok (.if_icmp .lt 21, 3) := by decide +kernel
theorem rd_d_X11_curve_5 : decode tX11_curve.1.2.1 5 = .ok (.iload_n 1, 1) := by decide +kernel
theorem rd_d_X11_curve_6 : decode tX11_curve.1.2.1 6 = .ok (.aload_n 0, 1) := by decide +kernel
theorem rd_d_X11_curve_7 : decode tX11_curve.1.2.1 7 = .ok (.getfield 28, 3) := by decide +kernel
theorem rd_k_X11_curve_7 : ex_lk ex_mt tX11_curve 7 (.getfield 28) [11, 2, 2, 131261] = true := by decide +kernel
theorem rd_d_X11_curve_10 : decode tX11_curve.1.2.1 10 = .ok (.getfield 291, 3) := by decide +kernel
theorem rd_k_X11_curve_10 : ex_lk ex_mt tX11_curve 10 (.getfield 291) [9, 7, 0, 65659] = true := by decide +kernel
theorem rd_d_X11_curve_13 : decode tX11_curve.1.2.1 13 = .ok (.if_icmp .gt 10, 3) := by decide +kernel
theorem rd_d_X11_curve_16 : decode tX11_curve.1.2.1 16 = .ok (.iload_n 2, 1) := by decide +kernel
theorem rd_d_X11_curve_17 : decode tX11_curve.1.2.1 17 = .ok (.invokestatic 255, 3) := by decide +kernel
theorem rd_k_X11_curve_17 : ex_lk ex_mt tX11_curve 17 (.invokestatic 255) [0, 41, 393386] = true := by decide +kernel
theorem rd_d_X11_curve_20 : decode tX11_curve.1.2.1 20 = .ok (.ifCond .ne 14, 3) := by decide +kernel
theorem rd_d_X11_curve_23 : decode tX11_curve.1.2.1 23 = .ok (.new 151, 3) := by decide +kernel
theorem rd_k_X11_curve_23 : ex_lk ex_mt tX11_curve 23 (.new 151) [1, 332, 1, 393310, 393436] = true := by decide +kernel
theorem rd_d_X11_curve_34 : decode tX11_curve.1.2.1 34 = .ok (.aload_n 0, 1) := by decide +kernel
theorem rd_d_X11_curve_35 : decode tX11_curve.1.2.1 35 = .ok (.getfield 67, 3) := by decide +kernel
theorem rd_k_X11_curve_35 : ex_lk ex_mt tX11_curve 35 (.getfield 67) [11, 9, 2, 131268] = true := by decide +kernel
theorem rd_d_X11_curve_38 : decode tX11_curve.1.2.1 38 = .ok (.invokevirtual 321, 3) := by decide +kernel
theorem rd_k_X11_curve_38 : ex_lk ex_mt tX11_curve 38 (.invokevirtual 321) [0, 221, 327709] = true := by decide +kernel
theorem rd_d_X11_curve_41 : decode tX11_curve.1.2.1 41 = .ok (.iconst 0, 1) := by decide +kernel
theorem rd_d_X11_curve_42 : decode tX11_curve.1.2.1 42 = .ok (.istore_n 3, 1) := by decide +kernel
theorem rd_d_X11_curve_43 : decode tX11_curve.1.2.1 43 = .ok (.iconst 0, 1) := by decide +kernel
theorem rd_d_X11_curve_44 : decode tX11_curve.1.2.1 44 = .ok (.istore 4, 2) := by decide +kernel
theorem rd_d_X11_curve_46 : decode tX11_curve.1.2.1 46 = .ok (.iload 4, 2) := by decide +kernel
theorem rd_d_X11_curve_48 : decode tX11_curve.1.2.1 48 = .ok (.iload_n 1, 1) := by decide +kernel
theorem rd_d_X11_curve_49 : decode tX11_curve.1.2.1 49 = .ok (.if_icmp .ge 22, 3) := by decide +kernel
theorem rd_d_X11_curve_52 : decode tX11_curve.1.2.1 52 = .ok (.iload_n 3, 1) := by decide +kernel
theorem rd_d_X11_curve_53 : decode tX11_curve.1.2.1 53 = .ok (.aload_n 0, 1) := by decide +kernel
theorem rd_d_X11_curve_54 : decode tX11_curve.1.2.1 54 = .ok (.getfield 67, 3) := by decide +kernel
theorem rd_k_X11_curve_54 : ex_lk ex_mt tX11_curve 54 (.getfield 67) [11, 9, 2, 131268] = true := by decide +kernel
theorem rd_d_X11_curve_57 : decode tX11_curve.1.2.1 57 = .ok (.iload_n 1, 1) := by decide +kernel
theorem rd_d_X11_curve_58 : decode tX11_curve.1.2.1 58 = .ok (.iload 4, 2) := by decide +kernel
theorem rd_d_X11_curve_60 : decode tX11_curve.1.2.1 60 = .ok (.invokevirtual 329, 3) := by decide +kernel
theorem rd_k_X11_curve_60 : ex_lk ex_mt tX11_curve 60 (.invokevirtual 329) [0, 230, 393428] = true := by decide +kernel
theorem rd_d_X11_curve_63 : decode tX11_curve.1.2.1 63 = .ok (.iadd, 1) := by decide +kernel
theorem rd_d_X11_curve_64 : decode tX11_curve.1.2.1 64 = .ok (.istore_n 3, 1) := by decide +kernel
theorem rd_d_X11_curve_65 : decode tX11_curve.1.2.1 65 = .ok (.iinc 4 1, 3) := by decide +kernel
theorem rd_d_X11_curve_68 : decode tX11_curve.1.2.1 68 = .ok (.goto (-22), 3) := by decide +kernel
theorem rd_d_X11_curve_71 : decode tX11_curve.1.2.1 71 = .ok (.iload_n 3, 1) := by decide +kernel
theorem rd_d_X11_curve_72 : decode tX11_curve.1.2.1 72 = .ok (.aload_n 0, 1) := by decide +kernel
theorem rd_d_X11_curve_73 : decode tX11_curve.1.2.1 73 = .ok (.getfield 28, 3) := by decide +kernel
theorem rd_k_X11_curve_73 : ex_lk ex_mt tX11_curve 73 (.getfield 28) [11, 2, 2, 131261] = true := by decide +kernel
theorem rd_d_X11_curve_76 : decode tX11_curve.1.2.1 76 = .ok (.invokevirtual 278, 3) := by decide +kernel
theorem rd_k_X11_curve_76 : ex_lk ex_mt tX11_curve 76 (.invokevirtual 278) [0, 312, 393407] = true := by decide +kernel
theorem rd_d_X11_curve_79 : decode tX11_curve.1.2.1 79 = .ok (.iload_n 2, 1) := by decide +kernel
theorem rd_d_X11_curve_80 : decode tX11_curve.1.2.1 80 = .ok (.invokestatic 266, 3) := by decide +kernel
theorem rd_k_X11_curve_80 : ex_lk ex_mt tX11_curve 80 (.invokestatic 266) [0, 53, 393396] = true := by decide +kernel
theorem rd_d_X11_curve_83 : decode tX11_curve.1.2.1 83 = .ok (.ireturn, 1) := by decide +kernel
theorem rd_d_L_curve_0 : decode tL_curve.1.2.1 0 = .ok (.aload_n 3, 1) := by decide +kernel
theorem rd_d_L_curve_1 : decode tL_curve.1.2.1 1 = .ok (.iconst 0, 1) := by decide +kernel
theorem rd_d_L_curve_2 : decode tL_curve.1.2.1 2 = .ok (.aload_n 0, 1) := by decide +kernel
theorem rd_d_L_curve_3 : decode tL_curve.1.2.1 3 = .ok (.iload_n 1, 1) := by decide +kernel
theorem rd_d_L_curve_4 : decode tL_curve.1.2.1 4 = .ok (.iload_n 2, 1) := by decide +kernel
theorem rd_d_L_curve_5 : decode tL_curve.1.2.1 5 = .ok (.invokevirtual 29, 3) := by decide +kernel
theorem rd_k_L_curve_5 : ex_lk ex_mt tL_curve 5 (.invokevirtual 29) [1, 27, 393432, 4, 393305] = true := by decide +kernel
theorem rd_d_L_curve_8 : decode tL_curve.1.2.1 8 = .ok (.i2l, 1) := by decide +kernel
theorem rd_d_L_curve_9 : decode tL_curve.1.2.1 9 = .ok (.lastore, 1) := by decide +kernel
theorem rd_d_L_curve_10 : decode tL_curve.1.2.1 10 = .ok (.goto 7, 3) := by decide +kernel
theorem rd_d_L_curve_17 : decode tL_curve.1.2.1 17 = .ok (.iconst 0, 1) := by decide +kernel
theorem rd_d_L_curve_18 : decode tL_curve.1.2.1 18 = .ok (.ireturn, 1) := by decide +kernel
theorem rd_d_L_plan_0 : decode tL_plan.1.2.1 0 = .ok (.aload 5, 2) := by decide +kernel
theorem rd_d_L_plan_2 : decode tL_plan.1.2.1 2 = .ok (.iconst 0, 1) := by decide +kernel
theorem rd_d_L_plan_3 : decode tL_plan.1.2.1 3 = .ok (.aload_n 0, 1) := by decide +kernel
theorem rd_d_L_plan_4 : decode tL_plan.1.2.1 4 = .ok (.iload_n 1, 1) := by decide +kernel
theorem rd_d_L_plan_5 : decode tL_plan.1.2.1 5 = .ok (.iload_n 2, 1) := by decide +kernel
theorem rd_d_L_plan_6 : decode tL_plan.1.2.1 6 = .ok (.iload_n 3, 1) := by decide +kernel
theorem rd_d_L_plan_7 : decode tL_plan.1.2.1 7 = .ok (.iload 4, 2) := by decide +kernel
theorem rd_d_L_plan_9 : decode tL_plan.1.2.1 9 = .ok (.invokevirtual 22, 3) := by decide +kernel
theorem rd_k_L_plan_9 : ex_lk ex_mt tL_plan 9 (.invokevirtual 22) [1, 54, 393411, 6, 393305] = true := by decide +kernel
theorem rd_d_L_plan_12 : decode tL_plan.1.2.1 12 = .ok (.i2l, 1) := by decide +kernel
theorem rd_d_L_plan_13 : decode tL_plan.1.2.1 13 = .ok (.lastore, 1) := by decide +kernel
theorem rd_d_L_plan_14 : decode tL_plan.1.2.1 14 = .ok (.goto 7, 3) := by decide +kernel
theorem rd_d_L_plan_21 : decode tL_plan.1.2.1 21 = .ok (.iconst 0, 1) := by decide +kernel
theorem rd_d_L_plan_22 : decode tL_plan.1.2.1 22 = .ok (.ireturn, 1) := by decide +kernel
section AXX
variable {g : am_C} {L : Nat} {xs : Nat → Int32}
def pz_sgV (s : Nat → Int32) (n k : Int32) : Int32 := Int32.ofNat (pz_sg s n.toInt.toNat k.toInt.toNat)
def pz_cuV (s : Nat → Int32) (n : Int32) : Int32 := Int32.ofNat (pz_cu s n.toInt.toNat n.toInt.toNat)
def ax_f_eaX (m : Nat → Nat → Int32) (s : Nat → Int32) (n k d : Int32) : Option Int32 := if n < 1 then none else if (m 4 7) < n then none else if k < 0 then none else if n ≤ k then none else if (ax_f_isp d) = 0 then none else some (ax_pt (pz_sgV s n k) (ax_f_bel s) d)
theorem ax_eaX (G : sx_G0 g L xs z9 hd_C ex_mt) {s : Nat → Int32} (b : pn_B s) (b3 : pl_B3 s) (bw : pl_W s) (b5 : pl_B5 s) (b6 : pl_B6 s) {CH : List Nat → Nat → Nat → Int64 → Prop} {σ : am_S} (hS : ax_S σ) (hX : pc_X s σ) (hP : pk_P CH s σ) (n k d : Int32) : am_K g 9 tX11_earns.1 1 6 0 (lv_args 0 [.ref 0, .int n, .int k, .int d]) [] σ (ax_TW (ax_f_eaX σ.2.1 s n k d) (fun σ' => ax_S σ' ∧ (∀ x y, x ≠ 69 → x ≠ 70 → x ≠ 73 → x ≠ 74 → x ≠ 78 → x ≠ 79 → ¬ (x = 68 ∧ 15 ≤ y ∧ y ≤ 17) → σ'.2.1 x y = σ.2.1 x y) ∧ σ'.2.2.1 = σ.2.2.1 ∧ pk_P CH s σ') σ) := by
  refine kr_iload_n 1 rd_d_X11_earns_0 rfl ?_
  refine kr_iconst (v := 1) rd_d_X11_earns_1 (by decide) ?_
  refine kr_icmp_lt (tgt := 32) rd_d_X11_earns_2 rfl (fun h1 => ?_) (fun h1 => ?_)
  · refine ax_throw G (mc := 0) (ms := 0) rd_d_X11_earns_32 rd_k_X11_earns_32 (by decide) (Nat.le_of_ble_eq_true rfl) (fun J hJ => ?_)
    rw [ax_f_eaX, if_pos h1]
    exact ⟨rfl, J, hJ, rfl⟩
  · refine kr_iload_n 1 rd_d_X11_earns_5 rfl ?_
    refine kr_aload_n 0 rd_d_X11_earns_6 rfl ?_
    refine kr_getf G.1 (rd_FL rd_k_X11_earns_7).1 rd_d_X11_earns_7 (hS.1 0 (.inl 11) rfl) (v := .ref 4) (by unfold am_fa; rw [(rd_FL rd_k_X11_earns_7).2]; exact hS.2 0 2 4 rfl) ?_
    refine kr_getf G.1 (rd_FL rd_k_X11_earns_10).1 rd_d_X11_earns_10 (hS.1 4 (.inl 9) rfl) (v := .int (σ.2.1 4 7)) (by unfold am_fa; rw [(rd_FL rd_k_X11_earns_10).2]; rfl) ?_
    refine kr_icmp_gt (tgt := 32) rd_d_X11_earns_13 rfl (fun h2 => ?_) (fun h2 => ?_)
    · refine ax_throw G (mc := 0) (ms := 0) rd_d_X11_earns_32 rd_k_X11_earns_32 (by decide) (Nat.le_of_ble_eq_true rfl) (fun J hJ => ?_)
      rw [ax_f_eaX, if_neg h1, if_pos h2]
      exact ⟨rfl, J, hJ, rfl⟩
    · refine kr_iload_n 2 rd_d_X11_earns_16 rfl ?_
      refine kr_if_lt (tgt := 32) rd_d_X11_earns_17 rfl (fun h3 => ?_) (fun h3 => ?_)
      · refine ax_throw G (mc := 0) (ms := 0) rd_d_X11_earns_32 rd_k_X11_earns_32 (by decide) (Nat.le_of_ble_eq_true rfl) (fun J hJ => ?_)
        rw [ax_f_eaX, if_neg h1, if_neg h2, if_pos h3]
        exact ⟨rfl, J, hJ, rfl⟩
      · refine kr_iload_n 2 rd_d_X11_earns_20 rfl ?_
        refine kr_iload_n 1 rd_d_X11_earns_21 rfl ?_
        refine kr_icmp_ge (tgt := 32) rd_d_X11_earns_22 rfl (fun h4 => ?_) (fun h4 => ?_)
        · refine ax_throw G (mc := 0) (ms := 0) rd_d_X11_earns_32 rd_k_X11_earns_32 (by decide) (Nat.le_of_ble_eq_true rfl) (fun J hJ => ?_)
          rw [ax_f_eaX, if_neg h1, if_neg h2, if_neg h3, if_pos h4]
          exact ⟨rfl, J, hJ, rfl⟩
        · refine kr_iload_n 3 rd_d_X11_earns_25 rfl ?_
          refine ax_callS G (T2 := tX11_isPart) rfl rd_d_X11_earns_26 rd_k_X11_earns_26 rfl rfl (as := [.int d]) (st := []) rfl (Nat.le_of_ble_eq_true rfl) rfl (Nat.le_of_ble_eq_true rfl) (d1 := 1) (by decide) (fun _ h => by cases h.1) (ax_isp G hS d) ?_
          intro v5 σ5 ⟨hv5, hs5⟩
          cases hv5
          rw [hs5]
          refine kr_if_ne (tgt := 43) rd_d_X11_earns_29 rfl (fun h6 => ?_) (fun h6 => ?_)
          · have h7 : σ.2.1 4 7 = s 0 := pl_w hX.1
            have hs1 := b.1.1.1
            have z0 : (0 : Int32).toInt = 0 := rfl
            have z1 : (1 : Int32).toInt = 1 := rfl
            have c1 : ¬ n.toInt < 1 := fun q => h1 (Int32.lt_iff_toInt_lt.mpr (by omega))
            have c2 : ¬ (s 0).toInt < n.toInt := fun q => h2 (by rw [h7]; exact Int32.lt_iff_toInt_lt.mpr q)
            have c3 : ¬ k.toInt < 0 := fun q => h3 (Int32.lt_iff_toInt_lt.mpr (by omega))
            have c4 : ¬ n.toInt ≤ k.toInt := fun q => h4 (Int32.le_iff_toInt_le.mpr q)
            have en : n.toInt = ((n.toInt.toNat : Nat) : Int) := by omega
            have ek : k.toInt = ((k.toInt.toNat : Nat) : Int) := by omega
            have hN : n.toInt.toNat ≤ pz_W s := by unfold pz_W; omega
            refine kr_aload_n 0 rd_d_X11_earns_43 rfl ?_
            refine kr_getf G.1 (rd_FL rd_k_X11_earns_44).1 rd_d_X11_earns_44 (hS.1 0 (.inl 11) rfl) (v := .ref 68) (by unfold am_fa; rw [(rd_FL rd_k_X11_earns_44).2]; exact hS.2 0 9 68 rfl) ?_
            refine ax_callV G (T2 := tX4_prepareGains) rfl rd_d_X11_earns_47 rd_k_X11_earns_47 rfl (hS.1 68 (.inl 4) rfl) (as := []) (st := []) rfl (Nat.le_of_ble_eq_true rfl) rfl (Nat.le_of_ble_eq_true rfl) (d1 := 5) (by decide) (fun _ h => by cases h.1) (ax_pg G hS b bw b5 hX hP.1) ?_
            intro v1 σ1 ⟨hv1, hS1, hfG, hlG, hn1, hsm, ⟨H, hg1⟩, hr1⟩
            cases hv1
            have hX1 : pc_X s σ1 := pc_F hX (fun x y q => hfG x y (by omega) (by omega) (by omega) (fun z => by omega))
            refine kr_aload_n 0 rd_d_X11_earns_50 rfl ?_
            refine kr_getf G.1 (rd_FL rd_k_X11_earns_51).1 rd_d_X11_earns_51 (hS1.1 0 (.inl 11) rfl) (v := .ref 68) (by unfold am_fa; rw [(rd_FL rd_k_X11_earns_51).2]; exact hS1.2 0 9 68 rfl) ?_
            refine kr_iload_n 1 rd_d_X11_earns_54 rfl ?_
            refine kr_iload_n 2 rd_d_X11_earns_55 rfl ?_
            refine ax_callV G (T2 := tX4_sellerGain) rfl rd_d_X11_earns_56 rd_k_X11_earns_56 rfl (hS1.1 68 (.inl 4) rfl) (as := [.int n, .int k]) (st := []) rfl (Nat.le_of_ble_eq_true rfl) rfl (Nat.le_of_ble_eq_true rfl) (d1 := 8) (by decide) (fun _ h => by obtain ⟨⟨y, h, -⟩, -⟩ := h; cases h) (ax_slX G b bw b6 hS1 hX1 hg1 hr1 en ek (by omega) hN (by omega)) ?_
            intro v2 σ2 ⟨⟨z, hv2, hz⟩, hS2, a2, a3, a4⟩
            cases hv2
            have hX2 : pc_X s σ2 := pc_F hX1 (fun x y q => a2 x y (by omega) (by omega) (by omega) (by omega) (by omega) (fun z => by omega))
            have hb := pc_B b.1 hX2
            have ey : z = pz_sgV s n k := ch_ofN hz
            refine kr_aload_n 0 rd_d_X11_earns_59 rfl ?_
            refine kr_getf G.1 (rd_FL rd_k_X11_earns_60).1 rd_d_X11_earns_60 (hS2.1 0 (.inl 11) rfl) (v := .ref 4) (by unfold am_fa; rw [(rd_FL rd_k_X11_earns_60).2]; exact hS2.2 0 2 4 rfl) ?_
            refine ax_callV G (T2 := tX9_unit) rfl rd_d_X11_earns_63 rd_k_X11_earns_63 rfl (hS2.1 4 (.inl 9) rfl) (as := []) (st := [.int z]) rfl (Nat.le_of_ble_eq_true rfl) rfl (Nat.le_of_ble_eq_true rfl) (d1 := 2) (by decide) (fun _ h => by cases h.1) (ax_uni G hS2 hb) ?_
            intro v41 σ41 ⟨hv41, hs41⟩
            cases hv41
            rw [hs41]
            refine kr_iload_n 3 rd_d_X11_earns_66 rfl ?_
            refine ax_callS G (T2 := tX11_part) rfl rd_d_X11_earns_67 rd_k_X11_earns_67 rfl rfl (as := [.int z, .int (ax_f_uni σ2.2.1), .int d]) (st := []) rfl (Nat.le_of_ble_eq_true rfl) rfl (Nat.le_of_ble_eq_true rfl) (d1 := 1) (by decide) (fun _ h => by cases h.1) (ax_ptX G z (ax_f_uni σ2.2.1) d (by rw [hz]; exact Int.natCast_nonneg _) (uni_1 hX2.1 b b3)) ?_
            intro v42 σ42 ⟨hv42, hs42⟩
            cases hv42
            rw [hs42]
            refine kr_ireturn rd_d_X11_earns_70 (ty := .int) rfl rfl ?_
            rw [ax_f_eaX, if_neg h1, if_neg h2, if_neg h3, if_neg h4, if_neg h6]
            rw [uni_eq hX2.1 b.1, ey]
            exact ⟨rfl, hS2, pk_P2 hP hfG hlG hn1 hsm hg1 a2 a3 a4⟩
          · refine ax_throw G (mc := 0) (ms := 0) rd_d_X11_earns_32 rd_k_X11_earns_32 (by decide) (Nat.le_of_ble_eq_true rfl) (fun J hJ => ?_)
            rw [ax_f_eaX, if_neg h1, if_neg h2, if_neg h3, if_neg h4, if_pos h6]
            exact ⟨rfl, J, hJ, rfl⟩
/-- the law's helper: 0, the answer kept and a new state, or 1 -/
abbrev ax_TLW (v : Option Int32) (Q : am_S → Prop) (σ : am_S) : Option (Option Value) → am_S → Prop := fun r σ' => match v with
  | some y => r = some (some (.int 0)) ∧ ∃ σ1 : am_S, Q σ1 ∧ σ' = (σ1.1, σ1.2.1, am_up σ1.2.2.1 138 0 y.toInt64, σ1.2.2.2)
  | none => r = some (some (.int 1)) ∧ ∃ J : List am_sh, (∀ x ∈ J, x = .inl 99) ∧ σ' = (σ.1 ++ J, σ.2)
theorem ax_L_eaX (G : sx_G0 g L xs z9 hd_C ex_mt) {s : Nat → Int32} (b : pn_B s) (b3 : pl_B3 s) (bw : pl_W s) (b5 : pl_B5 s) (b6 : pl_B6 s) {CH : List Nat → Nat → Nat → Int64 → Prop} {σ : am_S} (hS : ax_S σ) (hX : pc_X s σ) (hP : pk_P CH s σ) (n k d : Int32) : am_K g 11 tL_earns.1 1 6 0 (lv_args 0 [.ref 0, .int n, .int k, .int d, .ref 138]) [] σ (ax_TLW (ax_f_eaX σ.2.1 s n k d) (fun σ' => ax_S σ' ∧ (∀ x y, x ≠ 69 → x ≠ 70 → x ≠ 73 → x ≠ 74 → x ≠ 78 → x ≠ 79 → ¬ (x = 68 ∧ 15 ≤ y ∧ y ≤ 17) → σ'.2.1 x y = σ.2.1 x y) ∧ σ'.2.2.1 = σ.2.2.1 ∧ pk_P CH s σ') σ) := by
  have K := ax_eaX G b b3 bw b5 b6 hS hX hP n k d
  generalize ax_f_eaX σ.2.1 s n k d = v at K ⊢
  refine kr_aload 4 rd_d_L_earns_0 rfl ?_
  refine kr_iconst (v := 0) rd_d_L_earns_2 (by decide) ?_
  refine kr_aload_n 0 rd_d_L_earns_3 rfl ?_
  refine kr_iload_n 1 rd_d_L_earns_4 rfl ?_
  refine kr_iload_n 2 rd_d_L_earns_5 rfl ?_
  refine kr_iload_n 3 rd_d_L_earns_6 rfl ?_
  refine ax_try G (T2 := tX11_earns) rfl rd_d_L_earns_7 rd_k_L_earns_7 rfl (hS.1 0 (.inl 11) rfl) (as := [.int n, .int k, .int d]) (st := [.int 0, .ref 138]) rfl (Nat.le_of_ble_eq_true rfl) rfl (Nat.le_of_ble_eq_true rfl) (mc := 0) (ms := 0) (mc1 := 1) (ms1 := 6) (d1 := 9) (by decide) K ?_ ?_
  · intro w σ' h
    cases v with
    | none => cases h.1
    | some y =>
      obtain ⟨h1, h2⟩ := h
      cases h1
      refine kr_i2l rd_d_L_earns_10 ?_
      refine kr_last G.1 (n := 1) rd_d_L_earns_11 (h2.1.1 138 (.inr (.long, 1)) rfl) (hd_in (n := 0) (by decide) (by decide)) ?_
      refine kr_goto (tgt := 19) rd_d_L_earns_12 rfl ?_
      refine kr_iconst (v := 0) rd_d_L_earns_19 (by decide) ?_
      exact kr_ireturn rd_d_L_earns_20 (ty := .int) rfl rfl ⟨rfl, σ', h2, rfl⟩
  · intro σ' h
    cases v with
    | none => exact ⟨rfl, h.2⟩
    | some y => cases h.1
theorem ax_cuL (G : sx_G0 g L xs z9 hd_C ex_mt) {s : Nat → Int32} (b : pn_B s) (bw : pl_W s) (b6 : pl_B6 s) {H : Nat} {n d : Int32} {N : Nat} (en : n.toInt = (N : Int)) (h1 : 1 ≤ N) (h2 : N ≤ pz_W s) {post : Option (Option Value) → am_S → Prop} : ∀ (f j : Nat) (k a : Int32) (σ : am_S), ax_S σ → pc_X s σ → pg_K s H σ.2.1 → pk_r s σ.2.1 → k.toInt = (j : Int) → j + f = N → a.toInt = (pz_cu s N j : Int) → (∀ (k2 z : Int32) (σ' : am_S), ax_S σ' → (∀ x y, x ≠ 70 → x ≠ 73 → x ≠ 74 → x ≠ 78 → x ≠ 79 → ¬ (x = 68 ∧ y = 15) → σ'.2.1 x y = σ.2.1 x y) → σ'.2.2.1 = σ.2.2.1 → pk_r s σ'.2.1 → z.toInt = (pz_cu s N N : Int) → am_K g 9 tX11_curve.1 1 6 71 [(4, .int k2), (3, .int z), (0, .ref 0), (1, .int n), (2, .int d)] [] σ' post) → am_K g 9 tX11_curve.1 1 6 46 [(4, .int k), (3, .int a), (0, .ref 0), (1, .int n), (2, .int d)] [] σ post := by
  have hW10 : pz_W s ≤ 10 := by have := b.1.1.2; unfold pz_W; omega
  intro f
  induction f with
  | zero =>
    intro j k a σ hS hX hg hr ek hj ha kk
    refine kr_iload 0 rd_d_X11_curve_46 rfl ?_
    refine kr_iload_n 3 rd_d_X11_curve_48 rfl ?_
    refine kr_icmp_ge (tgt := 71) rd_d_X11_curve_49 rfl (fun h1 => ?_) (fun h1 => ?_)
    · have e : j = N := by omega
      subst e
      exact kk k a σ hS (fun _ _ _ _ _ _ _ _ => rfl) rfl hr ha
    · exact absurd (Int32.le_iff_toInt_le.mpr (by omega)) h1
  | succ f ih =>
    intro j k a σ hS hX hg hr ek hj ha kk
    refine kr_iload 0 rd_d_X11_curve_46 rfl ?_
    refine kr_iload_n 3 rd_d_X11_curve_48 rfl ?_
    refine kr_icmp_ge (tgt := 71) rd_d_X11_curve_49 rfl (fun h21 => ?_) (fun h21 => ?_)
    · have := Int32.le_iff_toInt_le.mp h21
      omega
    · refine kr_iload_n 1 rd_d_X11_curve_52 rfl ?_
      refine kr_aload_n 2 rd_d_X11_curve_53 rfl ?_
      refine kr_getf G.1 (rd_FL rd_k_X11_curve_54).1 rd_d_X11_curve_54 (hS.1 0 (.inl 11) rfl) (v := .ref 68) (by unfold am_fa; rw [(rd_FL rd_k_X11_curve_54).2]; exact hS.2 0 9 68 rfl) ?_
      refine kr_iload_n 3 rd_d_X11_curve_57 rfl ?_
      refine kr_iload 0 rd_d_X11_curve_58 rfl ?_
      refine ax_callV G (T2 := tX4_sellerGain) rfl rd_d_X11_curve_60 rd_k_X11_curve_60 rfl (hS.1 68 (.inl 4) rfl) (as := [.int n, .int k]) (st := [.int a]) rfl (Nat.le_of_ble_eq_true rfl) rfl (Nat.le_of_ble_eq_true rfl) (d1 := 8) (by decide) (fun _ h => by obtain ⟨⟨y, h, -⟩, -⟩ := h; cases h) (ax_slX G b bw b6 hS hX hg hr en ek h1 h2 (by omega)) ?_
      intro v1 σ1 ⟨⟨z, hv1, hz⟩, hS1, hf1, hl1, hr1⟩
      cases hv1
      have hX1 : pc_X s σ1 := pc_F hX (fun x y q => hf1 x y (by omega) (by omega) (by omega) (by omega) (by omega) (fun z => by omega))
      have hg1 : pg_K s H σ1.2.1 := pg_F hg (fun x y q => hf1 x y (by omega) (by omega) (by omega) (by omega) (by omega) (fun z => by omega))
      have hc1 := pz_cu_le b b6 h1 h2 j (by omega)
      have hc2 := pz_sg_le b b6 h1 h2 (K := j) (by omega)
      refine kr_iadd rd_d_X11_curve_63 ?_
      refine kr_istore_n (lv' := [(3, .int (a + z)), (4, .int k), (0, .ref 0), (1, .int n), (2, .int d)]) rd_d_X11_curve_64 (by decide) rfl ?_
      refine kr_iinc (v := k + 1) (lv' := [(4, .int (k + 1)), (3, .int (a + z)), (0, .ref 0), (1, .int n), (2, .int d)]) 1 rd_d_X11_curve_65 rfl rfl (by decide) rfl ?_
      refine kr_goto (tgt := 46) rd_d_X11_curve_68 rfl ?_
      refine kr_sub (lv' := [(4, .int (k + 1)), (3, .int (a + z)), (0, .ref 0), (1, .int n), (2, .int d)]) (by simp) ?_
      exact ih (j + 1) (k + 1) (a + z) σ1 hS1 hX1 hg1 hr1 (ax_inc ek (by omega)) (by omega) (ch_add ha hz (by omega)) (fun k2 z' σ' a1 a2 a3 a4 a5 => kk k2 z' σ' a1 (fun x y x0 x3 x4 x8 x9 hx => (a2 x y x0 x3 x4 x8 x9 hx).trans (hf1 x y x0 x3 x4 x8 x9 hx)) (a3.trans hl1) a4 a5)
def ax_f_cuX (m : Nat → Nat → Int32) (s : Nat → Int32) (n d : Int32) : Option Int32 := if n < 1 then none else if (m 4 7) < n then none else if (ax_f_isp d) = 0 then none else some (ax_pt (pz_cuV s n) (ax_f_bel s) d)
theorem ax_cuX (G : sx_G0 g L xs z9 hd_C ex_mt) {s : Nat → Int32} (b : pn_B s) (b3 : pl_B3 s) (bw : pl_W s) (b5 : pl_B5 s) (b6 : pl_B6 s) {CH : List Nat → Nat → Nat → Int64 → Prop} {σ : am_S} (hS : ax_S σ) (hX : pc_X s σ) (hP : pk_P CH s σ) (n d : Int32) : am_K g 9 tX11_curve.1 1 6 0 (lv_args 0 [.ref 0, .int n, .int d]) [] σ (ax_TW (ax_f_cuX σ.2.1 s n d) (fun σ' => ax_S σ' ∧ (∀ x y, x ≠ 69 → x ≠ 70 → x ≠ 73 → x ≠ 74 → x ≠ 78 → x ≠ 79 → ¬ (x = 68 ∧ 15 ≤ y ∧ y ≤ 17) → σ'.2.1 x y = σ.2.1 x y) ∧ σ'.2.2.1 = σ.2.2.1 ∧ pk_P CH s σ') σ) := by
  refine kr_iload_n 1 rd_d_X11_curve_0 rfl ?_
  refine kr_iconst (v := 1) rd_d_X11_curve_1 (by decide) ?_
  refine kr_icmp_lt (tgt := 23) rd_d_X11_curve_2 rfl (fun h1 => ?_) (fun h1 => ?_)
  · refine ax_throw G (mc := 0) (ms := 0) rd_d_X11_curve_23 rd_k_X11_curve_23 (by decide) (Nat.le_of_ble_eq_true rfl) (fun J hJ => ?_)
    rw [ax_f_cuX, if_pos h1]
    exact ⟨rfl, J, hJ, rfl⟩
  · refine kr_iload_n 1 rd_d_X11_curve_5 rfl ?_
    refine kr_aload_n 0 rd_d_X11_curve_6 rfl ?_
    refine kr_getf G.1 (rd_FL rd_k_X11_curve_7).1 rd_d_X11_curve_7 (hS.1 0 (.inl 11) rfl) (v := .ref 4) (by unfold am_fa; rw [(rd_FL rd_k_X11_curve_7).2]; exact hS.2 0 2 4 rfl) ?_
    refine kr_getf G.1 (rd_FL rd_k_X11_curve_10).1 rd_d_X11_curve_10 (hS.1 4 (.inl 9) rfl) (v := .int (σ.2.1 4 7)) (by unfold am_fa; rw [(rd_FL rd_k_X11_curve_10).2]; rfl) ?_
    refine kr_icmp_gt (tgt := 23) rd_d_X11_curve_13 rfl (fun h2 => ?_) (fun h2 => ?_)
    · refine ax_throw G (mc := 0) (ms := 0) rd_d_X11_curve_23 rd_k_X11_curve_23 (by decide) (Nat.le_of_ble_eq_true rfl) (fun J hJ => ?_)
      rw [ax_f_cuX, if_neg h1, if_pos h2]
      exact ⟨rfl, J, hJ, rfl⟩
    · refine kr_iload_n 2 rd_d_X11_curve_16 rfl ?_
      refine ax_callS G (T2 := tX11_isPart) rfl rd_d_X11_curve_17 rd_k_X11_curve_17 rfl rfl (as := [.int d]) (st := []) rfl (Nat.le_of_ble_eq_true rfl) rfl (Nat.le_of_ble_eq_true rfl) (d1 := 1) (by decide) (fun _ h => by cases h.1) (ax_isp G hS d) ?_
      intro v3 σ3 ⟨hv3, hs3⟩
      cases hv3
      rw [hs3]
      refine kr_if_ne (tgt := 34) rd_d_X11_curve_20 rfl (fun h4 => ?_) (fun h4 => ?_)
      · have h7 : σ.2.1 4 7 = s 0 := pl_w hX.1
        have hs1 := b.1.1.1
        have z0 : (0 : Int32).toInt = 0 := rfl
        have z1 : (1 : Int32).toInt = 1 := rfl
        have c1 : ¬ n.toInt < 1 := fun q => h1 (Int32.lt_iff_toInt_lt.mpr (by omega))
        have c2 : ¬ (s 0).toInt < n.toInt := fun q => h2 (by rw [h7]; exact Int32.lt_iff_toInt_lt.mpr q)
        have en : n.toInt = ((n.toInt.toNat : Nat) : Int) := by omega
        have hN : n.toInt.toNat ≤ pz_W s := by unfold pz_W; omega
        refine kr_aload_n 0 rd_d_X11_curve_34 rfl ?_
        refine kr_getf G.1 (rd_FL rd_k_X11_curve_35).1 rd_d_X11_curve_35 (hS.1 0 (.inl 11) rfl) (v := .ref 68) (by unfold am_fa; rw [(rd_FL rd_k_X11_curve_35).2]; exact hS.2 0 9 68 rfl) ?_
        refine ax_callV G (T2 := tX4_prepareGains) rfl rd_d_X11_curve_38 rd_k_X11_curve_38 rfl (hS.1 68 (.inl 4) rfl) (as := []) (st := []) rfl (Nat.le_of_ble_eq_true rfl) rfl (Nat.le_of_ble_eq_true rfl) (d1 := 5) (by decide) (fun _ h => by cases h.1) (ax_pg G hS b bw b5 hX hP.1) ?_
        intro v1 σ1 ⟨hv1, hS1, hfG, hlG, hn1, hsm, ⟨H, hg1⟩, hr1⟩
        cases hv1
        have hX1 : pc_X s σ1 := pc_F hX (fun x y q => hfG x y (by omega) (by omega) (by omega) (fun z => by omega))
        refine kr_iconst (v := 0) rd_d_X11_curve_41 (by decide) ?_
        refine kr_istore_n (lv' := [(3, .int 0), (0, .ref 0), (1, .int n), (2, .int d)]) rd_d_X11_curve_42 (by decide) rfl ?_
        refine kr_iconst (v := 0) rd_d_X11_curve_43 (by decide) ?_
        refine kr_istore (lv' := [(4, .int 0), (3, .int 0), (0, .ref 0), (1, .int n), (2, .int d)]) rd_d_X11_curve_44 (by decide) rfl ?_
        refine ax_cuL G b bw b6 en (by omega) hN n.toInt.toNat 0 0 0 σ1 hS1 hX1 hg1 hr1 rfl (by omega) rfl ?_
        intro k2 z σ2 hS2 a2 a3 a4 hz
        have hX2 : pc_X s σ2 := pc_F hX1 (fun x y q => a2 x y (by omega) (by omega) (by omega) (by omega) (by omega) (fun z => by omega))
        have hb := pc_B b.1 hX2
        have ey : z = pz_cuV s n := ch_ofN hz
        refine kr_iload_n 1 rd_d_X11_curve_71 rfl ?_
        refine kr_aload_n 2 rd_d_X11_curve_72 rfl ?_
        refine kr_getf G.1 (rd_FL rd_k_X11_curve_73).1 rd_d_X11_curve_73 (hS2.1 0 (.inl 11) rfl) (v := .ref 4) (by unfold am_fa; rw [(rd_FL rd_k_X11_curve_73).2]; exact hS2.2 0 2 4 rfl) ?_
        refine ax_callV G (T2 := tX9_unit) rfl rd_d_X11_curve_76 rd_k_X11_curve_76 rfl (hS2.1 4 (.inl 9) rfl) (as := []) (st := [.int z]) rfl (Nat.le_of_ble_eq_true rfl) rfl (Nat.le_of_ble_eq_true rfl) (d1 := 2) (by decide) (fun _ h => by cases h.1) (ax_uni G hS2 hb) ?_
        intro v61 σ61 ⟨hv61, hs61⟩
        cases hv61
        rw [hs61]
        refine kr_iload_n 4 rd_d_X11_curve_79 rfl ?_
        refine ax_callS G (T2 := tX11_part) rfl rd_d_X11_curve_80 rd_k_X11_curve_80 rfl rfl (as := [.int z, .int (ax_f_uni σ2.2.1), .int d]) (st := []) rfl (Nat.le_of_ble_eq_true rfl) rfl (Nat.le_of_ble_eq_true rfl) (d1 := 1) (by decide) (fun _ h => by cases h.1) (ax_ptX G z (ax_f_uni σ2.2.1) d (by rw [hz]; exact Int.natCast_nonneg _) (uni_1 hX2.1 b b3)) ?_
        intro v62 σ62 ⟨hv62, hs62⟩
        cases hv62
        rw [hs62]
        refine kr_ireturn rd_d_X11_curve_83 (ty := .int) rfl rfl ?_
        rw [ax_f_cuX, if_neg h1, if_neg h2, if_neg h4]
        rw [uni_eq hX2.1 b.1, ey]
        exact ⟨rfl, hS2, pk_P2 hP hfG hlG hn1 hsm hg1 a2 a3 a4⟩
      · refine ax_throw G (mc := 0) (ms := 0) rd_d_X11_curve_23 rd_k_X11_curve_23 (by decide) (Nat.le_of_ble_eq_true rfl) (fun J hJ => ?_)
        rw [ax_f_cuX, if_neg h1, if_neg h2, if_pos h4]
        exact ⟨rfl, J, hJ, rfl⟩
theorem ax_L_cuX (G : sx_G0 g L xs z9 hd_C ex_mt) {s : Nat → Int32} (b : pn_B s) (b3 : pl_B3 s) (bw : pl_W s) (b5 : pl_B5 s) (b6 : pl_B6 s) {CH : List Nat → Nat → Nat → Int64 → Prop} {σ : am_S} (hS : ax_S σ) (hX : pc_X s σ) (hP : pk_P CH s σ) (n d : Int32) : am_K g 11 tL_curve.1 1 6 0 (lv_args 0 [.ref 0, .int n, .int d, .ref 138]) [] σ (ax_TLW (ax_f_cuX σ.2.1 s n d) (fun σ' => ax_S σ' ∧ (∀ x y, x ≠ 69 → x ≠ 70 → x ≠ 73 → x ≠ 74 → x ≠ 78 → x ≠ 79 → ¬ (x = 68 ∧ 15 ≤ y ∧ y ≤ 17) → σ'.2.1 x y = σ.2.1 x y) ∧ σ'.2.2.1 = σ.2.2.1 ∧ pk_P CH s σ') σ) := by
  have K := ax_cuX G b b3 bw b5 b6 hS hX hP n d
  generalize ax_f_cuX σ.2.1 s n d = v at K ⊢
  refine kr_aload_n 3 rd_d_L_curve_0 rfl ?_
  refine kr_iconst (v := 0) rd_d_L_curve_1 (by decide) ?_
  refine kr_aload_n 0 rd_d_L_curve_2 rfl ?_
  refine kr_iload_n 1 rd_d_L_curve_3 rfl ?_
  refine kr_iload_n 2 rd_d_L_curve_4 rfl ?_
  refine ax_try G (T2 := tX11_curve) rfl rd_d_L_curve_5 rd_k_L_curve_5 rfl (hS.1 0 (.inl 11) rfl) (as := [.int n, .int d]) (st := [.int 0, .ref 138]) rfl (Nat.le_of_ble_eq_true rfl) rfl (Nat.le_of_ble_eq_true rfl) (mc := 0) (ms := 0) (mc1 := 1) (ms1 := 6) (d1 := 9) (by decide) K ?_ ?_
  · intro w σ' h
    cases v with
    | none => cases h.1
    | some y =>
      obtain ⟨h1, h2⟩ := h
      cases h1
      refine kr_i2l rd_d_L_curve_8 ?_
      refine kr_last G.1 (n := 1) rd_d_L_curve_9 (h2.1.1 138 (.inr (.long, 1)) rfl) (hd_in (n := 0) (by decide) (by decide)) ?_
      refine kr_goto (tgt := 17) rd_d_L_curve_10 rfl ?_
      refine kr_iconst (v := 0) rd_d_L_curve_17 (by decide) ?_
      exact kr_ireturn rd_d_L_curve_18 (ty := .int) rfl rfl ⟨rfl, σ', h2, rfl⟩
  · intro σ' h
    cases v with
    | none => exact ⟨rfl, h.2⟩
    | some y => cases h.1
theorem ax_L_plX (G : sx_G0 g L xs z9 hd_C ex_mt) {σ : am_S} (hS : ax_S σ) {s : Nat → Int32} (b : pn_B s) (b3 : pl_B3 s) (bw : pl_W s) (b5 : pl_B5 s) {CH : List Nat → Nat → Nat → Int64 → Prop} (hC0 : ∀ ws T, CH ws T 0 0) (hCH : ∀ (w : Nat) (ws : List Nat) (T j : Nat) (ch : Int64) (fx fo : Int32), w < 10 → j ≤ 24 → CH (w :: ws) T j ch → fx.toInt = (j : Int) → fo.toInt = ((pn_v s (w :: ws) T j).2 : Int) → CH (w :: ws) T (j + 1) (ch ||| (fo.toInt64 <<< ((2 * fx).toInt64 &&& 63)))) (hX : pc_X s σ) (hP : pk_P CH s σ) (a e c d : Int32) : am_K g 10 tL_plan.1 1 6 0 (lv_args 0 [.ref 0, .int a, .int e, .int c, .int d, .ref 138]) [] σ (ax_TLW (ax_f_plX σ.2.1 s a e c d) (fun σ' => (ax_S σ' ∧ (∀ x y, x ≠ 69 → x ≠ 70 → x ≠ 71 → x ≠ 73 → x ≠ 74 → x ≠ 78 → x ≠ 79 → ¬ (x = 68 ∧ 15 ≤ y ∧ y ≤ 18) → σ'.2.1 x y = σ.2.1 x y) ∧ ¬ σ'.2.1 68 18 = 0 ∧ pk_P CH s σ' ∧ ∀ x y, x ≠ 72 → σ'.2.2.1 x y = σ.2.2.1 x y)) σ) := by
  have K := ax_plX G hS b b3 bw b5 hC0 hCH hX hP a e c d
  generalize ax_f_plX σ.2.1 s a e c d = v at K ⊢
  refine kr_aload 5 rd_d_L_plan_0 rfl ?_
  refine kr_iconst (v := 0) rd_d_L_plan_2 (by decide) ?_
  refine kr_aload_n 0 rd_d_L_plan_3 rfl ?_
  refine kr_iload_n 1 rd_d_L_plan_4 rfl ?_
  refine kr_iload_n 2 rd_d_L_plan_5 rfl ?_
  refine kr_iload_n 3 rd_d_L_plan_6 rfl ?_
  refine kr_iload 4 rd_d_L_plan_7 rfl ?_
  refine ax_try G (T2 := tX11_plan) rfl rd_d_L_plan_9 rd_k_L_plan_9 rfl (hS.1 0 (.inl 11) rfl) (as := [.int a, .int e, .int c, .int d]) (st := [.int 0, .ref 138]) rfl (Nat.le_of_ble_eq_true rfl) rfl (Nat.le_of_ble_eq_true rfl) (mc := 0) (ms := 0) (mc1 := 1) (ms1 := 6) (d1 := 8) (by decide) K ?_ ?_
  · intro w σ' h
    cases v with
    | none => cases h.1
    | some y =>
      obtain ⟨h1, h2⟩ := h
      cases h1
      refine kr_i2l rd_d_L_plan_12 ?_
      refine kr_last G.1 (n := 1) rd_d_L_plan_13 (h2.1.1 138 (.inr (.long, 1)) rfl) (hd_in (n := 0) (by decide) (by decide)) ?_
      refine kr_goto (tgt := 21) rd_d_L_plan_14 rfl ?_
      refine kr_iconst (v := 0) rd_d_L_plan_21 (by decide) ?_
      exact kr_ireturn rd_d_L_plan_22 (ty := .int) rfl rfl ⟨rfl, σ', h2, rfl⟩
  · intro σ' h
    cases v with
    | none => exact ⟨rfl, h.2⟩
    | some y => cases h.1
end AXX
