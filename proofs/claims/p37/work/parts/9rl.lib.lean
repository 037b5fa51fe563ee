/-! exact answers, further (rows written by a program) -/
theorem rd_d_X12_saleEnd_0 : decode tX12_saleEnd.1.2.1 0 = .ok (.aload_n 0, 1) := by decide +kernel
theorem rd_d_X12_saleEnd_1 : decode tX12_saleEnd.1.2.1 1 = .ok (.getfield 55, 3) := by decide +kernel
theorem rd_k_X12_saleEnd_1 : ex_lk ex_mt tX12_saleEnd 1 (.getfield 55) [12, 24, 2, 458791] = true := by decide +kernel
theorem rd_d_X12_saleEnd_4 : decode tX12_saleEnd.1.2.1 4 = .ok (.iload_n 1, 1) := by decide +kernel
theorem rd_d_X12_saleEnd_5 : decode tX12_saleEnd.1.2.1 5 = .ok (.iaload, 1) := by decide +kernel
theorem rd_d_X12_saleEnd_6 : decode tX12_saleEnd.1.2.1 6 = .ok (.aload_n 0, 1) := by decide +kernel
theorem rd_d_X12_saleEnd_7 : decode tX12_saleEnd.1.2.1 7 = .ok (.getfield 33, 3) := by decide +kernel
theorem rd_k_X12_saleEnd_7 : ex_lk ex_mt tX12_saleEnd 7 (.getfield 33) [12, 6, 2, 458773] = true := by decide +kernel
theorem rd_d_X12_saleEnd_10 : decode tX12_saleEnd.1.2.1 10 = .ok (.bipush 12, 2) := by decide +kernel
theorem rd_d_X12_saleEnd_12 : decode tX12_saleEnd.1.2.1 12 = .ok (.aload_n 0, 1) := by decide +kernel
theorem rd_d_X12_saleEnd_13 : decode tX12_saleEnd.1.2.1 13 = .ok (.getfield 58, 3) := by decide +kernel
theorem rd_k_X12_saleEnd_13 : ex_lk ex_mt tX12_saleEnd 13 (.getfield 58) [12, 25, 2, 458792] = true := by decide +kernel
theorem rd_d_X12_saleEnd_16 : decode tX12_saleEnd.1.2.1 16 = .ok (.iload_n 1, 1) := by decide +kernel
theorem rd_d_X12_saleEnd_17 : decode tX12_saleEnd.1.2.1 17 = .ok (.iaload, 1) := by decide +kernel
theorem rd_d_X12_saleEnd_18 : decode tX12_saleEnd.1.2.1 18 = .ok (.iadd, 1) := by decide +kernel
theorem rd_d_X12_saleEnd_19 : decode tX12_saleEnd.1.2.1 19 = .ok (.iaload, 1) := by decide +kernel
theorem rd_d_X12_saleEnd_20 : decode tX12_saleEnd.1.2.1 20 = .ok (.iadd, 1) := by decide +kernel
theorem rd_d_X12_saleEnd_21 : decode tX12_saleEnd.1.2.1 21 = .ok (.ireturn, 1) := by decide +kernel
theorem rd_d_X12_penceBy_0 : decode tX12_penceBy.1.2.1 0 = .ok (.iconst 0, 1) := by decide +kernel
theorem rd_d_X12_penceBy_1 : decode tX12_penceBy.1.2.1 1 = .ok (.istore_n 2, 1) := by decide +kernel
theorem rd_d_X12_penceBy_2 : decode tX12_penceBy.1.2.1 2 = .ok (.iconst 0, 1) := by decide +kernel
theorem rd_d_X12_penceBy_3 : decode tX12_penceBy.1.2.1 3 = .ok (.istore_n 3, 1) := by decide +kernel
theorem rd_d_X12_penceBy_4 : decode tX12_penceBy.1.2.1 4 = .ok (.iload_n 3, 1) := by decide +kernel
theorem rd_d_X12_penceBy_5 : decode tX12_penceBy.1.2.1 5 = .ok (.aload_n 0, 1) := by decide +kernel
theorem rd_d_X12_penceBy_6 : decode tX12_penceBy.1.2.1 6 = .ok (.getfield 320, 3) := by decide +kernel
theorem rd_k_X12_penceBy_6 : ex_lk ex_mt tX12_penceBy 6 (.getfield 320) [12, 28, 0, 458795] = true := by decide +kernel
theorem rd_d_X12_penceBy_9 : decode tX12_penceBy.1.2.1 9 = .ok (.if_icmp .ge 38, 3) := by decide +kernel
theorem rd_d_X12_penceBy_12 : decode tX12_penceBy.1.2.1 12 = .ok (.iload_n 2, 1) := by decide +kernel
theorem rd_d_X12_penceBy_13 : decode tX12_penceBy.1.2.1 13 = .ok (.aload_n 0, 1) := by decide +kernel
theorem rd_d_X12_penceBy_14 : decode tX12_penceBy.1.2.1 14 = .ok (.iload_n 3, 1) := by decide +kernel
theorem rd_d_X12_penceBy_15 : decode tX12_penceBy.1.2.1 15 = .ok (.invokevirtual 323, 3) := by decide +kernel
theorem rd_k_X12_penceBy_15 : ex_lk ex_mt tX12_penceBy 15 (.invokevirtual 323) [0, 162, 524494] = true := by decide +kernel
theorem rd_d_X12_penceBy_18 : decode tX12_penceBy.1.2.1 18 = .ok (.iload_n 1, 1) := by decide +kernel
theorem rd_d_X12_penceBy_19 : decode tX12_penceBy.1.2.1 19 = .ok (.if_icmp .gt 19, 3) := by decide +kernel
theorem rd_d_X12_penceBy_22 : decode tX12_penceBy.1.2.1 22 = .ok (.aload_n 0, 1) := by decide +kernel
theorem rd_d_X12_penceBy_23 : decode tX12_penceBy.1.2.1 23 = .ok (.getfield 33, 3) := by decide +kernel
theorem rd_k_X12_penceBy_23 : ex_lk ex_mt tX12_penceBy 23 (.getfield 33) [12, 6, 2, 458773] = true := by decide +kernel
theorem rd_d_X12_penceBy_26 : decode tX12_penceBy.1.2.1 26 = .ok (.iconst 2, 1) := by decide +kernel
theorem rd_d_X12_penceBy_27 : decode tX12_penceBy.1.2.1 27 = .ok (.aload_n 0, 1) := by decide +kernel
theorem rd_d_X12_penceBy_28 : decode tX12_penceBy.1.2.1 28 = .ok (.getfield 58, 3) := by decide +kernel
theorem rd_k_X12_penceBy_28 : ex_lk ex_mt tX12_penceBy 28 (.getfield 58) [12, 25, 2, 458792] = true := by decide +kernel
theorem rd_d_X12_penceBy_31 : decode tX12_penceBy.1.2.1 31 = .ok (.iload_n 3, 1) := by decide +kernel
theorem rd_d_X12_penceBy_32 : decode tX12_penceBy.1.2.1 32 = .ok (.iaload, 1) := by decide +kernel
theorem rd_d_X12_penceBy_33 : decode tX12_penceBy.1.2.1 33 = .ok (.iadd, 1) := by decide +kernel
theorem rd_d_X12_penceBy_34 : decode tX12_penceBy.1.2.1 34 = .ok (.iaload, 1) := by decide +kernel
theorem rd_d_X12_penceBy_35 : decode tX12_penceBy.1.2.1 35 = .ok (.goto 4, 3) := by decide +kernel
theorem rd_d_X12_penceBy_38 : decode tX12_penceBy.1.2.1 38 = .ok (.iconst 0, 1) := by decide +kernel
theorem rd_d_X12_penceBy_39 : decode tX12_penceBy.1.2.1 39 = .ok (.iadd, 1) := by decide +kernel
theorem rd_d_X12_penceBy_40 : decode tX12_penceBy.1.2.1 40 = .ok (.istore_n 2, 1) := by decide +kernel
theorem rd_d_X12_penceBy_41 : decode tX12_penceBy.1.2.1 41 = .ok (.iinc 3 1, 3) := by decide +kernel
theorem rd_d_X12_penceBy_44 : decode tX12_penceBy.1.2.1 44 = .ok (.goto (-40), 3) := by decide +kernel
theorem rd_d_X12_penceBy_47 : decode tX12_penceBy.1.2.1 47 = .ok (.iload_n 2, 1) := by decide +kernel
theorem rd_d_X12_penceBy_48 : decode tX12_penceBy.1.2.1 48 = .ok (.ireturn, 1) := by decide +kernel
theorem rd_d_X12_best_0 : decode tX12_best.1.2.1 0 = .ok (.aload_n 0, 1) := by decide +kernel
theorem rd_d_X12_best_1 : decode tX12_best.1.2.1 1 = .ok (.iconst 0, 1) := by decide +kernel
theorem rd_d_X12_best_2 : decode tX12_best.1.2.1 2 = .ok (.putfield 1, 3) := by decide +kernel
theorem rd_k_X12_best_2 : ex_lk ex_mt tX12_best 2 (.putfield 1) [12, 0, 0, 458767] = true := by decide +kernel
theorem rd_d_X12_best_5 : decode tX12_best.1.2.1 5 = .ok (.aload_n 0, 1) := by decide +kernel
theorem rd_d_X12_best_6 : decode tX12_best.1.2.1 6 = .ok (.getfield 33, 3) := by decide +kernel
theorem rd_k_X12_best_6 : ex_lk ex_mt tX12_best 6 (.getfield 33) [12, 6, 2, 458773] = true := by decide +kernel
theorem rd_d_X12_best_9 : decode tX12_best.1.2.1 9 = .ok (.iconst 0, 1) := by decide +kernel
theorem rd_d_X12_best_10 : decode tX12_best.1.2.1 10 = .ok (.iaload, 1) := by decide +kernel
theorem rd_d_X12_best_11 : decode tX12_best.1.2.1 11 = .ok (.ifCond .ne 5, 3) := by decide +kernel
theorem rd_d_X12_best_14 : decode tX12_best.1.2.1 14 = .ok (.iconst (-1), 1) := by decide +kernel
theorem rd_d_X12_best_15 : decode tX12_best.1.2.1 15 = .ok (.ireturn, 1) := by decide +kernel
theorem rd_d_X12_best_16 : decode tX12_best.1.2.1 16 = .ok (.aload_n 0, 1) := by decide +kernel
theorem rd_d_X12_best_17 : decode tX12_best.1.2.1 17 = .ok (.invokevirtual 326, 3) := by decide +kernel
theorem rd_k_X12_best_17 : ex_lk ex_mt tX12_best 17 (.invokevirtual 326) [0, 80, 524486] = true := by decide +kernel
theorem rd_d_X12_best_20 : decode tX12_best.1.2.1 20 = .ok (.iload_n 1, 1) := by decide +kernel
theorem rd_d_X12_best_21 : decode tX12_best.1.2.1 21 = .ok (.tableswitch 80 0 4 #[35, 40, 45, 50, 58], 35) := by decide +kernel
theorem rd_d_X12_best_56 : decode tX12_best.1.2.1 56 = .ok (.aload_n 0, 1) := by decide +kernel
theorem rd_d_X12_best_57 : decode tX12_best.1.2.1 57 = .ok (.getfield 314, 3) := by decide +kernel
theorem rd_k_X12_best_57 : ex_lk ex_mt tX12_best 57 (.getfield 314) [12, 26, 0, 458793] = true := by decide +kernel
theorem rd_d_X12_best_60 : decode tX12_best.1.2.1 60 = .ok (.ireturn, 1) := by decide +kernel
theorem rd_d_X12_best_61 : decode tX12_best.1.2.1 61 = .ok (.aload_n 0, 1) := by decide +kernel
theorem rd_d_X12_best_62 : decode tX12_best.1.2.1 62 = .ok (.getfield 317, 3) := by decide +kernel
theorem rd_k_X12_best_62 : ex_lk ex_mt tX12_best 62 (.getfield 317) [12, 27, 0, 458794] = true := by decide +kernel
theorem rd_d_X12_best_65 : decode tX12_best.1.2.1 65 = .ok (.ireturn, 1) := by decide +kernel
theorem rd_d_X12_best_66 : decode tX12_best.1.2.1 66 = .ok (.aload_n 0, 1) := by decide +kernel
theorem rd_d_X12_best_67 : decode tX12_best.1.2.1 67 = .ok (.getfield 320, 3) := by decide +kernel
theorem rd_k_X12_best_67 : ex_lk ex_mt tX12_best 67 (.getfield 320) [12, 28, 0, 458795] = true := by decide +kernel
theorem rd_d_X12_best_70 : decode tX12_best.1.2.1 70 = .ok (.ireturn, 1) := by decide +kernel
theorem rd_d_X12_best_71 : decode tX12_best.1.2.1 71 = .ok (.aload_n 0, 1) := by decide +kernel
theorem rd_d_X12_best_72 : decode tX12_best.1.2.1 72 = .ok (.sipush 9999, 3) := by decide +kernel
theorem rd_d_X12_best_75 : decode tX12_best.1.2.1 75 = .ok (.invokevirtual 329, 3) := by decide +kernel
theorem rd_k_X12_best_75 : ex_lk ex_mt tX12_best 75 (.invokevirtual 329) [0, 151, 524490] = true := by decide +kernel
theorem rd_d_X12_best_78 : decode tX12_best.1.2.1 78 = .ok (.ireturn, 1) := by decide +kernel
theorem rd_d_X12_best_79 : decode tX12_best.1.2.1 79 = .ok (.aload_n 0, 1) := by decide +kernel
theorem rd_d_X12_best_80 : decode tX12_best.1.2.1 80 = .ok (.getfield 320, 3) := by decide +kernel
theorem rd_k_X12_best_80 : ex_lk ex_mt tX12_best 80 (.getfield 320) [12, 28, 0, 458795] = true := by decide +kernel
theorem rd_d_X12_best_83 : decode tX12_best.1.2.1 83 = .ok (.ifCond .ne 7, 3) := by decide +kernel
theorem rd_d_X12_best_86 : decode tX12_best.1.2.1 86 = .ok (.iconst 0, 1) := by decide +kernel
theorem rd_d_X12_best_87 : decode tX12_best.1.2.1 87 = .ok (.goto 13, 3) := by decide +kernel
theorem rd_d_X12_best_90 : decode tX12_best.1.2.1 90 = .ok (.aload_n 0, 1) := by decide +kernel
theorem rd_d_X12_best_91 : decode tX12_best.1.2.1 91 = .ok (.aload_n 0, 1) := by decide +kernel
theorem rd_d_X12_best_92 : decode tX12_best.1.2.1 92 = .ok (.getfield 320, 3) := by decide +kernel
theorem rd_k_X12_best_92 : ex_lk ex_mt tX12_best 92 (.getfield 320) [12, 28, 0, 458795] = true := by decide +kernel
theorem rd_d_X12_best_95 : decode tX12_best.1.2.1 95 = .ok (.iconst 1, 1) := by decide +kernel
theorem rd_d_X12_best_96 : decode tX12_best.1.2.1 96 = .ok (.isub, 1) := by decide +kernel
theorem rd_d_X12_best_97 : decode tX12_best.1.2.1 97 = .ok (.invokevirtual 323, 3) := by decide +kernel
theorem rd_k_X12_best_97 : ex_lk ex_mt tX12_best 97 (.invokevirtual 323) [0, 162, 524494] = true := by decide +kernel
theorem rd_d_X12_best_100 : decode tX12_best.1.2.1 100 = .ok (.ireturn, 1) := by decide +kernel
theorem rd_d_X12_best_101 : decode tX12_best.1.2.1 101 = .ok (.iconst (-1), 1) := by decide +kernel
theorem rd_d_X12_best_102 : decode tX12_best.1.2.1 102 = .ok (.ireturn, 1) := by decide +kernel
theorem rd_d_X12_sale_0 : decode tX12_sale.1.2.1 0 = .ok (.aload_n 0, 1) := by decide +kernel
theorem rd_d_X12_sale_1 : decode tX12_sale.1.2.1 1 = .ok (.iconst 0, 1) := by decide +kernel
theorem rd_d_X12_sale_2 : decode tX12_sale.1.2.1 2 = .ok (.putfield 1, 3) := by decide +kernel
theorem rd_k_X12_sale_2 : ex_lk ex_mt tX12_sale 2 (.putfield 1) [12, 0, 0, 458767] = true := by decide +kernel
theorem rd_d_X12_sale_5 : decode tX12_sale.1.2.1 5 = .ok (.aload_n 0, 1) := by decide +kernel
theorem rd_d_X12_sale_6 : decode tX12_sale.1.2.1 6 = .ok (.getfield 33, 3) := by decide +kernel
theorem rd_k_X12_sale_6 : ex_lk ex_mt tX12_sale 6 (.getfield 33) [12, 6, 2, 458773] = true := by decide +kernel
theorem rd_d_X12_sale_9 : decode tX12_sale.1.2.1 9 = .ok (.iconst 0, 1) := by decide +kernel
theorem rd_d_X12_sale_10 : decode tX12_sale.1.2.1 10 = .ok (.iaload, 1) := by decide +kernel
theorem rd_d_X12_sale_11 : decode tX12_sale.1.2.1 11 = .ok (.ifCond .ne 5, 3) := by decide +kernel
theorem rd_d_X12_sale_14 : decode tX12_sale.1.2.1 14 = .ok (.iconst (-1), 1) := by decide +kernel
theorem rd_d_X12_sale_15 : decode tX12_sale.1.2.1 15 = .ok (.ireturn, 1) := by decide +kernel
theorem rd_d_X12_sale_16 : decode tX12_sale.1.2.1 16 = .ok (.aload_n 0, 1) := by decide +kernel
theorem rd_d_X12_sale_17 : decode tX12_sale.1.2.1 17 = .ok (.invokevirtual 326, 3) := by decide +kernel
theorem rd_k_X12_sale_17 : ex_lk ex_mt tX12_sale 17 (.invokevirtual 326) [0, 80, 524486] = true := by decide +kernel
theorem rd_d_X12_sale_20 : decode tX12_sale.1.2.1 20 = .ok (.iload_n 1, 1) := by decide +kernel
theorem rd_d_X12_sale_21 : decode tX12_sale.1.2.1 21 = .ok (.iconst 0, 1) := by decide +kernel
theorem rd_d_X12_sale_22 : decode tX12_sale.1.2.1 22 = .ok (.aload_n 0, 1) := by decide +kernel
theorem rd_d_X12_sale_23 : decode tX12_sale.1.2.1 23 = .ok (.getfield 320, 3) := by decide +kernel
theorem rd_k_X12_sale_23 : ex_lk ex_mt tX12_sale 23 (.getfield 320) [12, 28, 0, 458795] = true := by decide +kernel
theorem rd_d_X12_sale_26 : decode tX12_sale.1.2.1 26 = .ok (.iconst 1, 1) := by decide +kernel
theorem rd_d_X12_sale_27 : decode tX12_sale.1.2.1 27 = .ok (.isub, 1) := by decide +kernel
theorem rd_d_X12_sale_28 : decode tX12_sale.1.2.1 28 = .ok (.invokestatic 134, 3) := by decide +kernel
theorem rd_k_X12_sale_28 : ex_lk ex_mt tX12_sale 28 (.invokestatic 134) [0, 119, 458953] = true := by decide +kernel
theorem rd_d_X12_sale_31 : decode tX12_sale.1.2.1 31 = .ok (.ifCond .ne 5, 3) := by decide +kernel
theorem rd_d_X12_sale_34 : decode tX12_sale.1.2.1 34 = .ok (.iconst (-1), 1) := by decide +kernel
theorem rd_d_X12_sale_35 : decode tX12_sale.1.2.1 35 = .ok (.ireturn, 1) := by decide +kernel
theorem rd_d_X12_sale_36 : decode tX12_sale.1.2.1 36 = .ok (.iload_n 2, 1) := by decide +kernel
theorem rd_d_X12_sale_37 : decode tX12_sale.1.2.1 37 = .ok (.tableswitch 58 0 2 #[27, 34, 41], 27) := by decide +kernel
theorem rd_d_X12_sale_64 : decode tX12_sale.1.2.1 64 = .ok (.aload_n 0, 1) := by decide +kernel
theorem rd_d_X12_sale_65 : decode tX12_sale.1.2.1 65 = .ok (.getfield 58, 3) := by decide +kernel
theorem rd_k_X12_sale_65 : ex_lk ex_mt tX12_sale 65 (.getfield 58) [12, 25, 2, 458792] = true := by decide +kernel
theorem rd_d_X12_sale_68 : decode tX12_sale.1.2.1 68 = .ok (.iload_n 1, 1) := by decide +kernel
theorem rd_d_X12_sale_69 : decode tX12_sale.1.2.1 69 = .ok (.iaload, 1) := by decide +kernel
theorem rd_d_X12_sale_70 : decode tX12_sale.1.2.1 70 = .ok (.ireturn, 1) := by decide +kernel
theorem rd_d_X12_sale_71 : decode tX12_sale.1.2.1 71 = .ok (.aload_n 0, 1) := by decide +kernel
theorem rd_d_X12_sale_72 : decode tX12_sale.1.2.1 72 = .ok (.getfield 55, 3) := by decide +kernel
theorem rd_k_X12_sale_72 : ex_lk ex_mt tX12_sale 72 (.getfield 55) [12, 24, 2, 458791] = true := by decide +kernel
theorem rd_d_X12_sale_75 : decode tX12_sale.1.2.1 75 = .ok (.iload_n 1, 1) := by decide +kernel
theorem rd_d_X12_sale_76 : decode tX12_sale.1.2.1 76 = .ok (.iaload, 1) := by decide +kernel
theorem rd_d_X12_sale_77 : decode tX12_sale.1.2.1 77 = .ok (.ireturn, 1) := by decide +kernel
theorem rd_d_X12_sale_78 : decode tX12_sale.1.2.1 78 = .ok (.aload_n 0, 1) := by decide +kernel
theorem rd_d_X12_sale_79 : decode tX12_sale.1.2.1 79 = .ok (.aload_n 0, 1) := by decide +kernel
theorem rd_d_X12_sale_80 : decode tX12_sale.1.2.1 80 = .ok (.getfield 58, 3) := by decide +kernel
theorem rd_k_X12_sale_80 : ex_lk ex_mt tX12_sale 80 (.getfield 58) [12, 25, 2, 458792] = true := by decide +kernel
theorem rd_d_X12_sale_83 : decode tX12_sale.1.2.1 83 = .ok (.iload_n 1, 1) := by decide +kernel
theorem rd_d_X12_sale_84 : decode tX12_sale.1.2.1 84 = .ok (.iaload, 1) := by decide +kernel
theorem rd_d_X12_sale_85 : decode tX12_sale.1.2.1 85 = .ok (.aload_n 0, 1) := by decide +kernel
theorem rd_d_X12_sale_86 : decode tX12_sale.1.2.1 86 = .ok (.getfield 55, 3) := by decide +kernel
theorem rd_k_X12_sale_86 : ex_lk ex_mt tX12_sale 86 (.getfield 55) [12, 24, 2, 458791] = true := by decide +kernel
theorem rd_d_X12_sale_89 : decode tX12_sale.1.2.1 89 = .ok (.iload_n 1, 1) := by decide +kernel
theorem rd_d_X12_sale_90 : decode tX12_sale.1.2.1 90 = .ok (.iaload, 1) := by decide +kernel
theorem rd_d_X12_sale_91 : decode tX12_sale.1.2.1 91 = .ok (.invokevirtual 285, 3) := by decide +kernel
theorem rd_k_X12_sale_91 : ex_lk ex_mt tX12_sale 91 (.invokevirtual 285) [0, 82, 524441] = true := by decide +kernel
theorem rd_d_X12_sale_94 : decode tX12_sale.1.2.1 94 = .ok (.ireturn, 1) := by decide +kernel
theorem rd_d_X12_sale_95 : decode tX12_sale.1.2.1 95 = .ok (.iconst (-1), 1) := by decide +kernel
theorem rd_d_X12_sale_96 : decode tX12_sale.1.2.1 96 = .ok (.ireturn, 1) := by decide +kernel
section AXX
variable {g : am_C} {L : Nat} {xs : Nat → Int32}
theorem ax_enM (G : sx_G0 g L xs z9 hd_C ex_mt) {s : Nat → Int32} (b : pn_B s) {q : List (Nat × Nat)} (hq : pz_ok s q) {σ : am_S} (hS : ax_S σ) (hs : σ.2.1 120 = s) (hL : pb_M q σ.2.1) {k : Int32} {i : Nat} (ek : k.toInt = (i : Int)) (hi : i < q.length) : am_K g 1 tX12_saleEnd.1 0 0 0 (lv_args 0 [.ref 118, .int k]) [] σ (fun r σ' => (∃ z : Int32, r = some (some (.int z)) ∧ z.toInt = (pz_en s (q.getD i (0, 0)) : Int)) ∧ σ' = σ) := by
  obtain ⟨g1, g2⟩ := hL.2 i hi
  obtain ⟨w1, t1⟩ := hq.2 i hi
  have h10 := b.1.1.2
  have h24 := hq.1
  obtain ⟨ww, hww⟩ : ∃ ww, (q.getD i (0, 0)).1 = ww := ⟨_, rfl⟩
  rw [hww] at g1 w1
  have e12 : (12 + σ.2.1 128 i).toInt = ((12 + ww : Nat) : Int) := ch_ixw (C := 12) rfl (by decide) g1 (by omega)
  have c3 := b.2.2.1 ww (by omega)
  have etk : (σ.2.1 120 (12 + ww)).toInt = (pn_tk s ww : Int) := by rw [hs]; unfold pn_tk; omega
  have tk9 := (pn_lim b (w := ww) (by omega)).2.1
  refine kr_aload_n 0 rd_d_X12_saleEnd_0 rfl ?_
  refine kr_getf G.1 (rd_FL rd_k_X12_saleEnd_1).1 rd_d_X12_saleEnd_1 (hS.1 118 (.inl 12) rfl) (v := .ref 127) (by unfold am_fa; rw [(rd_FL rd_k_X12_saleEnd_1).2]; exact hS.2 118 24 127 rfl) ?_
  refine kr_iload_n 1 rd_d_X12_saleEnd_4 rfl ?_
  refine kr_iald G.1 (n := 24) rd_d_X12_saleEnd_5 (hS.1 127 (.inr (.int, 24)) rfl) (hd_in (n := i) ek (by omega)) ?_
  rw [hd_clamp (n := i) ek]
  refine kr_aload_n 0 rd_d_X12_saleEnd_6 rfl ?_
  refine kr_getf G.1 (rd_FL rd_k_X12_saleEnd_7).1 rd_d_X12_saleEnd_7 (hS.1 118 (.inl 12) rfl) (v := .ref 120) (by unfold am_fa; rw [(rd_FL rd_k_X12_saleEnd_7).2]; exact hS.2 118 6 120 rfl) ?_
  refine kr_bipush (v := 12) rd_d_X12_saleEnd_10 (by decide) ?_
  refine kr_aload_n 0 rd_d_X12_saleEnd_12 rfl ?_
  refine kr_getf G.1 (rd_FL rd_k_X12_saleEnd_13).1 rd_d_X12_saleEnd_13 (hS.1 118 (.inl 12) rfl) (v := .ref 128) (by unfold am_fa; rw [(rd_FL rd_k_X12_saleEnd_13).2]; exact hS.2 118 25 128 rfl) ?_
  refine kr_iload_n 1 rd_d_X12_saleEnd_16 rfl ?_
  refine kr_iald G.1 (n := 24) rd_d_X12_saleEnd_17 (hS.1 128 (.inr (.int, 24)) rfl) (hd_in (n := i) ek (by omega)) ?_
  rw [hd_clamp (n := i) ek]
  refine kr_iadd rd_d_X12_saleEnd_18 ?_
  refine kr_iald G.1 (n := 277) rd_d_X12_saleEnd_19 (hS.1 120 (.inr (.int, 277)) rfl) (hd_in (n := 12 + ww) e12 (by omega)) ?_
  rw [hd_clamp (n := 12 + ww) e12]
  refine kr_iadd rd_d_X12_saleEnd_20 ?_
  exact kr_ireturn rd_d_X12_saleEnd_21 (ty := .int) rfl rfl ⟨⟨_, rfl, by unfold pz_en; rw [hww]; exact ch_add g2 etk (by omega)⟩, rfl⟩
theorem ax_pyL (G : sx_G0 g L xs z9 hd_C ex_mt) {s : Nat → Int32} (b : pn_B s) {q : List (Nat × Nat)} (hq : pz_ok s q) {σ : am_S} (hS : ax_S σ) (hs : σ.2.1 120 = s) (hL : pb_M q σ.2.1) {l : Int32} : ∀ (f i : Nat) (z k : Int32), k.toInt = (i : Int) → i + f = q.length → z.toInt = (pz_pc s q l.toInt i : Int) → am_K g 2 tX12_penceBy.1 0 0 4 [(3, .int k), (2, .int z), (0, .ref 118), (1, .int l)] [] σ (fun r σ' => (∃ z : Int32, r = some (some (.int z)) ∧ z.toInt = (pz_pc s q l.toInt q.length : Int)) ∧ σ' = σ) := by
  have hn := hL.1
  intro f
  induction f with
  | zero =>
    intro i z k ek hj ez
    refine kr_iload_n 0 rd_d_X12_penceBy_4 rfl ?_
    refine kr_aload_n 2 rd_d_X12_penceBy_5 rfl ?_
    refine kr_getf G.1 (rd_FL rd_k_X12_penceBy_6).1 rd_d_X12_penceBy_6 (hS.1 118 (.inl 12) rfl) (v := .int (σ.2.1 118 28)) (by unfold am_fa; rw [(rd_FL rd_k_X12_penceBy_6).2]; rfl) ?_
    refine kr_icmp_ge (tgt := 47) rd_d_X12_penceBy_9 rfl (fun h1 => ?_) (fun h1 => ?_)
    · refine kr_iload_n 1 rd_d_X12_penceBy_47 rfl ?_
      have e : i = q.length := by omega
      exact kr_ireturn rd_d_X12_penceBy_48 (ty := .int) rfl rfl ⟨⟨_, rfl, by rw [← e]; exact ez⟩, rfl⟩
    · exact absurd (Int32.le_iff_toInt_le.mpr (by omega)) h1
  | succ f ih =>
    intro i z k ek hj ez
    have hi : i < q.length := by omega
    obtain ⟨g1, g2⟩ := hL.2 i hi
    obtain ⟨w1, t1⟩ := hq.2 i hi
    have h10 := b.1.1.2
    have h24 := hq.1
    obtain ⟨ww, hww⟩ : ∃ ww, (q.getD i (0, 0)).1 = ww := ⟨_, rfl⟩
    rw [hww] at g1 w1
    have e2 : (2 + σ.2.1 128 i).toInt = ((2 + ww : Nat) : Int) := ch_ixw (C := 2) rfl (by decide) g1 (by omega)
    have c3 := b.2.1.1 ww (by omega)
    have epr : (σ.2.1 120 (2 + ww)).toInt = (pn_pr s ww : Int) := by rw [hs]; unfold pn_pr; omega
    have hpc := pz_pc_le b hq l.toInt i (by omega)
    have hp99 : pn_pr s ww ≤ 99 := by unfold pn_pr; omega
    have hstep : pz_pc s q l.toInt (i + 1) = pz_pc s q l.toInt i + (if (pz_en s (q.getD i (0, 0)) : Int) ≤ l.toInt then pn_pr s (q.getD i (0, 0)).1 else 0) := rfl
    rw [hww] at hstep
    refine kr_iload_n 0 rd_d_X12_penceBy_4 rfl ?_
    refine kr_aload_n 2 rd_d_X12_penceBy_5 rfl ?_
    refine kr_getf G.1 (rd_FL rd_k_X12_penceBy_6).1 rd_d_X12_penceBy_6 (hS.1 118 (.inl 12) rfl) (v := .int (σ.2.1 118 28)) (by unfold am_fa; rw [(rd_FL rd_k_X12_penceBy_6).2]; rfl) ?_
    refine kr_icmp_ge (tgt := 47) rd_d_X12_penceBy_9 rfl (fun h21 => ?_) (fun h21 => ?_)
    · refine kr_iload_n 1 rd_d_X12_penceBy_47 rfl ?_
      have := Int32.le_iff_toInt_le.mp h21
      omega
    · refine kr_iload_n 1 rd_d_X12_penceBy_12 rfl ?_
      refine kr_aload_n 2 rd_d_X12_penceBy_13 rfl ?_
      refine kr_iload_n 0 rd_d_X12_penceBy_14 rfl ?_
      refine rd_call G (T2 := tX12_saleEnd) rfl rd_d_X12_penceBy_15 rd_k_X12_penceBy_15 rfl (hS.1 118 (.inl 12) rfl) (as := [.int k]) (st := [.int z]) rfl (Nat.le_of_ble_eq_true rfl) rfl (Nat.le_of_ble_eq_true rfl) (d1 := 1) (by decide) (fun _ h => by obtain ⟨⟨y, h, -⟩, -⟩ := h; cases h) (ax_enM G b hq hS hs hL ek hi) ?_
      intro v1 σ1 ⟨⟨y, hv1, hy⟩, hs1⟩
      cases hv1
      rw [hs1]
      refine kr_iload_n 3 rd_d_X12_penceBy_18 rfl ?_
      refine kr_icmp_gt (tgt := 38) rd_d_X12_penceBy_19 rfl (fun h41 => ?_) (fun h41 => ?_)
      · refine kr_iconst (v := 0) rd_d_X12_penceBy_38 (by decide) ?_
        refine kr_iadd rd_d_X12_penceBy_39 ?_
        refine kr_istore_n (lv' := [(2, .int (z + 0)), (3, .int k), (0, .ref 118), (1, .int l)]) rd_d_X12_penceBy_40 (by decide) rfl ?_
        refine kr_iinc (v := k + 1) (lv' := [(3, .int (k + 1)), (2, .int (z + 0)), (0, .ref 118), (1, .int l)]) 1 rd_d_X12_penceBy_41 rfl rfl (by decide) rfl ?_
        refine kr_goto (tgt := 4) rd_d_X12_penceBy_44 rfl ?_
        refine kr_sub (lv' := [(3, .int (k + 1)), (2, .int (z + 0)), (0, .ref 118), (1, .int l)]) (by simp) ?_
        refine ih (i + 1) (z + 0) (k + 1) (ax_inc ek (by omega)) (by omega) ?_
        rw [hstep, if_neg (by have := Int32.lt_iff_toInt_lt.mp h41; omega), Int32.add_zero]
        exact ez
      · refine kr_aload_n 2 rd_d_X12_penceBy_22 rfl ?_
        refine kr_getf G.1 (rd_FL rd_k_X12_penceBy_23).1 rd_d_X12_penceBy_23 (hS.1 118 (.inl 12) rfl) (v := .ref 120) (by unfold am_fa; rw [(rd_FL rd_k_X12_penceBy_23).2]; exact hS.2 118 6 120 rfl) ?_
        refine kr_iconst (v := 2) rd_d_X12_penceBy_26 (by decide) ?_
        refine kr_aload_n 2 rd_d_X12_penceBy_27 rfl ?_
        refine kr_getf G.1 (rd_FL rd_k_X12_penceBy_28).1 rd_d_X12_penceBy_28 (hS.1 118 (.inl 12) rfl) (v := .ref 128) (by unfold am_fa; rw [(rd_FL rd_k_X12_penceBy_28).2]; exact hS.2 118 25 128 rfl) ?_
        refine kr_iload_n 0 rd_d_X12_penceBy_31 rfl ?_
        refine kr_iald G.1 (n := 24) rd_d_X12_penceBy_32 (hS.1 128 (.inr (.int, 24)) rfl) (hd_in (n := i) ek (by omega)) ?_
        rw [hd_clamp (n := i) ek]
        refine kr_iadd rd_d_X12_penceBy_33 ?_
        refine kr_iald G.1 (n := 277) rd_d_X12_penceBy_34 (hS.1 120 (.inr (.int, 277)) rfl) (hd_in (n := 2 + ww) e2 (by omega)) ?_
        rw [hd_clamp (n := 2 + ww) e2]
        refine kr_goto (tgt := 39) rd_d_X12_penceBy_35 rfl ?_
        refine kr_iadd rd_d_X12_penceBy_39 ?_
        refine kr_istore_n (lv' := [(2, .int (z + (σ.2.1 120 (2 + ww)))), (3, .int k), (0, .ref 118), (1, .int l)]) rd_d_X12_penceBy_40 (by decide) rfl ?_
        refine kr_iinc (v := k + 1) (lv' := [(3, .int (k + 1)), (2, .int (z + (σ.2.1 120 (2 + ww)))), (0, .ref 118), (1, .int l)]) 1 rd_d_X12_penceBy_41 rfl rfl (by decide) rfl ?_
        refine kr_goto (tgt := 4) rd_d_X12_penceBy_44 rfl ?_
        refine kr_sub (lv' := [(3, .int (k + 1)), (2, .int (z + (σ.2.1 120 (2 + ww)))), (0, .ref 118), (1, .int l)]) (by simp) ?_
        refine ih (i + 1) (z + (σ.2.1 120 (2 + ww))) (k + 1) (ax_inc ek (by omega)) (by omega) ?_
        have d : ¬ l.toInt < y.toInt := fun q => h41 (Int32.lt_iff_toInt_lt.mpr q)
        rw [hstep, if_pos (by omega)]
        exact ch_add ez epr (by omega)
theorem ax_pyM (G : sx_G0 g L xs z9 hd_C ex_mt) {s : Nat → Int32} (b : pn_B s) {q : List (Nat × Nat)} (hq : pz_ok s q) {σ : am_S} (hS : ax_S σ) (hs : σ.2.1 120 = s) (hL : pb_M q σ.2.1) (l : Int32) : am_K g 2 tX12_penceBy.1 0 0 0 (lv_args 0 [.ref 118, .int l]) [] σ (fun r σ' => (∃ z : Int32, r = some (some (.int z)) ∧ z.toInt = (pz_pc s q l.toInt q.length : Int)) ∧ σ' = σ) := by
  refine kr_iconst (v := 0) rd_d_X12_penceBy_0 (by decide) ?_
  refine kr_istore_n (lv' := [(2, .int 0), (0, .ref 118), (1, .int l)]) rd_d_X12_penceBy_1 (by decide) rfl ?_
  refine kr_iconst (v := 0) rd_d_X12_penceBy_2 (by decide) ?_
  refine kr_istore_n (lv' := [(3, .int 0), (2, .int 0), (0, .ref 118), (1, .int l)]) rd_d_X12_penceBy_3 (by decide) rfl ?_
  exact ax_pyL G b hq hS hs hL q.length 0 0 0 rfl (by omega) rfl
theorem ax_bsM (G : sx_G0 g L xs z9 hd_C ex_mt) {s : Nat → Int32} (b : pn_B s) (b6 : pl_B6 s) {σ : am_S} (hS : ax_S σ) (hs : σ.2.1 120 = s) (k : Int32) : am_K g 11 tX12_best.1 0 0 0 (lv_args 0 [.ref 118, .int k]) [] σ (fun r σ' => (∃ z : Int32, r = some (some (.int z)) ∧ z.toInt = pz_bA s k) ∧ ax_S σ') := by
  have hs0 := b.1.1
  refine ax_thr G hS rd_d_X12_best_0 rd_d_X12_best_1 rd_d_X12_best_2 rd_k_X12_best_2 rfl ?_
  intro τ hT hm hm8
  have hsT : τ.2.1 120 = s := (funext fun q => hm 120 q (by decide)).trans hs
  refine kr_aload_n 0 rd_d_X12_best_5 rfl ?_
  refine kr_getf G.1 (rd_FL rd_k_X12_best_6).1 rd_d_X12_best_6 (hT.1 118 (.inl 12) rfl) (v := .ref 120) (by unfold am_fa; rw [(rd_FL rd_k_X12_best_6).2]; exact hT.2 118 6 120 rfl) ?_
  refine kr_iconst (v := 0) rd_d_X12_best_9 (by decide) ?_
  refine kr_iald G.1 (n := 277) rd_d_X12_best_10 (hT.1 120 (.inr (.int, 277)) rfl) (hd_in (n := 0) (by decide) (by decide)) ?_
  rw [hd_clamp (n := 0) (by decide)]
  refine kr_if_ne (tgt := 16) rd_d_X12_best_11 rfl (fun h1 => ?_) (fun h1 => ?_)
  · have hz : ¬ s 0 = 0 := by rw [← hsT]; exact h1
    refine kr_aload_n 0 rd_d_X12_best_16 rfl ?_
    refine rd_call G (T2 := tX12_bests) rfl rd_d_X12_best_17 rd_k_X12_best_17 rfl (hT.1 118 (.inl 12) rfl) (as := []) (st := []) rfl (Nat.le_of_ble_eq_true rfl) rfl (Nat.le_of_ble_eq_true rfl) (d1 := 10) (by decide) (fun _ h => by cases h.1) (ax_mb G b b6 hT hsT) ?_
    intro v1 σ1 ⟨hv1, hS1, hf1, hM1, hau⟩
    cases hv1
    have hs1 : σ1.2.1 120 = s := (funext fun q => hf1 120 q (by decide) (by decide) (by decide) (by decide) (fun z => absurd z.1 (by decide))).trans hsT
    have hok := pz_best_ok b b6
    have hlen := hM1.1
    have h24 := hok.1
    have z0 : (0 : Int32).toInt = 0 := rfl
    refine kr_iload_n 1 rd_d_X12_best_20 rfl ?_
    by_cases h41 : k = 0
    · refine kr_tableIn (tgt := 56) rd_d_X12_best_21 (by rw [h41]; decide) (by rw [h41]; decide) (off := 35) (by rw [h41]; rfl) rfl ?_
      refine kr_aload_n 0 rd_d_X12_best_56 rfl ?_
      refine kr_getf G.1 (rd_FL rd_k_X12_best_57).1 rd_d_X12_best_57 (hS1.1 118 (.inl 12) rfl) (v := .int (σ1.2.1 118 26)) (by unfold am_fa; rw [(rd_FL rd_k_X12_best_57).2]; rfl) ?_
      refine kr_ireturn rd_d_X12_best_60 (ty := .int) rfl rfl ⟨⟨_, rfl, ?_⟩, hS1⟩
      rw [pz_bA, if_neg hz, if_pos h41]
      exact (hau hz).1
    by_cases h42 : k = 1
    · refine kr_tableIn (tgt := 61) rd_d_X12_best_21 (by rw [h42]; decide) (by rw [h42]; decide) (off := 40) (by rw [h42]; rfl) rfl ?_
      refine kr_aload_n 0 rd_d_X12_best_61 rfl ?_
      refine kr_getf G.1 (rd_FL rd_k_X12_best_62).1 rd_d_X12_best_62 (hS1.1 118 (.inl 12) rfl) (v := .int (σ1.2.1 118 27)) (by unfold am_fa; rw [(rd_FL rd_k_X12_best_62).2]; rfl) ?_
      refine kr_ireturn rd_d_X12_best_65 (ty := .int) rfl rfl ⟨⟨_, rfl, ?_⟩, hS1⟩
      rw [pz_bA, if_neg hz, if_neg h41, if_pos h42]
      exact (hau hz).2
    by_cases h43 : k = 2
    · refine kr_tableIn (tgt := 66) rd_d_X12_best_21 (by rw [h43]; decide) (by rw [h43]; decide) (off := 45) (by rw [h43]; rfl) rfl ?_
      refine kr_aload_n 0 rd_d_X12_best_66 rfl ?_
      refine kr_getf G.1 (rd_FL rd_k_X12_best_67).1 rd_d_X12_best_67 (hS1.1 118 (.inl 12) rfl) (v := .int (σ1.2.1 118 28)) (by unfold am_fa; rw [(rd_FL rd_k_X12_best_67).2]; rfl) ?_
      refine kr_ireturn rd_d_X12_best_70 (ty := .int) rfl rfl ⟨⟨_, rfl, ?_⟩, hS1⟩
      rw [pz_bA, if_neg hz, if_neg h41, if_neg h42, if_pos h43]
      exact hlen
    by_cases h44 : k = 3
    · refine kr_tableIn (tgt := 71) rd_d_X12_best_21 (by rw [h44]; decide) (by rw [h44]; decide) (off := 50) (by rw [h44]; rfl) rfl ?_
      refine kr_aload_n 0 rd_d_X12_best_71 rfl ?_
      refine kr_sipush (v := 9999) rd_d_X12_best_72 (by decide) ?_
      refine rd_call G (T2 := tX12_penceBy) rfl rd_d_X12_best_75 rd_k_X12_best_75 rfl (hS1.1 118 (.inl 12) rfl) (as := [.int 9999]) (st := []) rfl (Nat.le_of_ble_eq_true rfl) rfl (Nat.le_of_ble_eq_true rfl) (d1 := 2) (by decide) (fun _ h => by obtain ⟨⟨y, h, -⟩, -⟩ := h; cases h) (ax_pyM G b hok hS1 hs1 hM1 9999) ?_
      intro v2 σ2 ⟨⟨y, hv2, hy⟩, hs2⟩
      cases hv2
      rw [hs2]
      refine kr_ireturn rd_d_X12_best_78 (ty := .int) rfl rfl ⟨⟨_, rfl, ?_⟩, hS1⟩
      rw [pz_bA, if_neg hz, if_neg h41, if_neg h42, if_neg h43, if_pos h44]
      exact hy
    by_cases h45 : k = 4
    · refine kr_tableIn (tgt := 79) rd_d_X12_best_21 (by rw [h45]; decide) (by rw [h45]; decide) (off := 58) (by rw [h45]; rfl) rfl ?_
      refine kr_aload_n 0 rd_d_X12_best_79 rfl ?_
      refine kr_getf G.1 (rd_FL rd_k_X12_best_80).1 rd_d_X12_best_80 (hS1.1 118 (.inl 12) rfl) (v := .int (σ1.2.1 118 28)) (by unfold am_fa; rw [(rd_FL rd_k_X12_best_80).2]; rfl) ?_
      refine kr_if_ne (tgt := 90) rd_d_X12_best_83 rfl (fun h46 => ?_) (fun h46 => ?_)
      · refine kr_aload_n 0 rd_d_X12_best_90 rfl ?_
        refine kr_aload_n 0 rd_d_X12_best_91 rfl ?_
        refine kr_getf G.1 (rd_FL rd_k_X12_best_92).1 rd_d_X12_best_92 (hS1.1 118 (.inl 12) rfl) (v := .int (σ1.2.1 118 28)) (by unfold am_fa; rw [(rd_FL rd_k_X12_best_92).2]; rfl) ?_
        refine kr_iconst (v := 1) rd_d_X12_best_95 (by decide) ?_
        refine kr_isub rd_d_X12_best_96 ?_
        have hl1 : ¬ (pz_best s).length = 0 := fun e => h46 (Int32.toInt_inj.mp (by omega))
        refine rd_call G (T2 := tX12_saleEnd) rfl rd_d_X12_best_97 rd_k_X12_best_97 rfl (hS1.1 118 (.inl 12) rfl) (as := [.int ((σ1.2.1 118 28) - 1)]) (st := []) rfl (Nat.le_of_ble_eq_true rfl) rfl (Nat.le_of_ble_eq_true rfl) (d1 := 1) (by decide) (fun _ h => by obtain ⟨⟨y, h, -⟩, -⟩ := h; cases h) (ax_enM G b hok hS1 hs1 hM1 (i := (pz_best s).length - 1) (ch_sub hlen (y := 1) (b := 1) rfl (by omega)) (by omega)) ?_
        intro v2 σ2 ⟨⟨y, hv2, hy⟩, hs2⟩
        cases hv2
        rw [hs2]
        refine kr_ireturn rd_d_X12_best_100 (ty := .int) rfl rfl ⟨⟨_, rfl, ?_⟩, hS1⟩
        rw [pz_bA, if_neg hz, if_neg h41, if_neg h42, if_neg h43, if_neg h44, if_pos h45]
        rw [if_neg hl1]
        exact hy
      · refine kr_iconst (v := 0) rd_d_X12_best_86 (by decide) ?_
        refine kr_goto (tgt := 100) rd_d_X12_best_87 rfl ?_
        refine kr_ireturn rd_d_X12_best_100 (ty := .int) rfl rfl ⟨⟨_, rfl, ?_⟩, hS1⟩
        rw [pz_bA, if_neg hz, if_neg h41, if_neg h42, if_neg h43, if_neg h44, if_pos h45]
        rw [if_pos (by have e := congrArg Int32.toInt h46; omega)]
        rfl
    have nh41 : ¬ k.toInt = 0 := fun q => h41 (Int32.toInt_inj.mp (by rw [q]; rfl))
    have nh42 : ¬ k.toInt = 1 := fun q => h42 (Int32.toInt_inj.mp (by rw [q]; rfl))
    have nh43 : ¬ k.toInt = 2 := fun q => h43 (Int32.toInt_inj.mp (by rw [q]; rfl))
    have nh44 : ¬ k.toInt = 3 := fun q => h44 (Int32.toInt_inj.mp (by rw [q]; rfl))
    have nh45 : ¬ k.toInt = 4 := fun q => h45 (Int32.toInt_inj.mp (by rw [q]; rfl))
    refine kr_tableOut (tgt := 101) rd_d_X12_best_21 (by omega) rfl ?_
    refine kr_iconst (v := (-1)) rd_d_X12_best_101 (by decide) ?_
    refine kr_ireturn rd_d_X12_best_102 (ty := .int) rfl rfl ⟨⟨_, rfl, ?_⟩, hS1⟩
    rw [pz_bA, if_neg hz, if_neg h41, if_neg h42, if_neg h43, if_neg h44, if_neg h45]
    rfl
  · refine kr_iconst (v := (-1)) rd_d_X12_best_14 (by decide) ?_
    exact kr_ireturn rd_d_X12_best_15 (ty := .int) rfl rfl ⟨⟨_, rfl, by rw [pz_bA, if_pos (by rw [← hsT]; exact h1)]; rfl⟩, hT⟩
theorem pz_out {x l h : Int32} (q : ax_f_isIn x l h = 0) : x.toInt < l.toInt ∨ h.toInt < x.toInt := by
  rw [ax_f_isIn] at q
  split at q
  · rename_i q1
    exact Or.inl (Int32.lt_iff_toInt_lt.mp q1)
  · split at q
    · rename_i q2
      exact Or.inr (Int32.lt_iff_toInt_lt.mp q2)
    · exact absurd q (by decide)
theorem ax_saM (G : sx_G0 g L xs z9 hd_C ex_mt) {s : Nat → Int32} (b : pn_B s) (b6 : pl_B6 s) {σ : am_S} (hS : ax_S σ) (hs : σ.2.1 120 = s) (k w : Int32) : am_K g 11 tX12_sale.1 0 0 0 (lv_args 0 [.ref 118, .int k, .int w]) [] σ (fun r σ' => (∃ z : Int32, r = some (some (.int z)) ∧ z.toInt = pz_sA s k w) ∧ ax_S σ') := by
  have hs0 := b.1.1
  refine ax_thr G hS rd_d_X12_sale_0 rd_d_X12_sale_1 rd_d_X12_sale_2 rd_k_X12_sale_2 rfl ?_
  intro τ hT hm hm8
  have hsT : τ.2.1 120 = s := (funext fun q => hm 120 q (by decide)).trans hs
  refine kr_aload_n 0 rd_d_X12_sale_5 rfl ?_
  refine kr_getf G.1 (rd_FL rd_k_X12_sale_6).1 rd_d_X12_sale_6 (hT.1 118 (.inl 12) rfl) (v := .ref 120) (by unfold am_fa; rw [(rd_FL rd_k_X12_sale_6).2]; exact hT.2 118 6 120 rfl) ?_
  refine kr_iconst (v := 0) rd_d_X12_sale_9 (by decide) ?_
  refine kr_iald G.1 (n := 277) rd_d_X12_sale_10 (hT.1 120 (.inr (.int, 277)) rfl) (hd_in (n := 0) (by decide) (by decide)) ?_
  rw [hd_clamp (n := 0) (by decide)]
  refine kr_if_ne (tgt := 16) rd_d_X12_sale_11 rfl (fun h1 => ?_) (fun h1 => ?_)
  · have hz : ¬ s 0 = 0 := by rw [← hsT]; exact h1
    refine kr_aload_n 0 rd_d_X12_sale_16 rfl ?_
    refine rd_call G (T2 := tX12_bests) rfl rd_d_X12_sale_17 rd_k_X12_sale_17 rfl (hT.1 118 (.inl 12) rfl) (as := []) (st := []) rfl (Nat.le_of_ble_eq_true rfl) rfl (Nat.le_of_ble_eq_true rfl) (d1 := 10) (by decide) (fun _ h => by cases h.1) (ax_mb G b b6 hT hsT) ?_
    intro v1 σ1 ⟨hv1, hS1, hf1, hM1, hau⟩
    cases hv1
    have hs1 : σ1.2.1 120 = s := (funext fun q => hf1 120 q (by decide) (by decide) (by decide) (by decide) (fun z => absurd z.1 (by decide))).trans hsT
    have hok := pz_best_ok b b6
    have hlen := hM1.1
    have h24 := hok.1
    have z0 : (0 : Int32).toInt = 0 := rfl
    refine kr_iload_n 1 rd_d_X12_sale_20 rfl ?_
    refine kr_iconst (v := 0) rd_d_X12_sale_21 (by decide) ?_
    refine kr_aload_n 0 rd_d_X12_sale_22 rfl ?_
    refine kr_getf G.1 (rd_FL rd_k_X12_sale_23).1 rd_d_X12_sale_23 (hS1.1 118 (.inl 12) rfl) (v := .int (σ1.2.1 118 28)) (by unfold am_fa; rw [(rd_FL rd_k_X12_sale_23).2]; rfl) ?_
    refine kr_iconst (v := 1) rd_d_X12_sale_26 (by decide) ?_
    refine kr_isub rd_d_X12_sale_27 ?_
    refine rd_callS G (T2 := tX12_isIn) rfl rd_d_X12_sale_28 rd_k_X12_sale_28 rfl rfl (as := [.int k, .int 0, .int ((σ1.2.1 118 28) - 1)]) (st := []) rfl (Nat.le_of_ble_eq_true rfl) rfl (Nat.le_of_ble_eq_true rfl) (d1 := 1) (by decide) (fun _ h => by cases h.1) (ax_isIn G hS1 k 0 ((σ1.2.1 118 28) - 1)) ?_
    intro v41 σ41 ⟨hv41, hs41⟩
    cases hv41
    rw [hs41]
    refine kr_if_ne (tgt := 36) rd_d_X12_sale_31 rfl (fun h42 => ?_) (fun h42 => ?_)
    · have c1 := pz_in h42
      have z1 : (1 : Int32).toInt = 1 := rfl
      have es := sx_subI (σ1.2.1 118 28) 1 (by show (-2147483648 : Int) ≤ _; omega) (by show _ ≤ (2147483647 : Int); omega)
      have ek : k.toInt = ((k.toInt.toNat : Nat) : Int) := by omega
      have hi : k.toInt.toNat < (pz_best s).length := by omega
      obtain ⟨g1, g2⟩ := hM1.2 _ hi
      obtain ⟨w1, t1⟩ := hok.2 _ hi
      have h10 := b.1.1.2
      have hb : pl_B (σ1.2.1 120) := by rw [hs1]; exact b.1
      refine kr_iload_n 2 rd_d_X12_sale_36 rfl ?_
      by_cases h61 : w = 0
      · refine kr_tableIn (tgt := 64) rd_d_X12_sale_37 (by rw [h61]; decide) (by rw [h61]; decide) (off := 27) (by rw [h61]; rfl) rfl ?_
        refine kr_aload_n 0 rd_d_X12_sale_64 rfl ?_
        refine kr_getf G.1 (rd_FL rd_k_X12_sale_65).1 rd_d_X12_sale_65 (hS1.1 118 (.inl 12) rfl) (v := .ref 128) (by unfold am_fa; rw [(rd_FL rd_k_X12_sale_65).2]; exact hS1.2 118 25 128 rfl) ?_
        refine kr_iload_n 1 rd_d_X12_sale_68 rfl ?_
        refine kr_iald G.1 (n := 24) rd_d_X12_sale_69 (hS1.1 128 (.inr (.int, 24)) rfl) (hd_in (n := k.toInt.toNat) ek (by omega)) ?_
        rw [hd_clamp (n := k.toInt.toNat) ek]
        refine kr_ireturn rd_d_X12_sale_70 (ty := .int) rfl rfl ⟨⟨_, rfl, ?_⟩, hS1⟩
        rw [pz_sA, if_neg hz, if_neg (by omega), if_pos h61]
        exact g1
      by_cases h62 : w = 1
      · refine kr_tableIn (tgt := 71) rd_d_X12_sale_37 (by rw [h62]; decide) (by rw [h62]; decide) (off := 34) (by rw [h62]; rfl) rfl ?_
        refine kr_aload_n 0 rd_d_X12_sale_71 rfl ?_
        refine kr_getf G.1 (rd_FL rd_k_X12_sale_72).1 rd_d_X12_sale_72 (hS1.1 118 (.inl 12) rfl) (v := .ref 127) (by unfold am_fa; rw [(rd_FL rd_k_X12_sale_72).2]; exact hS1.2 118 24 127 rfl) ?_
        refine kr_iload_n 1 rd_d_X12_sale_75 rfl ?_
        refine kr_iald G.1 (n := 24) rd_d_X12_sale_76 (hS1.1 127 (.inr (.int, 24)) rfl) (hd_in (n := k.toInt.toNat) ek (by omega)) ?_
        rw [hd_clamp (n := k.toInt.toNat) ek]
        refine kr_ireturn rd_d_X12_sale_77 (ty := .int) rfl rfl ⟨⟨_, rfl, ?_⟩, hS1⟩
        rw [pz_sA, if_neg hz, if_neg (by omega), if_neg h61, if_pos h62]
        exact g2
      by_cases h63 : w = 2
      · refine kr_tableIn (tgt := 78) rd_d_X12_sale_37 (by rw [h63]; decide) (by rw [h63]; decide) (off := 41) (by rw [h63]; rfl) rfl ?_
        refine kr_aload_n 0 rd_d_X12_sale_78 rfl ?_
        refine kr_aload_n 0 rd_d_X12_sale_79 rfl ?_
        refine kr_getf G.1 (rd_FL rd_k_X12_sale_80).1 rd_d_X12_sale_80 (hS1.1 118 (.inl 12) rfl) (v := .ref 128) (by unfold am_fa; rw [(rd_FL rd_k_X12_sale_80).2]; exact hS1.2 118 25 128 rfl) ?_
        refine kr_iload_n 1 rd_d_X12_sale_83 rfl ?_
        refine kr_iald G.1 (n := 24) rd_d_X12_sale_84 (hS1.1 128 (.inr (.int, 24)) rfl) (hd_in (n := k.toInt.toNat) ek (by omega)) ?_
        rw [hd_clamp (n := k.toInt.toNat) ek]
        refine kr_aload_n 0 rd_d_X12_sale_85 rfl ?_
        refine kr_getf G.1 (rd_FL rd_k_X12_sale_86).1 rd_d_X12_sale_86 (hS1.1 118 (.inl 12) rfl) (v := .ref 127) (by unfold am_fa; rw [(rd_FL rd_k_X12_sale_86).2]; exact hS1.2 118 24 127 rfl) ?_
        refine kr_iload_n 1 rd_d_X12_sale_89 rfl ?_
        refine kr_iald G.1 (n := 24) rd_d_X12_sale_90 (hS1.1 127 (.inr (.int, 24)) rfl) (hd_in (n := k.toInt.toNat) ek (by omega)) ?_
        rw [hd_clamp (n := k.toInt.toNat) ek]
        refine rd_call G (T2 := tX12_betterOf) rfl rd_d_X12_sale_91 rd_k_X12_sale_91 rfl (hS1.1 118 (.inl 12) rfl) (as := [.int (σ1.2.1 128 k.toInt.toNat), .int (σ1.2.1 127 k.toInt.toNat)]) (st := []) rfl (Nat.le_of_ble_eq_true rfl) rfl (Nat.le_of_ble_eq_true rfl) (d1 := 5) (by decide) (fun _ h => by cases h.1) (ax_bwM G hS1 (σ1.2.1 128 k.toInt.toNat) (σ1.2.1 127 k.toInt.toNat) hb ⟨by omega, by omega⟩) ?_
        intro v64 σ64 ⟨hv64, hs64⟩
        cases hv64
        rw [hs64]
        refine kr_ireturn rd_d_X12_sale_94 (ty := .int) rfl rfl ⟨⟨_, rfl, ?_⟩, hS1⟩
        rw [pz_sA, if_neg hz, if_neg (by omega), if_neg h61, if_neg h62, if_pos h63]
        rw [hs1, ← ch_ofN g1, ← ch_ofN g2]
      have nh61 : ¬ w.toInt = 0 := fun q => h61 (Int32.toInt_inj.mp (by rw [q]; rfl))
      have nh62 : ¬ w.toInt = 1 := fun q => h62 (Int32.toInt_inj.mp (by rw [q]; rfl))
      have nh63 : ¬ w.toInt = 2 := fun q => h63 (Int32.toInt_inj.mp (by rw [q]; rfl))
      refine kr_tableOut (tgt := 95) rd_d_X12_sale_37 (by omega) rfl ?_
      refine kr_iconst (v := (-1)) rd_d_X12_sale_95 (by decide) ?_
      refine kr_ireturn rd_d_X12_sale_96 (ty := .int) rfl rfl ⟨⟨_, rfl, ?_⟩, hS1⟩
      rw [pz_sA, if_neg hz, if_neg (by omega), if_neg h61, if_neg h62, if_neg h63]
      rfl
    · refine kr_iconst (v := (-1)) rd_d_X12_sale_34 (by decide) ?_
      have z1 : (1 : Int32).toInt = 1 := rfl
      have es := sx_subI (σ1.2.1 118 28) 1 (by show (-2147483648 : Int) ≤ _; omega) (by show _ ≤ (2147483647 : Int); omega)
      exact kr_ireturn rd_d_X12_sale_35 (ty := .int) rfl rfl ⟨⟨_, rfl, by rw [pz_sA, if_neg hz, if_pos (by have h := pz_out h42; omega)]; rfl⟩, hS1⟩
  · refine kr_iconst (v := (-1)) rd_d_X12_sale_14 (by decide) ?_
    exact kr_ireturn rd_d_X12_sale_15 (ty := .int) rfl rfl ⟨⟨_, rfl, by rw [pz_sA, if_pos (by rw [← hsT]; exact h1)]; rfl⟩, hT⟩
end AXX
