/-! exact answers, further (rows written by a program) -/
theorem rd_d_X12_rowGain_0 : decode tX12_rowGain.1.2.1 0 = .ok (.iload_n 1, 1) := by decide +kernel
theorem rd_d_X12_rowGain_1 : decode tX12_rowGain.1.2.1 1 = .ok (.iload_n 2, 1) := by decide +kernel
theorem rd_d_X12_rowGain_2 : decode tX12_rowGain.1.2.1 2 = .ok (.if_icmp .lt 7, 3) := by decide +kernel
theorem rd_d_X12_rowGain_5 : decode tX12_rowGain.1.2.1 5 = .ok (.iconst 0, 1) := by decide +kernel
theorem rd_d_X12_rowGain_6 : decode tX12_rowGain.1.2.1 6 = .ok (.goto 36, 3) := by decide +kernel
theorem rd_d_X12_rowGain_9 : decode tX12_rowGain.1.2.1 9 = .ok (.aload_n 0, 1) := by decide +kernel
theorem rd_d_X12_rowGain_10 : decode tX12_rowGain.1.2.1 10 = .ok (.iload_n 1, 1) := by decide +kernel
theorem rd_d_X12_rowGain_11 : decode tX12_rowGain.1.2.1 11 = .ok (.iload_n 2, 1) := by decide +kernel
theorem rd_d_X12_rowGain_12 : decode tX12_rowGain.1.2.1 12 = .ok (.iconst 1, 1) := by decide +kernel
theorem rd_d_X12_rowGain_13 : decode tX12_rowGain.1.2.1 13 = .ok (.isub, 1) := by decide +kernel
theorem rd_d_X12_rowGain_14 : decode tX12_rowGain.1.2.1 14 = .ok (.aload_n 0, 1) := by decide +kernel
theorem rd_d_X12_rowGain_15 : decode tX12_rowGain.1.2.1 15 = .ok (.getfield 33, 3) := by decide +kernel
theorem rd_k_X12_rowGain_15 : ex_lk ex_mt tX12_rowGain 15 (.getfield 33) [12, 6, 2, 458773] = true := by decide +kernel
theorem rd_d_X12_rowGain_18 : decode tX12_rowGain.1.2.1 18 = .ok (.bipush 55, 2) := by decide +kernel
theorem rd_d_X12_rowGain_20 : decode tX12_rowGain.1.2.1 20 = .ok (.iaload, 1) := by decide +kernel
theorem rd_d_X12_rowGain_21 : decode tX12_rowGain.1.2.1 21 = .ok (.invokevirtual 311, 3) := by decide +kernel
theorem rd_k_X12_rowGain_21 : ex_lk ex_mt tX12_rowGain 21 (.invokevirtual 311) [0, 153, 524457] = true := by decide +kernel
theorem rd_d_X12_rowGain_24 : decode tX12_rowGain.1.2.1 24 = .ok (.aload_n 0, 1) := by decide +kernel
theorem rd_d_X12_rowGain_25 : decode tX12_rowGain.1.2.1 25 = .ok (.iload_n 2, 1) := by decide +kernel
theorem rd_d_X12_rowGain_26 : decode tX12_rowGain.1.2.1 26 = .ok (.iconst 1, 1) := by decide +kernel
theorem rd_d_X12_rowGain_27 : decode tX12_rowGain.1.2.1 27 = .ok (.isub, 1) := by decide +kernel
theorem rd_d_X12_rowGain_28 : decode tX12_rowGain.1.2.1 28 = .ok (.iload_n 1, 1) := by decide +kernel
theorem rd_d_X12_rowGain_29 : decode tX12_rowGain.1.2.1 29 = .ok (.aload_n 0, 1) := by decide +kernel
theorem rd_d_X12_rowGain_30 : decode tX12_rowGain.1.2.1 30 = .ok (.getfield 33, 3) := by decide +kernel
theorem rd_k_X12_rowGain_30 : ex_lk ex_mt tX12_rowGain 30 (.getfield 33) [12, 6, 2, 458773] = true := by decide +kernel
theorem rd_d_X12_rowGain_33 : decode tX12_rowGain.1.2.1 33 = .ok (.bipush 55, 2) := by decide +kernel
theorem rd_d_X12_rowGain_35 : decode tX12_rowGain.1.2.1 35 = .ok (.iaload, 1) := by decide +kernel
theorem rd_d_X12_rowGain_36 : decode tX12_rowGain.1.2.1 36 = .ok (.invokevirtual 311, 3) := by decide +kernel
theorem rd_k_X12_rowGain_36 : ex_lk ex_mt tX12_rowGain 36 (.invokevirtual 311) [0, 153, 524457] = true := by decide +kernel
theorem rd_d_X12_rowGain_39 : decode tX12_rowGain.1.2.1 39 = .ok (.invokestatic 201, 3) := by decide +kernel
theorem rd_k_X12_rowGain_39 : ex_lk ex_mt tX12_rowGain 39 (.invokestatic 201) [0, 111, 524303] = true := by decide +kernel
theorem rd_d_X12_rowGain_42 : decode tX12_rowGain.1.2.1 42 = .ok (.ireturn, 1) := by decide +kernel
theorem rd_d_X12_rowFrom_0 : decode tX12_rowFrom.1.2.1 0 = .ok (.iload_n 2, 1) := by decide +kernel
theorem rd_d_X12_rowFrom_1 : decode tX12_rowFrom.1.2.1 1 = .ok (.aload_n 0, 1) := by decide +kernel
theorem rd_d_X12_rowFrom_2 : decode tX12_rowFrom.1.2.1 2 = .ok (.getfield 33, 3) := by decide +kernel
theorem rd_k_X12_rowFrom_2 : ex_lk ex_mt tX12_rowFrom 2 (.getfield 33) [12, 6, 2, 458773] = true := by decide +kernel
theorem rd_d_X12_rowFrom_5 : decode tX12_rowFrom.1.2.1 5 = .ok (.iconst 0, 1) := by decide +kernel
theorem rd_d_X12_rowFrom_6 : decode tX12_rowFrom.1.2.1 6 = .ok (.iaload, 1) := by decide +kernel
theorem rd_d_X12_rowFrom_7 : decode tX12_rowFrom.1.2.1 7 = .ok (.iload_n 1, 1) := by decide +kernel
theorem rd_d_X12_rowFrom_8 : decode tX12_rowFrom.1.2.1 8 = .ok (.idiv, 1) := by decide +kernel
theorem rd_d_X12_rowFrom_9 : decode tX12_rowFrom.1.2.1 9 = .ok (.imul, 1) := by decide +kernel
theorem rd_d_X12_rowFrom_10 : decode tX12_rowFrom.1.2.1 10 = .ok (.iload_n 2, 1) := by decide +kernel
theorem rd_d_X12_rowFrom_11 : decode tX12_rowFrom.1.2.1 11 = .ok (.aload_n 0, 1) := by decide +kernel
theorem rd_d_X12_rowFrom_12 : decode tX12_rowFrom.1.2.1 12 = .ok (.getfield 33, 3) := by decide +kernel
theorem rd_k_X12_rowFrom_12 : ex_lk ex_mt tX12_rowFrom 12 (.getfield 33) [12, 6, 2, 458773] = true := by decide +kernel
theorem rd_d_X12_rowFrom_15 : decode tX12_rowFrom.1.2.1 15 = .ok (.iconst 0, 1) := by decide +kernel
theorem rd_d_X12_rowFrom_16 : decode tX12_rowFrom.1.2.1 16 = .ok (.iaload, 1) := by decide +kernel
theorem rd_d_X12_rowFrom_17 : decode tX12_rowFrom.1.2.1 17 = .ok (.iload_n 1, 1) := by decide +kernel
theorem rd_d_X12_rowFrom_18 : decode tX12_rowFrom.1.2.1 18 = .ok (.irem, 1) := by decide +kernel
theorem rd_d_X12_rowFrom_19 : decode tX12_rowFrom.1.2.1 19 = .ok (.invokestatic 228, 3) := by decide +kernel
theorem rd_k_X12_rowFrom_19 : ex_lk ex_mt tX12_rowFrom 19 (.invokestatic 228) [0, 131, 524375] = true := by decide +kernel
theorem rd_d_X12_rowFrom_22 : decode tX12_rowFrom.1.2.1 22 = .ok (.iadd, 1) := by decide +kernel
theorem rd_d_X12_rowFrom_23 : decode tX12_rowFrom.1.2.1 23 = .ok (.ireturn, 1) := by decide +kernel
theorem rd_d_X12_earned_0 : decode tX12_earned.1.2.1 0 = .ok (.aload_n 0, 1) := by decide +kernel
theorem rd_d_X12_earned_1 : decode tX12_earned.1.2.1 1 = .ok (.aload_n 0, 1) := by decide +kernel
theorem rd_d_X12_earned_2 : decode tX12_earned.1.2.1 2 = .ok (.iload_n 1, 1) := by decide +kernel
theorem rd_d_X12_earned_3 : decode tX12_earned.1.2.1 3 = .ok (.iload_n 2, 1) := by decide +kernel
theorem rd_d_X12_earned_4 : decode tX12_earned.1.2.1 4 = .ok (.invokevirtual 332, 3) := by decide +kernel
theorem rd_k_X12_earned_4 : ex_lk ex_mt tX12_earned 4 (.invokevirtual 332) [0, 158, 524510] = true := by decide +kernel
theorem rd_d_X12_earned_7 : decode tX12_earned.1.2.1 7 = .ok (.aload_n 0, 1) := by decide +kernel
theorem rd_d_X12_earned_8 : decode tX12_earned.1.2.1 8 = .ok (.iload_n 1, 1) := by decide +kernel
theorem rd_d_X12_earned_9 : decode tX12_earned.1.2.1 9 = .ok (.iload_n 2, 1) := by decide +kernel
theorem rd_d_X12_earned_10 : decode tX12_earned.1.2.1 10 = .ok (.iconst 1, 1) := by decide +kernel
theorem rd_d_X12_earned_11 : decode tX12_earned.1.2.1 11 = .ok (.iadd, 1) := by decide +kernel
theorem rd_d_X12_earned_12 : decode tX12_earned.1.2.1 12 = .ok (.invokevirtual 332, 3) := by decide +kernel
theorem rd_k_X12_earned_12 : ex_lk ex_mt tX12_earned 12 (.invokevirtual 332) [0, 158, 524510] = true := by decide +kernel
theorem rd_d_X12_earned_15 : decode tX12_earned.1.2.1 15 = .ok (.invokevirtual 335, 3) := by decide +kernel
theorem rd_k_X12_earned_15 : ex_lk ex_mt tX12_earned 15 (.invokevirtual 335) [0, 159, 524514] = true := by decide +kernel
theorem rd_d_X12_earned_18 : decode tX12_earned.1.2.1 18 = .ok (.ireturn, 1) := by decide +kernel
theorem rd_d_X12_sellers_0 : decode tX12_sellers.1.2.1 0 = .ok (.aload_n 0, 1) := by decide +kernel
theorem rd_d_X12_sellers_1 : decode tX12_sellers.1.2.1 1 = .ok (.iconst 0, 1) := by decide +kernel
theorem rd_d_X12_sellers_2 : decode tX12_sellers.1.2.1 2 = .ok (.putfield 1, 3) := by decide +kernel
theorem rd_k_X12_sellers_2 : ex_lk ex_mt tX12_sellers 2 (.putfield 1) [12, 0, 0, 458767] = true := by decide +kernel
theorem rd_d_X12_sellers_5 : decode tX12_sellers.1.2.1 5 = .ok (.aload_n 0, 1) := by decide +kernel
theorem rd_d_X12_sellers_6 : decode tX12_sellers.1.2.1 6 = .ok (.getfield 33, 3) := by decide +kernel
theorem rd_k_X12_sellers_6 : ex_lk ex_mt tX12_sellers 6 (.getfield 33) [12, 6, 2, 458773] = true := by decide +kernel
theorem rd_d_X12_sellers_9 : decode tX12_sellers.1.2.1 9 = .ok (.iconst 0, 1) := by decide +kernel
theorem rd_d_X12_sellers_10 : decode tX12_sellers.1.2.1 10 = .ok (.iaload, 1) := by decide +kernel
theorem rd_d_X12_sellers_11 : decode tX12_sellers.1.2.1 11 = .ok (.ifCond .ne 5, 3) := by decide +kernel
theorem rd_d_X12_sellers_14 : decode tX12_sellers.1.2.1 14 = .ok (.iconst (-1), 1) := by decide +kernel
theorem rd_d_X12_sellers_15 : decode tX12_sellers.1.2.1 15 = .ok (.ireturn, 1) := by decide +kernel
theorem rd_d_X12_sellers_16 : decode tX12_sellers.1.2.1 16 = .ok (.aload_n 0, 1) := by decide +kernel
theorem rd_d_X12_sellers_17 : decode tX12_sellers.1.2.1 17 = .ok (.getfield 33, 3) := by decide +kernel
theorem rd_k_X12_sellers_17 : ex_lk ex_mt tX12_sellers 17 (.getfield 33) [12, 6, 2, 458773] = true := by decide +kernel
theorem rd_d_X12_sellers_20 : decode tX12_sellers.1.2.1 20 = .ok (.iconst 0, 1) := by decide +kernel
theorem rd_d_X12_sellers_21 : decode tX12_sellers.1.2.1 21 = .ok (.iaload, 1) := by decide +kernel
theorem rd_d_X12_sellers_22 : decode tX12_sellers.1.2.1 22 = .ok (.istore_n 1, 1) := by decide +kernel
theorem rd_d_X12_sellers_23 : decode tX12_sellers.1.2.1 23 = .ok (.iload_n 1, 1) := by decide +kernel
theorem rd_d_X12_sellers_24 : decode tX12_sellers.1.2.1 24 = .ok (.ifCond .le 61, 3) := by decide +kernel
theorem rd_d_X12_sellers_27 : decode tX12_sellers.1.2.1 27 = .ok (.iconst 1, 1) := by decide +kernel
theorem rd_d_X12_sellers_28 : decode tX12_sellers.1.2.1 28 = .ok (.istore_n 2, 1) := by decide +kernel
theorem rd_d_X12_sellers_29 : decode tX12_sellers.1.2.1 29 = .ok (.iconst 0, 1) := by decide +kernel
theorem rd_d_X12_sellers_30 : decode tX12_sellers.1.2.1 30 = .ok (.istore_n 3, 1) := by decide +kernel
theorem rd_d_X12_sellers_31 : decode tX12_sellers.1.2.1 31 = .ok (.iload_n 3, 1) := by decide +kernel
theorem rd_d_X12_sellers_32 : decode tX12_sellers.1.2.1 32 = .ok (.iload_n 1, 1) := by decide +kernel
theorem rd_d_X12_sellers_33 : decode tX12_sellers.1.2.1 33 = .ok (.if_icmp .ge 40, 3) := by decide +kernel
theorem rd_d_X12_sellers_36 : decode tX12_sellers.1.2.1 36 = .ok (.iload_n 2, 1) := by decide +kernel
theorem rd_d_X12_sellers_37 : decode tX12_sellers.1.2.1 37 = .ok (.ifCond .eq 28, 3) := by decide +kernel
theorem rd_d_X12_sellers_40 : decode tX12_sellers.1.2.1 40 = .ok (.aload_n 0, 1) := by decide +kernel
theorem rd_d_X12_sellers_41 : decode tX12_sellers.1.2.1 41 = .ok (.iload_n 1, 1) := by decide +kernel
theorem rd_d_X12_sellers_42 : decode tX12_sellers.1.2.1 42 = .ok (.iload_n 3, 1) := by decide +kernel
theorem rd_d_X12_sellers_43 : decode tX12_sellers.1.2.1 43 = .ok (.invokevirtual 338, 3) := by decide +kernel
theorem rd_k_X12_sellers_43 : ex_lk ex_mt tX12_sellers 43 (.invokevirtual 338) [0, 101, 524506] = true := by decide +kernel
theorem rd_d_X12_sellers_46 : decode tX12_sellers.1.2.1 46 = .ok (.aload_n 0, 1) := by decide +kernel
theorem rd_d_X12_sellers_47 : decode tX12_sellers.1.2.1 47 = .ok (.getfield 33, 3) := by decide +kernel
theorem rd_k_X12_sellers_47 : ex_lk ex_mt tX12_sellers 47 (.getfield 33) [12, 6, 2, 458773] = true := by decide +kernel
theorem rd_d_X12_sellers_50 : decode tX12_sellers.1.2.1 50 = .ok (.bipush 61, 2) := by decide +kernel
theorem rd_d_X12_sellers_52 : decode tX12_sellers.1.2.1 52 = .ok (.iaload, 1) := by decide +kernel
theorem rd_d_X12_sellers_53 : decode tX12_sellers.1.2.1 53 = .ok (.aload_n 0, 1) := by decide +kernel
theorem rd_d_X12_sellers_54 : decode tX12_sellers.1.2.1 54 = .ok (.invokevirtual 282, 3) := by decide +kernel
theorem rd_k_X12_sellers_54 : ex_lk ex_mt tX12_sellers 54 (.invokevirtual 282) [0, 78, 524433] = true := by decide +kernel
theorem rd_d_X12_sellers_57 : decode tX12_sellers.1.2.1 57 = .ok (.imul, 1) := by decide +kernel
theorem rd_d_X12_sellers_58 : decode tX12_sellers.1.2.1 58 = .ok (.if_icmp .lt 7, 3) := by decide +kernel
theorem rd_d_X12_sellers_61 : decode tX12_sellers.1.2.1 61 = .ok (.iconst 1, 1) := by decide +kernel
theorem rd_d_X12_sellers_62 : decode tX12_sellers.1.2.1 62 = .ok (.goto 4, 3) := by decide +kernel
theorem rd_d_X12_sellers_65 : decode tX12_sellers.1.2.1 65 = .ok (.iconst 0, 1) := by decide +kernel
theorem rd_d_X12_sellers_66 : decode tX12_sellers.1.2.1 66 = .ok (.istore_n 2, 1) := by decide +kernel
theorem rd_d_X12_sellers_67 : decode tX12_sellers.1.2.1 67 = .ok (.iinc 3 1, 3) := by decide +kernel
theorem rd_d_X12_sellers_70 : decode tX12_sellers.1.2.1 70 = .ok (.goto (-39), 3) := by decide +kernel
theorem rd_d_X12_sellers_73 : decode tX12_sellers.1.2.1 73 = .ok (.iload_n 2, 1) := by decide +kernel
theorem rd_d_X12_sellers_74 : decode tX12_sellers.1.2.1 74 = .ok (.ifCond .eq 5, 3) := by decide +kernel
theorem rd_d_X12_sellers_77 : decode tX12_sellers.1.2.1 77 = .ok (.iload_n 1, 1) := by decide +kernel
theorem rd_d_X12_sellers_78 : decode tX12_sellers.1.2.1 78 = .ok (.ireturn, 1) := by decide +kernel
theorem rd_d_X12_sellers_79 : decode tX12_sellers.1.2.1 79 = .ok (.iinc 1 (-1), 3) := by decide +kernel
theorem rd_d_X12_sellers_82 : decode tX12_sellers.1.2.1 82 = .ok (.goto (-59), 3) := by decide +kernel
theorem rd_d_X12_sellers_85 : decode tX12_sellers.1.2.1 85 = .ok (.iconst 0, 1) := by decide +kernel
theorem rd_d_X12_sellers_86 : decode tX12_sellers.1.2.1 86 = .ok (.ireturn, 1) := by decide +kernel
theorem rd_d_X12_border_0 : decode tX12_border.1.2.1 0 = .ok (.aload_n 0, 1) := by decide +kernel
theorem rd_d_X12_border_1 : decode tX12_border.1.2.1 1 = .ok (.iconst 0, 1) := by decide +kernel
theorem rd_d_X12_border_2 : decode tX12_border.1.2.1 2 = .ok (.putfield 1, 3) := by decide +kernel
theorem rd_k_X12_border_2 : ex_lk ex_mt tX12_border 2 (.putfield 1) [12, 0, 0, 458767] = true := by decide +kernel
theorem rd_d_X12_border_5 : decode tX12_border.1.2.1 5 = .ok (.iconst 0, 1) := by decide +kernel
theorem rd_d_X12_border_6 : decode tX12_border.1.2.1 6 = .ok (.istore_n 1, 1) := by decide +kernel
theorem rd_d_X12_border_7 : decode tX12_border.1.2.1 7 = .ok (.iconst (-1), 1) := by decide +kernel
theorem rd_d_X12_border_8 : decode tX12_border.1.2.1 8 = .ok (.istore_n 2, 1) := by decide +kernel
theorem rd_d_X12_border_9 : decode tX12_border.1.2.1 9 = .ok (.iconst 0, 1) := by decide +kernel
theorem rd_d_X12_border_10 : decode tX12_border.1.2.1 10 = .ok (.istore_n 3, 1) := by decide +kernel
theorem rd_d_X12_border_11 : decode tX12_border.1.2.1 11 = .ok (.iload_n 3, 1) := by decide +kernel
theorem rd_d_X12_border_12 : decode tX12_border.1.2.1 12 = .ok (.aload_n 0, 1) := by decide +kernel
theorem rd_d_X12_border_13 : decode tX12_border.1.2.1 13 = .ok (.getfield 33, 3) := by decide +kernel
theorem rd_k_X12_border_13 : ex_lk ex_mt tX12_border 13 (.getfield 33) [12, 6, 2, 458773] = true := by decide +kernel
theorem rd_d_X12_border_16 : decode tX12_border.1.2.1 16 = .ok (.iconst 0, 1) := by decide +kernel
theorem rd_d_X12_border_17 : decode tX12_border.1.2.1 17 = .ok (.iaload, 1) := by decide +kernel
theorem rd_d_X12_border_18 : decode tX12_border.1.2.1 18 = .ok (.if_icmp .gt 49, 3) := by decide +kernel
theorem rd_d_X12_border_21 : decode tX12_border.1.2.1 21 = .ok (.aload_n 0, 1) := by decide +kernel
theorem rd_d_X12_border_22 : decode tX12_border.1.2.1 22 = .ok (.iconst 0, 1) := by decide +kernel
theorem rd_d_X12_border_23 : decode tX12_border.1.2.1 23 = .ok (.iload_n 3, 1) := by decide +kernel
theorem rd_d_X12_border_24 : decode tX12_border.1.2.1 24 = .ok (.invokevirtual 335, 3) := by decide +kernel
theorem rd_k_X12_border_24 : ex_lk ex_mt tX12_border 24 (.invokevirtual 335) [0, 159, 524514] = true := by decide +kernel
theorem rd_d_X12_border_27 : decode tX12_border.1.2.1 27 = .ok (.aload_n 0, 1) := by decide +kernel
theorem rd_d_X12_border_28 : decode tX12_border.1.2.1 28 = .ok (.iload_n 3, 1) := by decide +kernel
theorem rd_d_X12_border_29 : decode tX12_border.1.2.1 29 = .ok (.aload_n 0, 1) := by decide +kernel
theorem rd_d_X12_border_30 : decode tX12_border.1.2.1 30 = .ok (.getfield 33, 3) := by decide +kernel
theorem rd_k_X12_border_30 : ex_lk ex_mt tX12_border 30 (.getfield 33) [12, 6, 2, 458773] = true := by decide +kernel
theorem rd_d_X12_border_33 : decode tX12_border.1.2.1 33 = .ok (.iconst 0, 1) := by decide +kernel
theorem rd_d_X12_border_34 : decode tX12_border.1.2.1 34 = .ok (.iaload, 1) := by decide +kernel
theorem rd_d_X12_border_35 : decode tX12_border.1.2.1 35 = .ok (.invokevirtual 335, 3) := by decide +kernel
theorem rd_k_X12_border_35 : ex_lk ex_mt tX12_border 35 (.invokevirtual 335) [0, 159, 524514] = true := by decide +kernel
theorem rd_d_X12_border_38 : decode tX12_border.1.2.1 38 = .ok (.invokestatic 288, 3) := by decide +kernel
theorem rd_k_X12_border_38 : ex_lk ex_mt tX12_border 38 (.invokestatic 288) [0, 145, 524465] = true := by decide +kernel
theorem rd_d_X12_border_41 : decode tX12_border.1.2.1 41 = .ok (.istore 4, 2) := by decide +kernel
theorem rd_d_X12_border_43 : decode tX12_border.1.2.1 43 = .ok (.iload_n 2, 1) := by decide +kernel
theorem rd_d_X12_border_44 : decode tX12_border.1.2.1 44 = .ok (.ifCond .lt 12, 3) := by decide +kernel
theorem rd_d_X12_border_47 : decode tX12_border.1.2.1 47 = .ok (.iload 4, 2) := by decide +kernel
theorem rd_d_X12_border_49 : decode tX12_border.1.2.1 49 = .ok (.iload_n 2, 1) := by decide +kernel
theorem rd_d_X12_border_50 : decode tX12_border.1.2.1 50 = .ok (.if_icmp .lt 6, 3) := by decide +kernel
theorem rd_d_X12_border_53 : decode tX12_border.1.2.1 53 = .ok (.goto 8, 3) := by decide +kernel
theorem rd_d_X12_border_56 : decode tX12_border.1.2.1 56 = .ok (.iload 4, 2) := by decide +kernel
theorem rd_d_X12_border_58 : decode tX12_border.1.2.1 58 = .ok (.istore_n 2, 1) := by decide +kernel
theorem rd_d_X12_border_59 : decode tX12_border.1.2.1 59 = .ok (.iload_n 3, 1) := by decide +kernel
theorem rd_d_X12_border_60 : decode tX12_border.1.2.1 60 = .ok (.istore_n 1, 1) := by decide +kernel
theorem rd_d_X12_border_61 : decode tX12_border.1.2.1 61 = .ok (.iinc 3 1, 3) := by decide +kernel
theorem rd_d_X12_border_64 : decode tX12_border.1.2.1 64 = .ok (.goto (-53), 3) := by decide +kernel
theorem rd_d_X12_border_67 : decode tX12_border.1.2.1 67 = .ok (.iload_n 1, 1) := by decide +kernel
theorem rd_d_X12_border_68 : decode tX12_border.1.2.1 68 = .ok (.ireturn, 1) := by decide +kernel
section AXX
variable {g : am_C} {L : Nat} {xs : Nat → Int32}
theorem ax_rgM (G : sx_G0 g L xs z9 hd_C ex_mt) {s : Nat → Int32} (b : pn_B s) (b6 : pl_B6 s) {σ : am_S} (hS : ax_S σ) (hs : σ.2.1 120 = s) {f t : Int32} {F T : Nat} (ef : f.toInt = (F : Int)) (et : t.toInt = (T : Int)) (hF : F ≤ pz_W s) (hT : T ≤ pz_W s) : am_K g 9 tX12_rowGain.1 0 0 0 (lv_args 0 [.ref 118, .int f, .int t]) [] σ (fun r σ' => (∃ z : Int32, r = some (some (.int z)) ∧ z.toInt = ((if F < T then pz_rg s F (T - 1) else 0 : Nat) : Int)) ∧ ax_S σ' ∧ (∀ x y, x ≠ 125 → x ≠ 126 → σ'.2.1 x y = σ.2.1 x y)) := by
  have hs1 := b.1.1
  have hW10 : pz_W s ≤ 10 := by unfold pz_W; omega
  have z1 : (1 : Int32).toInt = 1 := rfl
  have hb6 := id b6
  have e55 : (s 55).toInt = ((s 55).toInt.toNat : Int) := by unfold pl_B6 at hb6; omega
  have h24 : (s 55).toInt.toNat ≤ 24 := by unfold pl_B6 at hb6; omega
  refine kr_iload_n 1 rd_d_X12_rowGain_0 rfl ?_
  refine kr_iload_n 2 rd_d_X12_rowGain_1 rfl ?_
  refine kr_icmp_lt (tgt := 9) rd_d_X12_rowGain_2 rfl (fun h1 => ?_) (fun h1 => ?_)
  · refine kr_aload_n 0 rd_d_X12_rowGain_9 rfl ?_
    refine kr_iload_n 1 rd_d_X12_rowGain_10 rfl ?_
    refine kr_iload_n 2 rd_d_X12_rowGain_11 rfl ?_
    refine kr_iconst (v := 1) rd_d_X12_rowGain_12 (by decide) ?_
    refine kr_isub rd_d_X12_rowGain_13 ?_
    refine kr_aload_n 0 rd_d_X12_rowGain_14 rfl ?_
    refine kr_getf G.1 (rd_FL rd_k_X12_rowGain_15).1 rd_d_X12_rowGain_15 (hS.1 118 (.inl 12) rfl) (v := .ref 120) (by unfold am_fa; rw [(rd_FL rd_k_X12_rowGain_15).2]; exact hS.2 118 6 120 rfl) ?_
    refine kr_bipush (v := 55) rd_d_X12_rowGain_18 (by decide) ?_
    refine kr_iald G.1 (n := 277) rd_d_X12_rowGain_20 (hS.1 120 (.inr (.int, 277)) rfl) (hd_in (n := 55) (by decide) (by decide)) ?_
    rw [hd_clamp (n := 55) (by decide)]
    have hFT : F < T := by have := Int32.lt_iff_toInt_lt.mp h1; omega
    have e1 := ch_sub et (y := 1) (b := 1) rfl (by omega)
    have hB0 : pn_B (σ.2.1 120) := by rw [hs]; exact b
    refine rd_call G (T2 := tX12_planOf) rfl rd_d_X12_rowGain_21 rd_k_X12_rowGain_21 rfl (hS.1 118 (.inl 12) rfl) (as := [.int f, .int (t - 1), .int (σ.2.1 120 55)]) (st := []) rfl (Nat.le_of_ble_eq_true rfl) rfl (Nat.le_of_ble_eq_true rfl) (d1 := 8) (by decide) (fun _ h => by obtain ⟨⟨y, h, -⟩, -⟩ := h; cases h) (ax_pof G hS (aa := F) (bb := T - 1) (F := (s 55).toInt.toNat) ef e1 (by rw [hs]; exact e55) (by omega) (by omega) h24 hB0) ?_
    intro v1 τ1 ⟨⟨y1, hv1, hy1⟩, hT1, hf1, _⟩
    cases hv1
    have hs2 : τ1.2.1 120 = s := (funext fun q => hf1 120 q (by decide) (by decide)).trans hs
    have hB1 : pn_B (τ1.2.1 120) := by rw [hs2]; exact b
    rw [hs, pn_upR (by omega)] at hy1
    have hz1 : y1.toInt = ((pn_v s (pl_up (T - 1 - F + 1) F) 0 (s 55).toInt.toNat).1 : Int) := hy1
    refine kr_aload_n 0 rd_d_X12_rowGain_24 rfl ?_
    refine kr_iload_n 2 rd_d_X12_rowGain_25 rfl ?_
    refine kr_iconst (v := 1) rd_d_X12_rowGain_26 (by decide) ?_
    refine kr_isub rd_d_X12_rowGain_27 ?_
    refine kr_iload_n 1 rd_d_X12_rowGain_28 rfl ?_
    refine kr_aload_n 0 rd_d_X12_rowGain_29 rfl ?_
    refine kr_getf G.1 (rd_FL rd_k_X12_rowGain_30).1 rd_d_X12_rowGain_30 (hT1.1 118 (.inl 12) rfl) (v := .ref 120) (by unfold am_fa; rw [(rd_FL rd_k_X12_rowGain_30).2]; exact hT1.2 118 6 120 rfl) ?_
    refine kr_bipush (v := 55) rd_d_X12_rowGain_33 (by decide) ?_
    refine kr_iald G.1 (n := 277) rd_d_X12_rowGain_35 (hT1.1 120 (.inr (.int, 277)) rfl) (hd_in (n := 55) (by decide) (by decide)) ?_
    rw [hd_clamp (n := 55) (by decide)]
    refine rd_call G (T2 := tX12_planOf) rfl rd_d_X12_rowGain_36 rd_k_X12_rowGain_36 rfl (hT1.1 118 (.inl 12) rfl) (as := [.int (t - 1), .int f, .int (τ1.2.1 120 55)]) (st := [.int y1]) rfl (Nat.le_of_ble_eq_true rfl) rfl (Nat.le_of_ble_eq_true rfl) (d1 := 8) (by decide) (fun _ h => by obtain ⟨⟨y, h, -⟩, -⟩ := h; cases h) (ax_pof G hT1 (aa := T - 1) (bb := F) (F := (s 55).toInt.toNat) e1 ef (by rw [hs2]; exact e55) (by omega) (by omega) h24 hB1) ?_
    intro v2 τ2 ⟨⟨y2, hv2, hy2⟩, hT2, hf2, _⟩
    cases hv2
    rw [hs2, pn_dnR (by omega)] at hy2
    have hz2 : y2.toInt = ((pn_v s (pl_dn (T - 1 - F + 1) (T - 1)) 0 (s 55).toInt.toNat).1 : Int) := hy2
    refine rd_callS G (T2 := tX12_greater) rfl rd_d_X12_rowGain_39 rd_k_X12_rowGain_39 rfl rfl (as := [.int y1, .int y2]) (st := []) rfl (Nat.le_of_ble_eq_true rfl) rfl (Nat.le_of_ble_eq_true rfl) (d1 := 1) (by decide) (fun _ h => by cases h.1) (ax_gr G hT2 y1 y2) ?_
    intro v2 σ2 ⟨hv2, hs2⟩
    cases hv2
    rw [hs2]
    refine kr_ireturn rd_d_X12_rowGain_42 (ty := .int) rfl rfl ⟨⟨_, rfl, ?_⟩, hT2, fun x y x5 x6 => (hf2 x y x5 x6).trans (hf1 x y x5 x6)⟩
    rw [if_pos hFT]
    exact ch_gr hz1 hz2
  · refine kr_iconst (v := 0) rd_d_X12_rowGain_5 (by decide) ?_
    refine kr_goto (tgt := 42) rd_d_X12_rowGain_6 rfl ?_
    refine kr_ireturn rd_d_X12_rowGain_42 (ty := .int) rfl rfl ⟨⟨_, rfl, ?_⟩, hS, fun _ _ _ _ => rfl⟩
    rw [if_neg (fun q => h1 (Int32.lt_iff_toInt_lt.mpr (by omega)))]
    rfl
theorem ax_rfM (G : sx_G0 g L xs z9 hd_C ex_mt) {s : Nat → Int32} (b : pn_B s) (b6 : pl_B6 s) {σ : am_S} (hS : ax_S σ) (hs : σ.2.1 120 = s) {n k : Int32} {N K : Nat} (en : n.toInt = (N : Int)) (ek : k.toInt = (K : Int)) (h1 : 1 ≤ N) (h2 : N ≤ pz_W s) (h3 : K ≤ N) : am_K g 2 tX12_rowFrom.1 0 0 0 (lv_args 0 [.ref 118, .int n, .int k]) [] σ (fun r σ' => (∃ z : Int32, r = some (some (.int z)) ∧ z.toInt = (pz_f s N K : Int)) ∧ σ' = σ) := by
  have hs1 := b.1.1
  have z0 : (0 : Int32).toInt = 0 := rfl
  have hn0 : ¬ n = 0 := fun e => by rw [e] at en; omega
  have hW : (σ.2.1 120 0).toInt = (pz_W s : Int) := by rw [hs]; unfold pz_W; omega
  have hW10 : pz_W s ≤ 10 := by unfold pz_W; omega
  have eq := ch_div hW en h1
  have er := ch_rem hW en h1
  have hdl : pz_W s / N ≤ 10 := Nat.le_trans (Nat.div_le_self _ _) hW10
  have hkd : K * (pz_W s / N) ≤ 10 * 10 := Nat.mul_le_mul (by omega) hdl
  have hml := Nat.mod_lt (pz_W s) h1
  have e1 := ch_mul ek eq (A := 10) (B := 10) (by omega) hdl (by decide)
  have e2 := ch_les ek er
  have e3 := ch_add e1 e2 (by omega)
  refine kr_iload_n 2 rd_d_X12_rowFrom_0 rfl ?_
  refine kr_aload_n 0 rd_d_X12_rowFrom_1 rfl ?_
  refine kr_getf G.1 (rd_FL rd_k_X12_rowFrom_2).1 rd_d_X12_rowFrom_2 (hS.1 118 (.inl 12) rfl) (v := .ref 120) (by unfold am_fa; rw [(rd_FL rd_k_X12_rowFrom_2).2]; exact hS.2 118 6 120 rfl) ?_
  refine kr_iconst (v := 0) rd_d_X12_rowFrom_5 (by decide) ?_
  refine kr_iald G.1 (n := 277) rd_d_X12_rowFrom_6 (hS.1 120 (.inr (.int, 277)) rfl) (hd_in (n := 0) (by decide) (by decide)) ?_
  rw [hd_clamp (n := 0) (by decide)]
  refine kr_iload_n 1 rd_d_X12_rowFrom_7 rfl ?_
  refine kr_idiv rd_d_X12_rowFrom_8 hn0 ?_
  refine kr_imul rd_d_X12_rowFrom_9 ?_
  refine kr_iload_n 2 rd_d_X12_rowFrom_10 rfl ?_
  refine kr_aload_n 0 rd_d_X12_rowFrom_11 rfl ?_
  refine kr_getf G.1 (rd_FL rd_k_X12_rowFrom_12).1 rd_d_X12_rowFrom_12 (hS.1 118 (.inl 12) rfl) (v := .ref 120) (by unfold am_fa; rw [(rd_FL rd_k_X12_rowFrom_12).2]; exact hS.2 118 6 120 rfl) ?_
  refine kr_iconst (v := 0) rd_d_X12_rowFrom_15 (by decide) ?_
  refine kr_iald G.1 (n := 277) rd_d_X12_rowFrom_16 (hS.1 120 (.inr (.int, 277)) rfl) (hd_in (n := 0) (by decide) (by decide)) ?_
  rw [hd_clamp (n := 0) (by decide)]
  refine kr_iload_n 1 rd_d_X12_rowFrom_17 rfl ?_
  refine kr_irem rd_d_X12_rowFrom_18 hn0 ?_
  refine rd_callS G (T2 := tX12_lesser) rfl rd_d_X12_rowFrom_19 rd_k_X12_rowFrom_19 rfl rfl (as := [.int k, .int ((σ.2.1 120 0) - (σ.2.1 120 0) / n * n)]) (st := [.int (k * ((σ.2.1 120 0) / n))]) rfl (Nat.le_of_ble_eq_true rfl) rfl (Nat.le_of_ble_eq_true rfl) (d1 := 1) (by decide) (fun _ h => by cases h.1) (ax_les G hS k ((σ.2.1 120 0) - (σ.2.1 120 0) / n * n)) ?_
  intro v1 σ1 ⟨hv1, hs1⟩
  cases hv1
  rw [hs1]
  refine kr_iadd rd_d_X12_rowFrom_22 ?_
  exact kr_ireturn rd_d_X12_rowFrom_23 (ty := .int) rfl rfl ⟨⟨_, rfl, e3⟩, rfl⟩
theorem ax_erM (G : sx_G0 g L xs z9 hd_C ex_mt) {s : Nat → Int32} (b : pn_B s) (b6 : pl_B6 s) {σ : am_S} (hS : ax_S σ) (hs : σ.2.1 120 = s) {n k : Int32} {N K : Nat} (en : n.toInt = (N : Int)) (ek : k.toInt = (K : Int)) (h1 : 1 ≤ N) (h2 : N ≤ pz_W s) (h3 : K < N) : am_K g 10 tX12_earned.1 0 0 0 (lv_args 0 [.ref 118, .int n, .int k]) [] σ (fun r σ' => (∃ z : Int32, r = some (some (.int z)) ∧ z.toInt = (pz_sg s N K : Int)) ∧ ax_S σ' ∧ (∀ x y, x ≠ 125 → x ≠ 126 → σ'.2.1 x y = σ.2.1 x y)) := by
  obtain ⟨f1, f2⟩ := pz_f1 h1 h2 h3
  have hs1 := b.1.1
  have hW10 : pz_W s ≤ 10 := by unfold pz_W; omega
  refine kr_aload_n 0 rd_d_X12_earned_0 rfl ?_
  refine kr_aload_n 0 rd_d_X12_earned_1 rfl ?_
  refine kr_iload_n 1 rd_d_X12_earned_2 rfl ?_
  refine kr_iload_n 2 rd_d_X12_earned_3 rfl ?_
  refine rd_call G (T2 := tX12_rowFrom) rfl rd_d_X12_earned_4 rd_k_X12_earned_4 rfl (hS.1 118 (.inl 12) rfl) (as := [.int n, .int k]) (st := [.ref 118]) rfl (Nat.le_of_ble_eq_true rfl) rfl (Nat.le_of_ble_eq_true rfl) (d1 := 2) (by decide) (fun _ h => by obtain ⟨⟨y, h, -⟩, -⟩ := h; cases h) (ax_rfM G b b6 hS hs en ek h1 h2 (by omega)) ?_
  intro v1 σ1 ⟨⟨z1, hv1, hz1⟩, hq1⟩
  cases hv1
  rw [hq1]
  refine kr_aload_n 0 rd_d_X12_earned_7 rfl ?_
  refine kr_iload_n 1 rd_d_X12_earned_8 rfl ?_
  refine kr_iload_n 2 rd_d_X12_earned_9 rfl ?_
  refine kr_iconst (v := 1) rd_d_X12_earned_10 (by decide) ?_
  refine kr_iadd rd_d_X12_earned_11 ?_
  refine rd_call G (T2 := tX12_rowFrom) rfl rd_d_X12_earned_12 rd_k_X12_earned_12 rfl (hS.1 118 (.inl 12) rfl) (as := [.int n, .int (k + 1)]) (st := [.int z1, .ref 118]) rfl (Nat.le_of_ble_eq_true rfl) rfl (Nat.le_of_ble_eq_true rfl) (d1 := 2) (by decide) (fun _ h => by obtain ⟨⟨y, h, -⟩, -⟩ := h; cases h) (ax_rfM G b b6 hS hs en (ax_inc ek (by omega)) h1 h2 (by omega)) ?_
  intro v2 σ2 ⟨⟨z2, hv2, hz2⟩, hq2⟩
  cases hv2
  rw [hq2]
  refine rd_call G (T2 := tX12_rowGain) rfl rd_d_X12_earned_15 rd_k_X12_earned_15 rfl (hS.1 118 (.inl 12) rfl) (as := [.int z1, .int z2]) (st := []) rfl (Nat.le_of_ble_eq_true rfl) rfl (Nat.le_of_ble_eq_true rfl) (d1 := 9) (by decide) (fun _ h => by obtain ⟨⟨y, h, -⟩, -⟩ := h; cases h) (ax_rgM G b b6 hS hs hz1 hz2 (by omega) f2) ?_
  intro v3 τ ⟨⟨y, hv3, hy⟩, hT, hf⟩
  cases hv3
  rw [if_pos f1] at hy
  exact kr_ireturn rd_d_X12_earned_18 (ty := .int) rfl rfl ⟨⟨_, rfl, hy⟩, hT, hf⟩
theorem ax_siL (G : sx_G0 g L xs z9 hd_C ex_mt) {s : Nat → Int32} (b : pn_B s) (b6 : pl_B6 s) {n : Int32} {N : Nat} (en : n.toInt = (N : Int)) (h1 : 1 ≤ N) (h2 : N ≤ pz_W s) {post : Option (Option Value) → am_S → Prop} : ∀ (f j : Nat) (k i : Int32) (σ : am_S), ax_S σ → σ.2.1 120 = s → k.toInt = (j : Int) → j + f = N → i = (if pz_al s N j then 1 else 0) → (∀ (k2 i2 : Int32) (σ' : am_S), ax_S σ' → (∀ x y, x ≠ 125 → x ≠ 126 → σ'.2.1 x y = σ.2.1 x y) → i2 = (if pz_al s N N then 1 else 0) → am_K g 11 tX12_sellers.1 0 0 73 [(3, .int k2), (2, .int i2), (1, .int n), (0, .ref 118)] [] σ' post) → am_K g 11 tX12_sellers.1 0 0 31 [(3, .int k), (2, .int i), (1, .int n), (0, .ref 118)] [] σ post := by
  have hW10 : pz_W s ≤ 10 := by have := b.1.1.2; unfold pz_W; omega
  intro f
  induction f with
  | zero =>
    intro j k i σ hS hs ek hj hi kk
    refine kr_iload_n 0 rd_d_X12_sellers_31 rfl ?_
    refine kr_iload_n 2 rd_d_X12_sellers_32 rfl ?_
    refine kr_icmp_ge (tgt := 73) rd_d_X12_sellers_33 rfl (fun h1 => ?_) (fun h1 => ?_)
    · have e : j = N := by omega
      subst e
      exact kk k i σ hS (fun _ _ _ _ => rfl) hi
    · exact absurd (Int32.le_iff_toInt_le.mpr (by omega)) h1
  | succ f ih =>
    intro j k i σ hS hs ek hj hi kk
    refine kr_iload_n 0 rd_d_X12_sellers_31 rfl ?_
    refine kr_iload_n 2 rd_d_X12_sellers_32 rfl ?_
    refine kr_icmp_ge (tgt := 73) rd_d_X12_sellers_33 rfl (fun h21 => ?_) (fun h21 => ?_)
    · have := Int32.le_iff_toInt_le.mp h21
      omega
    · refine kr_iload_n 1 rd_d_X12_sellers_36 rfl ?_
      refine kr_if_eq (tgt := 65) rd_d_X12_sellers_37 rfl (fun h41 => ?_) (fun h41 => ?_)
      · refine kr_iconst (v := 0) rd_d_X12_sellers_65 (by decide) ?_
        refine kr_istore_n (lv' := [(2, .int 0), (3, .int k), (1, .int n), (0, .ref 118)]) rd_d_X12_sellers_66 (by decide) rfl ?_
        refine kr_iinc (v := k + 1) (lv' := [(3, .int (k + 1)), (2, .int 0), (1, .int n), (0, .ref 118)]) 1 rd_d_X12_sellers_67 rfl rfl (by decide) rfl ?_
        refine kr_goto (tgt := 31) rd_d_X12_sellers_70 rfl ?_
        refine kr_sub (lv' := [(3, .int (k + 1)), (2, .int 0), (1, .int n), (0, .ref 118)]) (by simp) ?_
        refine ih (j + 1) (k + 1) 0 σ hS hs (ax_inc ek (by omega)) (by omega) ?_ kk
        have hf : pz_al s N j = false := by
          cases e : pz_al s N j with
          | false => rfl
          | true => rw [e] at hi; rw [hi] at h41; exact absurd h41 (by decide)
        rw [pz_al_f hf 1]
        rfl
      · refine kr_aload_n 3 rd_d_X12_sellers_40 rfl ?_
        refine kr_iload_n 2 rd_d_X12_sellers_41 rfl ?_
        refine kr_iload_n 0 rd_d_X12_sellers_42 rfl ?_
        refine rd_call G (T2 := tX12_earned) rfl rd_d_X12_sellers_43 rd_k_X12_sellers_43 rfl (hS.1 118 (.inl 12) rfl) (as := [.int n, .int k]) (st := []) rfl (Nat.le_of_ble_eq_true rfl) rfl (Nat.le_of_ble_eq_true rfl) (d1 := 10) (by decide) (fun _ h => by obtain ⟨⟨y, h, -⟩, -⟩ := h; cases h) (ax_erM G b b6 hS hs en ek h1 h2 (by omega)) ?_
        intro v1 σ1 ⟨⟨z, hv1, hz⟩, hS1, hf1⟩
        cases hv1
        have hs1 : σ1.2.1 120 = s := (funext fun q => hf1 120 q (by decide) (by decide)).trans hs
        refine kr_aload_n 3 rd_d_X12_sellers_46 rfl ?_
        refine kr_getf G.1 (rd_FL rd_k_X12_sellers_47).1 rd_d_X12_sellers_47 (hS1.1 118 (.inl 12) rfl) (v := .ref 120) (by unfold am_fa; rw [(rd_FL rd_k_X12_sellers_47).2]; exact hS1.2 118 6 120 rfl) ?_
        refine kr_bipush (v := 61) rd_d_X12_sellers_50 (by decide) ?_
        refine kr_iald G.1 (n := 277) rd_d_X12_sellers_52 (hS1.1 120 (.inr (.int, 277)) rfl) (hd_in (n := 61) (by decide) (by decide)) ?_
        rw [hd_clamp (n := 61) (by decide)]
        refine kr_aload_n 3 rd_d_X12_sellers_53 rfl ?_
        refine rd_call G (T2 := tX12_below) rfl rd_d_X12_sellers_54 rd_k_X12_sellers_54 rfl (hS1.1 118 (.inl 12) rfl) (as := []) (st := [.int (σ1.2.1 120 61), .int z]) rfl (Nat.le_of_ble_eq_true rfl) rfl (Nat.le_of_ble_eq_true rfl) (d1 := 4) (by decide) (fun _ h => by cases h.1) (ax_bel G hS1 (by rw [hs1]; exact b.1)) ?_
        intro v42 σ42 ⟨hv42, hs42⟩
        cases hv42
        rw [hs42]
        refine kr_imul rd_d_X12_sellers_57 ?_
        refine kr_icmp_lt (tgt := 65) rd_d_X12_sellers_58 rfl (fun h43 => ?_) (fun h43 => ?_)
        · refine kr_iconst (v := 0) rd_d_X12_sellers_65 (by decide) ?_
          refine kr_istore_n (lv' := [(2, .int 0), (3, .int k), (1, .int n), (0, .ref 118)]) rd_d_X12_sellers_66 (by decide) rfl ?_
          refine kr_iinc (v := k + 1) (lv' := [(3, .int (k + 1)), (2, .int 0), (1, .int n), (0, .ref 118)]) 1 rd_d_X12_sellers_67 rfl rfl (by decide) rfl ?_
          refine kr_goto (tgt := 31) rd_d_X12_sellers_70 rfl ?_
          refine kr_sub (lv' := [(3, .int (k + 1)), (2, .int 0), (1, .int n), (0, .ref 118)]) (by simp) ?_
          refine ih (j + 1) (k + 1) 0 σ1 hS1 hs1 (ax_inc ek (by omega)) (by omega) ?_ (fun k2 i2 σ' a1 a2 a3 => kk k2 i2 σ' a1 (fun x y x5 x6 => (a2 x y x5 x6).trans (hf1 x y x5 x6)) a3)
          have hf : pz_al s N j = true := by
            cases e : pz_al s N j with
            | true => rfl
            | false => rw [e] at hi; exact absurd hi h41
          have e2 : pz_al s N (j + 1) = decide (pz_t s ≤ (pz_sg s N j : Int)) := by show (pz_al s N j && _) = _; rw [hf, Bool.true_and]
          rw [hs1] at h43
          rw [e2, decide_eq_false (fun q => by have h := Int32.lt_iff_toInt_lt.mp h43; rw [hz] at h; unfold pz_t at q; omega)]
          rfl
        · refine kr_iconst (v := 1) rd_d_X12_sellers_61 (by decide) ?_
          refine kr_goto (tgt := 66) rd_d_X12_sellers_62 rfl ?_
          refine kr_istore_n (lv' := [(2, .int 1), (3, .int k), (1, .int n), (0, .ref 118)]) rd_d_X12_sellers_66 (by decide) rfl ?_
          refine kr_iinc (v := k + 1) (lv' := [(3, .int (k + 1)), (2, .int 1), (1, .int n), (0, .ref 118)]) 1 rd_d_X12_sellers_67 rfl rfl (by decide) rfl ?_
          refine kr_goto (tgt := 31) rd_d_X12_sellers_70 rfl ?_
          refine kr_sub (lv' := [(3, .int (k + 1)), (2, .int 1), (1, .int n), (0, .ref 118)]) (by simp) ?_
          refine ih (j + 1) (k + 1) 1 σ1 hS1 hs1 (ax_inc ek (by omega)) (by omega) ?_ (fun k2 i2 σ' a1 a2 a3 => kk k2 i2 σ' a1 (fun x y x5 x6 => (a2 x y x5 x6).trans (hf1 x y x5 x6)) a3)
          have hf : pz_al s N j = true := by
            cases e : pz_al s N j with
            | true => rfl
            | false => rw [e] at hi; exact absurd hi h41
          have e2 : pz_al s N (j + 1) = decide (pz_t s ≤ (pz_sg s N j : Int)) := by show (pz_al s N j && _) = _; rw [hf, Bool.true_and]
          rw [hs1] at h43
          rw [e2, decide_eq_true (by have h : ¬ z.toInt < pz_t s := fun q => h43 (Int32.lt_iff_toInt_lt.mpr q); rw [hz] at h; omega)]
          rfl
theorem ax_soL (G : sx_G0 g L xs z9 hd_C ex_mt) {s : Nat → Int32} (b : pn_B s) (b6 : pl_B6 s) : ∀ (N : Nat) (n : Int32) (σ : am_S), ax_S σ → σ.2.1 120 = s → n.toInt = (N : Int) → N ≤ pz_W s → am_K g 11 tX12_sellers.1 0 0 23 [(1, .int n), (0, .ref 118)] [] σ (fun r σ' => (∃ z : Int32, r = some (some (.int z)) ∧ z.toInt = (pz_se s N : Int)) ∧ ax_S σ' ∧ (∀ x y, x ≠ 125 → x ≠ 126 → σ'.2.1 x y = σ.2.1 x y)) := by
  have z0 : (0 : Int32).toInt = 0 := rfl
  intro N
  induction N with
  | zero =>
    intro n σ hS hs en h2
    refine kr_iload_n 0 rd_d_X12_sellers_23 rfl ?_
    refine kr_if_le (tgt := 85) rd_d_X12_sellers_24 rfl (fun h1 => ?_) (fun h1 => ?_)
    · refine kr_iconst (v := 0) rd_d_X12_sellers_85 (by decide) ?_
      exact kr_ireturn rd_d_X12_sellers_86 (ty := .int) rfl rfl ⟨⟨_, rfl, rfl⟩, hS, fun _ _ _ _ => rfl⟩
    · exact absurd (Int32.le_iff_toInt_le.mpr (by omega)) h1
  | succ N ih =>
    intro n σ hS hs en h2
    refine kr_iload_n 0 rd_d_X12_sellers_23 rfl ?_
    refine kr_if_le (tgt := 85) rd_d_X12_sellers_24 rfl (fun h21 => ?_) (fun h21 => ?_)
    · refine kr_iconst (v := 0) rd_d_X12_sellers_85 (by decide) ?_
      have := Int32.le_iff_toInt_le.mp h21
      omega
    · refine kr_iconst (v := 1) rd_d_X12_sellers_27 (by decide) ?_
      refine kr_istore_n (lv' := [(2, .int 1), (1, .int n), (0, .ref 118)]) rd_d_X12_sellers_28 (by decide) rfl ?_
      refine kr_iconst (v := 0) rd_d_X12_sellers_29 (by decide) ?_
      refine kr_istore_n (lv' := [(3, .int 0), (2, .int 1), (1, .int n), (0, .ref 118)]) rd_d_X12_sellers_30 (by decide) rfl ?_
      refine ax_siL G b b6 en (by omega) h2 (N + 1) 0 0 1 σ hS hs rfl (by omega) rfl ?_
      intro k2 i2 σ1 hS1 hf1 hi2
      have hs1 : σ1.2.1 120 = s := (funext fun q => hf1 120 q (by decide) (by decide)).trans hs
      refine kr_iload_n 1 rd_d_X12_sellers_73 rfl ?_
      refine kr_if_eq (tgt := 79) rd_d_X12_sellers_74 rfl (fun h61 => ?_) (fun h61 => ?_)
      · refine kr_iinc (v := n + (-1)) (lv' := [(1, .int (n + (-1))), (3, .int k2), (2, .int i2), (0, .ref 118)]) 2 rd_d_X12_sellers_79 rfl rfl (by decide) rfl ?_
        refine kr_goto (tgt := 23) rd_d_X12_sellers_82 rfl ?_
        refine kr_sub (lv' := [(1, .int (n + (-1))), (0, .ref 118)]) (by simp) ?_
        have e : pz_al s (N + 1) (N + 1) = false := by
          cases e : pz_al s (N + 1) (N + 1) with
          | false => rfl
          | true => rw [e] at hi2; rw [hi2] at h61; exact absurd h61 (by decide)
        have ev : pz_se s (N + 1) = pz_se s N := by show (if pz_al s (N + 1) (N + 1) then N + 1 else pz_se s N) = _; rw [e]; rfl
        rw [ev]
        exact kr_mono (fun r σ' h => ⟨h.1, h.2.1, fun x y x5 x6 => (h.2.2 x y x5 x6).trans (hf1 x y x5 x6)⟩) (ih (n + (-1)) σ1 hS1 hs1 (ax_dec0 en) (by omega))
      · refine kr_iload_n 2 rd_d_X12_sellers_77 rfl ?_
        refine kr_ireturn rd_d_X12_sellers_78 (ty := .int) rfl rfl ⟨⟨_, rfl, ?_⟩, hS1, hf1⟩
        have e : pz_al s (N + 1) (N + 1) = true := by
          cases e : pz_al s (N + 1) (N + 1) with
          | true => rfl
          | false => rw [e] at hi2; exact absurd hi2 h61
        show n.toInt = ((if pz_al s (N + 1) (N + 1) then N + 1 else pz_se s N : Nat) : Int)
        rw [if_pos e]
        exact en
theorem ax_seM (G : sx_G0 g L xs z9 hd_C ex_mt) {s : Nat → Int32} (b : pn_B s) (b6 : pl_B6 s) {σ : am_S} (hS : ax_S σ) (hs : σ.2.1 120 = s) : am_K g 11 tX12_sellers.1 0 0 0 (lv_args 0 [.ref 118]) [] σ (fun r σ' => (∃ z : Int32, r = some (some (.int z)) ∧ z.toInt = pz_seA s) ∧ ax_S σ') := by
  have hs0 := b.1.1
  refine ax_thr G hS rd_d_X12_sellers_0 rd_d_X12_sellers_1 rd_d_X12_sellers_2 rd_k_X12_sellers_2 rfl ?_
  intro τ hT hm hm8
  have hsT : τ.2.1 120 = s := (funext fun q => hm 120 q (by decide)).trans hs
  refine kr_aload_n 0 rd_d_X12_sellers_5 rfl ?_
  refine kr_getf G.1 (rd_FL rd_k_X12_sellers_6).1 rd_d_X12_sellers_6 (hT.1 118 (.inl 12) rfl) (v := .ref 120) (by unfold am_fa; rw [(rd_FL rd_k_X12_sellers_6).2]; exact hT.2 118 6 120 rfl) ?_
  refine kr_iconst (v := 0) rd_d_X12_sellers_9 (by decide) ?_
  refine kr_iald G.1 (n := 277) rd_d_X12_sellers_10 (hT.1 120 (.inr (.int, 277)) rfl) (hd_in (n := 0) (by decide) (by decide)) ?_
  rw [hd_clamp (n := 0) (by decide)]
  refine kr_if_ne (tgt := 16) rd_d_X12_sellers_11 rfl (fun h1 => ?_) (fun h1 => ?_)
  · refine kr_aload_n 0 rd_d_X12_sellers_16 rfl ?_
    refine kr_getf G.1 (rd_FL rd_k_X12_sellers_17).1 rd_d_X12_sellers_17 (hT.1 118 (.inl 12) rfl) (v := .ref 120) (by unfold am_fa; rw [(rd_FL rd_k_X12_sellers_17).2]; exact hT.2 118 6 120 rfl) ?_
    refine kr_iconst (v := 0) rd_d_X12_sellers_20 (by decide) ?_
    refine kr_iald G.1 (n := 277) rd_d_X12_sellers_21 (hT.1 120 (.inr (.int, 277)) rfl) (hd_in (n := 0) (by decide) (by decide)) ?_
    rw [hd_clamp (n := 0) (by decide)]
    refine kr_istore_n (lv' := [(1, .int (τ.2.1 120 0)), (0, .ref 118)]) rd_d_X12_sellers_22 (by decide) rfl ?_
    refine kr_mono ?_ (ax_soL G b b6 (pz_W s) (τ.2.1 120 0) τ hT hsT (by rw [hsT]; unfold pz_W; omega) (Nat.le_refl _))
    intro r σ' ⟨⟨z, hz, hv⟩, q1, q2⟩
    exact ⟨⟨z, hz, by rw [pz_seA, if_neg (by rw [← hsT]; exact h1)]; exact hv⟩, q1⟩
  · refine kr_iconst (v := (-1)) rd_d_X12_sellers_14 (by decide) ?_
    exact kr_ireturn rd_d_X12_sellers_15 (ty := .int) rfl rfl ⟨⟨_, rfl, by rw [pz_seA, if_pos (by rw [← hsT]; exact h1)]; rfl⟩, hT⟩
theorem ch_off {a b : Nat} {x y : Int32} (hx : x.toInt = (a : Int)) (hy : y.toInt = (b : Int)) : (ax_f_off x y).toInt = (((a - b) + (b - a) : Nat) : Int) := by
  rw [ax_f_off]
  split
  · rename_i h
    have := Int32.le_iff_toInt_le.mp h
    rw [ch_sub hx hy (by omega)]
    omega
  · rename_i h
    have : ¬ y.toInt ≤ x.toInt := fun q => h (Int32.le_iff_toInt_le.mpr q)
    rw [ch_sub hy hx (by omega)]
    omega
theorem pz_mL {s : Nat → Int32} (W : Nat) : (if 0 < W then pz_rg s 0 (W - 1) else 0) = pz_le s W := by
  unfold pz_le
  by_cases q : W = 0
  · rw [if_pos q, if_neg (by omega)]
  · rw [if_neg q, if_pos (by omega)]
theorem pz_mR {s : Nat → Int32} {W : Nat} (h : W ≤ pz_W s) : (if W < pz_W s then pz_rg s W (pz_W s - 1) else 0) = pz_ri s W := by
  unfold pz_ri
  by_cases q : W = pz_W s
  · rw [if_pos q, if_neg (by omega)]
  · rw [if_neg q, if_pos (by omega)]
theorem ax_bML (G : sx_G0 g L xs z9 hd_C ex_mt) {s : Nat → Int32} (b : pn_B s) (b6 : pl_B6 s) : ∀ (f j : Nat) (w ls fd : Int32) (σ : am_S), ax_S σ → σ.2.1 120 = s → w.toInt = (j : Int) → j + f = pz_W s + 1 → pz_I (pz_ap s) j ls fd → am_K g 10 tX12_border.1 0 0 11 [(3, .int w), (2, .int ls), (1, .int fd), (0, .ref 118)] [] σ (fun r σ' => (∃ z : Int32, r = some (some (.int z)) ∧ z.toInt = ((pz_mn (pz_ap s) (pz_W s)).2 : Int)) ∧ ax_S σ') := by
  have hs0 := b.1.1
  have hW10 : pz_W s ≤ 10 := by unfold pz_W; omega
  have z0 : (0 : Int32).toInt = 0 := rfl
  have zm : ((-1 : Int32)).toInt = -1 := rfl
  intro f
  induction f with
  | zero =>
    intro j w ls fd σ hS hs ew hj hI
    have hW : (σ.2.1 120 0).toInt = (pz_W s : Int) := by rw [hs]; unfold pz_W; omega
    refine kr_iload_n 0 rd_d_X12_border_11 rfl ?_
    refine kr_aload_n 3 rd_d_X12_border_12 rfl ?_
    refine kr_getf G.1 (rd_FL rd_k_X12_border_13).1 rd_d_X12_border_13 (hS.1 118 (.inl 12) rfl) (v := .ref 120) (by unfold am_fa; rw [(rd_FL rd_k_X12_border_13).2]; exact hS.2 118 6 120 rfl) ?_
    refine kr_iconst (v := 0) rd_d_X12_border_16 (by decide) ?_
    refine kr_iald G.1 (n := 277) rd_d_X12_border_17 (hS.1 120 (.inr (.int, 277)) rfl) (hd_in (n := 0) (by decide) (by decide)) ?_
    rw [hd_clamp (n := 0) (by decide)]
    refine kr_icmp_gt (tgt := 67) rd_d_X12_border_18 rfl (fun h1 => ?_) (fun h1 => ?_)
    · refine kr_iload_n 2 rd_d_X12_border_67 rfl ?_
      refine kr_ireturn rd_d_X12_border_68 (ty := .int) rfl rfl ⟨⟨_, rfl, ?_⟩, hS⟩
      rcases hI with ⟨h0, -⟩ | ⟨k2, hk2, -, h4⟩
      · omega
      · have : k2 = pz_W s := by omega
        rw [← this]
        exact h4
    · exact absurd (Int32.lt_iff_toInt_lt.mpr (by omega)) h1
  | succ f ih =>
    intro j w ls fd σ hS hs ew hj hI
    have hW : (σ.2.1 120 0).toInt = (pz_W s : Int) := by rw [hs]; unfold pz_W; omega
    have hjW : j ≤ pz_W s := by omega
    refine kr_iload_n 0 rd_d_X12_border_11 rfl ?_
    refine kr_aload_n 3 rd_d_X12_border_12 rfl ?_
    refine kr_getf G.1 (rd_FL rd_k_X12_border_13).1 rd_d_X12_border_13 (hS.1 118 (.inl 12) rfl) (v := .ref 120) (by unfold am_fa; rw [(rd_FL rd_k_X12_border_13).2]; exact hS.2 118 6 120 rfl) ?_
    refine kr_iconst (v := 0) rd_d_X12_border_16 (by decide) ?_
    refine kr_iald G.1 (n := 277) rd_d_X12_border_17 (hS.1 120 (.inr (.int, 277)) rfl) (hd_in (n := 0) (by decide) (by decide)) ?_
    rw [hd_clamp (n := 0) (by decide)]
    refine kr_icmp_gt (tgt := 67) rd_d_X12_border_18 rfl (fun h21 => ?_) (fun h21 => ?_)
    · refine kr_iload_n 2 rd_d_X12_border_67 rfl ?_
      have := Int32.lt_iff_toInt_lt.mp h21
      omega
    · refine kr_aload_n 3 rd_d_X12_border_21 rfl ?_
      refine kr_iconst (v := 0) rd_d_X12_border_22 (by decide) ?_
      refine kr_iload_n 0 rd_d_X12_border_23 rfl ?_
      refine rd_call G (T2 := tX12_rowGain) rfl rd_d_X12_border_24 rd_k_X12_border_24 rfl (hS.1 118 (.inl 12) rfl) (as := [.int 0, .int w]) (st := []) rfl (Nat.le_of_ble_eq_true rfl) rfl (Nat.le_of_ble_eq_true rfl) (d1 := 9) (by decide) (fun _ h => by obtain ⟨⟨y, h, -⟩, -⟩ := h; cases h) (ax_rgM G b b6 hS hs (F := 0) rfl ew (Nat.zero_le _) hjW (f := 0)) ?_
      intro v1 σ1 ⟨⟨z1, hv1, hz1⟩, hS1, hf1⟩
      cases hv1
      have hs1 : σ1.2.1 120 = s := (funext fun q => hf1 120 q (by decide) (by decide)).trans hs
      rw [pz_mL] at hz1
      refine kr_aload_n 3 rd_d_X12_border_27 rfl ?_
      refine kr_iload_n 0 rd_d_X12_border_28 rfl ?_
      refine kr_aload_n 3 rd_d_X12_border_29 rfl ?_
      refine kr_getf G.1 (rd_FL rd_k_X12_border_30).1 rd_d_X12_border_30 (hS1.1 118 (.inl 12) rfl) (v := .ref 120) (by unfold am_fa; rw [(rd_FL rd_k_X12_border_30).2]; exact hS1.2 118 6 120 rfl) ?_
      refine kr_iconst (v := 0) rd_d_X12_border_33 (by decide) ?_
      refine kr_iald G.1 (n := 277) rd_d_X12_border_34 (hS1.1 120 (.inr (.int, 277)) rfl) (hd_in (n := 0) (by decide) (by decide)) ?_
      rw [hd_clamp (n := 0) (by decide)]
      refine rd_call G (T2 := tX12_rowGain) rfl rd_d_X12_border_35 rd_k_X12_border_35 rfl (hS1.1 118 (.inl 12) rfl) (as := [.int w, .int (σ1.2.1 120 0)]) (st := [.int z1]) rfl (Nat.le_of_ble_eq_true rfl) rfl (Nat.le_of_ble_eq_true rfl) (d1 := 9) (by decide) (fun _ h => by obtain ⟨⟨y, h, -⟩, -⟩ := h; cases h) (ax_rgM G b b6 hS1 hs1 ew (T := pz_W s) (by rw [hs1]; unfold pz_W; omega) hjW (Nat.le_refl _)) ?_
      intro v2 σ2 ⟨⟨z2, hv2, hz2⟩, hS2, hf2⟩
      cases hv2
      have hs2 : σ2.2.1 120 = s := (funext fun q => hf2 120 q (by decide) (by decide)).trans hs1
      rw [pz_mR hjW] at hz2
      have hap : (ax_f_off z1 z2).toInt = (pz_ap s j : Int) := ch_off hz1 hz2
      have I2 := pz_Is hI ew hap
      have hls : ls.toInt = -1 ∨ 0 ≤ ls.toInt := by rcases hI with ⟨-, h, -⟩ | ⟨k2, -, h, -⟩; exact Or.inl h; exact Or.inr (by omega)
      refine rd_callS G (T2 := tX12_off) rfl rd_d_X12_border_38 rd_k_X12_border_38 rfl rfl (as := [.int z1, .int z2]) (st := []) rfl (Nat.le_of_ble_eq_true rfl) rfl (Nat.le_of_ble_eq_true rfl) (d1 := 1) (by decide) (fun _ h => by cases h.1) (ax_off G hS2 z1 z2) ?_
      intro v41 σ41 ⟨hv41, hs41⟩
      cases hv41
      rw [hs41]
      refine kr_istore (lv' := [(4, .int (ax_f_off z1 z2)), (3, .int w), (2, .int ls), (1, .int fd), (0, .ref 118)]) rd_d_X12_border_41 (by decide) rfl ?_
      refine kr_iload_n 2 rd_d_X12_border_43 rfl ?_
      refine kr_if_lt (tgt := 56) rd_d_X12_border_44 rfl (fun h42 => ?_) (fun h42 => ?_)
      · refine kr_iload 0 rd_d_X12_border_56 rfl ?_
        refine kr_istore_n (lv' := [(2, .int (ax_f_off z1 z2)), (4, .int (ax_f_off z1 z2)), (3, .int w), (1, .int fd), (0, .ref 118)]) rd_d_X12_border_58 (by decide) rfl ?_
        refine kr_iload_n 2 rd_d_X12_border_59 rfl ?_
        refine kr_istore_n (lv' := [(1, .int w), (2, .int (ax_f_off z1 z2)), (4, .int (ax_f_off z1 z2)), (3, .int w), (0, .ref 118)]) rd_d_X12_border_60 (by decide) rfl ?_
        refine kr_iinc (v := w + 1) (lv' := [(3, .int (w + 1)), (1, .int w), (2, .int (ax_f_off z1 z2)), (4, .int (ax_f_off z1 z2)), (0, .ref 118)]) 3 rd_d_X12_border_61 rfl rfl (by decide) rfl ?_
        refine kr_goto (tgt := 11) rd_d_X12_border_64 rfl ?_
        refine kr_sub (lv' := [(3, .int (w + 1)), (2, .int (ax_f_off z1 z2)), (1, .int w), (0, .ref 118)]) (by simp) ?_
        exact ih (j + 1) (w + 1) (ax_f_off z1 z2) w σ2 hS2 hs2 (ax_inc ew (by omega)) (by omega) (I2.1 (Or.inl (by have := Int32.lt_iff_toInt_lt.mp h42; omega)))
      · refine kr_iload 0 rd_d_X12_border_47 rfl ?_
        refine kr_iload_n 2 rd_d_X12_border_49 rfl ?_
        refine kr_icmp_lt (tgt := 56) rd_d_X12_border_50 rfl (fun h43 => ?_) (fun h43 => ?_)
        · refine kr_iload 0 rd_d_X12_border_56 rfl ?_
          refine kr_istore_n (lv' := [(2, .int (ax_f_off z1 z2)), (4, .int (ax_f_off z1 z2)), (3, .int w), (1, .int fd), (0, .ref 118)]) rd_d_X12_border_58 (by decide) rfl ?_
          refine kr_iload_n 2 rd_d_X12_border_59 rfl ?_
          refine kr_istore_n (lv' := [(1, .int w), (2, .int (ax_f_off z1 z2)), (4, .int (ax_f_off z1 z2)), (3, .int w), (0, .ref 118)]) rd_d_X12_border_60 (by decide) rfl ?_
          refine kr_iinc (v := w + 1) (lv' := [(3, .int (w + 1)), (1, .int w), (2, .int (ax_f_off z1 z2)), (4, .int (ax_f_off z1 z2)), (0, .ref 118)]) 3 rd_d_X12_border_61 rfl rfl (by decide) rfl ?_
          refine kr_goto (tgt := 11) rd_d_X12_border_64 rfl ?_
          refine kr_sub (lv' := [(3, .int (w + 1)), (2, .int (ax_f_off z1 z2)), (1, .int w), (0, .ref 118)]) (by simp) ?_
          exact ih (j + 1) (w + 1) (ax_f_off z1 z2) w σ2 hS2 hs2 (ax_inc ew (by omega)) (by omega) (I2.1 (Or.inr (Int32.lt_iff_toInt_lt.mp h43)))
        · refine kr_goto (tgt := 61) rd_d_X12_border_53 rfl ?_
          refine kr_iinc (v := w + 1) (lv' := [(3, .int (w + 1)), (4, .int (ax_f_off z1 z2)), (2, .int ls), (1, .int fd), (0, .ref 118)]) 1 rd_d_X12_border_61 rfl rfl (by decide) rfl ?_
          refine kr_goto (tgt := 11) rd_d_X12_border_64 rfl ?_
          refine kr_sub (lv' := [(3, .int (w + 1)), (2, .int ls), (1, .int fd), (0, .ref 118)]) (by simp) ?_
          exact ih (j + 1) (w + 1) ls fd σ2 hS2 hs2 (ax_inc ew (by omega)) (by omega) (I2.2 (fun q => by rcases q with q | q; (· exact h42 (Int32.lt_iff_toInt_lt.mpr (by omega))); (· exact h43 (Int32.lt_iff_toInt_lt.mpr q))))
theorem ax_boM (G : sx_G0 g L xs z9 hd_C ex_mt) {s : Nat → Int32} (b : pn_B s) (b6 : pl_B6 s) {σ : am_S} (hS : ax_S σ) (hs : σ.2.1 120 = s) : am_K g 10 tX12_border.1 0 0 0 (lv_args 0 [.ref 118]) [] σ (fun r σ' => (∃ z : Int32, r = some (some (.int z)) ∧ z.toInt = ((pz_mn (pz_ap s) (pz_W s)).2 : Int)) ∧ ax_S σ') := by
  have hs0 := b.1.1
  refine ax_thr G hS rd_d_X12_border_0 rd_d_X12_border_1 rd_d_X12_border_2 rd_k_X12_border_2 rfl ?_
  intro τ hT hm hm8
  have hsT : τ.2.1 120 = s := (funext fun q => hm 120 q (by decide)).trans hs
  refine kr_iconst (v := 0) rd_d_X12_border_5 (by decide) ?_
  refine kr_istore_n (lv' := [(1, .int 0), (0, .ref 118)]) rd_d_X12_border_6 (by decide) rfl ?_
  refine kr_iconst (v := (-1)) rd_d_X12_border_7 (by decide) ?_
  refine kr_istore_n (lv' := [(2, .int ((-1))), (1, .int 0), (0, .ref 118)]) rd_d_X12_border_8 (by decide) rfl ?_
  refine kr_iconst (v := 0) rd_d_X12_border_9 (by decide) ?_
  refine kr_istore_n (lv' := [(3, .int 0), (2, .int ((-1))), (1, .int 0), (0, .ref 118)]) rd_d_X12_border_10 (by decide) rfl ?_
  exact ax_bML G b b6 (pz_W s + 1) 0 0 (-1) 0 τ hT hsT rfl (by omega) (Or.inl ⟨rfl, rfl, rfl⟩)
end AXX
