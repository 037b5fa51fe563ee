/-! exact answers, further (rows written by a program) -/
theorem rd_d_X4_noteSale_0 : decode tX4_noteSale.1.2.1 0 = .ok (.aload_n 0, 1) := by decide +kernel
theorem rd_d_X4_noteSale_1 : decode tX4_noteSale.1.2.1 1 = .ok (.getfield 31, 3) := by decide +kernel
theorem rd_k_X4_noteSale_1 : ex_lk ex_mt tX4_noteSale 1 (.getfield 31) [4, 7, 2, 131090] = true := by decide +kernel
theorem rd_d_X4_noteSale_4 : decode tX4_noteSale.1.2.1 4 = .ok (.aload_n 0, 1) := by decide +kernel
theorem rd_d_X4_noteSale_5 : decode tX4_noteSale.1.2.1 5 = .ok (.getfield 155, 3) := by decide +kernel
theorem rd_k_X4_noteSale_5 : ex_lk ex_mt tX4_noteSale 5 (.getfield 155) [4, 12, 0, 131096] = true := by decide +kernel
theorem rd_d_X4_noteSale_8 : decode tX4_noteSale.1.2.1 8 = .ok (.iload_n 1, 1) := by decide +kernel
theorem rd_d_X4_noteSale_9 : decode tX4_noteSale.1.2.1 9 = .ok (.invokestatic 82, 3) := by decide +kernel
theorem rd_k_X4_noteSale_9 : ex_lk ex_mt tX4_noteSale 9 (.invokestatic 82) [0, 55, 262327] = true := by decide +kernel
theorem rd_d_X4_noteSale_12 : decode tX4_noteSale.1.2.1 12 = .ok (.aload_n 0, 1) := by decide +kernel
theorem rd_d_X4_noteSale_13 : decode tX4_noteSale.1.2.1 13 = .ok (.getfield 34, 3) := by decide +kernel
theorem rd_k_X4_noteSale_13 : ex_lk ex_mt tX4_noteSale 13 (.getfield 34) [4, 8, 2, 131091] = true := by decide +kernel
theorem rd_d_X4_noteSale_16 : decode tX4_noteSale.1.2.1 16 = .ok (.aload_n 0, 1) := by decide +kernel
theorem rd_d_X4_noteSale_17 : decode tX4_noteSale.1.2.1 17 = .ok (.getfield 155, 3) := by decide +kernel
theorem rd_k_X4_noteSale_17 : ex_lk ex_mt tX4_noteSale 17 (.getfield 155) [4, 12, 0, 131096] = true := by decide +kernel
theorem rd_d_X4_noteSale_20 : decode tX4_noteSale.1.2.1 20 = .ok (.iload_n 2, 1) := by decide +kernel
theorem rd_d_X4_noteSale_21 : decode tX4_noteSale.1.2.1 21 = .ok (.invokestatic 82, 3) := by decide +kernel
theorem rd_k_X4_noteSale_21 : ex_lk ex_mt tX4_noteSale 21 (.invokestatic 82) [0, 55, 262327] = true := by decide +kernel
theorem rd_d_X4_noteSale_24 : decode tX4_noteSale.1.2.1 24 = .ok (.aload_n 0, 1) := by decide +kernel
theorem rd_d_X4_noteSale_25 : decode tX4_noteSale.1.2.1 25 = .ok (.getfield 37, 3) := by decide +kernel
theorem rd_k_X4_noteSale_25 : ex_lk ex_mt tX4_noteSale 25 (.getfield 37) [4, 9, 2, 131092] = true := by decide +kernel
theorem rd_d_X4_noteSale_28 : decode tX4_noteSale.1.2.1 28 = .ok (.aload_n 0, 1) := by decide +kernel
theorem rd_d_X4_noteSale_29 : decode tX4_noteSale.1.2.1 29 = .ok (.getfield 155, 3) := by decide +kernel
theorem rd_k_X4_noteSale_29 : ex_lk ex_mt tX4_noteSale 29 (.getfield 155) [4, 12, 0, 131096] = true := by decide +kernel
theorem rd_d_X4_noteSale_32 : decode tX4_noteSale.1.2.1 32 = .ok (.aload_n 0, 1) := by decide +kernel
theorem rd_d_X4_noteSale_33 : decode tX4_noteSale.1.2.1 33 = .ok (.getfield 46, 3) := by decide +kernel
theorem rd_k_X4_noteSale_33 : ex_lk ex_mt tX4_noteSale 33 (.getfield 46) [4, 0, 2, 131083] = true := by decide +kernel
theorem rd_d_X4_noteSale_36 : decode tX4_noteSale.1.2.1 36 = .ok (.iload_n 1, 1) := by decide +kernel
theorem rd_d_X4_noteSale_37 : decode tX4_noteSale.1.2.1 37 = .ok (.iload_n 2, 1) := by decide +kernel
theorem rd_d_X4_noteSale_38 : decode tX4_noteSale.1.2.1 38 = .ok (.invokevirtual 167, 3) := by decide +kernel
theorem rd_k_X4_noteSale_38 : ex_lk ex_mt tX4_noteSale 38 (.invokevirtual 167) [0, 288, 262377] = true := by decide +kernel
theorem rd_d_X4_noteSale_41 : decode tX4_noteSale.1.2.1 41 = .ok (.invokestatic 82, 3) := by decide +kernel
theorem rd_k_X4_noteSale_41 : ex_lk ex_mt tX4_noteSale 41 (.invokestatic 82) [0, 55, 262327] = true := by decide +kernel
theorem rd_d_X4_noteSale_44 : decode tX4_noteSale.1.2.1 44 = .ok (.aload_n 0, 1) := by decide +kernel
theorem rd_d_X4_noteSale_45 : decode tX4_noteSale.1.2.1 45 = .ok (.aload_n 0, 1) := by decide +kernel
theorem rd_d_X4_noteSale_46 : decode tX4_noteSale.1.2.1 46 = .ok (.getfield 155, 3) := by decide +kernel
theorem rd_k_X4_noteSale_46 : ex_lk ex_mt tX4_noteSale 46 (.getfield 155) [4, 12, 0, 131096] = true := by decide +kernel
theorem rd_d_X4_noteSale_49 : decode tX4_noteSale.1.2.1 49 = .ok (.iconst 1, 1) := by decide +kernel
theorem rd_d_X4_noteSale_50 : decode tX4_noteSale.1.2.1 50 = .ok (.iadd, 1) := by decide +kernel
theorem rd_d_X4_noteSale_51 : decode tX4_noteSale.1.2.1 51 = .ok (.bipush 24, 2) := by decide +kernel
theorem rd_d_X4_noteSale_53 : decode tX4_noteSale.1.2.1 53 = .ok (.invokestatic 66, 3) := by decide +kernel
theorem rd_k_X4_noteSale_53 : ex_lk ex_mt tX4_noteSale 53 (.invokestatic 66) [1, 1, 262322, 0] = true := by decide +kernel
theorem rd_d_X4_noteSale_56 : decode tX4_noteSale.1.2.1 56 = .ok (.putfield 155, 3) := by decide +kernel
theorem rd_k_X4_noteSale_56 : ex_lk ex_mt tX4_noteSale 56 (.putfield 155) [4, 12, 0, 131096] = true := by decide +kernel
theorem rd_d_X4_noteSale_59 : decode tX4_noteSale.1.2.1 59 = .ok (.return_, 1) := by decide +kernel
theorem rd_d_X4_chosenSales_0 : decode tX4_chosenSales.1.2.1 0 = .ok (.aload_n 0, 1) := by decide +kernel
theorem rd_d_X4_chosenSales_1 : decode tX4_chosenSales.1.2.1 1 = .ok (.getfield 146, 3) := by decide +kernel
theorem rd_k_X4_chosenSales_1 : ex_lk ex_mt tX4_chosenSales 1 (.getfield 146) [4, 14, 0, 131100] = true := by decide +kernel
theorem rd_d_X4_chosenSales_4 : decode tX4_chosenSales.1.2.1 4 = .ok (.iload_n 1, 1) := by decide +kernel
theorem rd_d_X4_chosenSales_5 : decode tX4_chosenSales.1.2.1 5 = .ok (.iload_n 2, 1) := by decide +kernel
theorem rd_d_X4_chosenSales_6 : decode tX4_chosenSales.1.2.1 6 = .ok (.invokestatic 116, 3) := by decide +kernel
theorem rd_k_X4_chosenSales_6 : ex_lk ex_mt tX4_chosenSales 6 (.invokestatic 116) [0, 208, 262349] = true := by decide +kernel
theorem rd_d_X4_chosenSales_9 : decode tX4_chosenSales.1.2.1 9 = .ok (.istore 4, 2) := by decide +kernel
theorem rd_d_X4_chosenSales_11 : decode tX4_chosenSales.1.2.1 11 = .ok (.iload_n 2, 1) := by decide +kernel
theorem rd_d_X4_chosenSales_12 : decode tX4_chosenSales.1.2.1 12 = .ok (.aload_n 0, 1) := by decide +kernel
theorem rd_d_X4_chosenSales_13 : decode tX4_chosenSales.1.2.1 13 = .ok (.getfield 72, 3) := by decide +kernel
theorem rd_k_X4_chosenSales_13 : ex_lk ex_mt tX4_chosenSales 13 (.getfield 72) [4, 16, 0, 131103] = true := by decide +kernel
theorem rd_d_X4_chosenSales_16 : decode tX4_chosenSales.1.2.1 16 = .ok (.if_icmp .ge 22, 3) := by decide +kernel
theorem rd_d_X4_chosenSales_19 : decode tX4_chosenSales.1.2.1 19 = .ok (.iload_n 3, 1) := by decide +kernel
theorem rd_d_X4_chosenSales_20 : decode tX4_chosenSales.1.2.1 20 = .ok (.ifCond .lt 18, 3) := by decide +kernel
theorem rd_d_X4_chosenSales_23 : decode tX4_chosenSales.1.2.1 23 = .ok (.iload 4, 2) := by decide +kernel
theorem rd_d_X4_chosenSales_25 : decode tX4_chosenSales.1.2.1 25 = .ok (.ifCond .lt 13, 3) := by decide +kernel
theorem rd_d_X4_chosenSales_28 : decode tX4_chosenSales.1.2.1 28 = .ok (.iload 4, 2) := by decide +kernel
theorem rd_d_X4_chosenSales_30 : decode tX4_chosenSales.1.2.1 30 = .ok (.aload_n 0, 1) := by decide +kernel
theorem rd_d_X4_chosenSales_31 : decode tX4_chosenSales.1.2.1 31 = .ok (.getfield 21, 3) := by decide +kernel
theorem rd_k_X4_chosenSales_31 : ex_lk ex_mt tX4_chosenSales 31 (.getfield 21) [4, 4, 2, 131087] = true := by decide +kernel
theorem rd_d_X4_chosenSales_34 : decode tX4_chosenSales.1.2.1 34 = .ok (.arraylength, 1) := by decide +kernel
theorem rd_d_X4_chosenSales_35 : decode tX4_chosenSales.1.2.1 35 = .ok (.if_icmp .lt 5, 3) := by decide +kernel
theorem rd_d_X4_chosenSales_38 : decode tX4_chosenSales.1.2.1 38 = .ok (.iconst 0, 1) := by decide +kernel
theorem rd_d_X4_chosenSales_39 : decode tX4_chosenSales.1.2.1 39 = .ok (.ireturn, 1) := by decide +kernel
theorem rd_d_X4_chosenSales_40 : decode tX4_chosenSales.1.2.1 40 = .ok (.aload_n 0, 1) := by decide +kernel
theorem rd_d_X4_chosenSales_41 : decode tX4_chosenSales.1.2.1 41 = .ok (.getfield 21, 3) := by decide +kernel
theorem rd_k_X4_chosenSales_41 : ex_lk ex_mt tX4_chosenSales 41 (.getfield 21) [4, 4, 2, 131087] = true := by decide +kernel
theorem rd_d_X4_chosenSales_44 : decode tX4_chosenSales.1.2.1 44 = .ok (.iload 4, 2) := by decide +kernel
theorem rd_d_X4_chosenSales_46 : decode tX4_chosenSales.1.2.1 46 = .ok (.laload, 1) := by decide +kernel
theorem rd_d_X4_chosenSales_47 : decode tX4_chosenSales.1.2.1 47 = .ok (.iconst 2, 1) := by decide +kernel
theorem rd_d_X4_chosenSales_48 : decode tX4_chosenSales.1.2.1 48 = .ok (.iload_n 3, 1) := by decide +kernel
theorem rd_d_X4_chosenSales_49 : decode tX4_chosenSales.1.2.1 49 = .ok (.imul, 1) := by decide +kernel
theorem rd_d_X4_chosenSales_50 : decode tX4_chosenSales.1.2.1 50 = .ok (.lushr, 1) := by decide +kernel
theorem rd_d_X4_chosenSales_51 : decode tX4_chosenSales.1.2.1 51 = .ok (.ldc2_w 165, 3) := by decide +kernel
theorem rd_k_X4_chosenSales_51 : ex_lk ex_mt tX4_chosenSales 51 (.ldc2_w 165) [3, 262372] = true := by decide +kernel
theorem rd_d_X4_chosenSales_54 : decode tX4_chosenSales.1.2.1 54 = .ok (.land, 1) := by decide +kernel
theorem rd_d_X4_chosenSales_55 : decode tX4_chosenSales.1.2.1 55 = .ok (.l2i, 1) := by decide +kernel
theorem rd_d_X4_chosenSales_56 : decode tX4_chosenSales.1.2.1 56 = .ok (.ireturn, 1) := by decide +kernel
theorem rd_d_X4_traceBest_0 : decode tX4_traceBest.1.2.1 0 = .ok (.aload_n 0, 1) := by decide +kernel
theorem rd_d_X4_traceBest_1 : decode tX4_traceBest.1.2.1 1 = .ok (.iconst 0, 1) := by decide +kernel
theorem rd_d_X4_traceBest_2 : decode tX4_traceBest.1.2.1 2 = .ok (.putfield 155, 3) := by decide +kernel
theorem rd_k_X4_traceBest_2 : ex_lk ex_mt tX4_traceBest 2 (.putfield 155) [4, 12, 0, 131096] = true := by decide +kernel
theorem rd_d_X4_traceBest_5 : decode tX4_traceBest.1.2.1 5 = .ok (.aload_n 0, 1) := by decide +kernel
theorem rd_d_X4_traceBest_6 : decode tX4_traceBest.1.2.1 6 = .ok (.getfield 146, 3) := by decide +kernel
theorem rd_k_X4_traceBest_6 : ex_lk ex_mt tX4_traceBest 6 (.getfield 146) [4, 14, 0, 131100] = true := by decide +kernel
theorem rd_d_X4_traceBest_9 : decode tX4_traceBest.1.2.1 9 = .ok (.iconst 1, 1) := by decide +kernel
theorem rd_d_X4_traceBest_10 : decode tX4_traceBest.1.2.1 10 = .ok (.if_icmp .ne 18, 3) := by decide +kernel
theorem rd_d_X4_traceBest_13 : decode tX4_traceBest.1.2.1 13 = .ok (.aload_n 0, 1) := by decide +kernel
theorem rd_d_X4_traceBest_14 : decode tX4_traceBest.1.2.1 14 = .ok (.getfield 46, 3) := by decide +kernel
theorem rd_k_X4_traceBest_14 : ex_lk ex_mt tX4_traceBest 14 (.getfield 46) [4, 0, 2, 131083] = true := by decide +kernel
theorem rd_d_X4_traceBest_17 : decode tX4_traceBest.1.2.1 17 = .ok (.getfield 76, 3) := by decide +kernel
theorem rd_k_X4_traceBest_17 : ex_lk ex_mt tX4_traceBest 17 (.getfield 76) [9, 7, 0, 65657] = true := by decide +kernel
theorem rd_d_X4_traceBest_20 : decode tX4_traceBest.1.2.1 20 = .ok (.aload_n 0, 1) := by decide +kernel
theorem rd_d_X4_traceBest_21 : decode tX4_traceBest.1.2.1 21 = .ok (.getfield 143, 3) := by decide +kernel
theorem rd_k_X4_traceBest_21 : ex_lk ex_mt tX4_traceBest 21 (.getfield 143) [4, 13, 0, 131098] = true := by decide +kernel
theorem rd_d_X4_traceBest_24 : decode tX4_traceBest.1.2.1 24 = .ok (.isub, 1) := by decide +kernel
theorem rd_d_X4_traceBest_25 : decode tX4_traceBest.1.2.1 25 = .ok (.goto 9, 3) := by decide +kernel
theorem rd_d_X4_traceBest_28 : decode tX4_traceBest.1.2.1 28 = .ok (.aload_n 0, 1) := by decide +kernel
theorem rd_d_X4_traceBest_29 : decode tX4_traceBest.1.2.1 29 = .ok (.getfield 143, 3) := by decide +kernel
theorem rd_k_X4_traceBest_29 : ex_lk ex_mt tX4_traceBest 29 (.getfield 143) [4, 13, 0, 131098] = true := by decide +kernel
theorem rd_d_X4_traceBest_32 : decode tX4_traceBest.1.2.1 32 = .ok (.iconst 1, 1) := by decide +kernel
theorem rd_d_X4_traceBest_33 : decode tX4_traceBest.1.2.1 33 = .ok (.iadd, 1) := by decide +kernel
theorem rd_d_X4_traceBest_34 : decode tX4_traceBest.1.2.1 34 = .ok (.istore_n 1, 1) := by decide +kernel
theorem rd_d_X4_traceBest_35 : decode tX4_traceBest.1.2.1 35 = .ok (.aload_n 0, 1) := by decide +kernel
theorem rd_d_X4_traceBest_36 : decode tX4_traceBest.1.2.1 36 = .ok (.getfield 146, 3) := by decide +kernel
theorem rd_k_X4_traceBest_36 : ex_lk ex_mt tX4_traceBest 36 (.getfield 146) [4, 14, 0, 131100] = true := by decide +kernel
theorem rd_d_X4_traceBest_39 : decode tX4_traceBest.1.2.1 39 = .ok (.iconst 1, 1) := by decide +kernel
theorem rd_d_X4_traceBest_40 : decode tX4_traceBest.1.2.1 40 = .ok (.if_icmp .ne 7, 3) := by decide +kernel
theorem rd_d_X4_traceBest_43 : decode tX4_traceBest.1.2.1 43 = .ok (.iconst 1, 1) := by decide +kernel
theorem rd_d_X4_traceBest_44 : decode tX4_traceBest.1.2.1 44 = .ok (.goto 4, 3) := by decide +kernel
theorem rd_d_X4_traceBest_47 : decode tX4_traceBest.1.2.1 47 = .ok (.iconst (-1), 1) := by decide +kernel
theorem rd_d_X4_traceBest_48 : decode tX4_traceBest.1.2.1 48 = .ok (.istore_n 2, 1) := by decide +kernel
theorem rd_d_X4_traceBest_49 : decode tX4_traceBest.1.2.1 49 = .ok (.iconst 0, 1) := by decide +kernel
theorem rd_d_X4_traceBest_50 : decode tX4_traceBest.1.2.1 50 = .ok (.istore_n 3, 1) := by decide +kernel
theorem rd_d_X4_traceBest_51 : decode tX4_traceBest.1.2.1 51 = .ok (.iconst 0, 1) := by decide +kernel
theorem rd_d_X4_traceBest_52 : decode tX4_traceBest.1.2.1 52 = .ok (.istore 4, 2) := by decide +kernel
theorem rd_d_X4_traceBest_54 : decode tX4_traceBest.1.2.1 54 = .ok (.iload 4, 2) := by decide +kernel
theorem rd_d_X4_traceBest_56 : decode tX4_traceBest.1.2.1 56 = .ok (.iload_n 1, 1) := by decide +kernel
theorem rd_d_X4_traceBest_57 : decode tX4_traceBest.1.2.1 57 = .ok (.if_icmp .ge 28, 3) := by decide +kernel
theorem rd_d_X4_traceBest_60 : decode tX4_traceBest.1.2.1 60 = .ok (.iload_n 3, 1) := by decide +kernel
theorem rd_d_X4_traceBest_61 : decode tX4_traceBest.1.2.1 61 = .ok (.aload_n 0, 1) := by decide +kernel
theorem rd_d_X4_traceBest_62 : decode tX4_traceBest.1.2.1 62 = .ok (.getfield 46, 3) := by decide +kernel
theorem rd_k_X4_traceBest_62 : ex_lk ex_mt tX4_traceBest 62 (.getfield 46) [4, 0, 2, 131083] = true := by decide +kernel
theorem rd_d_X4_traceBest_65 : decode tX4_traceBest.1.2.1 65 = .ok (.aload_n 0, 1) := by decide +kernel
theorem rd_d_X4_traceBest_66 : decode tX4_traceBest.1.2.1 66 = .ok (.getfield 143, 3) := by decide +kernel
theorem rd_k_X4_traceBest_66 : ex_lk ex_mt tX4_traceBest 66 (.getfield 143) [4, 13, 0, 131098] = true := by decide +kernel
theorem rd_d_X4_traceBest_69 : decode tX4_traceBest.1.2.1 69 = .ok (.iload 4, 2) := by decide +kernel
theorem rd_d_X4_traceBest_71 : decode tX4_traceBest.1.2.1 71 = .ok (.iload_n 2, 1) := by decide +kernel
theorem rd_d_X4_traceBest_72 : decode tX4_traceBest.1.2.1 72 = .ok (.imul, 1) := by decide +kernel
theorem rd_d_X4_traceBest_73 : decode tX4_traceBest.1.2.1 73 = .ok (.iadd, 1) := by decide +kernel
theorem rd_d_X4_traceBest_74 : decode tX4_traceBest.1.2.1 74 = .ok (.invokevirtual 98, 3) := by decide +kernel
theorem rd_k_X4_traceBest_74 : ex_lk ex_mt tX4_traceBest 74 (.invokevirtual 98) [0, 298, 262337] = true := by decide +kernel
theorem rd_d_X4_traceBest_77 : decode tX4_traceBest.1.2.1 77 = .ok (.iadd, 1) := by decide +kernel
theorem rd_d_X4_traceBest_78 : decode tX4_traceBest.1.2.1 78 = .ok (.istore_n 3, 1) := by decide +kernel
theorem rd_d_X4_traceBest_79 : decode tX4_traceBest.1.2.1 79 = .ok (.iinc 4 1, 3) := by decide +kernel
theorem rd_d_X4_traceBest_82 : decode tX4_traceBest.1.2.1 82 = .ok (.goto (-28), 3) := by decide +kernel
theorem rd_d_X4_traceBest_85 : decode tX4_traceBest.1.2.1 85 = .ok (.iconst 0, 1) := by decide +kernel
theorem rd_d_X4_traceBest_86 : decode tX4_traceBest.1.2.1 86 = .ok (.istore 4, 2) := by decide +kernel
theorem rd_d_X4_traceBest_88 : decode tX4_traceBest.1.2.1 88 = .ok (.aload_n 0, 1) := by decide +kernel
theorem rd_d_X4_traceBest_89 : decode tX4_traceBest.1.2.1 89 = .ok (.getfield 46, 3) := by decide +kernel
theorem rd_k_X4_traceBest_89 : ex_lk ex_mt tX4_traceBest 89 (.getfield 46) [4, 0, 2, 131083] = true := by decide +kernel
theorem rd_d_X4_traceBest_92 : decode tX4_traceBest.1.2.1 92 = .ok (.invokevirtual 149, 3) := by decide +kernel
theorem rd_k_X4_traceBest_92 : ex_lk ex_mt tX4_traceBest 92 (.invokevirtual 149) [0, 286, 262363] = true := by decide +kernel
theorem rd_d_X4_traceBest_95 : decode tX4_traceBest.1.2.1 95 = .ok (.istore 5, 2) := by decide +kernel
theorem rd_d_X4_traceBest_97 : decode tX4_traceBest.1.2.1 97 = .ok (.iconst 0, 1) := by decide +kernel
theorem rd_d_X4_traceBest_98 : decode tX4_traceBest.1.2.1 98 = .ok (.istore 6, 2) := by decide +kernel
theorem rd_d_X4_traceBest_100 : decode tX4_traceBest.1.2.1 100 = .ok (.iload 6, 2) := by decide +kernel
theorem rd_d_X4_traceBest_102 : decode tX4_traceBest.1.2.1 102 = .ok (.iload_n 1, 1) := by decide +kernel
theorem rd_d_X4_traceBest_103 : decode tX4_traceBest.1.2.1 103 = .ok (.if_icmp .ge 105, 3) := by decide +kernel
theorem rd_d_X4_traceBest_106 : decode tX4_traceBest.1.2.1 106 = .ok (.aload_n 0, 1) := by decide +kernel
theorem rd_d_X4_traceBest_107 : decode tX4_traceBest.1.2.1 107 = .ok (.getfield 143, 3) := by decide +kernel
theorem rd_k_X4_traceBest_107 : ex_lk ex_mt tX4_traceBest 107 (.getfield 143) [4, 13, 0, 131098] = true := by decide +kernel
theorem rd_d_X4_traceBest_110 : decode tX4_traceBest.1.2.1 110 = .ok (.iload 6, 2) := by decide +kernel
theorem rd_d_X4_traceBest_112 : decode tX4_traceBest.1.2.1 112 = .ok (.iload_n 2, 1) := by decide +kernel
theorem rd_d_X4_traceBest_113 : decode tX4_traceBest.1.2.1 113 = .ok (.imul, 1) := by decide +kernel
theorem rd_d_X4_traceBest_114 : decode tX4_traceBest.1.2.1 114 = .ok (.iadd, 1) := by decide +kernel
theorem rd_d_X4_traceBest_115 : decode tX4_traceBest.1.2.1 115 = .ok (.istore 7, 2) := by decide +kernel
theorem rd_d_X4_traceBest_117 : decode tX4_traceBest.1.2.1 117 = .ok (.aload_n 0, 1) := by decide +kernel
theorem rd_d_X4_traceBest_118 : decode tX4_traceBest.1.2.1 118 = .ok (.iload 7, 2) := by decide +kernel
theorem rd_d_X4_traceBest_120 : decode tX4_traceBest.1.2.1 120 = .ok (.iload 4, 2) := by decide +kernel
theorem rd_d_X4_traceBest_122 : decode tX4_traceBest.1.2.1 122 = .ok (.iload 5, 2) := by decide +kernel
theorem rd_d_X4_traceBest_124 : decode tX4_traceBest.1.2.1 124 = .ok (.iload_n 3, 1) := by decide +kernel
theorem rd_d_X4_traceBest_125 : decode tX4_traceBest.1.2.1 125 = .ok (.invokestatic 66, 3) := by decide +kernel
theorem rd_k_X4_traceBest_125 : ex_lk ex_mt tX4_traceBest 125 (.invokestatic 66) [1, 1, 262322, 0] = true := by decide +kernel
theorem rd_d_X4_traceBest_128 : decode tX4_traceBest.1.2.1 128 = .ok (.invokevirtual 158, 3) := by decide +kernel
theorem rd_k_X4_traceBest_128 : ex_lk ex_mt tX4_traceBest 128 (.invokevirtual 158) [0, 209, 262368] = true := by decide +kernel
theorem rd_d_X4_traceBest_131 : decode tX4_traceBest.1.2.1 131 = .ok (.istore 8, 2) := by decide +kernel
theorem rd_d_X4_traceBest_133 : decode tX4_traceBest.1.2.1 133 = .ok (.iconst 0, 1) := by decide +kernel
theorem rd_d_X4_traceBest_134 : decode tX4_traceBest.1.2.1 134 = .ok (.istore 9, 2) := by decide +kernel
theorem rd_d_X4_traceBest_136 : decode tX4_traceBest.1.2.1 136 = .ok (.iload 9, 2) := by decide +kernel
theorem rd_d_X4_traceBest_138 : decode tX4_traceBest.1.2.1 138 = .ok (.iload 8, 2) := by decide +kernel
theorem rd_d_X4_traceBest_140 : decode tX4_traceBest.1.2.1 140 = .ok (.if_icmp .ge 31, 3) := by decide +kernel
theorem rd_d_X4_traceBest_143 : decode tX4_traceBest.1.2.1 143 = .ok (.aload_n 0, 1) := by decide +kernel
theorem rd_d_X4_traceBest_144 : decode tX4_traceBest.1.2.1 144 = .ok (.iload 7, 2) := by decide +kernel
theorem rd_d_X4_traceBest_146 : decode tX4_traceBest.1.2.1 146 = .ok (.iload 4, 2) := by decide +kernel
theorem rd_d_X4_traceBest_148 : decode tX4_traceBest.1.2.1 148 = .ok (.invokevirtual 161, 3) := by decide +kernel
theorem rd_k_X4_traceBest_148 : ex_lk ex_mt tX4_traceBest 148 (.invokevirtual 161) [0, 218, 262373] = true := by decide +kernel
theorem rd_d_X4_traceBest_151 : decode tX4_traceBest.1.2.1 151 = .ok (.iload 4, 2) := by decide +kernel
theorem rd_d_X4_traceBest_153 : decode tX4_traceBest.1.2.1 153 = .ok (.aload_n 0, 1) := by decide +kernel
theorem rd_d_X4_traceBest_154 : decode tX4_traceBest.1.2.1 154 = .ok (.getfield 46, 3) := by decide +kernel
theorem rd_k_X4_traceBest_154 : ex_lk ex_mt tX4_traceBest 154 (.getfield 46) [4, 0, 2, 131083] = true := by decide +kernel
theorem rd_d_X4_traceBest_157 : decode tX4_traceBest.1.2.1 157 = .ok (.iload 7, 2) := by decide +kernel
theorem rd_d_X4_traceBest_159 : decode tX4_traceBest.1.2.1 159 = .ok (.invokevirtual 102, 3) := by decide +kernel
theorem rd_k_X4_traceBest_159 : ex_lk ex_mt tX4_traceBest 159 (.invokevirtual 102) [0, 311, 262338] = true := by decide +kernel
theorem rd_d_X4_traceBest_162 : decode tX4_traceBest.1.2.1 162 = .ok (.iadd, 1) := by decide +kernel
theorem rd_d_X4_traceBest_163 : decode tX4_traceBest.1.2.1 163 = .ok (.istore 4, 2) := by decide +kernel
theorem rd_d_X4_traceBest_165 : decode tX4_traceBest.1.2.1 165 = .ok (.iinc 9 1, 3) := by decide +kernel
theorem rd_d_X4_traceBest_168 : decode tX4_traceBest.1.2.1 168 = .ok (.goto (-32), 3) := by decide +kernel
theorem rd_d_X4_traceBest_171 : decode tX4_traceBest.1.2.1 171 = .ok (.iload 5, 2) := by decide +kernel
theorem rd_d_X4_traceBest_173 : decode tX4_traceBest.1.2.1 173 = .ok (.iload 8, 2) := by decide +kernel
theorem rd_d_X4_traceBest_175 : decode tX4_traceBest.1.2.1 175 = .ok (.isub, 1) := by decide +kernel
theorem rd_d_X4_traceBest_176 : decode tX4_traceBest.1.2.1 176 = .ok (.istore 5, 2) := by decide +kernel
theorem rd_d_X4_traceBest_178 : decode tX4_traceBest.1.2.1 178 = .ok (.iload_n 3, 1) := by decide +kernel
theorem rd_d_X4_traceBest_179 : decode tX4_traceBest.1.2.1 179 = .ok (.aload_n 0, 1) := by decide +kernel
theorem rd_d_X4_traceBest_180 : decode tX4_traceBest.1.2.1 180 = .ok (.getfield 46, 3) := by decide +kernel
theorem rd_k_X4_traceBest_180 : ex_lk ex_mt tX4_traceBest 180 (.getfield 46) [4, 0, 2, 131083] = true := by decide +kernel
theorem rd_d_X4_traceBest_183 : decode tX4_traceBest.1.2.1 183 = .ok (.iload 7, 2) := by decide +kernel
theorem rd_d_X4_traceBest_185 : decode tX4_traceBest.1.2.1 185 = .ok (.invokevirtual 98, 3) := by decide +kernel
theorem rd_k_X4_traceBest_185 : ex_lk ex_mt tX4_traceBest 185 (.invokevirtual 98) [0, 298, 262337] = true := by decide +kernel
theorem rd_d_X4_traceBest_188 : decode tX4_traceBest.1.2.1 188 = .ok (.isub, 1) := by decide +kernel
theorem rd_d_X4_traceBest_189 : decode tX4_traceBest.1.2.1 189 = .ok (.istore_n 3, 1) := by decide +kernel
theorem rd_d_X4_traceBest_190 : decode tX4_traceBest.1.2.1 190 = .ok (.iload 4, 2) := by decide +kernel
theorem rd_d_X4_traceBest_192 : decode tX4_traceBest.1.2.1 192 = .ok (.aload_n 0, 1) := by decide +kernel
theorem rd_d_X4_traceBest_193 : decode tX4_traceBest.1.2.1 193 = .ok (.getfield 46, 3) := by decide +kernel
theorem rd_k_X4_traceBest_193 : ex_lk ex_mt tX4_traceBest 193 (.getfield 46) [4, 0, 2, 131083] = true := by decide +kernel
theorem rd_d_X4_traceBest_196 : decode tX4_traceBest.1.2.1 196 = .ok (.invokevirtual 105, 3) := by decide +kernel
theorem rd_k_X4_traceBest_196 : ex_lk ex_mt tX4_traceBest 196 (.invokevirtual 105) [0, 313, 262339] = true := by decide +kernel
theorem rd_d_X4_traceBest_199 : decode tX4_traceBest.1.2.1 199 = .ok (.iadd, 1) := by decide +kernel
theorem rd_d_X4_traceBest_200 : decode tX4_traceBest.1.2.1 200 = .ok (.istore 4, 2) := by decide +kernel
theorem rd_d_X4_traceBest_202 : decode tX4_traceBest.1.2.1 202 = .ok (.iinc 6 1, 3) := by decide +kernel
theorem rd_d_X4_traceBest_205 : decode tX4_traceBest.1.2.1 205 = .ok (.goto (-105), 3) := by decide +kernel
theorem rd_d_X4_traceBest_208 : decode tX4_traceBest.1.2.1 208 = .ok (.return_, 1) := by decide +kernel
section AXX
variable {g : am_C} {L : Nat} {xs : Nat → Int32}
theorem ax_ns (G : sx_G0 g L xs z9 hd_C ex_mt) {s : Nat → Int32} (b : pn_B s) {σ : am_S} (hS : ax_S σ) (hX : pc_X s σ) {w t : Int32} {ww n : Nat} (ew : w.toInt = (ww : Int)) (hW : (ww : Int) < (s 0).toInt) (hn : (σ.2.1 68 12).toInt = (n : Int)) (hn24 : n < 24) : am_K g 5 tX4_noteSale.1 0 0 0 (lv_args 0 [.ref 68, .int w, .int t]) [] σ (fun r σ' => r = some none ∧ ax_S σ' ∧ (σ'.2.1 68 12).toInt = ((n + 1 : Nat) : Int) ∧ σ'.2.1 75 n = w ∧ σ'.2.1 76 n = t ∧ σ'.2.1 77 n = ax_f_bwM s w t ∧ (∀ x y, ¬ (x = 68 ∧ y = 12) → ¬ ((x = 75 ∨ x = 76 ∨ x = 77) ∧ y = n) → σ'.2.1 x y = σ.2.1 x y) ∧ σ'.2.2 = σ.2.2) := by
  have ha : ¬ ax_f_win s w = 0 := ax_winV b.1 ⟨by omega, by omega⟩
  have e24 := pa_min (ch_add hn (y := 1) (b := 1) rfl (by omega)) (y := 24) (b := 24) rfl
  refine kr_aload_n 0 rd_d_X4_noteSale_0 rfl ?_
  refine kr_getf G.1 (rd_FL rd_k_X4_noteSale_1).1 rd_d_X4_noteSale_1 (hS.1 68 (.inl 4) rfl) (v := .ref 75) (by unfold am_fa; rw [(rd_FL rd_k_X4_noteSale_1).2]; exact hS.2 68 7 75 rfl) ?_
  refine kr_aload_n 0 rd_d_X4_noteSale_4 rfl ?_
  refine kr_getf G.1 (rd_FL rd_k_X4_noteSale_5).1 rd_d_X4_noteSale_5 (hS.1 68 (.inl 4) rfl) (v := .int (σ.2.1 68 12)) (by unfold am_fa; rw [(rd_FL rd_k_X4_noteSale_5).2]; rfl) ?_
  refine kr_iload_n 1 rd_d_X4_noteSale_8 rfl ?_
  refine rd_callS G (T2 := tX11_put) rfl rd_d_X4_noteSale_9 rd_k_X4_noteSale_9 rfl rfl (as := [.ref 75, .int (σ.2.1 68 12), .int w]) (st := []) rfl (Nat.le_of_ble_eq_true rfl) rfl (Nat.le_of_ble_eq_true rfl) (d1 := 1) (by decide) (fun _ h => by cases h.1) (ax_putA G hS (n := 24) (hS.1 75 (.inr (.int, 24)) rfl) (by decide) (ix := n) hn (by omega)) ?_
  intro vvτ1 τ1 ⟨hvvτ1, hT1, hw1, hf1, hl1⟩
  cases hvvτ1
  have hsτ1 : τ1.2.1 120 = σ.2.1 120 := (ax_120F hf1 (by decide))
  have hqτ1 : ax_pl τ1.2.1 = ax_pl σ.2.1 := (ax_plF hf1 (by decide))
  have hLτ1 : τ1.2.2 = σ.2.2 := hl1
  refine kr_aload_n 0 rd_d_X4_noteSale_12 rfl ?_
  refine kr_getf G.1 (rd_FL rd_k_X4_noteSale_13).1 rd_d_X4_noteSale_13 (hT1.1 68 (.inl 4) rfl) (v := .ref 76) (by unfold am_fa; rw [(rd_FL rd_k_X4_noteSale_13).2]; exact hT1.2 68 8 76 rfl) ?_
  refine kr_aload_n 0 rd_d_X4_noteSale_16 rfl ?_
  refine kr_getf G.1 (rd_FL rd_k_X4_noteSale_17).1 rd_d_X4_noteSale_17 (hT1.1 68 (.inl 4) rfl) (v := .int (σ.2.1 68 12)) (by unfold am_fa; rw [(rd_FL rd_k_X4_noteSale_17).2]; exact congrArg Value.int (hf1 68 12 (fun q => absurd q.1 (by decide)))) ?_
  refine kr_iload_n 2 rd_d_X4_noteSale_20 rfl ?_
  refine rd_callS G (T2 := tX11_put) rfl rd_d_X4_noteSale_21 rd_k_X4_noteSale_21 rfl rfl (as := [.ref 76, .int (σ.2.1 68 12), .int t]) (st := []) rfl (Nat.le_of_ble_eq_true rfl) rfl (Nat.le_of_ble_eq_true rfl) (d1 := 1) (by decide) (fun _ h => by cases h.1) (ax_putA G hT1 (n := 24) (hT1.1 76 (.inr (.int, 24)) rfl) (by decide) (ix := n) hn (by omega)) ?_
  intro vvτ2 τ2 ⟨hvvτ2, hT2, hw2, hf2, hl2⟩
  cases hvvτ2
  have hsτ2 : τ2.2.1 120 = σ.2.1 120 := (ax_120F hf2 (by decide)).trans hsτ1
  have hqτ2 : ax_pl τ2.2.1 = ax_pl σ.2.1 := (ax_plF hf2 (by decide)).trans hqτ1
  have hLτ2 : τ2.2.2 = σ.2.2 := hl2.trans hLτ1
  refine kr_aload_n 0 rd_d_X4_noteSale_24 rfl ?_
  refine kr_getf G.1 (rd_FL rd_k_X4_noteSale_25).1 rd_d_X4_noteSale_25 (hT2.1 68 (.inl 4) rfl) (v := .ref 77) (by unfold am_fa; rw [(rd_FL rd_k_X4_noteSale_25).2]; exact hT2.2 68 9 77 rfl) ?_
  refine kr_aload_n 0 rd_d_X4_noteSale_28 rfl ?_
  refine kr_getf G.1 (rd_FL rd_k_X4_noteSale_29).1 rd_d_X4_noteSale_29 (hT2.1 68 (.inl 4) rfl) (v := .int (σ.2.1 68 12)) (by unfold am_fa; rw [(rd_FL rd_k_X4_noteSale_29).2]; exact congrArg Value.int ((hf2 68 12 (fun q => absurd q.1 (by decide))).trans (hf1 68 12 (fun q => absurd q.1 (by decide))))) ?_
  refine kr_aload_n 0 rd_d_X4_noteSale_32 rfl ?_
  refine kr_getf G.1 (rd_FL rd_k_X4_noteSale_33).1 rd_d_X4_noteSale_33 (hT2.1 68 (.inl 4) rfl) (v := .ref 4) (by unfold am_fa; rw [(rd_FL rd_k_X4_noteSale_33).2]; exact hT2.2 68 0 4 rfl) ?_
  refine kr_iload_n 1 rd_d_X4_noteSale_36 rfl ?_
  refine kr_iload_n 2 rd_d_X4_noteSale_37 rfl ?_
  have hX2 : pc_X s τ2 := pc_F hX (fun x y q => (hf2 x y (fun z => by omega)).trans (hf1 x y (fun z => by omega)))
  refine rd_call G (T2 := tX9_betterWay) rfl rd_d_X4_noteSale_38 rd_k_X4_noteSale_38 rfl (hT2.1 4 (.inl 9) rfl) (as := [.int w, .int t]) (st := [.int (σ.2.1 68 12), .ref 77]) rfl (Nat.le_of_ble_eq_true rfl) rfl (Nat.le_of_ble_eq_true rfl) (d1 := 4) (by decide) (fun _ h => by cases h.1) (ax_bwX G hT2 w t (pc_B b.1 hX2)) ?_
  intro v9 σ9 ⟨hv9, hs9⟩
  cases hv9
  rw [hs9, bw_eq hX2.1 b.1 ha t]
  refine rd_callS G (T2 := tX11_put) rfl rd_d_X4_noteSale_41 rd_k_X4_noteSale_41 rfl rfl (as := [.ref 77, .int (σ.2.1 68 12), .int (ax_f_bwM s w t)]) (st := []) rfl (Nat.le_of_ble_eq_true rfl) rfl (Nat.le_of_ble_eq_true rfl) (d1 := 1) (by decide) (fun _ h => by cases h.1) (ax_putA G hT2 (n := 24) (hT2.1 77 (.inr (.int, 24)) rfl) (by decide) (ix := n) hn (by omega)) ?_
  intro vvτ3 τ3 ⟨hvvτ3, hT3, hw3, hf3, hl3⟩
  cases hvvτ3
  have hsτ3 : τ3.2.1 120 = σ.2.1 120 := (ax_120F hf3 (by decide)).trans hsτ2
  have hqτ3 : ax_pl τ3.2.1 = ax_pl σ.2.1 := (ax_plF hf3 (by decide)).trans hqτ2
  have hLτ3 : τ3.2.2 = σ.2.2 := hl3.trans hLτ2
  refine kr_aload_n 0 rd_d_X4_noteSale_44 rfl ?_
  refine kr_aload_n 0 rd_d_X4_noteSale_45 rfl ?_
  refine kr_getf G.1 (rd_FL rd_k_X4_noteSale_46).1 rd_d_X4_noteSale_46 (hT3.1 68 (.inl 4) rfl) (v := .int (σ.2.1 68 12)) (by unfold am_fa; rw [(rd_FL rd_k_X4_noteSale_46).2]; exact congrArg Value.int ((hf3 68 12 (fun q => absurd q.1 (by decide))).trans ((hf2 68 12 (fun q => absurd q.1 (by decide))).trans (hf1 68 12 (fun q => absurd q.1 (by decide)))))) ?_
  refine kr_iconst (v := 1) rd_d_X4_noteSale_49 (by decide) ?_
  refine kr_iadd rd_d_X4_noteSale_50 ?_
  refine kr_bipush (v := 24) rd_d_X4_noteSale_51 (by decide) ?_
  refine kr_mmin G.1 (ex_mem_ok (show ex_mem 262322 (Cond.methodLink tX4_noteSale.1.1.cls 66 Lib.Math.min.name) = true from rd_k_X4_noteSale_53)) rd_d_X4_noteSale_53 (by decide) (Nat.le_of_ble_eq_true rfl) ?_
  show am_K g 5 tX4_noteSale.1 0 0 56 [(0, .ref 68), (1, .int w), (2, .int t)] [.int (ax_f_min ((σ.2.1 68 12) + 1) 24), .ref 68] τ3 _
  refine ax_putWL G hT3 rd_d_X4_noteSale_56 rd_k_X4_noteSale_56 (hT3.1 68 (.inl 4) rfl) rfl rfl rfl ?_
  intro τ4 hT4 hw4 hf4 hl4
  have hsτ4 : τ4.2.1 120 = σ.2.1 120 := (ax_120F hf4 (by decide)).trans hsτ3
  have hqτ4 : ax_pl τ4.2.1 = ax_pl σ.2.1 := (ax_plF hf4 (by decide)).trans hqτ3
  have hLτ4 : τ4.2.2 = σ.2.2 := hl4.trans hLτ3
  refine kr_return rd_d_X4_noteSale_59 rfl ⟨rfl, hT4, ?_, (hf4 75 n (fun q => absurd q.1 (by decide))).trans ((hf3 75 n (fun q => absurd q.1 (by decide))).trans ((hf2 75 n (fun q => absurd q.1 (by decide))).trans (hw1))), (hf4 76 n (fun q => absurd q.1 (by decide))).trans ((hf3 76 n (fun q => absurd q.1 (by decide))).trans (hw2)), (hf4 77 n (fun q => absurd q.1 (by decide))).trans (hw3), fun x y h1 h2 => (hf4 x y (fun q => h1 ⟨q.1, q.2⟩)).trans ((hf3 x y (fun q => h2 ⟨Or.inr (Or.inr q.1), q.2⟩)).trans ((hf2 x y (fun q => h2 ⟨Or.inr (Or.inl q.1), q.2⟩)).trans (hf1 x y (fun q => h2 ⟨Or.inl q.1, q.2⟩)))), hLτ4⟩
  rw [show τ4.2.1 68 12 = ax_f_min (σ.2.1 68 12 + 1) 24 from hw4, e24, Nat.min_eq_left (by omega)]
theorem ax_csX (G : sx_G0 g L xs z9 hd_C ex_mt) {s : Nat → Int32} {σ : am_S} (hS : ax_S σ) {w t f : Int32} {U ww T F H R : Nat} {ws : List Nat} (eu : (σ.2.1 68 14).toInt = (U : Int)) (hU : U ≤ 1) (ew : w.toInt = (ww : Int)) (hw : ww < 10) (et : t.toInt = (T : Int)) (ef : f.toInt = (F : Int)) (eh : (σ.2.1 68 16).toInt = (H : Int)) (hH : H ≤ 60) (hF : F ≤ R) (hR : R ≤ 24) (hc : T < H → pc_h s ws T (R + 1) (σ.2.2.1 72 ((U * 10 + ww) * 60 + T))) (hz : H ≤ T → (pn_v s ws T F).2 = 0) : am_K g 2 tX4_chosenSales.1 0 0 0 (lv_args 0 [.ref 68, .int w, .int t, .int f]) [] σ (fun r σ' => (∃ z : Int32, r = some (some (.int z)) ∧ z.toInt = ((pn_v s ws T F).2 : Int)) ∧ σ' = σ) := by
  have z0 : (0 : Int32).toInt = 0 := rfl
  have zn : (nI 1200).toInt = (1200 : Int) := Int32.toInt_ofNat_of_lt (by decide)
  refine kr_aload_n 0 rd_d_X4_chosenSales_0 rfl ?_
  refine kr_getf G.1 (rd_FL rd_k_X4_chosenSales_1).1 rd_d_X4_chosenSales_1 (hS.1 68 (.inl 4) rfl) (v := .int (σ.2.1 68 14)) (by unfold am_fa; rw [(rd_FL rd_k_X4_chosenSales_1).2]; rfl) ?_
  refine kr_iload_n 1 rd_d_X4_chosenSales_4 rfl ?_
  refine kr_iload_n 2 rd_d_X4_chosenSales_5 rfl ?_
  refine rd_callS G (T2 := tX4_choiceIndex) rfl rd_d_X4_chosenSales_6 rd_k_X4_chosenSales_6 rfl rfl (as := [.int (σ.2.1 68 14), .int w, .int t]) (st := []) rfl (Nat.le_of_ble_eq_true rfl) rfl (Nat.le_of_ble_eq_true rfl) (d1 := 1) (by decide) (fun _ h => by cases h.1) (ax_chi G hS (σ.2.1 68 14) w t) ?_
  intro v1 σ1 ⟨hv1, hs1⟩
  cases hv1
  rw [hs1]
  refine kr_istore (lv' := [(4, .int (ax_f_chi (σ.2.1 68 14) w t)), (0, .ref 68), (1, .int w), (2, .int t), (3, .int f)]) rd_d_X4_chosenSales_9 (by decide) rfl ?_
  refine kr_iload_n 3 rd_d_X4_chosenSales_11 rfl ?_
  refine kr_aload_n 1 rd_d_X4_chosenSales_12 rfl ?_
  refine kr_getf G.1 (rd_FL rd_k_X4_chosenSales_13).1 rd_d_X4_chosenSales_13 (hS.1 68 (.inl 4) rfl) (v := .int (σ.2.1 68 16)) (by unfold am_fa; rw [(rd_FL rd_k_X4_chosenSales_13).2]; rfl) ?_
  refine kr_icmp_ge (tgt := 38) rd_d_X4_chosenSales_16 rfl (fun h2 => ?_) (fun h2 => ?_)
  · refine kr_iconst (v := 0) rd_d_X4_chosenSales_38 (by decide) ?_
    exact kr_ireturn rd_d_X4_chosenSales_39 (ty := .int) rfl rfl ⟨⟨_, rfl, by rw [hz (by have := Int32.le_iff_toInt_le.mp h2; omega)]; rfl⟩, rfl⟩
  · have hTH : T < H := by have : ¬ (σ.2.1 68 16).toInt ≤ t.toInt := fun q => h2 (Int32.le_iff_toInt_le.mpr q); omega
    have eci := pa_chi eu ew et hU hw (by omega)
    refine kr_iload_n 4 rd_d_X4_chosenSales_19 rfl ?_
    refine kr_if_lt (tgt := 38) rd_d_X4_chosenSales_20 rfl (fun h21 => ?_) (fun h21 => ?_)
    · refine kr_iconst (v := 0) rd_d_X4_chosenSales_38 (by decide) ?_
      have q := Int32.lt_iff_toInt_lt.mp h21
      omega
    · refine kr_iload 0 rd_d_X4_chosenSales_23 rfl ?_
      refine kr_if_lt (tgt := 38) rd_d_X4_chosenSales_25 rfl (fun h22 => ?_) (fun h22 => ?_)
      · refine kr_iconst (v := 0) rd_d_X4_chosenSales_38 (by decide) ?_
        have q := Int32.lt_iff_toInt_lt.mp h22
        omega
      · refine kr_iload 0 rd_d_X4_chosenSales_28 rfl ?_
        refine kr_aload_n 1 rd_d_X4_chosenSales_30 rfl ?_
        refine kr_getf G.1 (rd_FL rd_k_X4_chosenSales_31).1 rd_d_X4_chosenSales_31 (hS.1 68 (.inl 4) rfl) (v := .ref 72) (by unfold am_fa; rw [(rd_FL rd_k_X4_chosenSales_31).2]; exact hS.2 68 4 72 rfl) ?_
        refine kr_alenJ G.1 (n := 1200) rd_d_X4_chosenSales_34 (hS.1 72 (.inr (.long, 1200)) rfl) ?_
        refine kr_icmp_lt (tgt := 40) rd_d_X4_chosenSales_35 rfl (fun h23 => ?_) (fun h23 => ?_)
        · refine kr_aload_n 1 rd_d_X4_chosenSales_40 rfl ?_
          refine kr_getf G.1 (rd_FL rd_k_X4_chosenSales_41).1 rd_d_X4_chosenSales_41 (hS.1 68 (.inl 4) rfl) (v := .ref 72) (by unfold am_fa; rw [(rd_FL rd_k_X4_chosenSales_41).2]; exact hS.2 68 4 72 rfl) ?_
          refine kr_iload 0 rd_d_X4_chosenSales_44 rfl ?_
          refine kr_lald G.1 (n := 1200) rd_d_X4_chosenSales_46 (hS.1 72 (.inr (.long, 1200)) rfl) (hd_in (n := (U * 10 + ww) * 60 + T) eci (by omega)) ?_
          rw [hd_clamp (n := (U * 10 + ww) * 60 + T) eci]
          refine kr_iconst (v := 2) rd_d_X4_chosenSales_47 (by decide) ?_
          refine kr_iload_n 4 rd_d_X4_chosenSales_48 rfl ?_
          refine kr_imul rd_d_X4_chosenSales_49 ?_
          refine kr_lushr rd_d_X4_chosenSales_50 ?_
          refine kr_ldc2 G.1 (v := 3) rd_d_X4_chosenSales_51 (rd_c2 rd_k_X4_chosenSales_51) ?_
          refine kr_land rd_d_X4_chosenSales_54 ?_
          refine kr_l2i rd_d_X4_chosenSales_55 ?_
          exact kr_ireturn rd_d_X4_chosenSales_56 (ty := .int) rfl rfl ⟨⟨_, rfl, pc_rd (hc hTH) (by omega) (by omega) ef⟩, rfl⟩
        · refine kr_iconst (v := 0) rd_d_X4_chosenSales_38 (by decide) ?_
          exact absurd (Int32.lt_iff_toInt_lt.mpr (by omega)) h23
theorem rep_len (w t tk : Nat) : ∀ n, (pz_rep w t tk n).length = n := by
  intro n
  induction n with
  | zero => rfl
  | succ n ih =>
    show (pz_rep w t tk n ++ [(w, t + n * tk)]).length = n + 1
    rw [List.length_append, ih]
    rfl
theorem br_n10 {s : Nat → Int32} (b : pn_B s) {U A : Nat} (hA : A ≤ 9) : br_n s U A ≤ 10 := by
  have := b.1.1
  unfold br_n pz_W
  split <;> omega
theorem br_A {s : Nat → Int32} {U A k : Nat} (h : U = 1 ∨ A < pz_W s) (hk : k < br_n s U A) : A < pz_W s ∧ (¬ U = 1 → k ≤ A) := by
  unfold br_n at hk
  split at hk
  · rename_i e
    exact ⟨by omega, fun n => absurd e n⟩
  · rename_i e
    refine ⟨?_, fun _ => by omega⟩
    rcases h with h | h
    · exact absurd h e
    · exact h
theorem ax_tbW (G : sx_G0 g L xs z9 hd_C ex_mt) {s : Nat → Int32} (b : pn_B s) (b6 : pl_B6 s) {U A : Nat} {al st : Int32} (hU : U ≤ 1) (hA9 : A ≤ 9) (hA : U = 1 ∨ A < pz_W s) (eal : al.toInt = (br_n s U A : Int)) (est : st.toInt = (if U = 1 then 1 else -1)) {σ : am_S} (hS : ax_S σ) (hX : pc_X s σ) (ea : (σ.2.1 68 13).toInt = (A : Int)) {post : Option (Option Value) → am_S → Prop} (kk : ∀ i2 wt2 : Int32, wt2.toInt = (pv_U (pn_of s) (br s U A 0) : Int) → wt2.toInt ≤ 30 → am_K g 6 tX4_traceBest.1 0 0 85 [(4, .int i2), (3, .int wt2), (2, .int st), (1, .int al), (0, .ref 68)] [] σ post) : ∀ (n K : Nat) (i wt : Int32), i.toInt = (K : Int) → K + n = br_n s U A → wt.toInt + (pv_U (pn_of s) (br s U A K) : Int) = (pv_U (pn_of s) (br s U A 0) : Int) → 0 ≤ wt.toInt → wt.toInt ≤ 3 * (K : Int) → am_K g 6 tX4_traceBest.1 0 0 54 [(4, .int i), (3, .int wt), (2, .int st), (1, .int al), (0, .ref 68)] [] σ post := by
  have hn10 := br_n10 (U := U) b hA9
  intro n
  induction n with
  | zero =>
    intro K i wt ei hn hw h0 h3
    refine kr_iload 0 rd_d_X4_traceBest_54 rfl ?_
    refine kr_iload_n 3 rd_d_X4_traceBest_56 rfl ?_
    refine kr_icmp_ge (tgt := 85) rd_d_X4_traceBest_57 rfl (fun h1 => ?_) (fun h1 => ?_)
    · have e : K = br_n s U A := by omega
      rw [br_end e] at hw
      have hw2 : wt.toInt + 0 = (pv_U (pn_of s) (br s U A 0) : Int) := hw
      exact kk i wt (by omega) (by omega)
    · exact absurd (Int32.le_iff_toInt_le.mpr (by omega)) h1
  | succ n ih =>
    intro K i wt ei hn hw h0 h3
    obtain ⟨hAW, hKA⟩ := br_A (k := K) hA (by omega)
    obtain ⟨r1, r2, r3⟩ := br_S (s := s) (U := U) (k := K) hAW (by omega)
    have eix := br_ix hU ea est ei (by omega) (by omega) hKA
    have hWs : ((br_w U A K : Nat) : Int) < (s 0).toInt := by unfold pz_W at r3; omega
    obtain ⟨q1, -, -, q4⟩ := pa_row hX.1 b eix hWs
    have ql := (pn_lim b q4).1
    have eU : pv_U (pn_of s) (br s U A K) = pn_of s (br_w U A K) + pv_U (pn_of s) (br s U A (K + 1)) := by rw [r1]; rfl
    have ewt : wt.toInt = ((wt.toInt.toNat : Nat) : Int) := by omega
    have es := ch_add ewt q1 (by omega)
    refine kr_iload 0 rd_d_X4_traceBest_54 rfl ?_
    refine kr_iload_n 3 rd_d_X4_traceBest_56 rfl ?_
    refine kr_icmp_ge (tgt := 85) rd_d_X4_traceBest_57 rfl (fun h21 => ?_) (fun h21 => ?_)
    · have := Int32.le_iff_toInt_le.mp h21
      omega
    · refine kr_iload_n 1 rd_d_X4_traceBest_60 rfl ?_
      refine kr_aload_n 4 rd_d_X4_traceBest_61 rfl ?_
      refine kr_getf G.1 (rd_FL rd_k_X4_traceBest_62).1 rd_d_X4_traceBest_62 (hS.1 68 (.inl 4) rfl) (v := .ref 4) (by unfold am_fa; rw [(rd_FL rd_k_X4_traceBest_62).2]; exact hS.2 68 0 4 rfl) ?_
      refine kr_aload_n 4 rd_d_X4_traceBest_65 rfl ?_
      refine kr_getf G.1 (rd_FL rd_k_X4_traceBest_66).1 rd_d_X4_traceBest_66 (hS.1 68 (.inl 4) rfl) (v := .int (σ.2.1 68 13)) (by unfold am_fa; rw [(rd_FL rd_k_X4_traceBest_66).2]; rfl) ?_
      refine kr_iload 0 rd_d_X4_traceBest_69 rfl ?_
      refine kr_iload_n 2 rd_d_X4_traceBest_71 rfl ?_
      refine kr_imul rd_d_X4_traceBest_72 ?_
      refine kr_iadd rd_d_X4_traceBest_73 ?_
      refine rd_call G (T2 := tX9_oftenOf) rfl rd_d_X4_traceBest_74 rd_k_X4_traceBest_74 rfl (hS.1 4 (.inl 9) rfl) (as := [.int ((σ.2.1 68 13) + (i * st))]) (st := [.int wt]) rfl (Nat.le_of_ble_eq_true rfl) rfl (Nat.le_of_ble_eq_true rfl) (d1 := 2) (by decide) (fun _ h => by cases h.1) (ax_oft G hS ((σ.2.1 68 13) + (i * st))) ?_
      intro v22 σ22 ⟨hv22, hs22⟩
      cases hv22
      rw [hs22]
      refine kr_iadd rd_d_X4_traceBest_77 ?_
      refine kr_istore_n (lv' := [(3, .int (wt + (ax_f_oft σ.2.1 ((σ.2.1 68 13) + (i * st))))), (4, .int i), (2, .int st), (1, .int al), (0, .ref 68)]) rd_d_X4_traceBest_78 (by decide) rfl ?_
      refine kr_iinc (v := i + 1) (lv' := [(4, .int (i + 1)), (3, .int (wt + (ax_f_oft σ.2.1 ((σ.2.1 68 13) + (i * st))))), (2, .int st), (1, .int al), (0, .ref 68)]) 1 rd_d_X4_traceBest_79 rfl rfl (by decide) rfl ?_
      refine kr_goto (tgt := 54) rd_d_X4_traceBest_82 rfl ?_
      refine kr_sub (lv' := [(4, .int (i + 1)), (3, .int (wt + (ax_f_oft σ.2.1 ((σ.2.1 68 13) + (i * st))))), (2, .int st), (1, .int al), (0, .ref 68)]) (by simp) ?_
      exact ih (K + 1) (i + 1) (wt + (ax_f_oft σ.2.1 ((σ.2.1 68 13) + (i * st)))) (ax_inc ei (by omega)) (by omega) (by omega) (by omega) (by omega)
theorem ax_tbS (G : sx_G0 g L xs z9 hd_C ex_mt) {s : Nat → Int32} (b : pn_B s) {w mn k f wt st al : Int32} {ww N T : Nat} {l : List (Nat × Nat)} (ew : w.toInt = (ww : Int)) (hW : (ww : Int) < (s 0).toInt) (emn : mn.toInt = (N : Int)) (hN3 : N ≤ 3) (hT : T ≤ 1000) (hl : l.length + N ≤ 24) {post : Option (Option Value) → am_S → Prop} : ∀ (n j : Nat) (q t : Int32) (σ : am_S), ax_S σ → pc_X s σ → q.toInt = (j : Int) → j + n = N → t.toInt = ((T + j * pn_tk s ww : Nat) : Int) → pb_L s (l ++ pz_rep ww T (pn_tk s ww) j) σ.2.1 → (∀ (σ' : am_S) (q2 t2 : Int32), ax_S σ' → (∀ x y, ¬ (x = 68 ∧ y = 12) → x ≠ 75 → x ≠ 76 → x ≠ 77 → σ'.2.1 x y = σ.2.1 x y) → σ'.2.2 = σ.2.2 → t2.toInt = ((T + N * pn_tk s ww : Nat) : Int) → pb_L s (l ++ pz_rep ww T (pn_tk s ww) N) σ'.2.1 → am_K g 6 tX4_traceBest.1 0 0 171 [(9, .int q2), (8, .int mn), (7, .int w), (6, .int k), (5, .int f), (4, .int t2), (3, .int wt), (2, .int st), (1, .int al), (0, .ref 68)] [] σ' post) → am_K g 6 tX4_traceBest.1 0 0 136 [(9, .int q), (8, .int mn), (7, .int w), (6, .int k), (5, .int f), (4, .int t), (3, .int wt), (2, .int st), (1, .int al), (0, .ref 68)] [] σ post := by
  intro n
  induction n with
  | zero =>
    intro j q t σ hS hX eq hn et hL kk
    refine kr_iload 0 rd_d_X4_traceBest_136 rfl ?_
    refine kr_iload 1 rd_d_X4_traceBest_138 rfl ?_
    refine kr_icmp_ge (tgt := 171) rd_d_X4_traceBest_140 rfl (fun h1 => ?_) (fun h1 => ?_)
    · have e : j = N := by omega
      subst e
      exact kk σ q t hS (fun _ _ _ _ _ _ => rfl) rfl et hL
    · exact absurd (Int32.le_iff_toInt_le.mpr (by omega)) h1
  | succ n ih =>
    intro j q t σ hS hX eq hn et hL kk
    have hlen : (l ++ pz_rep ww T (pn_tk s ww) j).length = l.length + j := by rw [List.length_append, rep_len]
    have hn12 := hL.1
    rw [hlen] at hn12
    obtain ⟨-, r2, -, h10⟩ := pa_row hX.1 b ew hW
    have tk9 := (pn_lim b h10).2.1
    have hjk : j * pn_tk s ww ≤ 3 * 9 := Nat.mul_le_mul (by omega) tk9
    refine kr_iload 0 rd_d_X4_traceBest_136 rfl ?_
    refine kr_iload 1 rd_d_X4_traceBest_138 rfl ?_
    refine kr_icmp_ge (tgt := 171) rd_d_X4_traceBest_140 rfl (fun h21 => ?_) (fun h21 => ?_)
    · have := Int32.le_iff_toInt_le.mp h21
      omega
    · refine kr_aload_n 9 rd_d_X4_traceBest_143 rfl ?_
      refine kr_iload 2 rd_d_X4_traceBest_144 rfl ?_
      refine kr_iload 5 rd_d_X4_traceBest_146 rfl ?_
      refine rd_call G (T2 := tX4_noteSale) rfl rd_d_X4_traceBest_148 rd_k_X4_traceBest_148 rfl (hS.1 68 (.inl 4) rfl) (as := [.int w, .int t]) (st := []) rfl (Nat.le_of_ble_eq_true rfl) rfl (Nat.le_of_ble_eq_true rfl) (d1 := 5) (by decide) (fun _ h => by cases h.1) (ax_ns G b hS hX ew hW hn12 (by omega)) ?_
      intro v1 σ1 ⟨hv1, hS1, h12, h5, h6, h7, hf1, hl1⟩
      cases hv1
      have hX1 : pc_X s σ1 := pc_F hX (fun x y q => hf1 x y (fun z => by omega) (fun z => by omega))
      obtain ⟨-, r2b, -, -⟩ := pa_row hX1.1 b ew hW
      refine kr_iload 5 rd_d_X4_traceBest_151 rfl ?_
      refine kr_aload_n 9 rd_d_X4_traceBest_153 rfl ?_
      refine kr_getf G.1 (rd_FL rd_k_X4_traceBest_154).1 rd_d_X4_traceBest_154 (hS1.1 68 (.inl 4) rfl) (v := .ref 4) (by unfold am_fa; rw [(rd_FL rd_k_X4_traceBest_154).2]; exact hS1.2 68 0 4 rfl) ?_
      refine kr_iload 2 rd_d_X4_traceBest_157 rfl ?_
      refine rd_call G (T2 := tX9_takesOf) rfl rd_d_X4_traceBest_159 rd_k_X4_traceBest_159 rfl (hS1.1 4 (.inl 9) rfl) (as := [.int w]) (st := [.int t]) rfl (Nat.le_of_ble_eq_true rfl) rfl (Nat.le_of_ble_eq_true rfl) (d1 := 2) (by decide) (fun _ h => by cases h.1) (ax_tak G hS1 w) ?_
      intro v41 σ41 ⟨hv41, hs41⟩
      cases hv41
      rw [hs41]
      refine kr_iadd rd_d_X4_traceBest_162 ?_
      refine kr_istore (lv' := [(4, .int (t + (ax_f_tak σ1.2.1 w))), (9, .int q), (8, .int mn), (7, .int w), (6, .int k), (5, .int f), (3, .int wt), (2, .int st), (1, .int al), (0, .ref 68)]) rd_d_X4_traceBest_163 (by decide) rfl ?_
      refine kr_iinc (v := q + 1) (lv' := [(9, .int (q + 1)), (4, .int (t + (ax_f_tak σ1.2.1 w))), (8, .int mn), (7, .int w), (6, .int k), (5, .int f), (3, .int wt), (2, .int st), (1, .int al), (0, .ref 68)]) 1 rd_d_X4_traceBest_165 rfl rfl (by decide) rfl ?_
      refine kr_goto (tgt := 136) rd_d_X4_traceBest_168 rfl ?_
      refine kr_sub (lv' := [(9, .int (q + 1)), (8, .int mn), (7, .int w), (6, .int k), (5, .int f), (4, .int (t + (ax_f_tak σ1.2.1 w))), (3, .int wt), (2, .int st), (1, .int al), (0, .ref 68)]) (by simp) ?_
      have et2 : (t + (ax_f_tak σ1.2.1 w)).toInt = ((T + (j + 1) * pn_tk s ww : Nat) : Int) := by have e := ch_add et r2b (by omega); rw [e, Nat.succ_mul]; congr 1; omega
      have hL1 : pb_L s (l ++ pz_rep ww T (pn_tk s ww) (j + 1)) σ1.2.1 := by
        show pb_L s (l ++ (pz_rep ww T (pn_tk s ww) j ++ [(ww, T + j * pn_tk s ww)])) σ1.2.1
        rw [← List.append_assoc]
        refine pb_L1 hL (by rw [hlen]; exact h12) (by rw [hlen, h5]; exact ew) (by rw [hlen, h6]; exact et) (by rw [hlen, h7, ← ch_ofN ew, ← ch_ofN et]) (fun x i hx hi => hf1 x i (fun z => by omega) (fun z => by rw [hlen] at hi; have := z.2; omega))
      exact ih (j + 1) (q + 1) (t + (ax_f_tak σ1.2.1 w)) σ1 hS1 hX1 (ax_inc eq (by omega)) (by omega) et2 hL1 (fun σ' q2 t2 a1 a2 a3 a4 a5 => kk σ' q2 t2 a1 (fun x y x0 x5 x6 x7 => (a2 x y x0 x5 x6 x7).trans (hf1 x y x0 (fun z => by omega))) (a3.trans hl1) a4 a5)
theorem ax_tbM (G : sx_G0 g L xs z9 hd_C ex_mt) {s : Nat → Int32} (b : pn_B s) (b6 : pl_B6 s) {U A : Nat} {al st : Int32} (hU : U ≤ 1) (hA9 : A ≤ 9) (hA : U = 1 ∨ A < pz_W s) (eal : al.toInt = (br_n s U A : Int)) (est : st.toInt = (if U = 1 then 1 else -1)) {H : Nat} (hH : H ≤ 60) {l0 : Nat → Nat → Int64} (hc : ∀ K T : Nat, K < br_n s U A → T < H → pc_h s (br s U A K) T (min 24 (pv_U (pn_of s) (br s U A K)) + 1) (l0 72 ((U * 10 + br_w U A K) * 60 + T))) (hz : ∀ v x : Nat, (v : Int) < (s 0).toInt → H ≤ x → pn_g s v x = 0) {post : Option (Option Value) → am_S → Prop} : ∀ (n K : Nat) (k f t wt : Int32) (σ : am_S) (l : List (Nat × Nat)) (T F : Nat), ax_S σ → pc_X s σ → (σ.2.1 68 13).toInt = (A : Int) → (σ.2.1 68 14).toInt = (U : Int) → (σ.2.1 68 16).toInt = (H : Int) → σ.2.2.1 = l0 → pb_L s l σ.2.1 → k.toInt = (K : Int) → K + n = br_n s U A → f.toInt = (F : Int) → t.toInt = (T : Int) → wt.toInt = (pv_U (pn_of s) (br s U A K) : Int) → wt.toInt ≤ 30 → l.length + F ≤ 24 → T ≤ 9 * l.length + 5 * K → (∀ σ' : am_S, ax_S σ' → (∀ x y, ¬ (x = 68 ∧ y = 12) → x ≠ 75 → x ≠ 76 → x ≠ 77 → σ'.2.1 x y = σ.2.1 x y) → σ'.2.2 = σ.2.2 → pb_L s (l ++ pz_tr s (br s U A K) T F) σ'.2.1 → post (some none) σ') → am_K g 6 tX4_traceBest.1 0 0 100 [(6, .int k), (5, .int f), (4, .int t), (3, .int wt), (2, .int st), (1, .int al), (0, .ref 68)] [] σ post := by
  have hn10 := br_n10 (U := U) b hA9
  intro n
  induction n with
  | zero =>
    intro K k f t wt σ l T F hS hX ea eu eh hl0 hL ek hn ef et ew hw30 hlF hT kk
    refine kr_iload 0 rd_d_X4_traceBest_100 rfl ?_
    refine kr_iload_n 5 rd_d_X4_traceBest_102 rfl ?_
    refine kr_icmp_ge (tgt := 208) rd_d_X4_traceBest_103 rfl (fun h1 => ?_) (fun h1 => ?_)
    · refine kr_return rd_d_X4_traceBest_208 rfl (kk σ hS (fun _ _ _ _ _ _ => rfl) rfl ?_)
      rw [br_end (by omega : K = br_n s U A)]
      show pb_L s (l ++ []) σ.2.1
      rw [List.append_nil]
      exact hL
    · exact absurd (Int32.le_iff_toInt_le.mpr (by omega)) h1
  | succ n ih =>
    intro K k f t wt σ l T F hS hX ea eu eh hl0 hL ek hn ef et ew hw30 hlF hT kk
    obtain ⟨hAW, hKA⟩ := br_A (k := K) hA (by omega)
    obtain ⟨r1, r2, r3⟩ := br_S (s := s) (U := U) (k := K) hAW (by omega)
    have eix := br_ix hU ea est ek (by omega) (by omega) hKA
    have hWs : ((br_w U A K : Nat) : Int) < (s 0).toInt := by unfold pz_W at r3; omega
    obtain ⟨q1, q2, q3, q4⟩ := pa_row hX.1 b eix hWs
    have ql := pn_lim b q4
    have eU : pv_U (pn_of s) (br s U A K) = pn_of s (br_w U A K) + pv_U (pn_of s) (br s U A (K + 1)) := by rw [r1]; rfl
    have emin := pa_min ef ew
    have hvw : ∀ v ∈ br s U A K, (v : Int) < (s 0).toInt := by
      rw [r2]
      intro v hv
      unfold pz_row at hv
      unfold pz_W at r3
      split at hv
      · have := pl_up_m _ _ hv; omega
      · have := pl_dn_m _ _ hv; omega
    have hpm : pn_v s (br s U A K) T (min F (pv_U (pn_of s) (br s U A K))) = pn_v s (br s U A K) T F := by
      have e := pn_min (s := s) (ws := br s U A K) (mf := 24) rfl (t := T) (f := F) (by omega)
      rw [← e]
      congr 1
      omega
    have hzz : H ≤ T → (pn_v s (br s U A K) T (min F (pv_U (pn_of s) (br s U A K)))).2 = 0 := fun h => by
      have e : pn_v s (br s U A K) T (min F (pv_U (pn_of s) (br s U A K))) = (0, 0) := pv_late2 _ (fun v hv x hx => hz v x (hvw v hv) hx) _ _ h
      rw [e]
    have hn2 : (pn_v s (br s U A K) T F).2 ≤ F ∧ (pn_v s (br s U A K) T F).2 ≤ 3 := by
      rw [r1]
      exact pn_v2 b q4 _ _ _
    have hcc := hc K T (by omega)
    rw [← hl0] at hcc
    refine kr_iload 0 rd_d_X4_traceBest_100 rfl ?_
    refine kr_iload_n 5 rd_d_X4_traceBest_102 rfl ?_
    refine kr_icmp_ge (tgt := 208) rd_d_X4_traceBest_103 rfl (fun h21 => ?_) (fun h21 => ?_)
    · have := Int32.le_iff_toInt_le.mp h21
      omega
    · refine kr_aload_n 6 rd_d_X4_traceBest_106 rfl ?_
      refine kr_getf G.1 (rd_FL rd_k_X4_traceBest_107).1 rd_d_X4_traceBest_107 (hS.1 68 (.inl 4) rfl) (v := .int (σ.2.1 68 13)) (by unfold am_fa; rw [(rd_FL rd_k_X4_traceBest_107).2]; rfl) ?_
      refine kr_iload 0 rd_d_X4_traceBest_110 rfl ?_
      refine kr_iload_n 4 rd_d_X4_traceBest_112 rfl ?_
      refine kr_imul rd_d_X4_traceBest_113 ?_
      refine kr_iadd rd_d_X4_traceBest_114 ?_
      refine kr_istore (lv' := [(7, .int ((σ.2.1 68 13) + (k * st))), (6, .int k), (5, .int f), (4, .int t), (3, .int wt), (2, .int st), (1, .int al), (0, .ref 68)]) rd_d_X4_traceBest_115 (by decide) rfl ?_
      refine kr_aload_n 7 rd_d_X4_traceBest_117 rfl ?_
      refine kr_iload 0 rd_d_X4_traceBest_118 rfl ?_
      refine kr_iload 3 rd_d_X4_traceBest_120 rfl ?_
      refine kr_iload 2 rd_d_X4_traceBest_122 rfl ?_
      refine kr_iload_n 4 rd_d_X4_traceBest_124 rfl ?_
      refine kr_mmin G.1 (ex_mem_ok (show ex_mem 262322 (Cond.methodLink tX4_traceBest.1.1.cls 66 Lib.Math.min.name) = true from rd_k_X4_traceBest_125)) rd_d_X4_traceBest_125 (by decide) (Nat.le_of_ble_eq_true rfl) ?_
      show am_K g 6 tX4_traceBest.1 0 0 128 [(7, .int ((σ.2.1 68 13) + (k * st))), (6, .int k), (5, .int f), (4, .int t), (3, .int wt), (2, .int st), (1, .int al), (0, .ref 68)] [.int (ax_f_min f wt), .int t, .int ((σ.2.1 68 13) + (k * st)), .ref 68] σ _
      refine rd_call G (T2 := tX4_chosenSales) rfl rd_d_X4_traceBest_128 rd_k_X4_traceBest_128 rfl (hS.1 68 (.inl 4) rfl) (as := [.int ((σ.2.1 68 13) + (k * st)), .int t, .int (ax_f_min f wt)]) (st := []) rfl (Nat.le_of_ble_eq_true rfl) rfl (Nat.le_of_ble_eq_true rfl) (d1 := 2) (by decide) (fun _ h => by obtain ⟨⟨y, h, -⟩, -⟩ := h; cases h) (ax_csX G hS eu hU eix q4 et emin eh hH (R := min 24 (pv_U (pn_of s) (br s U A K))) (by omega) (by omega) hcc hzz) ?_
      intro v1 σ1 ⟨⟨mn, hv1, emn⟩, hs1⟩
      cases hv1
      rw [hs1]
      rw [hpm] at emn
      refine kr_istore (lv' := [(8, .int mn), (7, .int ((σ.2.1 68 13) + (k * st))), (6, .int k), (5, .int f), (4, .int t), (3, .int wt), (2, .int st), (1, .int al), (0, .ref 68)]) rd_d_X4_traceBest_131 (by decide) rfl ?_
      refine kr_iconst (v := 0) rd_d_X4_traceBest_133 (by decide) ?_
      refine kr_istore (lv' := [(9, .int 0), (8, .int mn), (7, .int ((σ.2.1 68 13) + (k * st))), (6, .int k), (5, .int f), (4, .int t), (3, .int wt), (2, .int st), (1, .int al), (0, .ref 68)]) rd_d_X4_traceBest_134 (by decide) rfl ?_
      obtain ⟨N, hN⟩ : ∃ N, N = (pn_v s (br s U A K) T F).2 := ⟨_, rfl⟩
      rw [← hN] at emn hn2
      refine kr_sub (lv' := [(9, .int 0), (8, .int mn), (7, .int ((σ.2.1 68 13) + (k * st))), (6, .int k), (5, .int f), (4, .int t), (3, .int wt), (2, .int st), (1, .int al), (0, .ref 68)]) (by simp) ?_
      refine ax_tbS G b (l := l) (T := T) eix hWs emn hn2.2 (by omega) (by omega) N 0 0 t σ hS hX rfl (by omega) (by rw [Nat.zero_mul, Nat.add_zero]; exact et) (by show pb_L s (l ++ []) σ.2.1; rw [List.append_nil]; exact hL) ?_
      intro σ1 q2 t2 hS1 hf1 hl1 et2 hL1
      have hX1 : pc_X s σ1 := pc_F hX (fun x y q => hf1 x y (fun z => by omega) (by omega) (by omega) (by omega))
      obtain ⟨p1, -, p3, -⟩ := pa_row hX1.1 b eix hWs
      refine kr_iload 4 rd_d_X4_traceBest_171 rfl ?_
      refine kr_iload 1 rd_d_X4_traceBest_173 rfl ?_
      refine kr_isub rd_d_X4_traceBest_175 ?_
      refine kr_istore (lv' := [(5, .int (f - mn)), (9, .int q2), (8, .int mn), (7, .int ((σ.2.1 68 13) + (k * st))), (6, .int k), (4, .int t2), (3, .int wt), (2, .int st), (1, .int al), (0, .ref 68)]) rd_d_X4_traceBest_176 (by decide) rfl ?_
      refine kr_iload_n 6 rd_d_X4_traceBest_178 rfl ?_
      refine kr_aload_n 9 rd_d_X4_traceBest_179 rfl ?_
      refine kr_getf G.1 (rd_FL rd_k_X4_traceBest_180).1 rd_d_X4_traceBest_180 (hS1.1 68 (.inl 4) rfl) (v := .ref 4) (by unfold am_fa; rw [(rd_FL rd_k_X4_traceBest_180).2]; exact hS1.2 68 0 4 rfl) ?_
      refine kr_iload 3 rd_d_X4_traceBest_183 rfl ?_
      refine rd_call G (T2 := tX9_oftenOf) rfl rd_d_X4_traceBest_185 rd_k_X4_traceBest_185 rfl (hS1.1 4 (.inl 9) rfl) (as := [.int ((σ.2.1 68 13) + (k * st))]) (st := [.int wt]) rfl (Nat.le_of_ble_eq_true rfl) rfl (Nat.le_of_ble_eq_true rfl) (d1 := 2) (by decide) (fun _ h => by cases h.1) (ax_oft G hS1 ((σ.2.1 68 13) + (k * st))) ?_
      intro v61 σ61 ⟨hv61, hs61⟩
      cases hv61
      rw [hs61]
      refine kr_isub rd_d_X4_traceBest_188 ?_
      refine kr_istore_n (lv' := [(3, .int (wt - (ax_f_oft σ1.2.1 ((σ.2.1 68 13) + (k * st))))), (5, .int (f - mn)), (9, .int q2), (8, .int mn), (7, .int ((σ.2.1 68 13) + (k * st))), (6, .int k), (4, .int t2), (2, .int st), (1, .int al), (0, .ref 68)]) rd_d_X4_traceBest_189 (by decide) rfl ?_
      refine kr_iload 6 rd_d_X4_traceBest_190 rfl ?_
      refine kr_aload_n 9 rd_d_X4_traceBest_192 rfl ?_
      refine kr_getf G.1 (rd_FL rd_k_X4_traceBest_193).1 rd_d_X4_traceBest_193 (hS1.1 68 (.inl 4) rfl) (v := .ref 4) (by unfold am_fa; rw [(rd_FL rd_k_X4_traceBest_193).2]; exact hS1.2 68 0 4 rfl) ?_
      refine rd_call G (T2 := tX9_walking) rfl rd_d_X4_traceBest_196 rd_k_X4_traceBest_196 rfl (hS1.1 4 (.inl 9) rfl) (as := []) (st := [.int t2]) rfl (Nat.le_of_ble_eq_true rfl) rfl (Nat.le_of_ble_eq_true rfl) (d1 := 2) (by decide) (fun _ h => by cases h.1) (ax_wal G hS1) ?_
      intro v62 σ62 ⟨hv62, hs62⟩
      cases hv62
      rw [hs62]
      refine kr_iadd rd_d_X4_traceBest_199 ?_
      refine kr_istore (lv' := [(4, .int (t2 + (ax_f_wal σ1.2.1))), (3, .int (wt - (ax_f_oft σ1.2.1 ((σ.2.1 68 13) + (k * st))))), (5, .int (f - mn)), (9, .int q2), (8, .int mn), (7, .int ((σ.2.1 68 13) + (k * st))), (6, .int k), (2, .int st), (1, .int al), (0, .ref 68)]) rd_d_X4_traceBest_200 (by decide) rfl ?_
      refine kr_iinc (v := k + 1) (lv' := [(6, .int (k + 1)), (4, .int (t2 + (ax_f_wal σ1.2.1))), (3, .int (wt - (ax_f_oft σ1.2.1 ((σ.2.1 68 13) + (k * st))))), (5, .int (f - mn)), (9, .int q2), (8, .int mn), (7, .int ((σ.2.1 68 13) + (k * st))), (2, .int st), (1, .int al), (0, .ref 68)]) 6 rd_d_X4_traceBest_202 rfl rfl (by decide) rfl ?_
      refine kr_goto (tgt := 100) rd_d_X4_traceBest_205 rfl ?_
      have hNk : N * pn_tk s (br_w U A K) ≤ 3 * 9 := Nat.mul_le_mul hn2.2 ql.2.1
      have hNk2 : N * pn_tk s (br_w U A K) ≤ N * 9 := Nat.mul_le_mul_left _ ql.2.1
      have hll : (l ++ pz_rep (br_w U A K) T (pn_tk s (br_w U A K)) N).length = l.length + N := by rw [List.length_append, rep_len]
      refine kr_sub (lv' := [(6, .int (k + 1)), (5, .int (f - mn)), (4, .int (t2 + (ax_f_wal σ1.2.1))), (3, .int (wt - (ax_f_oft σ1.2.1 ((σ.2.1 68 13) + (k * st))))), (2, .int st), (1, .int al), (0, .ref 68)]) (by simp) ?_
      refine ih (K + 1) (k + 1) (f - mn) (t2 + (ax_f_wal σ1.2.1)) (wt - (ax_f_oft σ1.2.1 ((σ.2.1 68 13) + (k * st)))) σ1 (l ++ pz_rep (br_w U A K) T (pn_tk s (br_w U A K)) N) (T + N * pn_tk s (br_w U A K) + pn_wk s) (F - N) hS1 hX1 (by rw [hf1 68 13 (by decide) (by decide) (by decide) (by decide)]; exact ea) (by rw [hf1 68 14 (by decide) (by decide) (by decide) (by decide)]; exact eu) (by rw [hf1 68 16 (by decide) (by decide) (by decide) (by decide)]; exact eh) ((congrArg Prod.fst hl1).trans hl0) hL1 (ax_inc ek (by omega)) (by omega) (ch_sub ef emn hn2.1) (ch_add et2 p3 (by omega)) ?_ ?_ (by rw [hll]; omega) (by rw [hll]; omega) ?_
      · rw [ch_sub ew p1 (by omega), eU, Nat.add_sub_cancel_left]
      · rw [ch_sub ew p1 (by omega)]
        omega
      · intro σ' a1 a2 a3 a4
        refine kk σ' a1 (fun x y x0 x5 x6 x7 => (a2 x y x0 x5 x6 x7).trans (hf1 x y x0 x5 x6 x7)) (a3.trans hl1) ?_
        rw [List.append_assoc] at a4
        have e : pz_tr s (br s U A K) T F = pz_rep (br_w U A K) T (pn_tk s (br_w U A K)) N ++ pz_tr s (br s U A (K + 1)) (T + N * pn_tk s (br_w U A K) + pn_wk s) (F - N) := by rw [hN, r1, pz_tr_c]
        rw [e]
        exact a4
theorem ax_tb (G : sx_G0 g L xs z9 hd_C ex_mt) {s : Nat → Int32} (b : pn_B s) (b6 : pl_B6 s) {U A H : Nat} (hU : U ≤ 1) (hA9 : A ≤ 9) (hA : U = 1 ∨ A < pz_W s) (hAW : A ≤ pz_W s) (hH : H ≤ 60) (hz : ∀ v x : Nat, (v : Int) < (s 0).toInt → H ≤ x → pn_g s v x = 0) {σ : am_S} (hS : ax_S σ) (hX : pc_X s σ) (ea : (σ.2.1 68 13).toInt = (A : Int)) (eu : (σ.2.1 68 14).toInt = (U : Int)) (eh : (σ.2.1 68 16).toInt = (H : Int)) (hc : ∀ K T : Nat, K < br_n s U A → T < H → pc_h s (br s U A K) T (min 24 (pv_U (pn_of s) (br s U A K)) + 1) (σ.2.2.1 72 ((U * 10 + br_w U A K) * 60 + T))) : am_K g 6 tX4_traceBest.1 0 0 0 (lv_args 0 [.ref 68]) [] σ (fun r σ' => r = some none ∧ ax_S σ' ∧ (∀ x y, ¬ (x = 68 ∧ y = 12) → x ≠ 75 → x ≠ 76 → x ≠ 77 → σ'.2.1 x y = σ.2.1 x y) ∧ σ'.2.2 = σ.2.2 ∧ pb_L s (pz_tr s (pz_row s A U) 0 (s 55).toInt.toNat) σ'.2.1) := by
  have z1 : (1 : Int32).toInt = 1 := rfl
  have hs1 := b.1.1
  have hW : (σ.2.1 4 7).toInt = (pz_W s : Int) := by rw [hX.1.1]; unfold pz_W; omega
  refine kr_aload_n 0 rd_d_X4_traceBest_0 rfl ?_
  refine kr_iconst (v := 0) rd_d_X4_traceBest_1 (by decide) ?_
  refine ax_putWL G hS rd_d_X4_traceBest_2 rd_k_X4_traceBest_2 (hS.1 68 (.inl 4) rfl) rfl rfl rfl ?_
  intro τ1 hT1 hw1 hf1 hl1
  have hsτ1 : τ1.2.1 120 = σ.2.1 120 := (ax_120F hf1 (by decide))
  have hqτ1 : ax_pl τ1.2.1 = ax_pl σ.2.1 := (ax_plF hf1 (by decide))
  have hLτ1 : τ1.2.2 = σ.2.2 := hl1
  refine kr_aload_n 0 rd_d_X4_traceBest_5 rfl ?_
  refine kr_getf G.1 (rd_FL rd_k_X4_traceBest_6).1 rd_d_X4_traceBest_6 (hT1.1 68 (.inl 4) rfl) (v := .int (σ.2.1 68 14)) (by unfold am_fa; rw [(rd_FL rd_k_X4_traceBest_6).2]; exact congrArg Value.int (hf1 68 14 (fun q => absurd q.2 (by decide)))) ?_
  refine kr_iconst (v := 1) rd_d_X4_traceBest_9 (by decide) ?_
  refine kr_icmp_ne (tgt := 28) rd_d_X4_traceBest_10 rfl (fun h11 => ?_) (fun h11 => ?_)
  · refine kr_aload_n 0 rd_d_X4_traceBest_28 rfl ?_
    refine kr_getf G.1 (rd_FL rd_k_X4_traceBest_29).1 rd_d_X4_traceBest_29 (hT1.1 68 (.inl 4) rfl) (v := .int (σ.2.1 68 13)) (by unfold am_fa; rw [(rd_FL rd_k_X4_traceBest_29).2]; exact congrArg Value.int (hf1 68 13 (fun q => absurd q.2 (by decide)))) ?_
    refine kr_iconst (v := 1) rd_d_X4_traceBest_32 (by decide) ?_
    refine kr_iadd rd_d_X4_traceBest_33 ?_
    refine kr_istore_n (lv' := [(1, .int ((σ.2.1 68 13) + 1)), (0, .ref 68)]) rd_d_X4_traceBest_34 (by decide) rfl ?_
    refine kr_aload_n 1 rd_d_X4_traceBest_35 rfl ?_
    refine kr_getf G.1 (rd_FL rd_k_X4_traceBest_36).1 rd_d_X4_traceBest_36 (hT1.1 68 (.inl 4) rfl) (v := .int (σ.2.1 68 14)) (by unfold am_fa; rw [(rd_FL rd_k_X4_traceBest_36).2]; exact congrArg Value.int (hf1 68 14 (fun q => absurd q.2 (by decide)))) ?_
    refine kr_iconst (v := 1) rd_d_X4_traceBest_39 (by decide) ?_
    refine kr_icmp_ne (tgt := 47) rd_d_X4_traceBest_40 rfl (fun h => ?_) (fun h => absurd h h11)
    refine kr_iconst (v := (-1)) rd_d_X4_traceBest_47 (by decide) ?_
    refine kr_istore_n (lv' := [(2, .int ((-1))), (1, .int ((σ.2.1 68 13) + 1)), (0, .ref 68)]) rd_d_X4_traceBest_48 (by decide) rfl ?_
    refine kr_iconst (v := 0) rd_d_X4_traceBest_49 (by decide) ?_
    refine kr_istore_n (lv' := [(3, .int 0), (2, .int ((-1))), (1, .int ((σ.2.1 68 13) + 1)), (0, .ref 68)]) rd_d_X4_traceBest_50 (by decide) rfl ?_
    refine kr_iconst (v := 0) rd_d_X4_traceBest_51 (by decide) ?_
    refine kr_istore (lv' := [(4, .int 0), (3, .int 0), (2, .int ((-1))), (1, .int ((σ.2.1 68 13) + 1)), (0, .ref 68)]) rd_d_X4_traceBest_52 (by decide) rfl ?_
    have hf0 := hf1
    have hX0 : pc_X s τ1 := pc_F hX (fun x y q => hf0 x y (fun z => by omega))
    have hU1 : ¬ U = 1 := fun e => h11 (Int32.toInt_inj.mp (by omega))
    have eal : ((σ.2.1 68 13) + 1).toInt = (br_n s U A : Int) := by
      unfold br_n
      rw [if_neg hU1]
      exact ch_add ea (y := 1) (b := 1) rfl (by omega)
    have est : ((-1) : Int32).toInt = (if U = 1 then 1 else -1) := by rw [if_neg hU1]; rfl
    have ea0 : (τ1.2.1 68 13).toInt = (A : Int) := by rw [hf0 68 13 (fun q => absurd q.2 (by decide))]; exact ea
    refine kr_sub (lv' := [(4, .int 0), (3, .int 0), (2, .int ((-1))), (1, .int ((σ.2.1 68 13) + 1)), (0, .ref 68)]) (by simp) ?_
    refine ax_tbW G b b6 hU hA9 hA eal est hT1 hX0 ea0 ?_ (br_n s U A) 0 0 0 rfl (by omega) (by show (0 : Int) + _ = _; omega) (Int.le_refl _) (Int.le_refl _)
    intro i2 wt2 ewt hw30
    have hbs := pa_bas hX0.1 b6
    refine kr_iconst (v := 0) rd_d_X4_traceBest_85 (by decide) ?_
    refine kr_istore (lv' := [(4, .int 0), (3, .int wt2), (2, .int ((-1))), (1, .int ((σ.2.1 68 13) + 1)), (0, .ref 68)]) rd_d_X4_traceBest_86 (by decide) rfl ?_
    refine kr_aload_n 4 rd_d_X4_traceBest_88 rfl ?_
    refine kr_getf G.1 (rd_FL rd_k_X4_traceBest_89).1 rd_d_X4_traceBest_89 (hT1.1 68 (.inl 4) rfl) (v := .ref 4) (by unfold am_fa; rw [(rd_FL rd_k_X4_traceBest_89).2]; exact hT1.2 68 0 4 rfl) ?_
    refine rd_call G (T2 := tX9_basket) rfl rd_d_X4_traceBest_92 rd_k_X4_traceBest_92 rfl (hT1.1 4 (.inl 9) rfl) (as := []) (st := []) rfl (Nat.le_of_ble_eq_true rfl) rfl (Nat.le_of_ble_eq_true rfl) (d1 := 2) (by decide) (fun _ h => by cases h.1) (ax_bas G hT1) ?_
    intro v61 σ61 ⟨hv61, hs61⟩
    cases hv61
    rw [hs61]
    refine kr_istore (lv' := [(5, .int (ax_f_bas τ1.2.1)), (4, .int 0), (3, .int wt2), (2, .int ((-1))), (1, .int ((σ.2.1 68 13) + 1)), (0, .ref 68)]) rd_d_X4_traceBest_95 (by decide) rfl ?_
    refine kr_iconst (v := 0) rd_d_X4_traceBest_97 (by decide) ?_
    refine kr_istore (lv' := [(6, .int 0), (5, .int (ax_f_bas τ1.2.1)), (4, .int 0), (3, .int wt2), (2, .int ((-1))), (1, .int ((σ.2.1 68 13) + 1)), (0, .ref 68)]) rd_d_X4_traceBest_98 (by decide) rfl ?_
    refine kr_sub (lv' := [(6, .int 0), (5, .int (ax_f_bas τ1.2.1)), (4, .int 0), (3, .int wt2), (2, .int ((-1))), (1, .int ((σ.2.1 68 13) + 1)), (0, .ref 68)]) (by simp) ?_
    refine ax_tbM G b b6 hU hA9 hA eal est hH (l0 := σ.2.2.1) hc hz (br_n s U A) 0 0 (ax_f_bas τ1.2.1) 0 wt2 τ1 [] 0 (s 55).toInt.toNat hT1 hX0 ea0 (by rw [hf0 68 14 (fun q => absurd q.2 (by decide))]; exact eu) (by rw [hf0 68 16 (fun q => absurd q.2 (by decide))]; exact eh) (congrArg Prod.fst hLτ1) ⟨by rw [hw1]; rfl, fun i hi => absurd hi (Nat.not_lt_zero i)⟩ rfl (by omega) hbs.1 rfl ewt hw30 (by show 0 + _ ≤ 24; omega) (by show 0 ≤ _; omega) ?_
    intro σ' a1 a2 a3 a4
    rw [br_0] at a4
    exact ⟨rfl, a1, fun x y x0 x5 x6 x7 => (a2 x y x0 x5 x6 x7).trans (hf0 x y x0), a3.trans hLτ1, a4⟩
  · refine kr_aload_n 0 rd_d_X4_traceBest_13 rfl ?_
    refine kr_getf G.1 (rd_FL rd_k_X4_traceBest_14).1 rd_d_X4_traceBest_14 (hT1.1 68 (.inl 4) rfl) (v := .ref 4) (by unfold am_fa; rw [(rd_FL rd_k_X4_traceBest_14).2]; exact hT1.2 68 0 4 rfl) ?_
    refine kr_getf G.1 (rd_FL rd_k_X4_traceBest_17).1 rd_d_X4_traceBest_17 (hT1.1 4 (.inl 9) rfl) (v := .int (σ.2.1 4 7)) (by unfold am_fa; rw [(rd_FL rd_k_X4_traceBest_17).2]; exact congrArg Value.int (hf1 4 7 (fun q => absurd q.1 (by decide)))) ?_
    refine kr_aload_n 0 rd_d_X4_traceBest_20 rfl ?_
    refine kr_getf G.1 (rd_FL rd_k_X4_traceBest_21).1 rd_d_X4_traceBest_21 (hT1.1 68 (.inl 4) rfl) (v := .int (σ.2.1 68 13)) (by unfold am_fa; rw [(rd_FL rd_k_X4_traceBest_21).2]; exact congrArg Value.int (hf1 68 13 (fun q => absurd q.2 (by decide)))) ?_
    refine kr_isub rd_d_X4_traceBest_24 ?_
    refine kr_goto (tgt := 34) rd_d_X4_traceBest_25 rfl ?_
    refine kr_istore_n (lv' := [(1, .int ((σ.2.1 4 7) - (σ.2.1 68 13))), (0, .ref 68)]) rd_d_X4_traceBest_34 (by decide) rfl ?_
    refine kr_aload_n 1 rd_d_X4_traceBest_35 rfl ?_
    refine kr_getf G.1 (rd_FL rd_k_X4_traceBest_36).1 rd_d_X4_traceBest_36 (hT1.1 68 (.inl 4) rfl) (v := .int (σ.2.1 68 14)) (by unfold am_fa; rw [(rd_FL rd_k_X4_traceBest_36).2]; exact congrArg Value.int (hf1 68 14 (fun q => absurd q.2 (by decide)))) ?_
    refine kr_iconst (v := 1) rd_d_X4_traceBest_39 (by decide) ?_
    refine kr_icmp_ne (tgt := 47) rd_d_X4_traceBest_40 rfl (fun h => absurd h11 h) (fun h => ?_)
    refine kr_iconst (v := 1) rd_d_X4_traceBest_43 (by decide) ?_
    refine kr_goto (tgt := 48) rd_d_X4_traceBest_44 rfl ?_
    refine kr_istore_n (lv' := [(2, .int 1), (1, .int ((σ.2.1 4 7) - (σ.2.1 68 13))), (0, .ref 68)]) rd_d_X4_traceBest_48 (by decide) rfl ?_
    refine kr_iconst (v := 0) rd_d_X4_traceBest_49 (by decide) ?_
    refine kr_istore_n (lv' := [(3, .int 0), (2, .int 1), (1, .int ((σ.2.1 4 7) - (σ.2.1 68 13))), (0, .ref 68)]) rd_d_X4_traceBest_50 (by decide) rfl ?_
    refine kr_iconst (v := 0) rd_d_X4_traceBest_51 (by decide) ?_
    refine kr_istore (lv' := [(4, .int 0), (3, .int 0), (2, .int 1), (1, .int ((σ.2.1 4 7) - (σ.2.1 68 13))), (0, .ref 68)]) rd_d_X4_traceBest_52 (by decide) rfl ?_
    have hf0 := hf1
    have hX0 : pc_X s τ1 := pc_F hX (fun x y q => hf0 x y (fun z => by omega))
    have hU1 : U = 1 := by have e := congrArg Int32.toInt h11; omega
    have eal : ((σ.2.1 4 7) - (σ.2.1 68 13)).toInt = (br_n s U A : Int) := by
      unfold br_n
      rw [if_pos hU1]
      exact ch_sub hW ea hAW
    have est : (1 : Int32).toInt = (if U = 1 then 1 else -1) := by rw [if_pos hU1]; rfl
    have ea0 : (τ1.2.1 68 13).toInt = (A : Int) := by rw [hf0 68 13 (fun q => absurd q.2 (by decide))]; exact ea
    refine kr_sub (lv' := [(4, .int 0), (3, .int 0), (2, .int 1), (1, .int ((σ.2.1 4 7) - (σ.2.1 68 13))), (0, .ref 68)]) (by simp) ?_
    refine ax_tbW G b b6 hU hA9 hA eal est hT1 hX0 ea0 ?_ (br_n s U A) 0 0 0 rfl (by omega) (by show (0 : Int) + _ = _; omega) (Int.le_refl _) (Int.le_refl _)
    intro i2 wt2 ewt hw30
    have hbs := pa_bas hX0.1 b6
    refine kr_iconst (v := 0) rd_d_X4_traceBest_85 (by decide) ?_
    refine kr_istore (lv' := [(4, .int 0), (3, .int wt2), (2, .int 1), (1, .int ((σ.2.1 4 7) - (σ.2.1 68 13))), (0, .ref 68)]) rd_d_X4_traceBest_86 (by decide) rfl ?_
    refine kr_aload_n 4 rd_d_X4_traceBest_88 rfl ?_
    refine kr_getf G.1 (rd_FL rd_k_X4_traceBest_89).1 rd_d_X4_traceBest_89 (hT1.1 68 (.inl 4) rfl) (v := .ref 4) (by unfold am_fa; rw [(rd_FL rd_k_X4_traceBest_89).2]; exact hT1.2 68 0 4 rfl) ?_
    refine rd_call G (T2 := tX9_basket) rfl rd_d_X4_traceBest_92 rd_k_X4_traceBest_92 rfl (hT1.1 4 (.inl 9) rfl) (as := []) (st := []) rfl (Nat.le_of_ble_eq_true rfl) rfl (Nat.le_of_ble_eq_true rfl) (d1 := 2) (by decide) (fun _ h => by cases h.1) (ax_bas G hT1) ?_
    intro v61 σ61 ⟨hv61, hs61⟩
    cases hv61
    rw [hs61]
    refine kr_istore (lv' := [(5, .int (ax_f_bas τ1.2.1)), (4, .int 0), (3, .int wt2), (2, .int 1), (1, .int ((σ.2.1 4 7) - (σ.2.1 68 13))), (0, .ref 68)]) rd_d_X4_traceBest_95 (by decide) rfl ?_
    refine kr_iconst (v := 0) rd_d_X4_traceBest_97 (by decide) ?_
    refine kr_istore (lv' := [(6, .int 0), (5, .int (ax_f_bas τ1.2.1)), (4, .int 0), (3, .int wt2), (2, .int 1), (1, .int ((σ.2.1 4 7) - (σ.2.1 68 13))), (0, .ref 68)]) rd_d_X4_traceBest_98 (by decide) rfl ?_
    refine kr_sub (lv' := [(6, .int 0), (5, .int (ax_f_bas τ1.2.1)), (4, .int 0), (3, .int wt2), (2, .int 1), (1, .int ((σ.2.1 4 7) - (σ.2.1 68 13))), (0, .ref 68)]) (by simp) ?_
    refine ax_tbM G b b6 hU hA9 hA eal est hH (l0 := σ.2.2.1) hc hz (br_n s U A) 0 0 (ax_f_bas τ1.2.1) 0 wt2 τ1 [] 0 (s 55).toInt.toNat hT1 hX0 ea0 (by rw [hf0 68 14 (fun q => absurd q.2 (by decide))]; exact eu) (by rw [hf0 68 16 (fun q => absurd q.2 (by decide))]; exact eh) (congrArg Prod.fst hLτ1) ⟨by rw [hw1]; rfl, fun i hi => absurd hi (Nat.not_lt_zero i)⟩ rfl (by omega) hbs.1 rfl ewt hw30 (by show 0 + _ ≤ 24; omega) (by show 0 ≤ _; omega) ?_
    intro σ' a1 a2 a3 a4
    rw [br_0] at a4
    exact ⟨rfl, a1, fun x y x0 x5 x6 x7 => (a2 x y x0 x5 x6 x7).trans (hf0 x y x0), a3.trans hLτ1, a4⟩
end AXX
