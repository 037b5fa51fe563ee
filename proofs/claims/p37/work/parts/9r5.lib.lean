/-! exact answers, further (rows written by a program) -/
theorem rd_d_X4_startIndex_0 : decode tX4_startIndex.1.2.1 0 = .ok (.iload_n 0, 1) := by decide +kernel
theorem rd_d_X4_startIndex_1 : decode tX4_startIndex.1.2.1 1 = .ok (.bipush 10, 2) := by decide +kernel
theorem rd_d_X4_startIndex_3 : decode tX4_startIndex.1.2.1 3 = .ok (.imul, 1) := by decide +kernel
theorem rd_d_X4_startIndex_4 : decode tX4_startIndex.1.2.1 4 = .ok (.iload_n 1, 1) := by decide +kernel
theorem rd_d_X4_startIndex_5 : decode tX4_startIndex.1.2.1 5 = .ok (.iadd, 1) := by decide +kernel
theorem rd_d_X4_startIndex_6 : decode tX4_startIndex.1.2.1 6 = .ok (.bipush 25, 2) := by decide +kernel
theorem rd_d_X4_startIndex_8 : decode tX4_startIndex.1.2.1 8 = .ok (.imul, 1) := by decide +kernel
theorem rd_d_X4_startIndex_9 : decode tX4_startIndex.1.2.1 9 = .ok (.iload_n 2, 1) := by decide +kernel
theorem rd_d_X4_startIndex_10 : decode tX4_startIndex.1.2.1 10 = .ok (.iadd, 1) := by decide +kernel
theorem rd_d_X4_startIndex_11 : decode tX4_startIndex.1.2.1 11 = .ok (.ireturn, 1) := by decide +kernel
theorem rd_d_X4_prepareStarts_0 : decode tX4_prepareStarts.1.2.1 0 = .ok (.aload_n 0, 1) := by decide +kernel
theorem rd_d_X4_prepareStarts_1 : decode tX4_prepareStarts.1.2.1 1 = .ok (.getfield 54, 3) := by decide +kernel
theorem rd_k_X4_prepareStarts_1 : ex_lk ex_mt tX4_prepareStarts 1 (.getfield 54) [4, 18, 0, 131105] = true := by decide +kernel
theorem rd_d_X4_prepareStarts_4 : decode tX4_prepareStarts.1.2.1 4 = .ok (.ifCond .eq 4, 3) := by decide +kernel
theorem rd_d_X4_prepareStarts_7 : decode tX4_prepareStarts.1.2.1 7 = .ok (.return_, 1) := by decide +kernel
theorem rd_d_X4_prepareStarts_8 : decode tX4_prepareStarts.1.2.1 8 = .ok (.aload_n 0, 1) := by decide +kernel
theorem rd_d_X4_prepareStarts_9 : decode tX4_prepareStarts.1.2.1 9 = .ok (.iconst 1, 1) := by decide +kernel
theorem rd_d_X4_prepareStarts_10 : decode tX4_prepareStarts.1.2.1 10 = .ok (.putfield 54, 3) := by decide +kernel
theorem rd_k_X4_prepareStarts_10 : ex_lk ex_mt tX4_prepareStarts 10 (.putfield 54) [4, 18, 3, 131105] = true := by decide +kernel
theorem rd_d_X4_prepareStarts_13 : decode tX4_prepareStarts.1.2.1 13 = .ok (.aload_n 0, 1) := by decide +kernel
theorem rd_d_X4_prepareStarts_14 : decode tX4_prepareStarts.1.2.1 14 = .ok (.invokevirtual 124, 3) := by decide +kernel
theorem rd_k_X4_prepareStarts_14 : ex_lk ex_mt tX4_prepareStarts 14 (.invokevirtual 124) [0, 221, 262314] = true := by decide +kernel
theorem rd_d_X4_prepareStarts_17 : decode tX4_prepareStarts.1.2.1 17 = .ok (.iconst 0, 1) := by decide +kernel
theorem rd_d_X4_prepareStarts_18 : decode tX4_prepareStarts.1.2.1 18 = .ok (.istore_n 1, 1) := by decide +kernel
theorem rd_d_X4_prepareStarts_19 : decode tX4_prepareStarts.1.2.1 19 = .ok (.iload_n 1, 1) := by decide +kernel
theorem rd_d_X4_prepareStarts_20 : decode tX4_prepareStarts.1.2.1 20 = .ok (.iconst 1, 1) := by decide +kernel
theorem rd_d_X4_prepareStarts_21 : decode tX4_prepareStarts.1.2.1 21 = .ok (.if_icmp .gt 98, 3) := by decide +kernel
theorem rd_d_X4_prepareStarts_24 : decode tX4_prepareStarts.1.2.1 24 = .ok (.aload_n 0, 1) := by decide +kernel
theorem rd_d_X4_prepareStarts_25 : decode tX4_prepareStarts.1.2.1 25 = .ok (.invokevirtual 127, 3) := by decide +kernel
theorem rd_k_X4_prepareStarts_25 : ex_lk ex_mt tX4_prepareStarts 25 (.invokevirtual 127) [0, 210, 262329] = true := by decide +kernel
theorem rd_d_X4_prepareStarts_28 : decode tX4_prepareStarts.1.2.1 28 = .ok (.iconst 0, 1) := by decide +kernel
theorem rd_d_X4_prepareStarts_29 : decode tX4_prepareStarts.1.2.1 29 = .ok (.istore_n 2, 1) := by decide +kernel
theorem rd_d_X4_prepareStarts_30 : decode tX4_prepareStarts.1.2.1 30 = .ok (.iload_n 2, 1) := by decide +kernel
theorem rd_d_X4_prepareStarts_31 : decode tX4_prepareStarts.1.2.1 31 = .ok (.aload_n 0, 1) := by decide +kernel
theorem rd_d_X4_prepareStarts_32 : decode tX4_prepareStarts.1.2.1 32 = .ok (.getfield 46, 3) := by decide +kernel
theorem rd_k_X4_prepareStarts_32 : ex_lk ex_mt tX4_prepareStarts 32 (.getfield 46) [4, 0, 2, 131083] = true := by decide +kernel
theorem rd_d_X4_prepareStarts_35 : decode tX4_prepareStarts.1.2.1 35 = .ok (.getfield 76, 3) := by decide +kernel
theorem rd_k_X4_prepareStarts_35 : ex_lk ex_mt tX4_prepareStarts 35 (.getfield 76) [9, 7, 0, 65657] = true := by decide +kernel
theorem rd_d_X4_prepareStarts_38 : decode tX4_prepareStarts.1.2.1 38 = .ok (.if_icmp .ge 75, 3) := by decide +kernel
theorem rd_d_X4_prepareStarts_41 : decode tX4_prepareStarts.1.2.1 41 = .ok (.iload_n 1, 1) := by decide +kernel
theorem rd_d_X4_prepareStarts_42 : decode tX4_prepareStarts.1.2.1 42 = .ok (.iconst 1, 1) := by decide +kernel
theorem rd_d_X4_prepareStarts_43 : decode tX4_prepareStarts.1.2.1 43 = .ok (.if_icmp .ne 17, 3) := by decide +kernel
theorem rd_d_X4_prepareStarts_46 : decode tX4_prepareStarts.1.2.1 46 = .ok (.aload_n 0, 1) := by decide +kernel
theorem rd_d_X4_prepareStarts_47 : decode tX4_prepareStarts.1.2.1 47 = .ok (.getfield 46, 3) := by decide +kernel
theorem rd_k_X4_prepareStarts_47 : ex_lk ex_mt tX4_prepareStarts 47 (.getfield 46) [4, 0, 2, 131083] = true := by decide +kernel
theorem rd_d_X4_prepareStarts_50 : decode tX4_prepareStarts.1.2.1 50 = .ok (.getfield 76, 3) := by decide +kernel
theorem rd_k_X4_prepareStarts_50 : ex_lk ex_mt tX4_prepareStarts 50 (.getfield 76) [9, 7, 0, 65657] = true := by decide +kernel
theorem rd_d_X4_prepareStarts_53 : decode tX4_prepareStarts.1.2.1 53 = .ok (.iconst 1, 1) := by decide +kernel
theorem rd_d_X4_prepareStarts_54 : decode tX4_prepareStarts.1.2.1 54 = .ok (.isub, 1) := by decide +kernel
theorem rd_d_X4_prepareStarts_55 : decode tX4_prepareStarts.1.2.1 55 = .ok (.iload_n 2, 1) := by decide +kernel
theorem rd_d_X4_prepareStarts_56 : decode tX4_prepareStarts.1.2.1 56 = .ok (.isub, 1) := by decide +kernel
theorem rd_d_X4_prepareStarts_57 : decode tX4_prepareStarts.1.2.1 57 = .ok (.goto 4, 3) := by decide +kernel
theorem rd_d_X4_prepareStarts_60 : decode tX4_prepareStarts.1.2.1 60 = .ok (.iload_n 2, 1) := by decide +kernel
theorem rd_d_X4_prepareStarts_61 : decode tX4_prepareStarts.1.2.1 61 = .ok (.istore_n 3, 1) := by decide +kernel
theorem rd_d_X4_prepareStarts_62 : decode tX4_prepareStarts.1.2.1 62 = .ok (.aload_n 0, 1) := by decide +kernel
theorem rd_d_X4_prepareStarts_63 : decode tX4_prepareStarts.1.2.1 63 = .ok (.iload_n 3, 1) := by decide +kernel
theorem rd_d_X4_prepareStarts_64 : decode tX4_prepareStarts.1.2.1 64 = .ok (.bipush 24, 2) := by decide +kernel
theorem rd_d_X4_prepareStarts_66 : decode tX4_prepareStarts.1.2.1 66 = .ok (.iload_n 1, 1) := by decide +kernel
theorem rd_d_X4_prepareStarts_67 : decode tX4_prepareStarts.1.2.1 67 = .ok (.iconst 1, 1) := by decide +kernel
theorem rd_d_X4_prepareStarts_68 : decode tX4_prepareStarts.1.2.1 68 = .ok (.invokevirtual 130, 3) := by decide +kernel
theorem rd_k_X4_prepareStarts_68 : ex_lk ex_mt tX4_prepareStarts 68 (.invokevirtual 130) [0, 223, 262333] = true := by decide +kernel
theorem rd_d_X4_prepareStarts_71 : decode tX4_prepareStarts.1.2.1 71 = .ok (.iconst 0, 1) := by decide +kernel
theorem rd_d_X4_prepareStarts_72 : decode tX4_prepareStarts.1.2.1 72 = .ok (.istore 4, 2) := by decide +kernel
theorem rd_d_X4_prepareStarts_74 : decode tX4_prepareStarts.1.2.1 74 = .ok (.iload 4, 2) := by decide +kernel
theorem rd_d_X4_prepareStarts_76 : decode tX4_prepareStarts.1.2.1 76 = .ok (.bipush 24, 2) := by decide +kernel
theorem rd_d_X4_prepareStarts_78 : decode tX4_prepareStarts.1.2.1 78 = .ok (.if_icmp .gt 29, 3) := by decide +kernel
theorem rd_d_X4_prepareStarts_81 : decode tX4_prepareStarts.1.2.1 81 = .ok (.aload_n 0, 1) := by decide +kernel
theorem rd_d_X4_prepareStarts_82 : decode tX4_prepareStarts.1.2.1 82 = .ok (.getfield 18, 3) := by decide +kernel
theorem rd_k_X4_prepareStarts_82 : ex_lk ex_mt tX4_prepareStarts 82 (.getfield 18) [4, 3, 2, 131086] = true := by decide +kernel
theorem rd_d_X4_prepareStarts_85 : decode tX4_prepareStarts.1.2.1 85 = .ok (.iload_n 1, 1) := by decide +kernel
theorem rd_d_X4_prepareStarts_86 : decode tX4_prepareStarts.1.2.1 86 = .ok (.iload_n 3, 1) := by decide +kernel
theorem rd_d_X4_prepareStarts_87 : decode tX4_prepareStarts.1.2.1 87 = .ok (.iload 4, 2) := by decide +kernel
theorem rd_d_X4_prepareStarts_89 : decode tX4_prepareStarts.1.2.1 89 = .ok (.invokestatic 134, 3) := by decide +kernel
theorem rd_k_X4_prepareStarts_89 : ex_lk ex_mt tX4_prepareStarts 89 (.invokestatic 134) [0, 232, 262356] = true := by decide +kernel
theorem rd_d_X4_prepareStarts_92 : decode tX4_prepareStarts.1.2.1 92 = .ok (.aload_n 0, 1) := by decide +kernel
theorem rd_d_X4_prepareStarts_93 : decode tX4_prepareStarts.1.2.1 93 = .ok (.iload 4, 2) := by decide +kernel
theorem rd_d_X4_prepareStarts_95 : decode tX4_prepareStarts.1.2.1 95 = .ok (.invokevirtual 137, 3) := by decide +kernel
theorem rd_k_X4_prepareStarts_95 : ex_lk ex_mt tX4_prepareStarts 95 (.invokevirtual 137) [0, 212, 262359] = true := by decide +kernel
theorem rd_d_X4_prepareStarts_98 : decode tX4_prepareStarts.1.2.1 98 = .ok (.invokestatic 82, 3) := by decide +kernel
theorem rd_k_X4_prepareStarts_98 : ex_lk ex_mt tX4_prepareStarts 98 (.invokestatic 82) [0, 55, 262327] = true := by decide +kernel
theorem rd_d_X4_prepareStarts_101 : decode tX4_prepareStarts.1.2.1 101 = .ok (.iinc 4 1, 3) := by decide +kernel
theorem rd_d_X4_prepareStarts_104 : decode tX4_prepareStarts.1.2.1 104 = .ok (.goto (-30), 3) := by decide +kernel
theorem rd_d_X4_prepareStarts_107 : decode tX4_prepareStarts.1.2.1 107 = .ok (.iinc 2 1, 3) := by decide +kernel
theorem rd_d_X4_prepareStarts_110 : decode tX4_prepareStarts.1.2.1 110 = .ok (.goto (-80), 3) := by decide +kernel
theorem rd_d_X4_prepareStarts_113 : decode tX4_prepareStarts.1.2.1 113 = .ok (.iinc 1 1, 3) := by decide +kernel
theorem rd_d_X4_prepareStarts_116 : decode tX4_prepareStarts.1.2.1 116 = .ok (.goto (-97), 3) := by decide +kernel
theorem rd_d_X4_prepareStarts_119 : decode tX4_prepareStarts.1.2.1 119 = .ok (.return_, 1) := by decide +kernel
theorem rd_d_X4_startGain_0 : decode tX4_startGain.1.2.1 0 = .ok (.aload_n 0, 1) := by decide +kernel
theorem rd_d_X4_startGain_1 : decode tX4_startGain.1.2.1 1 = .ok (.invokevirtual 140, 3) := by decide +kernel
theorem rd_k_X4_startGain_1 : ex_lk ex_mt tX4_startGain 1 (.invokevirtual 140) [0, 222, 262310] = true := by decide +kernel
theorem rd_d_X4_startGain_4 : decode tX4_startGain.1.2.1 4 = .ok (.aload_n 0, 1) := by decide +kernel
theorem rd_d_X4_startGain_5 : decode tX4_startGain.1.2.1 5 = .ok (.getfield 18, 3) := by decide +kernel
theorem rd_k_X4_startGain_5 : ex_lk ex_mt tX4_startGain 5 (.getfield 18) [4, 3, 2, 131086] = true := by decide +kernel
theorem rd_d_X4_startGain_8 : decode tX4_startGain.1.2.1 8 = .ok (.iload_n 1, 1) := by decide +kernel
theorem rd_d_X4_startGain_9 : decode tX4_startGain.1.2.1 9 = .ok (.iload_n 2, 1) := by decide +kernel
theorem rd_d_X4_startGain_10 : decode tX4_startGain.1.2.1 10 = .ok (.iload_n 3, 1) := by decide +kernel
theorem rd_d_X4_startGain_11 : decode tX4_startGain.1.2.1 11 = .ok (.invokestatic 134, 3) := by decide +kernel
theorem rd_k_X4_startGain_11 : ex_lk ex_mt tX4_startGain 11 (.invokestatic 134) [0, 232, 262356] = true := by decide +kernel
theorem rd_d_X4_startGain_14 : decode tX4_startGain.1.2.1 14 = .ok (.invokestatic 112, 3) := by decide +kernel
theorem rd_k_X4_startGain_14 : ex_lk ex_mt tX4_startGain 14 (.invokestatic 112) [0, 32, 262344] = true := by decide +kernel
theorem rd_d_X4_startGain_17 : decode tX4_startGain.1.2.1 17 = .ok (.ireturn, 1) := by decide +kernel
theorem rd_d_X11_part_0 : decode tX11_part.1.2.1 0 = .ok (.iload_n 0, 1) := by decide +kernel
theorem rd_d_X11_part_1 : decode tX11_part.1.2.1 1 = .ok (.iconst 0, 1) := by decide +kernel
theorem rd_d_X11_part_2 : decode tX11_part.1.2.1 2 = .ok (.invokestatic 362, 3) := by decide +kernel
theorem rd_k_X11_part_2 : ex_lk ex_mt tX11_part 2 (.invokestatic 362) [1, 0, 327784, 0] = true := by decide +kernel
theorem rd_d_X11_part_5 : decode tX11_part.1.2.1 5 = .ok (.istore_n 3, 1) := by decide +kernel
theorem rd_d_X11_part_6 : decode tX11_part.1.2.1 6 = .ok (.iload_n 1, 1) := by decide +kernel
theorem rd_d_X11_part_7 : decode tX11_part.1.2.1 7 = .ok (.iconst 1, 1) := by decide +kernel
theorem rd_d_X11_part_8 : decode tX11_part.1.2.1 8 = .ok (.invokestatic 362, 3) := by decide +kernel
theorem rd_k_X11_part_8 : ex_lk ex_mt tX11_part 8 (.invokestatic 362) [1, 0, 327784, 0] = true := by decide +kernel
theorem rd_d_X11_part_11 : decode tX11_part.1.2.1 11 = .ok (.istore 4, 2) := by decide +kernel
theorem rd_d_X11_part_13 : decode tX11_part.1.2.1 13 = .ok (.iload 4, 2) := by decide +kernel
theorem rd_d_X11_part_15 : decode tX11_part.1.2.1 15 = .ok (.istore 5, 2) := by decide +kernel
theorem rd_d_X11_part_17 : decode tX11_part.1.2.1 17 = .ok (.iload_n 3, 1) := by decide +kernel
theorem rd_d_X11_part_18 : decode tX11_part.1.2.1 18 = .ok (.istore 6, 2) := by decide +kernel
theorem rd_d_X11_part_20 : decode tX11_part.1.2.1 20 = .ok (.iconst 0, 1) := by decide +kernel
theorem rd_d_X11_part_21 : decode tX11_part.1.2.1 21 = .ok (.istore 7, 2) := by decide +kernel
theorem rd_d_X11_part_23 : decode tX11_part.1.2.1 23 = .ok (.iload 7, 2) := by decide +kernel
theorem rd_d_X11_part_25 : decode tX11_part.1.2.1 25 = .ok (.bipush 64, 2) := by decide +kernel
theorem rd_d_X11_part_27 : decode tX11_part.1.2.1 27 = .ok (.if_icmp .ge 29, 3) := by decide +kernel
theorem rd_d_X11_part_30 : decode tX11_part.1.2.1 30 = .ok (.iload 6, 2) := by decide +kernel
theorem rd_d_X11_part_32 : decode tX11_part.1.2.1 32 = .ok (.ifCond .le 24, 3) := by decide +kernel
theorem rd_d_X11_part_35 : decode tX11_part.1.2.1 35 = .ok (.iload 5, 2) := by decide +kernel
theorem rd_d_X11_part_37 : decode tX11_part.1.2.1 37 = .ok (.iload 6, 2) := by decide +kernel
theorem rd_d_X11_part_39 : decode tX11_part.1.2.1 39 = .ok (.irem, 1) := by decide +kernel
theorem rd_d_X11_part_40 : decode tX11_part.1.2.1 40 = .ok (.istore 8, 2) := by decide +kernel
theorem rd_d_X11_part_42 : decode tX11_part.1.2.1 42 = .ok (.iload 6, 2) := by decide +kernel
theorem rd_d_X11_part_44 : decode tX11_part.1.2.1 44 = .ok (.istore 5, 2) := by decide +kernel
theorem rd_d_X11_part_46 : decode tX11_part.1.2.1 46 = .ok (.iload 8, 2) := by decide +kernel
theorem rd_d_X11_part_48 : decode tX11_part.1.2.1 48 = .ok (.istore 6, 2) := by decide +kernel
theorem rd_d_X11_part_50 : decode tX11_part.1.2.1 50 = .ok (.iinc 7 1, 3) := by decide +kernel
theorem rd_d_X11_part_53 : decode tX11_part.1.2.1 53 = .ok (.goto (-30), 3) := by decide +kernel
theorem rd_d_X11_part_56 : decode tX11_part.1.2.1 56 = .ok (.iload 5, 2) := by decide +kernel
theorem rd_d_X11_part_58 : decode tX11_part.1.2.1 58 = .ok (.ifCond .gt 14, 3) := by decide +kernel
theorem rd_d_X11_part_72 : decode tX11_part.1.2.1 72 = .ok (.iload_n 2, 1) := by decide +kernel
theorem rd_d_X11_part_73 : decode tX11_part.1.2.1 73 = .ok (.ifCond .ne 10, 3) := by decide +kernel
theorem rd_d_X11_part_76 : decode tX11_part.1.2.1 76 = .ok (.iload_n 3, 1) := by decide +kernel
theorem rd_d_X11_part_77 : decode tX11_part.1.2.1 77 = .ok (.iload 5, 2) := by decide +kernel
theorem rd_d_X11_part_79 : decode tX11_part.1.2.1 79 = .ok (.idiv, 1) := by decide +kernel
theorem rd_d_X11_part_80 : decode tX11_part.1.2.1 80 = .ok (.goto 8, 3) := by decide +kernel
theorem rd_d_X11_part_83 : decode tX11_part.1.2.1 83 = .ok (.iload 4, 2) := by decide +kernel
theorem rd_d_X11_part_85 : decode tX11_part.1.2.1 85 = .ok (.iload 5, 2) := by decide +kernel
theorem rd_d_X11_part_87 : decode tX11_part.1.2.1 87 = .ok (.idiv, 1) := by decide +kernel
theorem rd_d_X11_part_88 : decode tX11_part.1.2.1 88 = .ok (.ireturn, 1) := by decide +kernel
theorem rd_d_X12_part_0 : decode tX12_part.1.2.1 0 = .ok (.iload_n 0, 1) := by decide +kernel
theorem rd_d_X12_part_1 : decode tX12_part.1.2.1 1 = .ok (.istore_n 3, 1) := by decide +kernel
theorem rd_d_X12_part_2 : decode tX12_part.1.2.1 2 = .ok (.iload_n 1, 1) := by decide +kernel
theorem rd_d_X12_part_3 : decode tX12_part.1.2.1 3 = .ok (.istore 4, 2) := by decide +kernel
theorem rd_d_X12_part_5 : decode tX12_part.1.2.1 5 = .ok (.iload 4, 2) := by decide +kernel
theorem rd_d_X12_part_7 : decode tX12_part.1.2.1 7 = .ok (.ifCond .eq 19, 3) := by decide +kernel
theorem rd_d_X12_part_10 : decode tX12_part.1.2.1 10 = .ok (.iload_n 3, 1) := by decide +kernel
theorem rd_d_X12_part_11 : decode tX12_part.1.2.1 11 = .ok (.iload 4, 2) := by decide +kernel
theorem rd_d_X12_part_13 : decode tX12_part.1.2.1 13 = .ok (.irem, 1) := by decide +kernel
theorem rd_d_X12_part_14 : decode tX12_part.1.2.1 14 = .ok (.istore 5, 2) := by decide +kernel
theorem rd_d_X12_part_16 : decode tX12_part.1.2.1 16 = .ok (.iload 4, 2) := by decide +kernel
theorem rd_d_X12_part_18 : decode tX12_part.1.2.1 18 = .ok (.istore_n 3, 1) := by decide +kernel
theorem rd_d_X12_part_19 : decode tX12_part.1.2.1 19 = .ok (.iload 5, 2) := by decide +kernel
theorem rd_d_X12_part_21 : decode tX12_part.1.2.1 21 = .ok (.istore 4, 2) := by decide +kernel
theorem rd_d_X12_part_23 : decode tX12_part.1.2.1 23 = .ok (.goto (-18), 3) := by decide +kernel
theorem rd_d_X12_part_26 : decode tX12_part.1.2.1 26 = .ok (.iload_n 2, 1) := by decide +kernel
theorem rd_d_X12_part_27 : decode tX12_part.1.2.1 27 = .ok (.ifCond .ne 7, 3) := by decide +kernel
theorem rd_d_X12_part_30 : decode tX12_part.1.2.1 30 = .ok (.iload_n 0, 1) := by decide +kernel
theorem rd_d_X12_part_31 : decode tX12_part.1.2.1 31 = .ok (.goto 4, 3) := by decide +kernel
theorem rd_d_X12_part_34 : decode tX12_part.1.2.1 34 = .ok (.iload_n 1, 1) := by decide +kernel
theorem rd_d_X12_part_35 : decode tX12_part.1.2.1 35 = .ok (.iload_n 3, 1) := by decide +kernel
theorem rd_d_X12_part_36 : decode tX12_part.1.2.1 36 = .ok (.idiv, 1) := by decide +kernel
theorem rd_d_X12_part_37 : decode tX12_part.1.2.1 37 = .ok (.ireturn, 1) := by decide +kernel
theorem rd_d_X9_unit_0 : decode tX9_unit.1.2.1 0 = .ok (.bipush 12, 2) := by decide +kernel
theorem rd_d_X9_unit_2 : decode tX9_unit.1.2.1 2 = .ok (.aload_n 0, 1) := by decide +kernel
theorem rd_d_X9_unit_3 : decode tX9_unit.1.2.1 3 = .ok (.iconst 0, 1) := by decide +kernel
theorem rd_d_X9_unit_4 : decode tX9_unit.1.2.1 4 = .ok (.invokevirtual 125, 3) := by decide +kernel
theorem rd_k_X9_unit_4 : ex_lk ex_mt tX9_unit 4 (.invokevirtual 125) [0, 314, 262289] = true := by decide +kernel
theorem rd_d_X9_unit_7 : decode tX9_unit.1.2.1 7 = .ok (.imul, 1) := by decide +kernel
theorem rd_d_X9_unit_8 : decode tX9_unit.1.2.1 8 = .ok (.ireturn, 1) := by decide +kernel
theorem rd_d_X12_below_0 : decode tX12_below.1.2.1 0 = .ok (.bipush 12, 2) := by decide +kernel
theorem rd_d_X12_below_2 : decode tX12_below.1.2.1 2 = .ok (.aload_n 0, 1) := by decide +kernel
theorem rd_d_X12_below_3 : decode tX12_below.1.2.1 3 = .ok (.iconst 0, 1) := by decide +kernel
theorem rd_d_X12_below_4 : decode tX12_below.1.2.1 4 = .ok (.invokevirtual 276, 3) := by decide +kernel
theorem rd_k_X12_below_4 : ex_lk ex_mt tX12_below 4 (.invokevirtual 276) [0, 172, 524429] = true := by decide +kernel
theorem rd_d_X12_below_7 : decode tX12_below.1.2.1 7 = .ok (.imul, 1) := by decide +kernel
theorem rd_d_X12_below_8 : decode tX12_below.1.2.1 8 = .ok (.ireturn, 1) := by decide +kernel
theorem rd_d_X11_isPart_0 : decode tX11_isPart.1.2.1 0 = .ok (.iload_n 0, 1) := by decide +kernel
theorem rd_d_X11_isPart_1 : decode tX11_isPart.1.2.1 1 = .ok (.ifCond .eq 8, 3) := by decide +kernel
theorem rd_d_X11_isPart_4 : decode tX11_isPart.1.2.1 4 = .ok (.iload_n 0, 1) := by decide +kernel
theorem rd_d_X11_isPart_5 : decode tX11_isPart.1.2.1 5 = .ok (.iconst 1, 1) := by decide +kernel
theorem rd_d_X11_isPart_6 : decode tX11_isPart.1.2.1 6 = .ok (.if_icmp .ne 7, 3) := by decide +kernel
theorem rd_d_X11_isPart_9 : decode tX11_isPart.1.2.1 9 = .ok (.iconst 1, 1) := by decide +kernel
theorem rd_d_X11_isPart_10 : decode tX11_isPart.1.2.1 10 = .ok (.goto 4, 3) := by decide +kernel
theorem rd_d_X11_isPart_13 : decode tX11_isPart.1.2.1 13 = .ok (.iconst 0, 1) := by decide +kernel
theorem rd_d_X11_isPart_14 : decode tX11_isPart.1.2.1 14 = .ok (.ireturn, 1) := by decide +kernel
section AXX
variable {g : am_C} {L : Nat} {xs : Nat → Int32}
def ax_f_sti (a b c : Int32) : Int32 := (((a * 10) + b) * 25) + c
theorem ax_sti (G : sx_G0 g L xs z9 hd_C ex_mt) {σ : am_S} (hS : ax_S σ) (a b c : Int32) : am_K g 1 tX4_startIndex.1 0 0 0 (lv_args 0 [.int a, .int b, .int c]) [] σ (ax_R (ax_f_sti a b c) σ) := by
  refine kr_iload_n 0 rd_d_X4_startIndex_0 rfl ?_
  refine kr_bipush (v := 10) rd_d_X4_startIndex_1 (by decide) ?_
  refine kr_imul rd_d_X4_startIndex_3 ?_
  refine kr_iload_n 1 rd_d_X4_startIndex_4 rfl ?_
  refine kr_iadd rd_d_X4_startIndex_5 ?_
  refine kr_bipush (v := 25) rd_d_X4_startIndex_6 (by decide) ?_
  refine kr_imul rd_d_X4_startIndex_8 ?_
  refine kr_iload_n 2 rd_d_X4_startIndex_9 rfl ?_
  refine kr_iadd rd_d_X4_startIndex_10 ?_
  exact kr_ireturn rd_d_X4_startIndex_11 (ty := .int) rfl rfl ⟨rfl, rfl⟩
theorem pa_sti {UP ww F : Nat} {up w f : Int32} (eup : up.toInt = (UP : Int)) (ew : w.toInt = (ww : Int)) (ef : f.toInt = (F : Int)) (hup : UP ≤ 1) (hw : ww < 10) (hF : F ≤ 24) : (ax_f_sti up w f).toInt = (((UP * 10 + ww) * 25 + F : Nat) : Int) := by
  rw [ax_f_sti]
  exact ch_add (ch_mul (ch_add (ch_mul eup (y := 10) (b := 10) rfl (A := 1) (B := 10) hup (Nat.le_refl _) (by decide)) ew (by omega)) (y := 25) (b := 25) rfl (A := 19) (B := 25) (by omega) (Nat.le_refl _) (by decide)) ef (by omega)
/-- the k-th window from the end that is gone to, and the k windows from there on -/
def pk_w (s : Nat → Int32) (UP k : Nat) : Nat := if UP = 1 then (s 0).toInt.toNat - 1 - k else k
def pk_l (s : Nat → Int32) (UP k : Nat) : List Nat := if UP = 1 then pl_up k ((s 0).toInt.toNat - k) else pl_dn k (k - 1)
theorem pk_wW {s : Nat → Int32} {UP k : Nat} (h : (k : Int) < (s 0).toInt) : (pk_w s UP k : Int) < (s 0).toInt := by
  unfold pk_w
  split <;> omega
theorem pk_lS {s : Nat → Int32} {UP k : Nat} (h : (k : Int) < (s 0).toInt) : pk_l s UP (k + 1) = pk_w s UP k :: pk_l s UP k := by
  unfold pk_l pk_w
  split
  · show ((s 0).toInt.toNat - (k + 1)) :: pl_up k ((s 0).toInt.toNat - (k + 1) + 1) = _
    rw [show (s 0).toInt.toNat - (k + 1) + 1 = (s 0).toInt.toNat - k by omega, show (s 0).toInt.toNat - (k + 1) = (s 0).toInt.toNat - 1 - k by omega]
  · rfl
theorem pk_lm {s : Nat → Int32} {UP k : Nat} (h : (k : Int) ≤ (s 0).toInt) : ∀ v ∈ pk_l s UP k, (v : Int) < (s 0).toInt := by
  intro v hv
  unfold pk_l at hv
  split at hv
  · have := pl_up_m _ _ hv
    omega
  · have := pl_dn_m _ _ hv
    cases k with
    | zero => cases hv
    | succ k => omega
/-- what starts and choices tell -/
def pk_S (s : Nat → Int32) (m : Nat → Nat → Int32) : Prop := ∀ UP k f : Nat, UP ≤ 1 → (k : Int) < (s 0).toInt → f ≤ 24 → (m 71 ((UP * 10 + pk_w s UP k) * 25 + f)).toInt = ((pn_v s (pk_l s UP (k + 1)) 0 f).1 : Int)
def pk_C (CH : List Nat → Nat → Nat → Int64 → Prop) (s : Nat → Int32) (H : Nat) (l : Nat → Nat → Int64) : Prop := ∀ UP k T : Nat, UP ≤ 1 → (k : Int) < (s 0).toInt → T < H → CH (pk_l s UP (k + 1)) T (min 24 (pv_U (pn_of s) (pk_l s UP (k + 1))) + 1) (l 72 ((UP * 10 + pk_w s UP k) * 60 + T))
def pk_A (CH : List Nat → Nat → Nat → Int64 → Prop) (s : Nat → Int32) (m : Nat → Nat → Int32) (l : Nat → Nat → Int64) : Prop := pk_S s m ∧ ∃ H, pg_K s H m ∧ pk_C CH s H l
/-- what the class keeps of its plans is right -/
def pk_P (CH : List Nat → Nat → Nat → Int64 → Prop) (s : Nat → Int32) (σ : am_S) : Prop := (¬ σ.2.1 68 17 = 0 → pk_G s σ.2.1) ∧ (¬ σ.2.1 68 18 = 0 → ¬ σ.2.1 68 17 = 0 ∧ pk_A CH s σ.2.1 σ.2.2.1)
theorem ax_psF (G : sx_G0 g L xs z9 hd_C ex_mt) {s : Nat → Int32} {H U UP ww : Nat} {WS : List Nat} {up w k : Int32} (eup : up.toInt = (UP : Int)) (ew : w.toInt = (ww : Int)) (hup : UP ≤ 1) (hw : ww < 10) (hU : U = min 24 (pv_U (pn_of s) WS)) (hH1 : 1 ≤ H) {post : Option (Option Value) → am_S → Prop} : ∀ (n F : Nat) (f : Int32) (σ : am_S), ax_S σ → pr_T s WS U H σ.2.1 → f.toInt = (F : Int) → F + n = 25 → (∀ x, x < F → (σ.2.1 71 ((UP * 10 + ww) * 25 + x)).toInt = ((pn_v s WS 0 x).1 : Int)) → (∀ (σ' : am_S) (f2 : Int32), ax_S σ' → (∀ x y, ¬ (x = 71 ∧ (UP * 10 + ww) * 25 ≤ y ∧ y < (UP * 10 + ww) * 25 + 25) → σ'.2.1 x y = σ.2.1 x y) → σ'.2.2 = σ.2.2 → (∀ x, x ≤ 24 → (σ'.2.1 71 ((UP * 10 + ww) * 25 + x)).toInt = ((pn_v s WS 0 x).1 : Int)) → am_K g 6 tX4_prepareStarts.1 0 0 107 [(4, .int f2), (3, .int w), (2, .int k), (1, .int up), (0, .ref 68)] [] σ' post) → am_K g 6 tX4_prepareStarts.1 0 0 74 [(4, .int f), (3, .int w), (2, .int k), (1, .int up), (0, .ref 68)] [] σ post := by
  intro n
  induction n with
  | zero =>
    intro F f σ hS ht ef hn tab kk
    refine kr_iload 0 rd_d_X4_prepareStarts_74 rfl ?_
    refine kr_bipush (v := 24) rd_d_X4_prepareStarts_76 (by decide) ?_
    refine kr_icmp_gt (tgt := 107) rd_d_X4_prepareStarts_78 rfl (fun _ => ?_) (fun h => absurd (Int32.lt_iff_toInt_lt.mpr (by show (24 : Int) < _; omega)) h)
    exact kk σ f hS (fun _ _ _ => rfl) rfl (fun x hx => tab x (by omega))
  | succ n ih =>
    intro F f σ hS ht ef hn tab kk
    refine kr_iload 0 rd_d_X4_prepareStarts_74 rfl ?_
    refine kr_bipush (v := 24) rd_d_X4_prepareStarts_76 (by decide) ?_
    refine kr_icmp_gt (tgt := 107) rd_d_X4_prepareStarts_78 rfl (fun h => by have h' : (24 : Int32).toInt < f.toInt := Int32.lt_iff_toInt_lt.mp h; have z : (24 : Int32).toInt = 24 := rfl; omega) (fun _ => ?_)
    have eix := pa_sti eup ew ef hup hw (by omega)
    have hgi := pr_gia ht hU (Nat.le_refl _) (by omega) ef hH1
    refine kr_aload_n 4 rd_d_X4_prepareStarts_81 rfl ?_
    refine kr_getf G.1 (rd_FL rd_k_X4_prepareStarts_82).1 rd_d_X4_prepareStarts_82 (hS.1 68 (.inl 4) rfl) (v := .ref 71) (by unfold am_fa; rw [(rd_FL rd_k_X4_prepareStarts_82).2]; exact hS.2 68 3 71 rfl) ?_
    refine kr_iload_n 3 rd_d_X4_prepareStarts_85 rfl ?_
    refine kr_iload_n 1 rd_d_X4_prepareStarts_86 rfl ?_
    refine kr_iload 0 rd_d_X4_prepareStarts_87 rfl ?_
    refine rd_callS G (T2 := tX4_startIndex) rfl rd_d_X4_prepareStarts_89 rd_k_X4_prepareStarts_89 rfl rfl (as := [.int up, .int w, .int f]) (st := [.ref 71]) rfl (Nat.le_of_ble_eq_true rfl) rfl (Nat.le_of_ble_eq_true rfl) (d1 := 1) (by decide) (fun _ h => by cases h.1) (ax_sti G hS up w f) ?_
    intro v21 σ21 ⟨hv21, hs21⟩
    cases hv21
    rw [hs21]
    refine kr_aload_n 4 rd_d_X4_prepareStarts_92 rfl ?_
    refine kr_iload 0 rd_d_X4_prepareStarts_93 rfl ?_
    refine rd_call G (T2 := tX4_gainInAll) rfl rd_d_X4_prepareStarts_95 rd_k_X4_prepareStarts_95 rfl (hS.1 68 (.inl 4) rfl) (as := [.int f]) (st := [.int (ax_f_sti up w f), .ref 71]) rfl (Nat.le_of_ble_eq_true rfl) rfl (Nat.le_of_ble_eq_true rfl) (d1 := 3) (by decide) (fun _ h => by cases h.1) (ax_gia G hS f) ?_
    intro v22 σ22 ⟨hv22, hs22⟩
    cases hv22
    rw [hs22]
    refine rd_callS G (T2 := tX11_put) rfl rd_d_X4_prepareStarts_98 rd_k_X4_prepareStarts_98 rfl rfl (as := [.ref 71, .int (ax_f_sti up w f), .int (ax_f_gia σ.2.1 f)]) (st := []) rfl (Nat.le_of_ble_eq_true rfl) rfl (Nat.le_of_ble_eq_true rfl) (d1 := 1) (by decide) (fun _ h => by cases h.1) (ax_putA G hS (n := 500) (hS.1 71 (.inr (.int, 500)) rfl) (by decide) (ix := (UP * 10 + ww) * 25 + F) eix (by omega)) ?_
    intro vvτ1 τ1 ⟨hvvτ1, hT1, hw1, hf1, hl1⟩
    cases hvvτ1
    have hsτ1 : τ1.2.1 120 = σ.2.1 120 := (ax_120F hf1 (by decide))
    have hqτ1 : ax_pl τ1.2.1 = ax_pl σ.2.1 := (ax_plF hf1 (by decide))
    have hLτ1 : τ1.2.2 = σ.2.2 := hl1
    refine kr_iinc (v := f + 1) (lv' := [(4, .int (f + 1)), (3, .int w), (2, .int k), (1, .int up), (0, .ref 68)]) 0 rd_d_X4_prepareStarts_101 rfl rfl (by decide) rfl ?_
    refine kr_goto (tgt := 74) rd_d_X4_prepareStarts_104 rfl ?_
    refine kr_sub (lv' := [(4, .int (f + 1)), (3, .int w), (2, .int k), (1, .int up), (0, .ref 68)]) (by simp) ?_
    refine ih (F + 1) (f + 1) τ1 hT1 ⟨by rw [hf1 68 15 (fun q => absurd q.1 (by decide))]; exact ht.1, fun y x h1 h2 => by rw [hf1 70 _ (fun q => absurd q.1 (by decide))]; exact ht.2 y x h1 h2⟩ (ax_inc ef (by omega)) (by omega) ?_ ?_
    · intro x hx
      by_cases e : x = F
      · subst e; rw [hw1]; exact hgi
      · rw [hf1 71 _ (fun q => by have := q.2; omega)]; exact tab x (by omega)
    · exact fun σ' f2 a1 a2 a3 a4 => kk σ' f2 a1 (fun x y q => (a2 x y q).trans (hf1 x y (fun z => q ⟨z.1, by have := z.2; omega, by have := z.2; omega⟩))) (a3.trans hLτ1) a4
theorem ax_psB (G : sx_G0 g L xs z9 hd_C ex_mt) {s : Nat → Int32} {H UP : Nat} {up : Int32} (b : pn_B s) (bw : pl_W s) {CH : List Nat → Nat → Nat → Int64 → Prop} (hC0 : ∀ ws T, CH ws T 0 0) (hCH : ∀ (w : Nat) (ws : List Nat) (T j : Nat) (ch : Int64) (fx fo : Int32), w < 10 → j ≤ 24 → CH (w :: ws) T j ch → fx.toInt = (j : Int) → fo.toInt = ((pn_v s (w :: ws) T j).2 : Int) → CH (w :: ws) T (j + 1) (ch ||| (fo.toInt64 <<< ((2 * fx).toInt64 &&& 63)))) (eup : up.toInt = (UP : Int)) (hup : UP ≤ 1) {K : Nat} (hK : (K : Int) < (s 0).toInt) {w k : Int32} (ew : w.toInt = (pk_w s UP K : Int)) {σ : am_S} (hS : ax_S σ) (hX : pc_X s σ) (hg : pg_K s H σ.2.1) (ht : pr_T s (pk_l s UP K) (min 24 (pv_U (pn_of s) (pk_l s UP K))) H σ.2.1) {post : Option (Option Value) → am_S → Prop} (kk : (∀ (σ' : am_S) (f2 : Int32), ax_S σ' → (∀ x y, x ≠ 70 → x ≠ 78 → x ≠ 79 → ¬ (x = 68 ∧ y = 15) → ¬ (x = 71 ∧ (UP * 10 + pk_w s UP K) * 25 ≤ y ∧ y < (UP * 10 + pk_w s UP K) * 25 + 25) → σ'.2.1 x y = σ.2.1 x y) → pr_T s (pk_l s UP (K + 1)) (min 24 (pv_U (pn_of s) (pk_l s UP (K + 1)))) H σ'.2.1 → (∀ f, f ≤ 24 → (σ'.2.1 71 ((UP * 10 + pk_w s UP K) * 25 + f)).toInt = ((pn_v s (pk_l s UP (K + 1)) 0 f).1 : Int)) → (∀ T, T < H → CH (pk_l s UP (K + 1)) T (min 24 (pv_U (pn_of s) (pk_l s UP (K + 1))) + 1) (σ'.2.2.1 72 ((UP * 10 + pk_w s UP K) * 60 + T))) → (∀ x y, ¬ (x = 72 ∧ (UP * 10 + pk_w s UP K) * 60 ≤ y ∧ y < (UP * 10 + pk_w s UP K) * 60 + 60) → σ'.2.2.1 x y = σ.2.2.1 x y) → am_K g 6 tX4_prepareStarts.1 0 0 107 [(4, .int f2), (3, .int w), (2, .int k), (1, .int up), (0, .ref 68)] [] σ' post)) : am_K g 6 tX4_prepareStarts.1 0 0 62 [(3, .int w), (2, .int k), (1, .int up), (0, .ref 68)] [] σ post := by
  have hl := pk_lS (UP := UP) hK
  have hW := pk_wW (UP := UP) hK
  have h10 : pk_w s UP K < 10 := by
    have := b.1.1.2
    omega
  have hvm := pk_lm (s := s) (UP := UP) (k := K) (by omega)
  rw [hl] at kk
  obtain ⟨ww, hww⟩ : ∃ ww, pk_w s UP K = ww := ⟨_, rfl⟩
  obtain ⟨ws, hws⟩ : ∃ ws, pk_l s UP K = ws := ⟨_, rfl⟩
  rw [hww] at ew hW h10 kk
  rw [hws] at ht hvm kk
  refine kr_aload_n 3 rd_d_X4_prepareStarts_62 rfl ?_
  refine kr_iload_n 0 rd_d_X4_prepareStarts_63 rfl ?_
  refine kr_bipush (v := 24) rd_d_X4_prepareStarts_64 (by decide) ?_
  refine kr_iload_n 2 rd_d_X4_prepareStarts_66 rfl ?_
  refine kr_iconst (v := 1) rd_d_X4_prepareStarts_67 (by decide) ?_
  refine rd_call G (T2 := tX4_putAhead) rfl rd_d_X4_prepareStarts_68 rd_k_X4_prepareStarts_68 rfl (hS.1 68 (.inl 4) rfl) (as := [.int w, .int 24, .int up, .int 1]) (st := []) rfl (Nat.le_of_ble_eq_true rfl) rfl (Nat.le_of_ble_eq_true rfl) (d1 := 5) (by decide) (fun _ h => by cases h.1) (ax_pa G hS b bw hX.1 ew hW hvm rfl (mfn := 24) (mf := 24) rfl (Nat.le_refl _) hg ht eup hup (CH := CH (ww :: ws)) (hC0 (ww :: ws)) (fun T _ j ch fx fo hj c1 c2 c3 => hCH ww ws T j ch fx fo h10 (by omega) c1 c2 c3) (LM := fun T l => (∀ T', T' < T → CH (ww :: ws) T' (min 24 (pv_U (pn_of s) (ww :: ws)) + 1) (l 72 ((UP * 10 + ww) * 60 + T'))) ∧ ∀ x y, ¬ (x = 72 ∧ (UP * 10 + ww) * 60 ≤ y ∧ y < (UP * 10 + ww) * 60 + 60) → l x y = σ.2.2.1 x y) (fun T l ch hT h1 h2 => by rw [if_neg (c := (1 : Int32) = 0) (by decide)]; exact ⟨fun T' h3 => by by_cases e : T' = T; (· subst e; rw [am_up_s]; exact h2); (· rw [am_up_n _ _ (fun q => e (by omega))]; exact h1.1 T' (by omega)), fun x y q => by rw [am_up_n _ _ (fun z => q ⟨z.1, by omega, by have := hg.1.1; omega⟩)]; exact h1.2 x y q⟩) ⟨fun T' h3 => absurd h3 (Nat.not_lt_zero T'), fun _ _ _ => rfl⟩) ?_
  intro v1 σ1 ⟨hv1, hS1, hf1, hr1, hl1, ht1⟩
  cases hv1
  refine kr_iconst (v := 0) rd_d_X4_prepareStarts_71 (by decide) ?_
  refine kr_istore (lv' := [(4, .int 0), (3, .int w), (2, .int k), (1, .int up), (0, .ref 68)]) rd_d_X4_prepareStarts_72 (by decide) rfl ?_
  refine ax_psF G eup ew hup h10 rfl hg.1.2 25 0 0 σ1 hS1 ht1 rfl rfl (fun x hx => absurd hx (Nat.not_lt_zero x)) ?_
  intro σ2 f2 a1 a2 a3 a4
  have e21 : σ2.2.2.1 = σ1.2.2.1 := congrArg Prod.fst a3
  exact kk σ2 f2 a1 (fun x y x0 x8 x9 hx q => (a2 x y q).trans (hf1 x y x0 x8 x9 hx)) ⟨by rw [a2 68 15 (fun q => absurd q.1 (by decide))]; exact ht1.1, fun y x h1 h2 => by rw [a2 70 _ (fun q => absurd q.1 (by decide))]; exact ht1.2 y x h1 h2⟩ a4 (fun T hT => by rw [e21]; exact hl1.1 T hT) (fun x y q => by rw [e21]; exact hl1.2 x y q)
theorem ax_psK (G : sx_G0 g L xs z9 hd_C ex_mt) {s : Nat → Int32} {H UP : Nat} {up : Int32} (b : pn_B s) (bw : pl_W s) {CH : List Nat → Nat → Nat → Int64 → Prop} (hC0 : ∀ ws T, CH ws T 0 0) (hCH : ∀ (w : Nat) (ws : List Nat) (T j : Nat) (ch : Int64) (fx fo : Int32), w < 10 → j ≤ 24 → CH (w :: ws) T j ch → fx.toInt = (j : Int) → fo.toInt = ((pn_v s (w :: ws) T j).2 : Int) → CH (w :: ws) T (j + 1) (ch ||| (fo.toInt64 <<< ((2 * fx).toInt64 &&& 63)))) (eup : up.toInt = (UP : Int)) (hup : UP ≤ 1) {post : Option (Option Value) → am_S → Prop} : ∀ (n K : Nat) (k : Int32) (σ : am_S), ax_S σ → pc_X s σ → pg_K s H σ.2.1 → k.toInt = (K : Int) → (K : Int) + (n : Int) = (s 0).toInt → pr_T s (pk_l s UP K) (min 24 (pv_U (pn_of s) (pk_l s UP K))) H σ.2.1 → (∀ k f : Nat, k < K → f ≤ 24 → (σ.2.1 71 ((UP * 10 + pk_w s UP k) * 25 + f)).toInt = ((pn_v s (pk_l s UP (k + 1)) 0 f).1 : Int)) → (∀ k T : Nat, k < K → T < H → CH (pk_l s UP (k + 1)) T (min 24 (pv_U (pn_of s) (pk_l s UP (k + 1))) + 1) (σ.2.2.1 72 ((UP * 10 + pk_w s UP k) * 60 + T))) → (∀ (σ' : am_S) (k2 : Int32), ax_S σ' → (∀ x y, x ≠ 70 → x ≠ 78 → x ≠ 79 → ¬ (x = 68 ∧ y = 15) → ¬ (x = 71 ∧ UP * 250 ≤ y ∧ y < UP * 250 + 250) → σ'.2.1 x y = σ.2.1 x y) → (∀ x y, ¬ (x = 72 ∧ UP * 600 ≤ y ∧ y < UP * 600 + 600) → σ'.2.2.1 x y = σ.2.2.1 x y) → (∀ k f : Nat, (k : Int) < (s 0).toInt → f ≤ 24 → (σ'.2.1 71 ((UP * 10 + pk_w s UP k) * 25 + f)).toInt = ((pn_v s (pk_l s UP (k + 1)) 0 f).1 : Int)) → (∀ k T : Nat, (k : Int) < (s 0).toInt → T < H → CH (pk_l s UP (k + 1)) T (min 24 (pv_U (pn_of s) (pk_l s UP (k + 1))) + 1) (σ'.2.2.1 72 ((UP * 10 + pk_w s UP k) * 60 + T))) → am_K g 6 tX4_prepareStarts.1 0 0 113 [(2, .int k2), (1, .int up), (0, .ref 68)] [] σ' post) → am_K g 6 tX4_prepareStarts.1 0 0 30 [(2, .int k), (1, .int up), (0, .ref 68)] [] σ post := by
  have hs10 := b.1.1.2
  intro n
  induction n with
  | zero =>
    intro K k σ hS hX hg ek hn ht hst hcc kk
    have hw7 := hX.1.1
    refine kr_iload_n 0 rd_d_X4_prepareStarts_30 rfl ?_
    refine kr_aload_n 2 rd_d_X4_prepareStarts_31 rfl ?_
    refine kr_getf G.1 (rd_FL rd_k_X4_prepareStarts_32).1 rd_d_X4_prepareStarts_32 (hS.1 68 (.inl 4) rfl) (v := .ref 4) (by unfold am_fa; rw [(rd_FL rd_k_X4_prepareStarts_32).2]; exact hS.2 68 0 4 rfl) ?_
    refine kr_getf G.1 (rd_FL rd_k_X4_prepareStarts_35).1 rd_d_X4_prepareStarts_35 (hS.1 4 (.inl 9) rfl) (v := .int (σ.2.1 4 7)) (by unfold am_fa; rw [(rd_FL rd_k_X4_prepareStarts_35).2]; rfl) ?_
    refine kr_icmp_ge (tgt := 113) rd_d_X4_prepareStarts_38 rfl (fun h1 => ?_) (fun h1 => ?_)
    · exact kk σ k hS (fun _ _ _ _ _ _ _ => rfl) (fun _ _ _ => rfl) (fun k f h1 h2 => hst k f (by omega) h2) (fun k T h1 h2 => hcc k T (by omega) h2)
    · exact absurd (Int32.le_iff_toInt_le.mpr (by omega)) h1
  | succ n ih =>
    intro K k σ hS hX hg ek hn ht hst hcc kk
    have hw7 := hX.1.1
    have hK : (K : Int) < (s 0).toInt := by omega
    have hW := pk_wW (UP := UP) hK
    have KB : ∀ w : Int32, (∀ (σ' : am_S) (f2 : Int32), ax_S σ' → (∀ x y, x ≠ 70 → x ≠ 78 → x ≠ 79 → ¬ (x = 68 ∧ y = 15) → ¬ (x = 71 ∧ (UP * 10 + pk_w s UP K) * 25 ≤ y ∧ y < (UP * 10 + pk_w s UP K) * 25 + 25) → σ'.2.1 x y = σ.2.1 x y) → pr_T s (pk_l s UP (K + 1)) (min 24 (pv_U (pn_of s) (pk_l s UP (K + 1)))) H σ'.2.1 → (∀ f, f ≤ 24 → (σ'.2.1 71 ((UP * 10 + pk_w s UP K) * 25 + f)).toInt = ((pn_v s (pk_l s UP (K + 1)) 0 f).1 : Int)) → (∀ T, T < H → CH (pk_l s UP (K + 1)) T (min 24 (pv_U (pn_of s) (pk_l s UP (K + 1))) + 1) (σ'.2.2.1 72 ((UP * 10 + pk_w s UP K) * 60 + T))) → (∀ x y, ¬ (x = 72 ∧ (UP * 10 + pk_w s UP K) * 60 ≤ y ∧ y < (UP * 10 + pk_w s UP K) * 60 + 60) → σ'.2.2.1 x y = σ.2.2.1 x y) → am_K g 6 tX4_prepareStarts.1 0 0 107 [(4, .int f2), (3, .int w), (2, .int k), (1, .int up), (0, .ref 68)] [] σ' post) := by
      intro w σ1 f2 a1 a2 a3 a4 a5 a6
      refine kr_iinc (v := k + 1) (lv' := [(2, .int (k + 1)), (4, .int f2), (3, .int w), (1, .int up), (0, .ref 68)]) 2 rd_d_X4_prepareStarts_107 rfl rfl (by decide) rfl ?_
      refine kr_goto (tgt := 30) rd_d_X4_prepareStarts_110 rfl ?_
      refine kr_sub (lv' := [(2, .int (k + 1)), (1, .int up), (0, .ref 68)]) (by simp) ?_
      refine ih (K + 1) (k + 1) σ1 a1 (pc_F hX (fun x y q => a2 x y (by omega) (by omega) (by omega) (fun z => by omega) (fun z => by omega))) (pg_F hg (fun x y q => a2 x y (by omega) (by omega) (by omega) (fun z => by omega) (fun z => by omega))) (ax_inc ek (by omega)) (by omega) a3 ?_ ?_ ?_
      · intro k0 f h1 h2
        by_cases e : k0 = K
        · subst e; exact a4 f h2
        · have hd : pk_w s UP k0 ≠ pk_w s UP K := by unfold pk_w; split <;> omega
          rw [a2 71 _ (by decide) (by decide) (by decide) (fun q => absurd q.1 (by decide)) (fun q => by have := q.2; omega)]
          exact hst k0 f (by omega) h2
      · intro k0 T h1 h2
        by_cases e : k0 = K
        · subst e; exact a5 T h2
        · have hd : pk_w s UP k0 ≠ pk_w s UP K := by unfold pk_w; split <;> omega
          have h60 := hg.1.1
          rw [a6 72 _ (fun q => by have := q.2; omega)]
          exact hcc k0 T (by omega) h2
      · exact fun σ' k2 c1 c2 c3 c4 c5 => kk σ' k2 c1 (fun x y x0 x8 x9 hx q => (c2 x y x0 x8 x9 hx q).trans (a2 x y x0 x8 x9 hx (fun z => q ⟨z.1, by have := z.2; omega, by have := z.2; omega⟩))) (fun x y q => (c3 x y q).trans (a6 x y (fun z => q ⟨z.1, by have := z.2; omega, by have := z.2; omega⟩))) c4 c5
    refine kr_iload_n 0 rd_d_X4_prepareStarts_30 rfl ?_
    refine kr_aload_n 2 rd_d_X4_prepareStarts_31 rfl ?_
    refine kr_getf G.1 (rd_FL rd_k_X4_prepareStarts_32).1 rd_d_X4_prepareStarts_32 (hS.1 68 (.inl 4) rfl) (v := .ref 4) (by unfold am_fa; rw [(rd_FL rd_k_X4_prepareStarts_32).2]; exact hS.2 68 0 4 rfl) ?_
    refine kr_getf G.1 (rd_FL rd_k_X4_prepareStarts_35).1 rd_d_X4_prepareStarts_35 (hS.1 4 (.inl 9) rfl) (v := .int (σ.2.1 4 7)) (by unfold am_fa; rw [(rd_FL rd_k_X4_prepareStarts_35).2]; rfl) ?_
    refine kr_icmp_ge (tgt := 113) rd_d_X4_prepareStarts_38 rfl (fun h21 => ?_) (fun h21 => ?_)
    · have := Int32.le_iff_toInt_le.mp h21
      omega
    · refine kr_iload_n 1 rd_d_X4_prepareStarts_41 rfl ?_
      refine kr_iconst (v := 1) rd_d_X4_prepareStarts_42 (by decide) ?_
      refine kr_icmp_ne (tgt := 60) rd_d_X4_prepareStarts_43 rfl (fun h22 => ?_) (fun h22 => ?_)
      · refine kr_iload_n 0 rd_d_X4_prepareStarts_60 rfl ?_
        refine kr_istore_n (lv' := [(3, .int k), (2, .int k), (1, .int up), (0, .ref 68)]) rd_d_X4_prepareStarts_61 (by decide) rfl ?_
        have hU0 : ¬ UP = 1 := fun e => h22 (Int32.toInt_inj.mp (by have z : (1 : Int32).toInt = 1 := rfl; omega))
        have ew : (k).toInt = (pk_w s UP K : Int) := by
          unfold pk_w
          rw [if_neg hU0]
          exact ek
        exact ax_psB G b bw hC0 hCH eup hup hK ew hS hX hg ht (KB _)
      · refine kr_aload_n 2 rd_d_X4_prepareStarts_46 rfl ?_
        refine kr_getf G.1 (rd_FL rd_k_X4_prepareStarts_47).1 rd_d_X4_prepareStarts_47 (hS.1 68 (.inl 4) rfl) (v := .ref 4) (by unfold am_fa; rw [(rd_FL rd_k_X4_prepareStarts_47).2]; exact hS.2 68 0 4 rfl) ?_
        refine kr_getf G.1 (rd_FL rd_k_X4_prepareStarts_50).1 rd_d_X4_prepareStarts_50 (hS.1 4 (.inl 9) rfl) (v := .int (σ.2.1 4 7)) (by unfold am_fa; rw [(rd_FL rd_k_X4_prepareStarts_50).2]; rfl) ?_
        refine kr_iconst (v := 1) rd_d_X4_prepareStarts_53 (by decide) ?_
        refine kr_isub rd_d_X4_prepareStarts_54 ?_
        refine kr_iload_n 0 rd_d_X4_prepareStarts_55 rfl ?_
        refine kr_isub rd_d_X4_prepareStarts_56 ?_
        refine kr_goto (tgt := 61) rd_d_X4_prepareStarts_57 rfl ?_
        refine kr_istore_n (lv' := [(3, .int (((σ.2.1 4 7) - 1) - k)), (2, .int k), (1, .int up), (0, .ref 68)]) rd_d_X4_prepareStarts_61 (by decide) rfl ?_
        have hU1 : UP = 1 := by have e := congrArg Int32.toInt h22; have z : (1 : Int32).toInt = 1 := rfl; omega
        have ew : (((σ.2.1 4 7) - 1) - k).toInt = (pk_w s UP K : Int) := by
          have e7 : (σ.2.1 4 7).toInt = (((s 0).toInt.toNat : Nat) : Int) := by omega
          rw [ch_sub (ch_sub e7 (y := 1) (b := 1) rfl (by omega)) ek (by omega)]
          unfold pk_w
          rw [if_pos hU1]
        exact ax_psB G b bw hC0 hCH eup hup hK ew hS hX hg ht (KB _)
theorem ax_ps (G : sx_G0 g L xs z9 hd_C ex_mt) {σ : am_S} (hS : ax_S σ) {s : Nat → Int32} (b : pn_B s) (bw : pl_W s) (b5 : pl_B5 s) {CH : List Nat → Nat → Nat → Int64 → Prop} (hC0 : ∀ ws T, CH ws T 0 0) (hCH : ∀ (w : Nat) (ws : List Nat) (T j : Nat) (ch : Int64) (fx fo : Int32), w < 10 → j ≤ 24 → CH (w :: ws) T j ch → fx.toInt = (j : Int) → fo.toInt = ((pn_v s (w :: ws) T j).2 : Int) → CH (w :: ws) T (j + 1) (ch ||| (fo.toInt64 <<< ((2 * fx).toInt64 &&& 63)))) (hX : pc_X s σ) (hP : pk_P CH s σ) : am_K g 6 tX4_prepareStarts.1 0 0 0 (lv_args 0 [.ref 68]) [] σ (fun r σ' => r = some none ∧ ax_S σ' ∧ (∀ x y, x ≠ 69 → x ≠ 70 → x ≠ 71 → x ≠ 73 → x ≠ 74 → x ≠ 78 → x ≠ 79 → ¬ (x = 68 ∧ 15 ≤ y ∧ y ≤ 18) → σ'.2.1 x y = σ.2.1 x y) ∧ ¬ σ'.2.1 68 18 = 0 ∧ pk_P CH s σ' ∧ ∀ x y, x ≠ 72 → σ'.2.2.1 x y = σ.2.2.1 x y) := by
  refine kr_aload_n 0 rd_d_X4_prepareStarts_0 rfl ?_
  refine kr_getf G.1 (rd_FL rd_k_X4_prepareStarts_1).1 rd_d_X4_prepareStarts_1 (hS.1 68 (.inl 4) rfl) (v := .int (σ.2.1 68 18)) (by unfold am_fa; rw [(rd_FL rd_k_X4_prepareStarts_1).2]; rfl) ?_
  refine kr_if_eq (tgt := 8) rd_d_X4_prepareStarts_4 rfl (fun h1 => ?_) (fun h1 => ?_)
  · refine kr_aload_n 0 rd_d_X4_prepareStarts_8 rfl ?_
    refine kr_iconst (v := 1) rd_d_X4_prepareStarts_9 (by decide) ?_
    refine ax_putWL G hS rd_d_X4_prepareStarts_10 rd_k_X4_prepareStarts_10 (hS.1 68 (.inl 4) rfl) rfl rfl rfl ?_
    intro τ1 hT1 hw1 hf1 hl1
    have hsτ1 : τ1.2.1 120 = σ.2.1 120 := (ax_120F hf1 (by decide))
    have hqτ1 : ax_pl τ1.2.1 = ax_pl σ.2.1 := (ax_plF hf1 (by decide))
    have hLτ1 : τ1.2.2 = σ.2.2 := hl1
    refine kr_aload_n 0 rd_d_X4_prepareStarts_13 rfl ?_
    refine rd_call G (T2 := tX4_prepareGains) rfl rd_d_X4_prepareStarts_14 rd_k_X4_prepareStarts_14 rfl (hT1.1 68 (.inl 4) rfl) (as := []) (st := []) rfl (Nat.le_of_ble_eq_true rfl) rfl (Nat.le_of_ble_eq_true rfl) (d1 := 5) (by decide) (fun _ h => by cases h.1) (ax_pg G hT1 b bw b5 (pc_F hX (fun x y q => hf1 x y (fun z => by omega))) (fun n => by rw [hf1 68 17 (fun q => absurd q.2 (by decide))] at n; have h := hP.1 n; exact ⟨h.1.imp (fun H hh => pg_F hh (fun x y q => hf1 x y (fun z => by omega))), pk_rF h.2 (fun y => ⟨hf1 73 y (fun z => absurd z.1 (by decide)), hf1 74 y (fun z => absurd z.1 (by decide))⟩)⟩)) ?_
    intro v1 σ1 ⟨hv1, hS1, hfG, hlG, hn1, _, ⟨H, hg1⟩, hr1⟩
    cases hv1
    have hX1 : pc_X s σ1 := pc_F hX (fun x y q => (hfG x y (by omega) (by omega) (by omega) (fun z => by omega)).trans (hf1 x y (fun z => by omega)))
    refine kr_iconst (v := 0) rd_d_X4_prepareStarts_17 (by decide) ?_
    refine kr_istore_n (lv' := [(1, .int 0), (0, .ref 68)]) rd_d_X4_prepareStarts_18 (by decide) rfl ?_
    refine kr_iload_n 0 rd_d_X4_prepareStarts_19 rfl ?_
    refine kr_iconst (v := 1) rd_d_X4_prepareStarts_20 (by decide) ?_
    refine kr_icmp_gt (tgt := 119) rd_d_X4_prepareStarts_21 rfl (fun h => absurd h (by decide)) (fun h => ?_)
    refine kr_aload_n 1 rd_d_X4_prepareStarts_24 rfl ?_
    refine rd_call G (T2 := tX4_clearRests) rfl rd_d_X4_prepareStarts_25 rd_k_X4_prepareStarts_25 rfl (hS1.1 68 (.inl 4) rfl) (as := []) (st := []) rfl (Nat.le_of_ble_eq_true rfl) rfl (Nat.le_of_ble_eq_true rfl) (d1 := 2) (by decide) (fun _ h => by cases h.1) (ax_clr G hS1) ?_
    intro vA σA ⟨hvA, hSA, huA, hzA, hfA, hlA⟩
    cases hvA
    refine kr_iconst (v := 0) rd_d_X4_prepareStarts_28 (by decide) ?_
    refine kr_istore_n (lv' := [(2, .int 0), (1, .int 0), (0, .ref 68)]) rd_d_X4_prepareStarts_29 (by decide) rfl ?_
    have hXA : pc_X s σA := pc_F hX1 (fun x y q => hfA x y (by omega) (fun z => by omega))
    have hgA : pg_K s H σA.2.1 := pg_F hg1 (fun x y q => hfA x y (by omega) (fun z => by omega))
    have htA : pr_T s (pk_l s 0 0) (min 24 (pv_U (pn_of s) (pk_l s 0 0))) H σA.2.1 := pr_T0 s hg1.1.1 huA hzA
    refine kr_sub (lv' := [(2, .int 0), (1, .int 0), (0, .ref 68)]) (by simp) ?_
    refine ax_psK G b bw hC0 hCH (UP := 0) (up := 0) rfl (by decide) (s 0).toInt.toNat 0 0 σA hSA hXA hgA rfl (by have := b.1.1.1; omega) htA (fun k f h => absurd h (Nat.not_lt_zero k)) (fun k T h => absurd h (Nat.not_lt_zero k)) ?_
    intro σC kC hSC hfC hLC hsC hcC
    have hXC : pc_X s σC := pc_F hXA (fun x y q => hfC x y (by omega) (by omega) (by omega) (fun z => by omega) (fun z => by omega))
    have hgC : pg_K s H σC.2.1 := pg_F hgA (fun x y q => hfC x y (by omega) (by omega) (by omega) (fun z => by omega) (fun z => by omega))
    refine kr_iinc (v := 1) (lv' := [(1, .int 1), (2, .int kC), (0, .ref 68)]) 1 rd_d_X4_prepareStarts_113 rfl rfl (by decide) rfl ?_
    refine kr_goto (tgt := 19) rd_d_X4_prepareStarts_116 rfl ?_
    refine kr_iload_n 0 rd_d_X4_prepareStarts_19 rfl ?_
    refine kr_iconst (v := 1) rd_d_X4_prepareStarts_20 (by decide) ?_
    refine kr_icmp_gt (tgt := 119) rd_d_X4_prepareStarts_21 rfl (fun h => absurd h (by decide)) (fun h => ?_)
    refine kr_aload_n 2 rd_d_X4_prepareStarts_24 rfl ?_
    refine rd_call G (T2 := tX4_clearRests) rfl rd_d_X4_prepareStarts_25 rd_k_X4_prepareStarts_25 rfl (hSC.1 68 (.inl 4) rfl) (as := []) (st := []) rfl (Nat.le_of_ble_eq_true rfl) rfl (Nat.le_of_ble_eq_true rfl) (d1 := 2) (by decide) (fun _ h => by cases h.1) (ax_clr G hSC) ?_
    intro vB σB ⟨hvB, hSB, huB, hzB, hfB, hlB⟩
    cases hvB
    refine kr_iconst (v := 0) rd_d_X4_prepareStarts_28 (by decide) ?_
    refine kr_istore_n (lv' := [(2, .int 0), (1, .int 1), (0, .ref 68)]) rd_d_X4_prepareStarts_29 (by decide) rfl ?_
    have hXB : pc_X s σB := pc_F hXC (fun x y q => hfB x y (by omega) (fun z => by omega))
    have hgB : pg_K s H σB.2.1 := pg_F hgC (fun x y q => hfB x y (by omega) (fun z => by omega))
    have htB : pr_T s (pk_l s 1 0) (min 24 (pv_U (pn_of s) (pk_l s 1 0))) H σB.2.1 := pr_T0 s hg1.1.1 huB hzB
    refine kr_sub (lv' := [(2, .int 0), (1, .int 1), (0, .ref 68)]) (by simp) ?_
    refine ax_psK G b bw hC0 hCH (UP := 1) (up := 1) rfl (by decide) (s 0).toInt.toNat 0 0 σB hSB hXB hgB rfl (by have := b.1.1.1; omega) htB (fun k f h => absurd h (Nat.not_lt_zero k)) (fun k T h => absurd h (Nat.not_lt_zero k)) ?_
    intro σD kD hSD hfD hLD hsD hcD
    have hXD : pc_X s σD := pc_F hXB (fun x y q => hfD x y (by omega) (by omega) (by omega) (fun z => by omega) (fun z => by omega))
    have hgD : pg_K s H σD.2.1 := pg_F hgB (fun x y q => hfD x y (by omega) (by omega) (by omega) (fun z => by omega) (fun z => by omega))
    refine kr_iinc (v := 2) (lv' := [(1, .int 2), (2, .int kD), (0, .ref 68)]) 1 rd_d_X4_prepareStarts_113 rfl rfl (by decide) rfl ?_
    refine kr_goto (tgt := 19) rd_d_X4_prepareStarts_116 rfl ?_
    refine kr_iload_n 0 rd_d_X4_prepareStarts_19 rfl ?_
    refine kr_iconst (v := 1) rd_d_X4_prepareStarts_20 (by decide) ?_
    refine kr_icmp_gt (tgt := 119) rd_d_X4_prepareStarts_21 rfl (fun h => ?_) (fun h => absurd h (by decide))
    have fr : ∀ x y, x ≠ 70 → x ≠ 71 → x ≠ 78 → x ≠ 79 → ¬ (x = 68 ∧ y = 15) → σD.2.1 x y = σ1.2.1 x y := fun x y x0 x1 x8 x9 hx => (hfD x y x0 x8 x9 hx (fun q => x1 q.1)).trans ((hfB x y x0 hx).trans ((hfC x y x0 x8 x9 hx (fun q => x1 q.1)).trans (hfA x y x0 hx)))
    have hst : pk_S s σD.2.1 := by
      intro UP k f h1 h2 h3
      have h10 : pk_w s UP k < 10 := by have := pk_wW (UP := UP) h2; have := b.1.1.2; omega
      by_cases e : UP = 1
      · subst e; exact hsD k f h2 h3
      · have e0 : UP = 0 := by omega
        subst e0
        rw [hfD 71 _ (by decide) (by decide) (by decide) (fun q => absurd q.1 (by decide)) (fun q => by have := q.2; omega), hfB 71 _ (by decide) (fun q => absurd q.1 (by decide))]
        exact hsC k f h2 h3
    have hcc : pk_C CH s H σD.2.2.1 := by
      intro UP k T h1 h2 h3
      have h60 := hg1.1.1
      have h10 : pk_w s UP k < 10 := by have := pk_wW (UP := UP) h2; have := b.1.1.2; omega
      by_cases e : UP = 1
      · subst e; exact hcD k T h2 h3
      · have e0 : UP = 0 := by omega
        subst e0
        rw [hLD 72 _ (fun q => by have := q.2; omega), show σB.2.2.1 = σC.2.2.1 from congrArg Prod.fst hlB]
        exact hcC k T h2 h3
    refine kr_return rd_d_X4_prepareStarts_119 rfl ⟨rfl, hSD, fun x y x9 x0 x1 x3 x4 x8 x7 hx => (fr x y x0 x1 x8 x7 (fun q => hx ⟨q.1, by omega, by omega⟩)).trans ((hfG x y x9 x3 x4 (fun q => hx ⟨q.1, by omega, by omega⟩)).trans (hf1 x y (fun q => hx ⟨q.1, by omega, by omega⟩))), ?_, ⟨fun _ => ⟨⟨H, hgD⟩, pk_rF hr1 (fun y => ⟨fr 73 y (by decide) (by decide) (by decide) (by decide) (fun q => absurd q.1 (by decide)), fr 74 y (by decide) (by decide) (by decide) (by decide) (fun q => absurd q.1 (by decide))⟩)⟩, fun _ => ⟨?_, hst, H, hgD, hcc⟩⟩, fun x y hx => ?_⟩
    · rw [fr 68 18 (by decide) (by decide) (by decide) (by decide) (fun q => absurd q.2 (by decide)), hfG 68 18 (by decide) (by decide) (by decide) (fun q => by have := q.2; omega), hw1]; decide
    · rw [fr 68 17 (by decide) (by decide) (by decide) (by decide) (fun q => absurd q.2 (by decide))]; exact hn1
    · rw [hLD x y (fun q => hx q.1), show σB.2.2.1 = σC.2.2.1 from congrArg Prod.fst hlB, hLC x y (fun q => hx q.1), show σA.2.2.1 = σ1.2.2.1 from congrArg Prod.fst hlA, show σ1.2.2.1 = σ.2.2.1 from congrArg Prod.fst (hlG.trans hLτ1)]
  · exact kr_return rd_d_X4_prepareStarts_7 rfl ⟨rfl, hS, fun _ _ _ _ _ _ _ _ _ _ => rfl, h1, hP, fun _ _ _ => rfl⟩
theorem ax_sg (G : sx_G0 g L xs z9 hd_C ex_mt) {σ : am_S} (hS : ax_S σ) {s : Nat → Int32} {up w f : Int32} {UP k F : Nat} (b : pn_B s) (bw : pl_W s) (b5 : pl_B5 s) {CH : List Nat → Nat → Nat → Int64 → Prop} (hC0 : ∀ ws T, CH ws T 0 0) (hCH : ∀ (w : Nat) (ws : List Nat) (T j : Nat) (ch : Int64) (fx fo : Int32), w < 10 → j ≤ 24 → CH (w :: ws) T j ch → fx.toInt = (j : Int) → fo.toInt = ((pn_v s (w :: ws) T j).2 : Int) → CH (w :: ws) T (j + 1) (ch ||| (fo.toInt64 <<< ((2 * fx).toInt64 &&& 63)))) (hX : pc_X s σ) (hP : pk_P CH s σ) (eup : up.toInt = (UP : Int)) (hup : UP ≤ 1) (hK : (k : Int) < (s 0).toInt) (ew : w.toInt = (pk_w s UP k : Int)) (ef : f.toInt = (F : Int)) (hF : F ≤ 24) : am_K g 7 tX4_startGain.1 0 0 0 (lv_args 0 [.ref 68, .int up, .int w, .int f]) [] σ (fun r σ' => (∃ y : Int32, r = some (some (.int y)) ∧ y.toInt = ((pn_v s (pk_l s UP (k + 1)) 0 F).1 : Int)) ∧ ax_S σ' ∧ (∀ x y, x ≠ 69 → x ≠ 70 → x ≠ 71 → x ≠ 73 → x ≠ 74 → x ≠ 78 → x ≠ 79 → ¬ (x = 68 ∧ 15 ≤ y ∧ y ≤ 18) → σ'.2.1 x y = σ.2.1 x y) ∧ ¬ σ'.2.1 68 18 = 0 ∧ pk_P CH s σ' ∧ ∀ x y, x ≠ 72 → σ'.2.2.1 x y = σ.2.2.1 x y) := by
  refine kr_aload_n 0 rd_d_X4_startGain_0 rfl ?_
  refine rd_call G (T2 := tX4_prepareStarts) rfl rd_d_X4_startGain_1 rd_k_X4_startGain_1 rfl (hS.1 68 (.inl 4) rfl) (as := []) (st := []) rfl (Nat.le_of_ble_eq_true rfl) rfl (Nat.le_of_ble_eq_true rfl) (d1 := 6) (by decide) (fun _ h => by cases h.1) (ax_ps G hS b bw b5 hC0 hCH hX hP) ?_
  intro v1 σ1 ⟨hv1, hS1, hf1, hn1, hP1, hl1⟩
  cases hv1
  have hw10 : pk_w s UP k < 10 := by have := pk_wW (UP := UP) hK; have := b.1.1.2; omega
  have eix := pa_sti eup ew ef hup hw10 hF
  refine kr_aload_n 0 rd_d_X4_startGain_4 rfl ?_
  refine kr_getf G.1 (rd_FL rd_k_X4_startGain_5).1 rd_d_X4_startGain_5 (hS1.1 68 (.inl 4) rfl) (v := .ref 71) (by unfold am_fa; rw [(rd_FL rd_k_X4_startGain_5).2]; exact hS1.2 68 3 71 rfl) ?_
  refine kr_iload_n 1 rd_d_X4_startGain_8 rfl ?_
  refine kr_iload_n 2 rd_d_X4_startGain_9 rfl ?_
  refine kr_iload_n 3 rd_d_X4_startGain_10 rfl ?_
  refine rd_callS G (T2 := tX4_startIndex) rfl rd_d_X4_startGain_11 rd_k_X4_startGain_11 rfl rfl (as := [.int up, .int w, .int f]) (st := [.ref 71]) rfl (Nat.le_of_ble_eq_true rfl) rfl (Nat.le_of_ble_eq_true rfl) (d1 := 1) (by decide) (fun _ h => by cases h.1) (ax_sti G hS1 up w f) ?_
  intro v1 σ1 ⟨hv1, hs1⟩
  cases hv1
  rw [hs1]
  refine rd_callS G (T2 := tX11_entry) rfl rd_d_X4_startGain_14 rd_k_X4_startGain_14 rfl rfl (as := [.ref 71, .int (ax_f_sti up w f)]) (st := []) rfl (Nat.le_of_ble_eq_true rfl) rfl (Nat.le_of_ble_eq_true rfl) (d1 := 1) (by decide) (fun _ h => by cases h.1) (ax_entry G (hS1.1 71 (.inr (.int, 500)) rfl) (by decide) (ax_f_sti up w f)) ?_
  intro v2 σ2 ⟨hv2, hs2⟩
  cases hv2
  rw [hs2]
  refine kr_ireturn rd_d_X4_startGain_17 (ty := .int) rfl rfl ⟨⟨_, rfl, ?_⟩, hS1, hf1, hn1, hP1, hl1⟩
  rw [ax_ent_in (k := (UP * 10 + pk_w s UP k) * 25 + F) (by decide) eix (by omega)]
  exact (hP1.2 hn1).2.1 UP k F hup hK hF
/-- a fraction in least terms: its one number or the other -/
def ax_pt (a b c : Int32) : Int32 := if c = 0 then a / Int32.ofNat (Nat.gcd a.toInt.toNat b.toInt.toNat) else b / Int32.ofNat (Nat.gcd a.toInt.toNat b.toInt.toNat)
theorem ax_gq {q : Int32} {Q n : Nat} (e : q.toInt = (Q : Int)) (h : Q = n) : Int32.ofNat n = q := by
  have := Int32.toInt_lt q
  apply Int32.toInt_inj.mp
  rw [Int32.toInt_ofNat_of_lt (by omega), e, h]
theorem ax_half {Q R : Nat} (h0 : 0 < R) (h : R < Q) : 2 * (Q % R) < Q := by
  have h1 := Nat.mod_lt Q h0
  have h2 := Nat.div_add_mod Q R
  have h3 : 1 ≤ Q / R := (Nat.le_div_iff_mul_le h0).mpr (by omega)
  have h4 : R * 1 ≤ R * (Q / R) := Nat.mul_le_mul_left R h3
  omega
/-- so many steps are enough -/
def ax_enough (Q R f : Nat) : Prop := ∃ k, (R < 2 ^ k ∧ 2 * k ≤ f) ∨ (R < Q ∧ Q < 2 ^ k ∧ 2 * k - 1 ≤ f)
theorem ax_en0 {Q R : Nat} (h : ax_enough Q R 0) : R = 0 := by
  obtain ⟨k, ⟨h1, h2⟩ | ⟨h1, h2, h3⟩⟩ := h
  · have : k = 0 := by omega
    subst this
    omega
  · have : k = 0 := by omega
    subst this
    omega
theorem ax_enS {Q R f : Nat} (h : ax_enough Q R (f + 1)) (h0 : 0 < R) : ax_enough R (Q % R) f := by
  obtain ⟨k, ⟨h1, h2⟩ | ⟨h1, h2, h3⟩⟩ := h
  · exact ⟨k, Or.inr ⟨Nat.mod_lt Q h0, h1, by omega⟩⟩
  · cases k with
    | zero => omega
    | succ k =>
      have e : 2 ^ (k + 1) = 2 * 2 ^ k := by rw [Nat.pow_succ]; omega
      have := ax_half h0 h1
      exact ⟨k, Or.inl ⟨by omega, by omega⟩⟩
theorem ax_rem {q r : Int32} {Q R : Nat} (eq : q.toInt = (Q : Int)) (er : r.toInt = (R : Int)) (h0 : 0 < R) : (q - q / r * r).toInt = ((Q % R : Nat) : Int) := by
  rw [sx_remI (by omega) (by omega), eq, er, Int.natCast_emod]
theorem ax_ptL (G : sx_G0 g L xs z9 hd_C ex_mt) {σ : am_S} {A B a b c : Int32} {P : Nat} (hP : 0 < P) (hg : Nat.gcd A.toInt.toNat B.toInt.toNat = P) : ∀ (f j Q R : Nat) (st r q : Int32), st.toInt = (j : Int) → j + f = 64 → q.toInt = (Q : Int) → r.toInt = (R : Int) → Nat.gcd Q R = P → ax_enough Q R f → am_K g 1 tX11_part.1 0 0 23 [(7, .int st), (6, .int r), (5, .int q), (4, .int B), (3, .int A), (0, .int a), (1, .int b), (2, .int c)] [] σ (ax_R (ax_pt A B c) σ) := by
  have z0 : (0 : Int32).toInt = 0 := rfl
  have z64 : (64 : Int32).toInt = 64 := rfl
  intro f
  induction f with
  | zero =>
    intro j Q R st r q es hj eq er hG hE
    have hR := ax_en0 hE
    have eg : Q = Nat.gcd A.toInt.toNat B.toInt.toNat := by rw [hg, ← hG, hR, Nat.gcd_zero_right]
    have hQ : 0 < Q := by omega
    refine kr_iload 0 rd_d_X11_part_23 rfl ?_
    refine kr_bipush (v := 64) rd_d_X11_part_25 (by decide) ?_
    refine kr_icmp_ge (tgt := 56) rd_d_X11_part_27 rfl (fun _ => ?_) (fun h => absurd (Int32.le_iff_toInt_le.mpr (by omega)) h)
    refine kr_iload 2 rd_d_X11_part_56 rfl ?_
    refine kr_if_gt (tgt := 72) rd_d_X11_part_58 rfl (fun _ => ?_) (fun h => absurd (Int32.lt_iff_toInt_lt.mpr (by show (0 : Int) < _; omega)) h)
    refine kr_iload_n 7 rd_d_X11_part_72 rfl ?_
    refine kr_if_ne (tgt := 83) rd_d_X11_part_73 rfl (fun h => ?_) (fun h => ?_)
    · refine kr_iload 3 rd_d_X11_part_83 rfl ?_
      refine kr_iload 2 rd_d_X11_part_85 rfl ?_
      refine kr_idiv rd_d_X11_part_87 (fun h0 => by rw [h0] at eq; have z0 : (0 : Int32).toInt = 0 := rfl; omega) ?_
      exact kr_ireturn rd_d_X11_part_88 (ty := .int) rfl rfl ⟨by rw [ax_pt, if_neg h, ax_gq eq eg], rfl⟩
    · refine kr_iload_n 4 rd_d_X11_part_76 rfl ?_
      refine kr_iload 2 rd_d_X11_part_77 rfl ?_
      refine kr_idiv rd_d_X11_part_79 (fun h0 => by rw [h0] at eq; have z0 : (0 : Int32).toInt = 0 := rfl; omega) ?_
      refine kr_goto (tgt := 88) rd_d_X11_part_80 rfl ?_
      exact kr_ireturn rd_d_X11_part_88 (ty := .int) rfl rfl ⟨by rw [ax_pt, if_pos h, ax_gq eq eg], rfl⟩
  | succ f ih =>
    intro j Q R st r q es hj eq er hG hE
    refine kr_iload 0 rd_d_X11_part_23 rfl ?_
    refine kr_bipush (v := 64) rd_d_X11_part_25 (by decide) ?_
    refine kr_icmp_ge (tgt := 56) rd_d_X11_part_27 rfl (fun h => by have := Int32.le_iff_toInt_le.mp h; omega) (fun _ => ?_)
    refine kr_iload 1 rd_d_X11_part_30 rfl ?_
    refine kr_if_le (tgt := 56) rd_d_X11_part_32 rfl (fun h => ?_) (fun h => ?_)
    · have hR : R = 0 := by have := Int32.le_iff_toInt_le.mp h; omega
      have eg : Q = Nat.gcd A.toInt.toNat B.toInt.toNat := by rw [hg, ← hG, hR, Nat.gcd_zero_right]
      have hQ : 0 < Q := by omega
      refine kr_iload 2 rd_d_X11_part_56 rfl ?_
      refine kr_if_gt (tgt := 72) rd_d_X11_part_58 rfl (fun _ => ?_) (fun h => absurd (Int32.lt_iff_toInt_lt.mpr (by show (0 : Int) < _; omega)) h)
      refine kr_iload_n 7 rd_d_X11_part_72 rfl ?_
      refine kr_if_ne (tgt := 83) rd_d_X11_part_73 rfl (fun h => ?_) (fun h => ?_)
      · refine kr_iload 3 rd_d_X11_part_83 rfl ?_
        refine kr_iload 2 rd_d_X11_part_85 rfl ?_
        refine kr_idiv rd_d_X11_part_87 (fun h0 => by rw [h0] at eq; have z0 : (0 : Int32).toInt = 0 := rfl; omega) ?_
        exact kr_ireturn rd_d_X11_part_88 (ty := .int) rfl rfl ⟨by rw [ax_pt, if_neg h, ax_gq eq eg], rfl⟩
      · refine kr_iload_n 4 rd_d_X11_part_76 rfl ?_
        refine kr_iload 2 rd_d_X11_part_77 rfl ?_
        refine kr_idiv rd_d_X11_part_79 (fun h0 => by rw [h0] at eq; have z0 : (0 : Int32).toInt = 0 := rfl; omega) ?_
        refine kr_goto (tgt := 88) rd_d_X11_part_80 rfl ?_
        exact kr_ireturn rd_d_X11_part_88 (ty := .int) rfl rfl ⟨by rw [ax_pt, if_pos h, ax_gq eq eg], rfl⟩
    · have hR : 0 < R := by
        rcases Nat.eq_zero_or_pos R with e | e
        · exact absurd (Int32.le_iff_toInt_le.mpr (by omega)) h
        · exact e
      refine kr_iload 2 rd_d_X11_part_35 rfl ?_
      refine kr_iload 1 rd_d_X11_part_37 rfl ?_
      refine kr_irem rd_d_X11_part_39 (fun h0 => by rw [h0] at er; omega) ?_
      refine kr_istore (lv' := [(8, .int (q - q / r * r)), (7, .int st), (6, .int r), (5, .int q), (4, .int B), (3, .int A), (0, .int a), (1, .int b), (2, .int c)]) rd_d_X11_part_40 (by decide) rfl ?_
      refine kr_iload 2 rd_d_X11_part_42 rfl ?_
      refine kr_istore (lv' := [(5, .int r), (8, .int (q - q / r * r)), (7, .int st), (6, .int r), (4, .int B), (3, .int A), (0, .int a), (1, .int b), (2, .int c)]) rd_d_X11_part_44 (by decide) rfl ?_
      refine kr_iload 1 rd_d_X11_part_46 rfl ?_
      refine kr_istore (lv' := [(6, .int (q - q / r * r)), (5, .int r), (8, .int (q - q / r * r)), (7, .int st), (4, .int B), (3, .int A), (0, .int a), (1, .int b), (2, .int c)]) rd_d_X11_part_48 (by decide) rfl ?_
      refine kr_iinc (v := st + 1) (lv' := [(7, .int (st + 1)), (6, .int (q - q / r * r)), (5, .int r), (8, .int (q - q / r * r)), (4, .int B), (3, .int A), (0, .int a), (1, .int b), (2, .int c)]) 3 rd_d_X11_part_50 rfl rfl (by decide) rfl ?_
      refine kr_goto (tgt := 23) rd_d_X11_part_53 rfl ?_
      refine kr_sub (lv' := [(7, .int (st + 1)), (6, .int (q - q / r * r)), (5, .int r), (4, .int B), (3, .int A), (0, .int a), (1, .int b), (2, .int c)]) (by simp) ?_
      exact ih (j + 1) R (Q % R) (st + 1) (q - q / r * r) r (ax_inc es (by omega)) (by omega) er (ax_rem eq er hR) (by rw [← hG, Nat.gcd_comm, ← Nat.gcd_rec, Nat.gcd_comm]) (ax_enS hE hR)
theorem ax_ptX (G : sx_G0 g L xs z9 hd_C ex_mt) {σ : am_S} (a b c : Int32) (ha : 0 ≤ a.toInt) (hb : 1 ≤ b.toInt) : am_K g 1 tX11_part.1 0 0 0 (lv_args 0 [.int a, .int b, .int c]) [] σ (ax_R (ax_pt a b c) σ) := by
  have z0 : (0 : Int32).toInt = 0 := rfl
  have z1 : (1 : Int32).toInt = 1 := rfl
  have la := Int32.toInt_lt a
  refine kr_iload_n 0 rd_d_X11_part_0 rfl ?_
  refine kr_iconst (v := 0) rd_d_X11_part_1 (by decide) ?_
  refine kr_mmax G.1 (ex_mem_ok (show ex_mem 327784 (Cond.methodLink tX11_part.1.1.cls 362 Lib.Math.max.name) = true from rd_k_X11_part_2)) rd_d_X11_part_2 (by decide) (Nat.le_of_ble_eq_true rfl) ?_
  have e1 : (if a < 0 then (0 : Int32) else a) = a := if_neg (fun h => by have := Int32.lt_iff_toInt_lt.mp h; omega)
  rw [e1]
  refine kr_istore_n (lv' := [(3, .int a), (0, .int a), (1, .int b), (2, .int c)]) rd_d_X11_part_5 (by decide) rfl ?_
  refine kr_iload_n 2 rd_d_X11_part_6 rfl ?_
  refine kr_iconst (v := 1) rd_d_X11_part_7 (by decide) ?_
  refine kr_mmax G.1 (ex_mem_ok (show ex_mem 327784 (Cond.methodLink tX11_part.1.1.cls 362 Lib.Math.max.name) = true from rd_k_X11_part_8)) rd_d_X11_part_8 (by decide) (Nat.le_of_ble_eq_true rfl) ?_
  have e2 : (if b < 1 then (1 : Int32) else b) = b := if_neg (fun h => by have := Int32.lt_iff_toInt_lt.mp h; omega)
  rw [e2]
  refine kr_istore (lv' := [(4, .int b), (3, .int a), (0, .int a), (1, .int b), (2, .int c)]) rd_d_X11_part_11 (by decide) rfl ?_
  refine kr_iload 0 rd_d_X11_part_13 rfl ?_
  refine kr_istore (lv' := [(5, .int b), (4, .int b), (3, .int a), (0, .int a), (1, .int b), (2, .int c)]) rd_d_X11_part_15 (by decide) rfl ?_
  refine kr_iload_n 2 rd_d_X11_part_17 rfl ?_
  refine kr_istore (lv' := [(6, .int a), (5, .int b), (4, .int b), (3, .int a), (0, .int a), (1, .int b), (2, .int c)]) rd_d_X11_part_18 (by decide) rfl ?_
  refine kr_iconst (v := 0) rd_d_X11_part_20 (by decide) ?_
  refine kr_istore (lv' := [(7, .int 0), (6, .int a), (5, .int b), (4, .int b), (3, .int a), (0, .int a), (1, .int b), (2, .int c)]) rd_d_X11_part_21 (by decide) rfl ?_
  refine ax_ptL G (Nat.gcd_pos_of_pos_right _ (by omega)) rfl 64 0 b.toInt.toNat a.toInt.toNat 0 a b rfl rfl (by omega) (by omega) (Nat.gcd_comm _ _) ⟨31, Or.inl ⟨?_, by decide⟩⟩
  have : (2 : Nat) ^ 31 = 2147483648 := by decide
  omega
theorem ax_pmL (G : sx_G0 g L xs z9 hd_C ex_mt) {σ : am_S} {a b c : Int32} {P : Nat} (hP : 0 < P) (hg : Nat.gcd a.toInt.toNat b.toInt.toNat = P) : ∀ (n Y X : Nat) (x y : Int32), Y ≤ n → x.toInt = (X : Int) → y.toInt = (Y : Int) → Nat.gcd X Y = P → am_K g 1 tX12_part.1 0 0 5 [(4, .int y), (3, .int x), (0, .int a), (1, .int b), (2, .int c)] [] σ (ax_R (ax_pt a b c) σ) := by
  have z0 : (0 : Int32).toInt = 0 := rfl
  have out : ∀ (X : Nat) (x y : Int32), x.toInt = (X : Int) → X = P → am_K g 1 tX12_part.1 0 0 26 [(4, .int y), (3, .int x), (0, .int a), (1, .int b), (2, .int c)] [] σ (ax_R (ax_pt a b c) σ) := by
    intro X x y ex hX
    have eg : X = Nat.gcd a.toInt.toNat b.toInt.toNat := by rw [hg, hX]
    refine kr_iload_n 4 rd_d_X12_part_26 rfl ?_
    refine kr_if_ne (tgt := 34) rd_d_X12_part_27 rfl (fun h => ?_) (fun h => ?_)
    · refine kr_iload_n 3 rd_d_X12_part_34 rfl ?_
      refine kr_iload_n 1 rd_d_X12_part_35 rfl ?_
      refine kr_idiv rd_d_X12_part_36 (fun h0 => by rw [h0] at ex; omega) ?_
      exact kr_ireturn rd_d_X12_part_37 (ty := .int) rfl rfl ⟨by rw [ax_pt, if_neg h, ax_gq ex eg], rfl⟩
    · refine kr_iload_n 2 rd_d_X12_part_30 rfl ?_
      refine kr_goto (tgt := 35) rd_d_X12_part_31 rfl ?_
      refine kr_iload_n 1 rd_d_X12_part_35 rfl ?_
      refine kr_idiv rd_d_X12_part_36 (fun h0 => by rw [h0] at ex; omega) ?_
      exact kr_ireturn rd_d_X12_part_37 (ty := .int) rfl rfl ⟨by rw [ax_pt, if_pos h, ax_gq ex eg], rfl⟩
  intro n
  induction n with
  | zero =>
    intro Y X x y hY ex ey hG
    have hY0 : Y = 0 := by omega
    refine kr_iload 0 rd_d_X12_part_5 rfl ?_
    refine kr_if_eq (tgt := 26) rd_d_X12_part_7 rfl (fun _ => ?_) (fun h => absurd (Int32.toInt_inj.mp (by omega)) h)
    exact out X x y ex (by rw [← hG, hY0, Nat.gcd_zero_right])
  | succ n ih =>
    intro Y X x y hY ex ey hG
    refine kr_iload 0 rd_d_X12_part_5 rfl ?_
    refine kr_if_eq (tgt := 26) rd_d_X12_part_7 rfl (fun h => ?_) (fun h => ?_)
    · have hY0 : Y = 0 := by rw [h] at ey; omega
      exact out X x y ex (by rw [← hG, hY0, Nat.gcd_zero_right])
    · have hY0 : 0 < Y := by
        rcases Nat.eq_zero_or_pos Y with e | e
        · exact absurd (Int32.toInt_inj.mp (by omega)) h
        · exact e
      refine kr_iload_n 1 rd_d_X12_part_10 rfl ?_
      refine kr_iload 0 rd_d_X12_part_11 rfl ?_
      refine kr_irem rd_d_X12_part_13 h ?_
      refine kr_istore (lv' := [(5, .int (x - x / y * y)), (4, .int y), (3, .int x), (0, .int a), (1, .int b), (2, .int c)]) rd_d_X12_part_14 (by decide) rfl ?_
      refine kr_iload 1 rd_d_X12_part_16 rfl ?_
      refine kr_istore_n (lv' := [(3, .int y), (5, .int (x - x / y * y)), (4, .int y), (0, .int a), (1, .int b), (2, .int c)]) rd_d_X12_part_18 (by decide) rfl ?_
      refine kr_iload 1 rd_d_X12_part_19 rfl ?_
      refine kr_istore (lv' := [(4, .int (x - x / y * y)), (3, .int y), (5, .int (x - x / y * y)), (0, .int a), (1, .int b), (2, .int c)]) rd_d_X12_part_21 (by decide) rfl ?_
      refine kr_goto (tgt := 5) rd_d_X12_part_23 rfl ?_
      refine kr_sub (lv' := [(4, .int (x - x / y * y)), (3, .int y), (0, .int a), (1, .int b), (2, .int c)]) (by simp) ?_
      exact ih (X % Y) Y y (x - x / y * y) (by have := Nat.mod_lt X hY0; omega) ey (ax_rem ex ey hY0) (by rw [← hG, Nat.gcd_comm, ← Nat.gcd_rec, Nat.gcd_comm])
theorem ax_ptM (G : sx_G0 g L xs z9 hd_C ex_mt) {σ : am_S} (a b c : Int32) (ha : 0 ≤ a.toInt) (hb : 1 ≤ b.toInt) : am_K g 1 tX12_part.1 0 0 0 (lv_args 0 [.int a, .int b, .int c]) [] σ (ax_R (ax_pt a b c) σ) := by
  refine kr_iload_n 0 rd_d_X12_part_0 rfl ?_
  refine kr_istore_n (lv' := [(3, .int a), (0, .int a), (1, .int b), (2, .int c)]) rd_d_X12_part_1 (by decide) rfl ?_
  refine kr_iload_n 2 rd_d_X12_part_2 rfl ?_
  refine kr_istore (lv' := [(4, .int b), (3, .int a), (0, .int a), (1, .int b), (2, .int c)]) rd_d_X12_part_3 (by decide) rfl ?_
  exact ax_pmL G (Nat.gcd_pos_of_pos_right _ (by omega)) rfl b.toInt.toNat b.toInt.toNat a.toInt.toNat a b (Nat.le_refl _) (by omega) (by omega) rfl
def ax_f_uni (m : Nat → Nat → Int32) : Int32 := 12 * (ax_f_wf m 0)
theorem ax_uni (G : sx_G0 g L xs z9 hd_C ex_mt) {σ : am_S} (hS : ax_S σ) (hb : pl_Bm σ) : am_K g 2 tX9_unit.1 0 0 0 (lv_args 0 [.ref 4]) [] σ (ax_R (ax_f_uni σ.2.1) σ) := by
  refine kr_bipush (v := 12) rd_d_X9_unit_0 (by decide) ?_
  refine kr_aload_n 0 rd_d_X9_unit_2 rfl ?_
  refine kr_iconst (v := 0) rd_d_X9_unit_3 (by decide) ?_
  refine rd_call G (T2 := tX9_weightFrom) rfl rd_d_X9_unit_4 rd_k_X9_unit_4 rfl (hS.1 4 (.inl 9) rfl) (as := [.int 0]) (st := [.int 12]) rfl (Nat.le_of_ble_eq_true rfl) rfl (Nat.le_of_ble_eq_true rfl) (d1 := 1) (by decide) (fun _ h => by cases h.1) (ax_wf G hS 0 hb) ?_
  intro v1 σ1 ⟨hv1, hs1⟩
  cases hv1
  rw [hs1]
  refine kr_imul rd_d_X9_unit_7 ?_
  exact kr_ireturn rd_d_X9_unit_8 (ty := .int) rfl rfl ⟨rfl, rfl⟩
def ax_f_bel (s : Nat → Int32) : Int32 := 12 * (ax_f_sd (s) 0)
theorem ax_bel (G : sx_G0 g L xs z9 hd_C ex_mt) {σ : am_S} (hS : ax_S σ) (hb : pl_B (σ.2.1 120)) : am_K g 4 tX12_below.1 0 0 0 (lv_args 0 [.ref 118]) [] σ (ax_R (ax_f_bel (σ.2.1 120)) σ) := by
  refine kr_bipush (v := 12) rd_d_X12_below_0 (by decide) ?_
  refine kr_aload_n 0 rd_d_X12_below_2 rfl ?_
  refine kr_iconst (v := 0) rd_d_X12_below_3 (by decide) ?_
  refine rd_call G (T2 := tX12_standing) rfl rd_d_X12_below_4 rd_k_X12_below_4 rfl (hS.1 118 (.inl 12) rfl) (as := [.int 0]) (st := [.int 12]) rfl (Nat.le_of_ble_eq_true rfl) rfl (Nat.le_of_ble_eq_true rfl) (d1 := 3) (by decide) (fun _ h => by cases h.1) (ax_sd G hS 0 hb) ?_
  intro v1 σ1 ⟨hv1, hs1⟩
  cases hv1
  rw [hs1]
  refine kr_imul rd_d_X12_below_7 ?_
  exact kr_ireturn rd_d_X12_below_8 (ty := .int) rfl rfl ⟨rfl, rfl⟩
def ax_f_isp (a : Int32) : Int32 := if a = 0 then 1 else if a = 1 then 1 else 0
theorem ax_isp (G : sx_G0 g L xs z9 hd_C ex_mt) {σ : am_S} (hS : ax_S σ) (a : Int32) : am_K g 1 tX11_isPart.1 0 0 0 (lv_args 0 [.int a]) [] σ (ax_R (ax_f_isp a) σ) := by
  refine kr_iload_n 0 rd_d_X11_isPart_0 rfl ?_
  refine kr_if_eq (tgt := 9) rd_d_X11_isPart_1 rfl (fun h1 => ?_) (fun h1 => ?_)
  · refine kr_iconst (v := 1) rd_d_X11_isPart_9 (by decide) ?_
    refine kr_goto (tgt := 14) rd_d_X11_isPart_10 rfl ?_
    exact kr_ireturn rd_d_X11_isPart_14 (ty := .boolean) rfl rfl ⟨by rw [ax_f_isp, if_pos h1], rfl⟩
  · refine kr_iload_n 0 rd_d_X11_isPart_4 rfl ?_
    refine kr_iconst (v := 1) rd_d_X11_isPart_5 (by decide) ?_
    refine kr_icmp_ne (tgt := 13) rd_d_X11_isPart_6 rfl (fun h2 => ?_) (fun h2 => ?_)
    · refine kr_iconst (v := 0) rd_d_X11_isPart_13 (by decide) ?_
      exact kr_ireturn rd_d_X11_isPart_14 (ty := .boolean) rfl rfl ⟨by rw [ax_f_isp, if_neg h1, if_neg h2], rfl⟩
    · refine kr_iconst (v := 1) rd_d_X11_isPart_9 (by decide) ?_
      refine kr_goto (tgt := 14) rd_d_X11_isPart_10 rfl ?_
      exact kr_ireturn rd_d_X11_isPart_14 (ty := .boolean) rfl rfl ⟨by rw [ax_f_isp, if_neg h1, if_pos h2], rfl⟩
def pl_B3 (s : Nat → Int32) : Prop := 0 ≤ (s 42).toInt ∧ (¬ (s 1).toInt = 0 → 1 ≤ (s 48).toInt)
theorem pl_B3M {σe σ : am_S} {m : Nat} (hM : sx_M z9 hd_C σe m 0 σ) : pl_B3 (σ.2.1 120) := by
  refine ⟨(hM.2.2.1 120 42 _ _ _ rfl).1, fun h => ?_⟩
  have b := (pl_BM hM).1.2.1
  exact hM.2.2.2.2.2.1 (1, 120, 1, 48, 6) (List.Mem.tail _ (List.Mem.head _)) (sx_bit0 _) 0 (by decide) (by show ((0 : Nat) : Int) < (σ.2.1 120 1).toInt; omega)
theorem sd_p {s : Nat → Int32} (b : pl_B s) (b2 : pl_B2 s) (b3 : pl_B3 s) : 1 ≤ (ax_f_sd s 0).toInt := by
  have hn := ax_many6 (s := s) b.2
  have z0 : (0 : Int32).toInt = 0 := rfl
  have g : ∀ (f j : Nat) (k z : Int32), k.toInt = (j : Int) → j + f = 6 → 1 ≤ z.toInt ∧ z.toInt ≤ 9 * (j : Int) → 1 ≤ (ax_l_sdM s 0 f k z).toInt := by
    have y0 : ∀ x : Int32, x + 0 = x := fun x => Int32.add_zero x
    intro f
    induction f with
    | zero =>
      intro j k z ek hj hz
      rw [ax_l_sdM_zero, ax_s_sdM, if_pos (Int32.le_iff_toInt_le.mpr (by omega))]
      omega
    | succ f ih =>
      intro j k z ek hj hz
      rw [ax_l_sdM_succ, ax_s_sdM]
      split
      · omega
      · split
        · rw [y0]
          exact ih (j + 1) _ _ (ax_inc ek (by omega)) (by omega) (by omega)
        · have w : 0 ≤ (ax_f_wgtM s k k.toInt.toNat).toInt ∧ (ax_f_wgtM s k k.toInt.toNat).toInt ≤ 9 := by
            rw [ax_f_wgtM]
            split
            · decide
            · exact b2.2.2.2.2 k.toInt.toNat (by omega)
          have e := sx_addI z (ax_f_wgtM s k k.toInt.toNat) (by show (-2147483648 : Int) ≤ _; omega) (by show _ ≤ (2147483647 : Int); omega)
          exact ih (j + 1) _ _ (ax_inc ek (by omega)) (by omega) (by omega)
  have h1 : ¬ ax_f_secM s 0 (0 : Int32).toInt.toNat < 0 := by
    rw [ax_f_secM]
    split
    · decide
    · exact fun q => by have q' : (s 42).toInt < (0 : Int32).toInt := Int32.lt_iff_toInt_lt.mp q; have := b3.1; omega
  have h2 : 1 ≤ (ax_f_wgtM s 0 (0 : Int32).toInt.toNat).toInt ∧ (ax_f_wgtM s 0 (0 : Int32).toInt.toNat).toInt ≤ 9 := by
    rw [ax_f_wgtM]
    split
    · decide
    · rename_i q
      exact ⟨b3.2 (fun z => q (Int32.toInt_inj.mp (by omega))), (b2.2.2.2.2 0 (by decide)).2⟩
  have e := sx_addI 0 (ax_f_wgtM s 0 (0 : Int32).toInt.toNat) (by show (-2147483648 : Int) ≤ _; omega) (by show _ ≤ (2147483647 : Int); omega)
  rw [ax_f_sd, ax_l_sdM_succ, ax_s_sdM, if_neg (fun q => by have := Int32.le_iff_toInt_le.mp q; omega), if_neg h1]
  exact g 5 1 (0 + 1) _ rfl rfl (by omega)
theorem bel_b {s : Nat → Int32} (b : pl_B s) (b2 : pl_B2 s) (b3 : pl_B3 s) : 1 ≤ (ax_f_bel s).toInt := by
  have h := sd_p b b2 b3
  have h2 := sd_b6 b b2 0
  have t12 : (12 : Int32).toInt = 12 := rfl
  rw [ax_f_bel, sx_mulI 12 (ax_f_sd s 0) (by rw [t12]; show (-2147483648 : Int) ≤ _; omega) (by rw [t12]; show _ ≤ (2147483647 : Int); omega), t12]
  omega
theorem uni_eq {m : Nat → Nat → Int32} {s : Nat → Int32} (h : pl_R m 4 s) (b : pl_B s) : ax_f_uni m = ax_f_bel s := by
  rw [ax_f_uni, ax_f_bel, wf_eq h b]
theorem isp_eq (a : Int32) : ax_f_isp a = ax_f_isIn a 0 1 := by
  have z0 : (0 : Int32).toInt = 0 := rfl
  have z1 : (1 : Int32).toInt = 1 := rfl
  rw [ax_f_isp, ax_f_isIn]
  by_cases h0 : a = 0
  · subst h0; decide
  · rw [if_neg h0]
    by_cases h1 : a = 1
    · subst h1; decide
    · rw [if_neg h1]
      by_cases q1 : a < 0
      · rw [if_pos q1]
      · have q1' : ¬ a.toInt < 0 := fun q => q1 (Int32.lt_iff_toInt_lt.mpr (by omega))
        have n0 : ¬ a.toInt = 0 := fun q => h0 (Int32.toInt_inj.mp (by omega))
        have n1 : ¬ a.toInt = 1 := fun q => h1 (Int32.toInt_inj.mp (by omega))
        rw [if_neg q1, if_pos (Int32.lt_iff_toInt_lt.mpr (by omega))]
end AXX
