/-! decodes and links of the class's SENTENCE (written by a program) -/
theorem rd_d_X8_readOne_0 : decode tX8_readOne.1.2.1 0 = .ok (.aload_n 1, 1) := by decide +kernel
theorem rd_d_X8_readOne_1 : decode tX8_readOne.1.2.1 1 = .ok (.bipush 40, 2) := by decide +kernel
theorem rd_d_X8_readOne_3 : decode tX8_readOne.1.2.1 3 = .ok (.invokevirtual 64, 3) := by decide +kernel
theorem rd_k_X8_readOne_3 : ex_lk ex_mt tX8_readOne 3 (.invokevirtual 64) [0, 241, 327917] = true := by decide +kernel
theorem rd_d_X8_readOne_6 : decode tX8_readOne.1.2.1 6 = .ok (.istore_n 3, 1) := by decide +kernel
theorem rd_d_X8_readOne_7 : decode tX8_readOne.1.2.1 7 = .ok (.aload_n 1, 1) := by decide +kernel
theorem rd_d_X8_readOne_8 : decode tX8_readOne.1.2.1 8 = .ok (.ldc 68, 2) := by decide +kernel
theorem rd_k_X8_readOne_8 : ex_lk ex_mt tX8_readOne 8 (.ldc 68) [19078, 327918, 0] = true := by decide +kernel
theorem rd_d_X8_readOne_10 : decode tX8_readOne.1.2.1 10 = .ok (.invokevirtual 51, 3) := by decide +kernel
theorem rd_k_X8_readOne_10 : ex_lk ex_mt tX8_readOne 10 (.invokevirtual 51) [0, 252, 327919] = true := by decide +kernel
theorem rd_d_X8_readOne_13 : decode tX8_readOne.1.2.1 13 = .ok (.istore 4, 2) := by decide +kernel
theorem rd_d_X8_readOne_15 : decode tX8_readOne.1.2.1 15 = .ok (.iload_n 3, 1) := by decide +kernel
theorem rd_d_X8_readOne_16 : decode tX8_readOne.1.2.1 16 = .ok (.ifCond .ne 15, 3) := by decide +kernel
theorem rd_d_X8_readOne_19 : decode tX8_readOne.1.2.1 19 = .ok (.iload 4, 2) := by decide +kernel
theorem rd_d_X8_readOne_21 : decode tX8_readOne.1.2.1 21 = .ok (.iconst (-1), 1) := by decide +kernel
theorem rd_d_X8_readOne_22 : decode tX8_readOne.1.2.1 22 = .ok (.if_icmp .ne 9, 3) := by decide +kernel
theorem rd_d_X8_readOne_25 : decode tX8_readOne.1.2.1 25 = .ok (.aload_n 1, 1) := by decide +kernel
theorem rd_d_X8_readOne_26 : decode tX8_readOne.1.2.1 26 = .ok (.iconst 1, 1) := by decide +kernel
theorem rd_d_X8_readOne_27 : decode tX8_readOne.1.2.1 27 = .ok (.invokevirtual 42, 3) := by decide +kernel
theorem rd_k_X8_readOne_27 : ex_lk ex_mt tX8_readOne 27 (.invokevirtual 42) [0, 248, 393216] = true := by decide +kernel
theorem rd_d_X8_readOne_30 : decode tX8_readOne.1.2.1 30 = .ok (.ireturn, 1) := by decide +kernel
theorem rd_d_X8_readOne_31 : decode tX8_readOne.1.2.1 31 = .ok (.aload_n 0, 1) := by decide +kernel
theorem rd_d_X8_readOne_32 : decode tX8_readOne.1.2.1 32 = .ok (.getfield 22, 3) := by decide +kernel
theorem rd_k_X8_readOne_32 : ex_lk ex_mt tX8_readOne 32 (.getfield 22) [8, 3, 0, 65770] = true := by decide +kernel
theorem rd_d_X8_readOne_35 : decode tX8_readOne.1.2.1 35 = .ok (.bipush 20, 2) := by decide +kernel
theorem rd_d_X8_readOne_37 : decode tX8_readOne.1.2.1 37 = .ok (.if_icmp .ge 9, 3) := by decide +kernel
theorem rd_d_X8_readOne_40 : decode tX8_readOne.1.2.1 40 = .ok (.iload_n 2, 1) := by decide +kernel
theorem rd_d_X8_readOne_41 : decode tX8_readOne.1.2.1 41 = .ok (.bipush 8, 2) := by decide +kernel
theorem rd_d_X8_readOne_43 : decode tX8_readOne.1.2.1 43 = .ok (.if_icmp .le 9, 3) := by decide +kernel
theorem rd_d_X8_readOne_46 : decode tX8_readOne.1.2.1 46 = .ok (.aload_n 1, 1) := by decide +kernel
theorem rd_d_X8_readOne_47 : decode tX8_readOne.1.2.1 47 = .ok (.iconst 4, 1) := by decide +kernel
theorem rd_d_X8_readOne_48 : decode tX8_readOne.1.2.1 48 = .ok (.invokevirtual 42, 3) := by decide +kernel
theorem rd_k_X8_readOne_48 : ex_lk ex_mt tX8_readOne 48 (.invokevirtual 42) [0, 248, 393216] = true := by decide +kernel
theorem rd_d_X8_readOne_51 : decode tX8_readOne.1.2.1 51 = .ok (.ireturn, 1) := by decide +kernel
theorem rd_d_X8_readOne_52 : decode tX8_readOne.1.2.1 52 = .ok (.aload_n 0, 1) := by decide +kernel
theorem rd_d_X8_readOne_53 : decode tX8_readOne.1.2.1 53 = .ok (.dup, 1) := by decide +kernel
theorem rd_d_X8_readOne_54 : decode tX8_readOne.1.2.1 54 = .ok (.getfield 22, 3) := by decide +kernel
theorem rd_k_X8_readOne_54 : ex_lk ex_mt tX8_readOne 54 (.getfield 22) [8, 3, 0, 65770] = true := by decide +kernel
theorem rd_d_X8_readOne_57 : decode tX8_readOne.1.2.1 57 = .ok (.iconst 1, 1) := by decide +kernel
theorem rd_d_X8_readOne_58 : decode tX8_readOne.1.2.1 58 = .ok (.iadd, 1) := by decide +kernel
theorem rd_d_X8_readOne_59 : decode tX8_readOne.1.2.1 59 = .ok (.putfield 22, 3) := by decide +kernel
theorem rd_k_X8_readOne_59 : ex_lk ex_mt tX8_readOne 59 (.putfield 22) [8, 3, 0, 65770] = true := by decide +kernel
theorem rd_d_X8_readOne_62 : decode tX8_readOne.1.2.1 62 = .ok (.aload_n 1, 1) := by decide +kernel
theorem rd_d_X8_readOne_63 : decode tX8_readOne.1.2.1 63 = .ok (.invokevirtual 55, 3) := by decide +kernel
theorem rd_k_X8_readOne_63 : ex_lk ex_mt tX8_readOne 63 (.invokevirtual 55) [0, 250, 393217] = true := by decide +kernel
theorem rd_d_X8_readOne_66 : decode tX8_readOne.1.2.1 66 = .ok (.iload_n 3, 1) := by decide +kernel
theorem rd_d_X8_readOne_67 : decode tX8_readOne.1.2.1 67 = .ok (.ifCond .eq 29, 3) := by decide +kernel
theorem rd_d_X8_readOne_70 : decode tX8_readOne.1.2.1 70 = .ok (.aload_n 0, 1) := by decide +kernel
theorem rd_d_X8_readOne_71 : decode tX8_readOne.1.2.1 71 = .ok (.aload_n 1, 1) := by decide +kernel
theorem rd_d_X8_readOne_72 : decode tX8_readOne.1.2.1 72 = .ok (.iload_n 2, 1) := by decide +kernel
theorem rd_d_X8_readOne_73 : decode tX8_readOne.1.2.1 73 = .ok (.iconst 1, 1) := by decide +kernel
theorem rd_d_X8_readOne_74 : decode tX8_readOne.1.2.1 74 = .ok (.iadd, 1) := by decide +kernel
theorem rd_d_X8_readOne_75 : decode tX8_readOne.1.2.1 75 = .ok (.invokevirtual 32, 3) := by decide +kernel
theorem rd_k_X8_readOne_75 : ex_lk ex_mt tX8_readOne 75 (.invokevirtual 32) [0, 279, 327909] = true := by decide +kernel
theorem rd_d_X8_readOne_78 : decode tX8_readOne.1.2.1 78 = .ok (.ifCond .eq 16, 3) := by decide +kernel
theorem rd_d_X8_readOne_81 : decode tX8_readOne.1.2.1 81 = .ok (.aload_n 1, 1) := by decide +kernel
theorem rd_d_X8_readOne_82 : decode tX8_readOne.1.2.1 82 = .ok (.bipush 41, 2) := by decide +kernel
theorem rd_d_X8_readOne_84 : decode tX8_readOne.1.2.1 84 = .ok (.invokevirtual 70, 3) := by decide +kernel
theorem rd_k_X8_readOne_84 : ex_lk ex_mt tX8_readOne 84 (.invokevirtual 70) [0, 251, 393218] = true := by decide +kernel
theorem rd_d_X8_readOne_87 : decode tX8_readOne.1.2.1 87 = .ok (.ifCond .eq 7, 3) := by decide +kernel
theorem rd_d_X8_readOne_90 : decode tX8_readOne.1.2.1 90 = .ok (.iconst 1, 1) := by decide +kernel
theorem rd_d_X8_readOne_91 : decode tX8_readOne.1.2.1 91 = .ok (.goto 4, 3) := by decide +kernel
theorem rd_d_X8_readOne_94 : decode tX8_readOne.1.2.1 94 = .ok (.iconst 0, 1) := by decide +kernel
theorem rd_d_X8_readOne_95 : decode tX8_readOne.1.2.1 95 = .ok (.ireturn, 1) := by decide +kernel
theorem rd_d_X8_readOne_96 : decode tX8_readOne.1.2.1 96 = .ok (.iload 4, 2) := by decide +kernel
theorem rd_d_X8_readOne_98 : decode tX8_readOne.1.2.1 98 = .ok (.ifCond .ne 23, 3) := by decide +kernel
theorem rd_d_X8_readOne_101 : decode tX8_readOne.1.2.1 101 = .ok (.aload_n 0, 1) := by decide +kernel
theorem rd_d_X8_readOne_102 : decode tX8_readOne.1.2.1 102 = .ok (.aload_n 1, 1) := by decide +kernel
theorem rd_d_X8_readOne_103 : decode tX8_readOne.1.2.1 103 = .ok (.iload_n 2, 1) := by decide +kernel
theorem rd_d_X8_readOne_104 : decode tX8_readOne.1.2.1 104 = .ok (.iconst 1, 1) := by decide +kernel
theorem rd_d_X8_readOne_105 : decode tX8_readOne.1.2.1 105 = .ok (.iadd, 1) := by decide +kernel
theorem rd_d_X8_readOne_106 : decode tX8_readOne.1.2.1 106 = .ok (.invokevirtual 46, 3) := by decide +kernel
theorem rd_k_X8_readOne_106 : ex_lk ex_mt tX8_readOne 106 (.invokevirtual 46) [0, 281, 327913] = true := by decide +kernel
theorem rd_d_X8_readOne_109 : decode tX8_readOne.1.2.1 109 = .ok (.ifCond .ne 5, 3) := by decide +kernel
theorem rd_d_X8_readOne_112 : decode tX8_readOne.1.2.1 112 = .ok (.iconst 0, 1) := by decide +kernel
theorem rd_d_X8_readOne_113 : decode tX8_readOne.1.2.1 113 = .ok (.ireturn, 1) := by decide +kernel
theorem rd_d_X8_readOne_114 : decode tX8_readOne.1.2.1 114 = .ok (.aload_n 0, 1) := by decide +kernel
theorem rd_d_X8_readOne_115 : decode tX8_readOne.1.2.1 115 = .ok (.iconst 0, 1) := by decide +kernel
theorem rd_d_X8_readOne_116 : decode tX8_readOne.1.2.1 116 = .ok (.invokevirtual 58, 3) := by decide +kernel
theorem rd_k_X8_readOne_116 : ex_lk ex_mt tX8_readOne 116 (.invokevirtual 58) [0, 275, 393219] = true := by decide +kernel
theorem rd_d_X8_readOne_119 : decode tX8_readOne.1.2.1 119 = .ok (.iconst 1, 1) := by decide +kernel
theorem rd_d_X8_readOne_120 : decode tX8_readOne.1.2.1 120 = .ok (.ireturn, 1) := by decide +kernel
theorem rd_d_X8_readOne_121 : decode tX8_readOne.1.2.1 121 = .ok (.iload 4, 2) := by decide +kernel
theorem rd_d_X8_readOne_123 : decode tX8_readOne.1.2.1 123 = .ok (.iconst 4, 1) := by decide +kernel
theorem rd_d_X8_readOne_124 : decode tX8_readOne.1.2.1 124 = .ok (.if_icmp .lt 11, 3) := by decide +kernel
theorem rd_d_X8_readOne_127 : decode tX8_readOne.1.2.1 127 = .ok (.aload_n 0, 1) := by decide +kernel
theorem rd_d_X8_readOne_128 : decode tX8_readOne.1.2.1 128 = .ok (.aload_n 1, 1) := by decide +kernel
theorem rd_d_X8_readOne_129 : decode tX8_readOne.1.2.1 129 = .ok (.iload 4, 2) := by decide +kernel
theorem rd_d_X8_readOne_131 : decode tX8_readOne.1.2.1 131 = .ok (.invokevirtual 73, 3) := by decide +kernel
theorem rd_k_X8_readOne_131 : ex_lk ex_mt tX8_readOne 131 (.invokevirtual 73) [0, 278, 393225] = true := by decide +kernel
theorem rd_d_X8_readOne_134 : decode tX8_readOne.1.2.1 134 = .ok (.ireturn, 1) := by decide +kernel
theorem rd_d_X8_readOne_135 : decode tX8_readOne.1.2.1 135 = .ok (.aload_n 0, 1) := by decide +kernel
theorem rd_d_X8_readOne_136 : decode tX8_readOne.1.2.1 136 = .ok (.iload 4, 2) := by decide +kernel
theorem rd_d_X8_readOne_138 : decode tX8_readOne.1.2.1 138 = .ok (.invokevirtual 58, 3) := by decide +kernel
theorem rd_k_X8_readOne_138 : ex_lk ex_mt tX8_readOne 138 (.invokevirtual 58) [0, 275, 393219] = true := by decide +kernel
theorem rd_d_X8_readOne_141 : decode tX8_readOne.1.2.1 141 = .ok (.iconst 1, 1) := by decide +kernel
theorem rd_d_X8_readOne_142 : decode tX8_readOne.1.2.1 142 = .ok (.ireturn, 1) := by decide +kernel
theorem rd_d_X8_readCond_0 : decode tX8_readCond.1.2.1 0 = .ok (.iconst 0, 1) := by decide +kernel
theorem rd_d_X8_readCond_1 : decode tX8_readCond.1.2.1 1 = .ok (.istore_n 3, 1) := by decide +kernel
theorem rd_d_X8_readCond_2 : decode tX8_readCond.1.2.1 2 = .ok (.iload_n 3, 1) := by decide +kernel
theorem rd_d_X8_readCond_3 : decode tX8_readCond.1.2.1 3 = .ok (.bipush 20, 2) := by decide +kernel
theorem rd_d_X8_readCond_5 : decode tX8_readCond.1.2.1 5 = .ok (.if_icmp .gt 91, 3) := by decide +kernel
theorem rd_d_X8_readCond_8 : decode tX8_readCond.1.2.1 8 = .ok (.aload_n 0, 1) := by decide +kernel
theorem rd_d_X8_readCond_9 : decode tX8_readCond.1.2.1 9 = .ok (.aload_n 1, 1) := by decide +kernel
theorem rd_d_X8_readCond_10 : decode tX8_readCond.1.2.1 10 = .ok (.iload_n 2, 1) := by decide +kernel
theorem rd_d_X8_readCond_11 : decode tX8_readCond.1.2.1 11 = .ok (.invokevirtual 46, 3) := by decide +kernel
theorem rd_k_X8_readCond_11 : ex_lk ex_mt tX8_readCond 11 (.invokevirtual 46) [0, 281, 327913] = true := by decide +kernel
theorem rd_d_X8_readCond_14 : decode tX8_readCond.1.2.1 14 = .ok (.ifCond .ne 5, 3) := by decide +kernel
theorem rd_d_X8_readCond_17 : decode tX8_readCond.1.2.1 17 = .ok (.iconst 0, 1) := by decide +kernel
theorem rd_d_X8_readCond_18 : decode tX8_readCond.1.2.1 18 = .ok (.ireturn, 1) := by decide +kernel
theorem rd_d_X8_readCond_19 : decode tX8_readCond.1.2.1 19 = .ok (.iconst 0, 1) := by decide +kernel
theorem rd_d_X8_readCond_20 : decode tX8_readCond.1.2.1 20 = .ok (.istore 4, 2) := by decide +kernel
theorem rd_d_X8_readCond_22 : decode tX8_readCond.1.2.1 22 = .ok (.iload 4, 2) := by decide +kernel
theorem rd_d_X8_readCond_24 : decode tX8_readCond.1.2.1 24 = .ok (.bipush 20, 2) := by decide +kernel
theorem rd_d_X8_readCond_26 : decode tX8_readCond.1.2.1 26 = .ok (.if_icmp .gt 39, 3) := by decide +kernel
theorem rd_d_X8_readCond_29 : decode tX8_readCond.1.2.1 29 = .ok (.aload_n 1, 1) := by decide +kernel
theorem rd_d_X8_readCond_30 : decode tX8_readCond.1.2.1 30 = .ok (.ldc 49, 2) := by decide +kernel
theorem rd_k_X8_readCond_30 : ex_lk ex_mt tX8_readCond 30 (.ldc 49) [19059, 393233, 0] = true := by decide +kernel
theorem rd_d_X8_readCond_32 : decode tX8_readCond.1.2.1 32 = .ok (.invokevirtual 51, 3) := by decide +kernel
theorem rd_k_X8_readCond_32 : ex_lk ex_mt tX8_readCond 32 (.invokevirtual 51) [0, 252, 327919] = true := by decide +kernel
theorem rd_d_X8_readCond_35 : decode tX8_readCond.1.2.1 35 = .ok (.ifCond .ne 30, 3) := by decide +kernel
theorem rd_d_X8_readCond_38 : decode tX8_readCond.1.2.1 38 = .ok (.aload_n 1, 1) := by decide +kernel
theorem rd_d_X8_readCond_39 : decode tX8_readCond.1.2.1 39 = .ok (.invokevirtual 55, 3) := by decide +kernel
theorem rd_k_X8_readCond_39 : ex_lk ex_mt tX8_readCond 39 (.invokevirtual 55) [0, 250, 393217] = true := by decide +kernel
theorem rd_d_X8_readCond_42 : decode tX8_readCond.1.2.1 42 = .ok (.aload_n 0, 1) := by decide +kernel
theorem rd_d_X8_readCond_43 : decode tX8_readCond.1.2.1 43 = .ok (.aload_n 1, 1) := by decide +kernel
theorem rd_d_X8_readCond_44 : decode tX8_readCond.1.2.1 44 = .ok (.iload_n 2, 1) := by decide +kernel
theorem rd_d_X8_readCond_45 : decode tX8_readCond.1.2.1 45 = .ok (.invokevirtual 46, 3) := by decide +kernel
theorem rd_k_X8_readCond_45 : ex_lk ex_mt tX8_readCond 45 (.invokevirtual 46) [0, 281, 327913] = true := by decide +kernel
theorem rd_d_X8_readCond_48 : decode tX8_readCond.1.2.1 48 = .ok (.ifCond .ne 5, 3) := by decide +kernel
theorem rd_d_X8_readCond_51 : decode tX8_readCond.1.2.1 51 = .ok (.iconst 0, 1) := by decide +kernel
theorem rd_d_X8_readCond_52 : decode tX8_readCond.1.2.1 52 = .ok (.ireturn, 1) := by decide +kernel
theorem rd_d_X8_readCond_53 : decode tX8_readCond.1.2.1 53 = .ok (.aload_n 0, 1) := by decide +kernel
theorem rd_d_X8_readCond_54 : decode tX8_readCond.1.2.1 54 = .ok (.bipush 9, 2) := by decide +kernel
theorem rd_d_X8_readCond_56 : decode tX8_readCond.1.2.1 56 = .ok (.invokevirtual 58, 3) := by decide +kernel
theorem rd_k_X8_readCond_56 : ex_lk ex_mt tX8_readCond 56 (.invokevirtual 58) [0, 275, 393219] = true := by decide +kernel
theorem rd_d_X8_readCond_59 : decode tX8_readCond.1.2.1 59 = .ok (.iinc 4 1, 3) := by decide +kernel
theorem rd_d_X8_readCond_62 : decode tX8_readCond.1.2.1 62 = .ok (.goto (-40), 3) := by decide +kernel
theorem rd_d_X8_readCond_65 : decode tX8_readCond.1.2.1 65 = .ok (.iload_n 3, 1) := by decide +kernel
theorem rd_d_X8_readCond_66 : decode tX8_readCond.1.2.1 66 = .ok (.ifCond .le 9, 3) := by decide +kernel
theorem rd_d_X8_readCond_69 : decode tX8_readCond.1.2.1 69 = .ok (.aload_n 0, 1) := by decide +kernel
theorem rd_d_X8_readCond_70 : decode tX8_readCond.1.2.1 70 = .ok (.bipush 8, 2) := by decide +kernel
theorem rd_d_X8_readCond_72 : decode tX8_readCond.1.2.1 72 = .ok (.invokevirtual 58, 3) := by decide +kernel
theorem rd_k_X8_readCond_72 : ex_lk ex_mt tX8_readCond 72 (.invokevirtual 58) [0, 275, 393219] = true := by decide +kernel
theorem rd_d_X8_readCond_75 : decode tX8_readCond.1.2.1 75 = .ok (.aload_n 1, 1) := by decide +kernel
theorem rd_d_X8_readCond_76 : decode tX8_readCond.1.2.1 76 = .ok (.ldc 62, 2) := by decide +kernel
theorem rd_k_X8_readCond_76 : ex_lk ex_mt tX8_readCond 76 (.ldc 62) [19072, 393234, 0] = true := by decide +kernel
theorem rd_d_X8_readCond_78 : decode tX8_readCond.1.2.1 78 = .ok (.invokevirtual 51, 3) := by decide +kernel
theorem rd_k_X8_readCond_78 : ex_lk ex_mt tX8_readCond 78 (.invokevirtual 51) [0, 252, 327919] = true := by decide +kernel
theorem rd_d_X8_readCond_81 : decode tX8_readCond.1.2.1 81 = .ok (.ifCond .eq 5, 3) := by decide +kernel
theorem rd_d_X8_readCond_84 : decode tX8_readCond.1.2.1 84 = .ok (.iconst 1, 1) := by decide +kernel
theorem rd_d_X8_readCond_85 : decode tX8_readCond.1.2.1 85 = .ok (.ireturn, 1) := by decide +kernel
theorem rd_d_X8_readCond_86 : decode tX8_readCond.1.2.1 86 = .ok (.aload_n 1, 1) := by decide +kernel
theorem rd_d_X8_readCond_87 : decode tX8_readCond.1.2.1 87 = .ok (.invokevirtual 55, 3) := by decide +kernel
theorem rd_k_X8_readCond_87 : ex_lk ex_mt tX8_readCond 87 (.invokevirtual 55) [0, 250, 393217] = true := by decide +kernel
theorem rd_d_X8_readCond_90 : decode tX8_readCond.1.2.1 90 = .ok (.iinc 3 1, 3) := by decide +kernel
theorem rd_d_X8_readCond_93 : decode tX8_readCond.1.2.1 93 = .ok (.goto (-91), 3) := by decide +kernel
theorem rd_d_X8_readCond_96 : decode tX8_readCond.1.2.1 96 = .ok (.aload_n 1, 1) := by decide +kernel
theorem rd_d_X8_readCond_97 : decode tX8_readCond.1.2.1 97 = .ok (.iconst 4, 1) := by decide +kernel
theorem rd_d_X8_readCond_98 : decode tX8_readCond.1.2.1 98 = .ok (.invokevirtual 42, 3) := by decide +kernel
theorem rd_k_X8_readCond_98 : ex_lk ex_mt tX8_readCond 98 (.invokevirtual 42) [0, 248, 393216] = true := by decide +kernel
theorem rd_d_X8_readCond_101 : decode tX8_readCond.1.2.1 101 = .ok (.ireturn, 1) := by decide +kernel
theorem rd_d_X8_readComparison_1 : decode tX8_readComparison.1.2.1 1 = .ok (.invokestatic 76, 3) := by decide +kernel
theorem rd_k_X8_readComparison_1 : ex_lk ex_mt tX8_readComparison 1 (.invokestatic 76) [0, 282, 393229] = true := by decide +kernel
theorem rd_d_X8_readComparison_17 : decode tX8_readComparison.1.2.1 17 = .ok (.invokevirtual 55, 3) := by decide +kernel
theorem rd_k_X8_readComparison_17 : ex_lk ex_mt tX8_readComparison 17 (.invokevirtual 55) [0, 250, 393217] = true := by decide +kernel
theorem rd_d_X8_readComparison_25 : decode tX8_readComparison.1.2.1 25 = .ok (.invokevirtual 80, 3) := by decide +kernel
theorem rd_k_X8_readComparison_25 : ex_lk ex_mt tX8_readComparison 25 (.invokevirtual 80) [0, 249, 393232] = true := by decide +kernel
theorem rd_d_X8_readComparison_47 : decode tX8_readComparison.1.2.1 47 = .ok (.invokevirtual 58, 3) := by decide +kernel
theorem rd_k_X8_readComparison_47 : ex_lk ex_mt tX8_readComparison 47 (.invokevirtual 58) [0, 275, 393219] = true := by decide +kernel
theorem rd_d_X8_readComparison_51 : decode tX8_readComparison.1.2.1 51 = .ok (.invokevirtual 55, 3) := by decide +kernel
theorem rd_k_X8_readComparison_51 : ex_lk ex_mt tX8_readComparison 51 (.invokevirtual 55) [0, 250, 393217] = true := by decide +kernel
theorem rd_d_X8_signOf_3 : decode tX8_signOf.1.2.1 3 = .ok (.invokevirtual 64, 3) := by decide +kernel
theorem rd_k_X8_signOf_3 : ex_lk ex_mt tX8_signOf 3 (.invokevirtual 64) [0, 241, 327917] = true := by decide +kernel
theorem rd_d_X8_signOf_14 : decode tX8_signOf.1.2.1 14 = .ok (.invokevirtual 64, 3) := by decide +kernel
theorem rd_k_X8_signOf_14 : ex_lk ex_mt tX8_signOf 14 (.invokevirtual 64) [0, 241, 327917] = true := by decide +kernel
theorem rd_d_X8_signOf_25 : decode tX8_signOf.1.2.1 25 = .ok (.invokevirtual 64, 3) := by decide +kernel
theorem rd_k_X8_signOf_25 : ex_lk ex_mt tX8_signOf 25 (.invokevirtual 64) [0, 241, 327917] = true := by decide +kernel
theorem rd_d_X8_readFrom_7 : decode tX8_readFrom.1.2.1 7 = .ok (.invokevirtual 32, 3) := by decide +kernel
theorem rd_k_X8_readFrom_7 : ex_lk ex_mt tX8_readFrom 7 (.invokevirtual 32) [0, 279, 327909] = true := by decide +kernel
theorem rd_d_X11_sentence_7 : decode tX11_sentence.1.2.1 7 = .ok (.invokevirtual 117, 3) := by decide +kernel
theorem rd_k_X11_sentence_7 : ex_lk ex_mt tX11_sentence 7 (.invokevirtual 117) [0, 246, 196627] = true := by decide +kernel
theorem rd_d_X11_sentence_18 : decode tX11_sentence.1.2.1 18 = .ok (.invokevirtual 418, 3) := by decide +kernel
theorem rd_k_X11_sentence_18 : ex_lk ex_mt tX11_sentence 18 (.invokevirtual 418) [0, 280, 327904] = true := by decide +kernel
theorem rd_d_X11_sentence_63 : decode tX11_sentence.1.2.1 63 = .ok (.invokevirtual 419, 3) := by decide +kernel
theorem rd_k_X11_sentence_63 : ex_lk ex_mt tX11_sentence 63 (.invokevirtual 419) [0, 274, 393236] = true := by decide +kernel
