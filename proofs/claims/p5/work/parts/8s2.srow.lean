/-! decodes and links of SENTENCE (written by a program) -/
theorem rd_d_X12_code_11 : decode tX12_code.1.2.1 11 = .ok (.iastore, 1) := by decide +kernel
theorem rd_d_X12_code_25 : decode tX12_code.1.2.1 25 = .ok (.iastore, 1) := by decide +kernel
theorem rd_d_X12_code_39 : decode tX12_code.1.2.1 39 = .ok (.iastore, 1) := by decide +kernel
theorem rd_d_X12_operand_0 : decode tX12_operand.1.2.1 0 = .ok (.aload_n 0, 1) := by decide +kernel
theorem rd_d_X12_operand_1 : decode tX12_operand.1.2.1 1 = .ok (.ldc2_w 415, 3) := by decide +kernel
theorem rd_k_X12_operand_1 : ex_lk ex_mt tX12_operand 1 (.ldc2_w 415) [7237492, 589935] = true := by decide +kernel
theorem rd_d_X12_operand_4 : decode tX12_operand.1.2.1 4 = .ok (.invokevirtual 147, 3) := by decide +kernel
theorem rd_k_X12_operand_4 : ex_lk ex_mt tX12_operand 4 (.invokevirtual 147) [0, 126, 458937] = true := by decide +kernel
theorem rd_d_X12_operand_11 : decode tX12_operand.1.2.1 11 = .ok (.invokevirtual 125, 3) := by decide +kernel
theorem rd_k_X12_operand_11 : ex_lk ex_mt tX12_operand 11 (.invokevirtual 125) [0, 122, 458979] = true := by decide +kernel
theorem rd_d_X12_operand_16 : decode tX12_operand.1.2.1 16 = .ok (.invokevirtual 417, 3) := by decide +kernel
theorem rd_k_X12_operand_16 : ex_lk ex_mt tX12_operand 16 (.invokevirtual 417) [0, 130, 589936] = true := by decide +kernel
theorem rd_d_X12_operand_73 : decode tX12_operand.1.2.1 73 = .ok (.invokevirtual 131, 3) := by decide +kernel
theorem rd_k_X12_operand_73 : ex_lk ex_mt tX12_operand 73 (.invokevirtual 131) [0, 141, 458918] = true := by decide +kernel
theorem rd_d_X12_operand_103 : decode tX12_operand.1.2.1 103 = .ok (.iastore, 1) := by decide +kernel
theorem rd_d_X12_operand_140 : decode tX12_operand.1.2.1 140 = .ok (.invokevirtual 395, 3) := by decide +kernel
theorem rd_k_X12_operand_140 : ex_lk ex_mt tX12_operand 140 (.invokevirtual 395) [0, 91, 589917] = true := by decide +kernel
theorem rd_d_X12_operand_184 : decode tX12_operand.1.2.1 184 = .ok (.invokevirtual 131, 3) := by decide +kernel
theorem rd_k_X12_operand_184 : ex_lk ex_mt tX12_operand 184 (.invokevirtual 131) [0, 141, 458918] = true := by decide +kernel
theorem rd_d_X12_operand_209 : decode tX12_operand.1.2.1 209 = .ok (.invokevirtual 395, 3) := by decide +kernel
theorem rd_k_X12_operand_209 : ex_lk ex_mt tX12_operand 209 (.invokevirtual 395) [0, 91, 589917] = true := by decide +kernel
theorem rd_d_X12_operand_213 : decode tX12_operand.1.2.1 213 = .ok (.invokevirtual 131, 3) := by decide +kernel
theorem rd_k_X12_operand_213 : ex_lk ex_mt tX12_operand 213 (.invokevirtual 131) [0, 141, 458918] = true := by decide +kernel
theorem rd_d_X12_leafOf_0 : decode tX12_leafOf.1.2.1 0 = .ok (.aload_n 0, 1) := by decide +kernel
theorem rd_d_X12_leafOf_1 : decode tX12_leafOf.1.2.1 1 = .ok (.ldc2_w 401, 3) := by decide +kernel
theorem rd_k_X12_leafOf_1 : ex_lk ex_mt tX12_leafOf 1 (.ldc2_w 401) [1869636974, 589940] = true := by decide +kernel
theorem rd_d_X12_leafOf_4 : decode tX12_leafOf.1.2.1 4 = .ok (.invokevirtual 147, 3) := by decide +kernel
theorem rd_k_X12_leafOf_4 : ex_lk ex_mt tX12_leafOf 4 (.invokevirtual 147) [0, 126, 458937] = true := by decide +kernel
theorem rd_d_X12_leafOf_7 : decode tX12_leafOf.1.2.1 7 = .ok (.ifCond .eq 7, 3) := by decide +kernel
theorem rd_d_X12_leafOf_10 : decode tX12_leafOf.1.2.1 10 = .ok (.iconst 0, 1) := by decide +kernel
theorem rd_d_X12_leafOf_11 : decode tX12_leafOf.1.2.1 11 = .ok (.goto 89, 3) := by decide +kernel
theorem rd_d_X12_leafOf_14 : decode tX12_leafOf.1.2.1 14 = .ok (.aload_n 0, 1) := by decide +kernel
theorem rd_d_X12_leafOf_15 : decode tX12_leafOf.1.2.1 15 = .ok (.ldc2_w 403, 3) := by decide +kernel
theorem rd_k_X12_leafOf_15 : ex_lk ex_mt tX12_leafOf 15 (.ldc2_w 403) [1717660018, 589941] = true := by decide +kernel
theorem rd_d_X12_leafOf_18 : decode tX12_leafOf.1.2.1 18 = .ok (.invokevirtual 147, 3) := by decide +kernel
theorem rd_k_X12_leafOf_18 : ex_lk ex_mt tX12_leafOf 18 (.invokevirtual 147) [0, 126, 458937] = true := by decide +kernel
theorem rd_d_X12_leafOf_21 : decode tX12_leafOf.1.2.1 21 = .ok (.ifCond .eq 7, 3) := by decide +kernel
theorem rd_d_X12_leafOf_24 : decode tX12_leafOf.1.2.1 24 = .ok (.iconst 1, 1) := by decide +kernel
theorem rd_d_X12_leafOf_25 : decode tX12_leafOf.1.2.1 25 = .ok (.goto 75, 3) := by decide +kernel
theorem rd_d_X12_leafOf_28 : decode tX12_leafOf.1.2.1 28 = .ok (.aload_n 0, 1) := by decide +kernel
theorem rd_d_X12_leafOf_29 : decode tX12_leafOf.1.2.1 29 = .ok (.ldc2_w 405, 3) := by decide +kernel
theorem rd_k_X12_leafOf_29 : ex_lk ex_mt tX12_leafOf 29 (.ldc2_w 405) [418363302244, 589942] = true := by decide +kernel
theorem rd_d_X12_leafOf_32 : decode tX12_leafOf.1.2.1 32 = .ok (.invokevirtual 147, 3) := by decide +kernel
theorem rd_k_X12_leafOf_32 : ex_lk ex_mt tX12_leafOf 32 (.invokevirtual 147) [0, 126, 458937] = true := by decide +kernel
theorem rd_d_X12_leafOf_35 : decode tX12_leafOf.1.2.1 35 = .ok (.ifCond .eq 7, 3) := by decide +kernel
theorem rd_d_X12_leafOf_38 : decode tX12_leafOf.1.2.1 38 = .ok (.iconst 2, 1) := by decide +kernel
theorem rd_d_X12_leafOf_39 : decode tX12_leafOf.1.2.1 39 = .ok (.goto 61, 3) := by decide +kernel
theorem rd_d_X12_leafOf_42 : decode tX12_leafOf.1.2.1 42 = .ok (.aload_n 0, 1) := by decide +kernel
theorem rd_d_X12_leafOf_43 : decode tX12_leafOf.1.2.1 43 = .ok (.ldc2_w 407, 3) := by decide +kernel
theorem rd_k_X12_leafOf_43 : ex_lk ex_mt tX12_leafOf 43 (.ldc2_w 407) [482955846501, 589943] = true := by decide +kernel
theorem rd_d_X12_leafOf_46 : decode tX12_leafOf.1.2.1 46 = .ok (.invokevirtual 147, 3) := by decide +kernel
theorem rd_k_X12_leafOf_46 : ex_lk ex_mt tX12_leafOf 46 (.invokevirtual 147) [0, 126, 458937] = true := by decide +kernel
theorem rd_d_X12_leafOf_49 : decode tX12_leafOf.1.2.1 49 = .ok (.ifCond .eq 7, 3) := by decide +kernel
theorem rd_d_X12_leafOf_52 : decode tX12_leafOf.1.2.1 52 = .ok (.iconst 3, 1) := by decide +kernel
theorem rd_d_X12_leafOf_53 : decode tX12_leafOf.1.2.1 53 = .ok (.goto 47, 3) := by decide +kernel
theorem rd_d_X12_leafOf_56 : decode tX12_leafOf.1.2.1 56 = .ok (.aload_n 0, 1) := by decide +kernel
theorem rd_d_X12_leafOf_57 : decode tX12_leafOf.1.2.1 57 = .ok (.ldc2_w 409, 3) := by decide +kernel
theorem rd_k_X12_leafOf_57 : ex_lk ex_mt tX12_leafOf 57 (.ldc2_w 409) [499850634611, 589944] = true := by decide +kernel
theorem rd_d_X12_leafOf_60 : decode tX12_leafOf.1.2.1 60 = .ok (.invokevirtual 147, 3) := by decide +kernel
theorem rd_k_X12_leafOf_60 : ex_lk ex_mt tX12_leafOf 60 (.invokevirtual 147) [0, 126, 458937] = true := by decide +kernel
theorem rd_d_X12_leafOf_63 : decode tX12_leafOf.1.2.1 63 = .ok (.ifCond .eq 7, 3) := by decide +kernel
theorem rd_d_X12_leafOf_66 : decode tX12_leafOf.1.2.1 66 = .ok (.iconst 4, 1) := by decide +kernel
theorem rd_d_X12_leafOf_67 : decode tX12_leafOf.1.2.1 67 = .ok (.goto 33, 3) := by decide +kernel
theorem rd_d_X12_leafOf_70 : decode tX12_leafOf.1.2.1 70 = .ok (.aload_n 0, 1) := by decide +kernel
theorem rd_d_X12_leafOf_71 : decode tX12_leafOf.1.2.1 71 = .ok (.ldc2_w 411, 3) := by decide +kernel
theorem rd_k_X12_leafOf_71 : ex_lk ex_mt tX12_leafOf 71 (.ldc2_w 411) [108230850603124, 589945] = true := by decide +kernel
theorem rd_d_X12_leafOf_74 : decode tX12_leafOf.1.2.1 74 = .ok (.invokevirtual 147, 3) := by decide +kernel
theorem rd_k_X12_leafOf_74 : ex_lk ex_mt tX12_leafOf 74 (.invokevirtual 147) [0, 126, 458937] = true := by decide +kernel
theorem rd_d_X12_leafOf_77 : decode tX12_leafOf.1.2.1 77 = .ok (.ifCond .eq 7, 3) := by decide +kernel
theorem rd_d_X12_leafOf_80 : decode tX12_leafOf.1.2.1 80 = .ok (.iconst 5, 1) := by decide +kernel
theorem rd_d_X12_leafOf_81 : decode tX12_leafOf.1.2.1 81 = .ok (.goto 19, 3) := by decide +kernel
theorem rd_d_X12_leafOf_84 : decode tX12_leafOf.1.2.1 84 = .ok (.aload_n 0, 1) := by decide +kernel
theorem rd_d_X12_leafOf_85 : decode tX12_leafOf.1.2.1 85 = .ok (.ldc2_w 413, 3) := by decide +kernel
theorem rd_k_X12_leafOf_85 : ex_lk ex_mt tX12_leafOf 85 (.ldc2_w 413) [121450625394034, 589946] = true := by decide +kernel
theorem rd_d_X12_leafOf_88 : decode tX12_leafOf.1.2.1 88 = .ok (.invokevirtual 147, 3) := by decide +kernel
theorem rd_k_X12_leafOf_88 : ex_lk ex_mt tX12_leafOf 88 (.invokevirtual 147) [0, 126, 458937] = true := by decide +kernel
theorem rd_d_X12_leafOf_91 : decode tX12_leafOf.1.2.1 91 = .ok (.ifCond .eq 8, 3) := by decide +kernel
theorem rd_d_X12_leafOf_94 : decode tX12_leafOf.1.2.1 94 = .ok (.bipush 6, 2) := by decide +kernel
theorem rd_d_X12_leafOf_96 : decode tX12_leafOf.1.2.1 96 = .ok (.goto 4, 3) := by decide +kernel
theorem rd_d_X12_leafOf_99 : decode tX12_leafOf.1.2.1 99 = .ok (.iconst (-1), 1) := by decide +kernel
theorem rd_d_X12_leafOf_100 : decode tX12_leafOf.1.2.1 100 = .ok (.ireturn, 1) := by decide +kernel
theorem rd_d_X12_behind_0 : decode tX12_behind.1.2.1 0 = .ok (.aload_n 0, 1) := by decide +kernel
theorem rd_d_X12_behind_1 : decode tX12_behind.1.2.1 1 = .ok (.invokevirtual 426, 3) := by decide +kernel
theorem rd_k_X12_behind_1 : ex_lk ex_mt tX12_behind 1 (.invokevirtual 426) [0, 142, 589913] = true := by decide +kernel
theorem rd_d_X12_behind_5 : decode tX12_behind.1.2.1 5 = .ok (.ldc2_w 429, 3) := by decide +kernel
theorem rd_k_X12_behind_5 : ex_lk ex_mt tX12_behind 5 (.ldc2_w 429) [6385252, 589929] = true := by decide +kernel
theorem rd_d_X12_behind_8 : decode tX12_behind.1.2.1 8 = .ok (.invokevirtual 147, 3) := by decide +kernel
theorem rd_k_X12_behind_8 : ex_lk ex_mt tX12_behind 8 (.invokevirtual 147) [0, 126, 458937] = true := by decide +kernel
theorem rd_d_X12_behind_15 : decode tX12_behind.1.2.1 15 = .ok (.ldc2_w 431, 3) := by decide +kernel
theorem rd_k_X12_behind_15 : ex_lk ex_mt tX12_behind 15 (.ldc2_w 431) [28530, 589930] = true := by decide +kernel
theorem rd_d_X12_behind_18 : decode tX12_behind.1.2.1 18 = .ok (.invokevirtual 147, 3) := by decide +kernel
theorem rd_k_X12_behind_18 : ex_lk ex_mt tX12_behind 18 (.invokevirtual 147) [0, 126, 458937] = true := by decide +kernel
theorem rd_d_X12_behind_26 : decode tX12_behind.1.2.1 26 = .ok (.ldc2_w 429, 3) := by decide +kernel
theorem rd_k_X12_behind_26 : ex_lk ex_mt tX12_behind 26 (.ldc2_w 429) [6385252, 589929] = true := by decide +kernel
theorem rd_d_X12_behind_29 : decode tX12_behind.1.2.1 29 = .ok (.invokevirtual 147, 3) := by decide +kernel
theorem rd_k_X12_behind_29 : ex_lk ex_mt tX12_behind 29 (.invokevirtual 147) [0, 126, 458937] = true := by decide +kernel
theorem rd_d_X12_behind_42 : decode tX12_behind.1.2.1 42 = .ok (.invokevirtual 433, 3) := by decide +kernel
theorem rd_k_X12_behind_42 : ex_lk ex_mt tX12_behind 42 (.invokevirtual 433) [0, 127, 589921] = true := by decide +kernel
theorem rd_d_X12_behind_54 : decode tX12_behind.1.2.1 54 = .ok (.ldc2_w 429, 3) := by decide +kernel
theorem rd_k_X12_behind_54 : ex_lk ex_mt tX12_behind 54 (.ldc2_w 429) [6385252, 589929] = true := by decide +kernel
theorem rd_d_X12_behind_57 : decode tX12_behind.1.2.1 57 = .ok (.invokevirtual 147, 3) := by decide +kernel
theorem rd_k_X12_behind_57 : ex_lk ex_mt tX12_behind 57 (.invokevirtual 147) [0, 126, 458937] = true := by decide +kernel
theorem rd_d_X12_behind_70 : decode tX12_behind.1.2.1 70 = .ok (.iastore, 1) := by decide +kernel
theorem rd_d_X12_behind_87 : decode tX12_behind.1.2.1 87 = .ok (.invokevirtual 131, 3) := by decide +kernel
theorem rd_k_X12_behind_87 : ex_lk ex_mt tX12_behind 87 (.invokevirtual 131) [0, 141, 458918] = true := by decide +kernel
theorem rd_d_X12_behind_95 : decode tX12_behind.1.2.1 95 = .ok (.invokevirtual 433, 3) := by decide +kernel
theorem rd_k_X12_behind_95 : ex_lk ex_mt tX12_behind 95 (.invokevirtual 433) [0, 127, 589921] = true := by decide +kernel
theorem rd_d_X12_behind_141 : decode tX12_behind.1.2.1 141 = .ok (.invokevirtual 131, 3) := by decide +kernel
theorem rd_k_X12_behind_141 : ex_lk ex_mt tX12_behind 141 (.invokevirtual 131) [0, 141, 458918] = true := by decide +kernel
theorem rd_d_X12_nots_17 : decode tX12_nots.1.2.1 17 = .ok (.iaload, 1) := by decide +kernel
theorem rd_d_X12_nots_48 : decode tX12_nots.1.2.1 48 = .ok (.invokevirtual 395, 3) := by decide +kernel
theorem rd_k_X12_nots_48 : ex_lk ex_mt tX12_nots 48 (.invokevirtual 395) [0, 91, 589917] = true := by decide +kernel
theorem rd_d_X12_nots_51 : decode tX12_nots.1.2.1 51 = .ok (.goto (-51), 3) := by decide +kernel
theorem rd_d_X12_joins_17 : decode tX12_joins.1.2.1 17 = .ok (.iaload, 1) := by decide +kernel
theorem rd_d_X12_joins_33 : decode tX12_joins.1.2.1 33 = .ok (.iaload, 1) := by decide +kernel
theorem rd_d_X12_joins_64 : decode tX12_joins.1.2.1 64 = .ok (.iaload, 1) := by decide +kernel
theorem rd_d_X12_joins_67 : decode tX12_joins.1.2.1 67 = .ok (.invokevirtual 395, 3) := by decide +kernel
theorem rd_k_X12_joins_67 : ex_lk ex_mt tX12_joins 67 (.invokevirtual 395) [0, 91, 589917] = true := by decide +kernel
theorem rd_d_X12_joins_70 : decode tX12_joins.1.2.1 70 = .ok (.goto (-70), 3) := by decide +kernel
theorem rd_d_X12_sentence_43 : decode tX12_sentence.1.2.1 43 = .ok (.invokevirtual 131, 3) := by decide +kernel
theorem rd_k_X12_sentence_43 : ex_lk ex_mt tX12_sentence 43 (.invokevirtual 131) [0, 141, 458918] = true := by decide +kernel
theorem rd_d_X12_sentence_67 : decode tX12_sentence.1.2.1 67 = .ok (.invokevirtual 426, 3) := by decide +kernel
theorem rd_k_X12_sentence_67 : ex_lk ex_mt tX12_sentence 67 (.invokevirtual 426) [0, 142, 589913] = true := by decide +kernel
theorem rd_d_X12_sentence_73 : decode tX12_sentence.1.2.1 73 = .ok (.invokevirtual 433, 3) := by decide +kernel
theorem rd_k_X12_sentence_73 : ex_lk ex_mt tX12_sentence 73 (.invokevirtual 433) [0, 127, 589921] = true := by decide +kernel
theorem rd_d_X12_sentence_109 : decode tX12_sentence.1.2.1 109 = .ok (.invokevirtual 436, 3) := by decide +kernel
theorem rd_k_X12_sentence_109 : ex_lk ex_mt tX12_sentence 109 (.invokevirtual 436) [0, 77, 589925] = true := by decide +kernel
theorem rd_d_X12_sentence_119 : decode tX12_sentence.1.2.1 119 = .ok (.invokevirtual 439, 3) := by decide +kernel
theorem rd_k_X12_sentence_119 : ex_lk ex_mt tX12_sentence 119 (.invokevirtual 439) [0, 146, 589931] = true := by decide +kernel
theorem rd_d_X12_sentence_142 : decode tX12_sentence.1.2.1 142 = .ok (.iastore, 1) := by decide +kernel
theorem rd_d_X12_sentence_168 : decode tX12_sentence.1.2.1 168 = .ok (.iaload, 1) := by decide +kernel
theorem rd_d_X12_sentence_169 : decode tX12_sentence.1.2.1 169 = .ok (.iastore, 1) := by decide +kernel
