/-! decodes and links of the readers (written by a program) -/
theorem rd_d_X12_peek_19 : decode tX12_peek.1.2.1 19 = .ok (.baload, 1) := by decide +kernel
theorem rd_d_X12_peek_23 : decode tX12_peek.1.2.1 23 = .ok (.iand, 1) := by decide +kernel
theorem rd_d_X12_next_1 : decode tX12_next.1.2.1 1 = .ok (.invokevirtual 92, 3) := by decide +kernel
theorem rd_k_X12_next_1 : ex_lk ex_mt tX12_next 1 (.invokevirtual 92) [0, 150, 458922] = true := by decide +kernel
theorem rd_d_X12_next_10 : decode tX12_next.1.2.1 10 = .ok (.invokevirtual 92, 3) := by decide +kernel
theorem rd_k_X12_next_10 : ex_lk ex_mt tX12_next 10 (.invokevirtual 92) [0, 150, 458922] = true := by decide +kernel
theorem rd_d_X12_next_81 : decode tX12_next.1.2.1 81 = .ok (.invokevirtual 92, 3) := by decide +kernel
theorem rd_k_X12_next_81 : ex_lk ex_mt tX12_next 81 (.invokevirtual 92) [0, 150, 458922] = true := by decide +kernel
theorem rd_d_X12_next_171 : decode tX12_next.1.2.1 171 = .ok (.aload_n 0, 1) := by decide +kernel
theorem rd_d_X12_next_172 : decode tX12_next.1.2.1 172 = .ok (.lconst 0, 1) := by decide +kernel
theorem rd_d_X12_next_173 : decode tX12_next.1.2.1 173 = .ok (.putfield 115, 3) := by decide +kernel
theorem rd_k_X12_next_173 : ex_lk ex_mt tX12_next 173 (.putfield 115) [12, 15, 1, 458782] = true := by decide +kernel
theorem rd_d_X12_next_182 : decode tX12_next.1.2.1 182 = .ok (.invokevirtual 92, 3) := by decide +kernel
theorem rd_k_X12_next_182 : ex_lk ex_mt tX12_next 182 (.invokevirtual 92) [0, 150, 458922] = true := by decide +kernel
theorem rd_d_X12_next_192 : decode tX12_next.1.2.1 192 = .ok (.invokevirtual 92, 3) := by decide +kernel
theorem rd_k_X12_next_192 : ex_lk ex_mt tX12_next 192 (.invokevirtual 92) [0, 150, 458922] = true := by decide +kernel
theorem rd_d_X12_next_206 : decode tX12_next.1.2.1 206 = .ok (.invokevirtual 92, 3) := by decide +kernel
theorem rd_k_X12_next_206 : ex_lk ex_mt tX12_next 206 (.invokevirtual 92) [0, 150, 458922] = true := by decide +kernel
theorem rd_d_X12_next_231 : decode tX12_next.1.2.1 231 = .ok (.aload_n 0, 1) := by decide +kernel
theorem rd_d_X12_next_232 : decode tX12_next.1.2.1 232 = .ok (.aload_n 0, 1) := by decide +kernel
theorem rd_d_X12_next_233 : decode tX12_next.1.2.1 233 = .ok (.getfield 115, 3) := by decide +kernel
theorem rd_k_X12_next_233 : ex_lk ex_mt tX12_next 233 (.getfield 115) [12, 15, 1, 458782] = true := by decide +kernel
theorem rd_d_X12_next_236 : decode tX12_next.1.2.1 236 = .ok (.bipush 8, 2) := by decide +kernel
theorem rd_d_X12_next_238 : decode tX12_next.1.2.1 238 = .ok (.lshl, 1) := by decide +kernel
theorem rd_d_X12_next_239 : decode tX12_next.1.2.1 239 = .ok (.aload_n 0, 1) := by decide +kernel
theorem rd_d_X12_next_240 : decode tX12_next.1.2.1 240 = .ok (.invokevirtual 92, 3) := by decide +kernel
theorem rd_k_X12_next_240 : ex_lk ex_mt tX12_next 240 (.invokevirtual 92) [0, 150, 458922] = true := by decide +kernel
theorem rd_d_X12_next_243 : decode tX12_next.1.2.1 243 = .ok (.i2l, 1) := by decide +kernel
theorem rd_d_X12_next_244 : decode tX12_next.1.2.1 244 = .ok (.lor, 1) := by decide +kernel
theorem rd_d_X12_next_245 : decode tX12_next.1.2.1 245 = .ok (.putfield 115, 3) := by decide +kernel
theorem rd_k_X12_next_245 : ex_lk ex_mt tX12_next 245 (.putfield 115) [12, 15, 1, 458782] = true := by decide +kernel
theorem rd_d_X12_next_265 : decode tX12_next.1.2.1 265 = .ok (.invokevirtual 92, 3) := by decide +kernel
theorem rd_k_X12_next_265 : ex_lk ex_mt tX12_next 265 (.invokevirtual 92) [0, 150, 458922] = true := by decide +kernel
theorem rd_d_X12_takes_41 : decode tX12_takes.1.2.1 41 = .ok (.invokevirtual 131, 3) := by decide +kernel
theorem rd_k_X12_takes_41 : ex_lk ex_mt tX12_takes 41 (.invokevirtual 131) [0, 141, 458918] = true := by decide +kernel
theorem rd_d_X12_puts_3 : decode tX12_puts.1.2.1 3 = .ok (.invokevirtual 141, 3) := by decide +kernel
theorem rd_k_X12_puts_3 : ex_lk ex_mt tX12_puts 3 (.invokevirtual 141) [0, 176, 458949] = true := by decide +kernel
theorem rd_d_X12_puts_20 : decode tX12_puts.1.2.1 20 = .ok (.iastore, 1) := by decide +kernel
theorem rd_d_X12_sign_15 : decode tX12_sign.1.2.1 15 = .ok (.invokevirtual 131, 3) := by decide +kernel
theorem rd_k_X12_sign_15 : ex_lk ex_mt tX12_sign 15 (.invokevirtual 131) [0, 141, 458918] = true := by decide +kernel
theorem rd_d_X12_isWord_0 : decode tX12_isWord.1.2.1 0 = .ok (.aload_n 0, 1) := by decide +kernel
theorem rd_d_X12_isWord_1 : decode tX12_isWord.1.2.1 1 = .ok (.getfield 102, 3) := by decide +kernel
theorem rd_k_X12_isWord_1 : ex_lk ex_mt tX12_isWord 1 (.getfield 102) [12, 9, 0, 458776] = true := by decide +kernel
theorem rd_d_X12_isWord_4 : decode tX12_isWord.1.2.1 4 = .ok (.iconst 1, 1) := by decide +kernel
theorem rd_d_X12_isWord_5 : decode tX12_isWord.1.2.1 5 = .ok (.if_icmp .ne 16, 3) := by decide +kernel
theorem rd_d_X12_isWord_8 : decode tX12_isWord.1.2.1 8 = .ok (.aload_n 0, 1) := by decide +kernel
theorem rd_d_X12_isWord_9 : decode tX12_isWord.1.2.1 9 = .ok (.getfield 115, 3) := by decide +kernel
theorem rd_k_X12_isWord_9 : ex_lk ex_mt tX12_isWord 9 (.getfield 115) [12, 15, 1, 458782] = true := by decide +kernel
theorem rd_d_X12_isWord_12 : decode tX12_isWord.1.2.1 12 = .ok (.lload_n 1, 1) := by decide +kernel
theorem rd_d_X12_isWord_13 : decode tX12_isWord.1.2.1 13 = .ok (.lcmp, 1) := by decide +kernel
theorem rd_d_X12_isWord_14 : decode tX12_isWord.1.2.1 14 = .ok (.ifCond .ne 7, 3) := by decide +kernel
theorem rd_d_X12_isWord_17 : decode tX12_isWord.1.2.1 17 = .ok (.iconst 1, 1) := by decide +kernel
theorem rd_d_X12_isWord_18 : decode tX12_isWord.1.2.1 18 = .ok (.goto 4, 3) := by decide +kernel
theorem rd_d_X12_isWord_21 : decode tX12_isWord.1.2.1 21 = .ok (.iconst 0, 1) := by decide +kernel
theorem rd_d_X12_isWord_22 : decode tX12_isWord.1.2.1 22 = .ok (.ireturn, 1) := by decide +kernel
theorem rd_d_X12_whichOf_0 : decode tX12_whichOf.1.2.1 0 = .ok (.aload_n 0, 1) := by decide +kernel
theorem rd_d_X12_whichOf_1 : decode tX12_whichOf.1.2.1 1 = .ok (.ldc2_w 145, 3) := by decide +kernel
theorem rd_k_X12_whichOf_1 : ex_lk ex_mt tX12_whichOf 1 (.ldc2_w 145) [2002873451, 458961] = true := by decide +kernel
theorem rd_d_X12_whichOf_4 : decode tX12_whichOf.1.2.1 4 = .ok (.invokevirtual 147, 3) := by decide +kernel
theorem rd_k_X12_whichOf_4 : ex_lk ex_mt tX12_whichOf 4 (.invokevirtual 147) [0, 126, 458937] = true := by decide +kernel
theorem rd_d_X12_whichOf_7 : decode tX12_whichOf.1.2.1 7 = .ok (.ifCond .eq 5, 3) := by decide +kernel
theorem rd_d_X12_whichOf_10 : decode tX12_whichOf.1.2.1 10 = .ok (.iconst 0, 1) := by decide +kernel
theorem rd_d_X12_whichOf_11 : decode tX12_whichOf.1.2.1 11 = .ok (.ireturn, 1) := by decide +kernel
theorem rd_d_X12_whichOf_12 : decode tX12_whichOf.1.2.1 12 = .ok (.aload_n 0, 1) := by decide +kernel
theorem rd_d_X12_whichOf_13 : decode tX12_whichOf.1.2.1 13 = .ok (.ldc2_w 151, 3) := by decide +kernel
theorem rd_k_X12_whichOf_13 : ex_lk ex_mt tX12_whichOf 13 (.ldc2_w 151) [108170687767924, 458962] = true := by decide +kernel
theorem rd_d_X12_whichOf_16 : decode tX12_whichOf.1.2.1 16 = .ok (.invokevirtual 147, 3) := by decide +kernel
theorem rd_k_X12_whichOf_16 : ex_lk ex_mt tX12_whichOf 16 (.invokevirtual 147) [0, 126, 458937] = true := by decide +kernel
theorem rd_d_X12_whichOf_19 : decode tX12_whichOf.1.2.1 19 = .ok (.ifCond .eq 5, 3) := by decide +kernel
theorem rd_d_X12_whichOf_22 : decode tX12_whichOf.1.2.1 22 = .ok (.iconst 1, 1) := by decide +kernel
theorem rd_d_X12_whichOf_23 : decode tX12_whichOf.1.2.1 23 = .ok (.ireturn, 1) := by decide +kernel
theorem rd_d_X12_whichOf_24 : decode tX12_whichOf.1.2.1 24 = .ok (.aload_n 0, 1) := by decide +kernel
theorem rd_d_X12_whichOf_25 : decode tX12_whichOf.1.2.1 25 = .ok (.ldc2_w 153, 3) := by decide +kernel
theorem rd_k_X12_whichOf_25 : ex_lk ex_mt tX12_whichOf 25 (.ldc2_w 153) [114827802801012, 458963] = true := by decide +kernel
theorem rd_d_X12_whichOf_28 : decode tX12_whichOf.1.2.1 28 = .ok (.invokevirtual 147, 3) := by decide +kernel
theorem rd_k_X12_whichOf_28 : ex_lk ex_mt tX12_whichOf 28 (.invokevirtual 147) [0, 126, 458937] = true := by decide +kernel
theorem rd_d_X12_whichOf_31 : decode tX12_whichOf.1.2.1 31 = .ok (.ifCond .eq 5, 3) := by decide +kernel
theorem rd_d_X12_whichOf_34 : decode tX12_whichOf.1.2.1 34 = .ok (.iconst 2, 1) := by decide +kernel
theorem rd_d_X12_whichOf_35 : decode tX12_whichOf.1.2.1 35 = .ok (.ireturn, 1) := by decide +kernel
theorem rd_d_X12_whichOf_36 : decode tX12_whichOf.1.2.1 36 = .ok (.aload_n 0, 1) := by decide +kernel
theorem rd_d_X12_whichOf_37 : decode tX12_whichOf.1.2.1 37 = .ok (.ldc2_w 155, 3) := by decide +kernel
theorem rd_k_X12_whichOf_37 : ex_lk ex_mt tX12_whichOf 37 (.ldc2_w 155) [7563385, 458964] = true := by decide +kernel
theorem rd_d_X12_whichOf_40 : decode tX12_whichOf.1.2.1 40 = .ok (.invokevirtual 147, 3) := by decide +kernel
theorem rd_k_X12_whichOf_40 : ex_lk ex_mt tX12_whichOf 40 (.invokevirtual 147) [0, 126, 458937] = true := by decide +kernel
theorem rd_d_X12_whichOf_43 : decode tX12_whichOf.1.2.1 43 = .ok (.ifCond .eq 5, 3) := by decide +kernel
theorem rd_d_X12_whichOf_46 : decode tX12_whichOf.1.2.1 46 = .ok (.iconst 3, 1) := by decide +kernel
theorem rd_d_X12_whichOf_47 : decode tX12_whichOf.1.2.1 47 = .ok (.ireturn, 1) := by decide +kernel
theorem rd_d_X12_whichOf_48 : decode tX12_whichOf.1.2.1 48 = .ok (.aload_n 0, 1) := by decide +kernel
theorem rd_d_X12_whichOf_49 : decode tX12_whichOf.1.2.1 49 = .ok (.ldc2_w 157, 3) := by decide +kernel
theorem rd_k_X12_whichOf_49 : ex_lk ex_mt tX12_whichOf 49 (.ldc2_w 157) [33610324346432613, 458965] = true := by decide +kernel
theorem rd_d_X12_whichOf_52 : decode tX12_whichOf.1.2.1 52 = .ok (.invokevirtual 147, 3) := by decide +kernel
theorem rd_k_X12_whichOf_52 : ex_lk ex_mt tX12_whichOf 52 (.invokevirtual 147) [0, 126, 458937] = true := by decide +kernel
theorem rd_d_X12_whichOf_55 : decode tX12_whichOf.1.2.1 55 = .ok (.ifCond .eq 5, 3) := by decide +kernel
theorem rd_d_X12_whichOf_58 : decode tX12_whichOf.1.2.1 58 = .ok (.iconst 4, 1) := by decide +kernel
theorem rd_d_X12_whichOf_59 : decode tX12_whichOf.1.2.1 59 = .ok (.ireturn, 1) := by decide +kernel
theorem rd_d_X12_whichOf_60 : decode tX12_whichOf.1.2.1 60 = .ok (.aload_n 0, 1) := by decide +kernel
theorem rd_d_X12_whichOf_61 : decode tX12_whichOf.1.2.1 61 = .ok (.ldc2_w 159, 3) := by decide +kernel
theorem rd_k_X12_whichOf_61 : ex_lk ex_mt tX12_whichOf 61 (.ldc2_w 159) [418346264942, 458966] = true := by decide +kernel
theorem rd_d_X12_whichOf_64 : decode tX12_whichOf.1.2.1 64 = .ok (.invokevirtual 147, 3) := by decide +kernel
theorem rd_k_X12_whichOf_64 : ex_lk ex_mt tX12_whichOf 64 (.invokevirtual 147) [0, 126, 458937] = true := by decide +kernel
theorem rd_d_X12_whichOf_67 : decode tX12_whichOf.1.2.1 67 = .ok (.ifCond .eq 5, 3) := by decide +kernel
theorem rd_d_X12_whichOf_70 : decode tX12_whichOf.1.2.1 70 = .ok (.iconst 5, 1) := by decide +kernel
theorem rd_d_X12_whichOf_71 : decode tX12_whichOf.1.2.1 71 = .ok (.ireturn, 1) := by decide +kernel
theorem rd_d_X12_whichOf_72 : decode tX12_whichOf.1.2.1 72 = .ok (.aload_n 0, 1) := by decide +kernel
theorem rd_d_X12_whichOf_73 : decode tX12_whichOf.1.2.1 73 = .ok (.ldc2_w 161, 3) := by decide +kernel
theorem rd_k_X12_whichOf_73 : ex_lk ex_mt tX12_whichOf 73 (.ldc2_w 161) [125848689468786, 458967] = true := by decide +kernel
theorem rd_d_X12_whichOf_76 : decode tX12_whichOf.1.2.1 76 = .ok (.invokevirtual 147, 3) := by decide +kernel
theorem rd_k_X12_whichOf_76 : ex_lk ex_mt tX12_whichOf 76 (.invokevirtual 147) [0, 126, 458937] = true := by decide +kernel
theorem rd_d_X12_whichOf_79 : decode tX12_whichOf.1.2.1 79 = .ok (.ifCond .eq 6, 3) := by decide +kernel
theorem rd_d_X12_whichOf_82 : decode tX12_whichOf.1.2.1 82 = .ok (.bipush 6, 2) := by decide +kernel
theorem rd_d_X12_whichOf_84 : decode tX12_whichOf.1.2.1 84 = .ok (.ireturn, 1) := by decide +kernel
theorem rd_d_X12_whichOf_85 : decode tX12_whichOf.1.2.1 85 = .ok (.aload_n 0, 1) := by decide +kernel
theorem rd_d_X12_whichOf_86 : decode tX12_whichOf.1.2.1 86 = .ok (.ldc2_w 163, 3) := by decide +kernel
theorem rd_k_X12_whichOf_86 : ex_lk ex_mt tX12_whichOf 86 (.ldc2_w 163) [1668248436, 458968] = true := by decide +kernel
theorem rd_d_X12_whichOf_89 : decode tX12_whichOf.1.2.1 89 = .ok (.invokevirtual 147, 3) := by decide +kernel
theorem rd_k_X12_whichOf_89 : ex_lk ex_mt tX12_whichOf 89 (.invokevirtual 147) [0, 126, 458937] = true := by decide +kernel
theorem rd_d_X12_whichOf_92 : decode tX12_whichOf.1.2.1 92 = .ok (.ifCond .eq 8, 3) := by decide +kernel
theorem rd_d_X12_whichOf_95 : decode tX12_whichOf.1.2.1 95 = .ok (.bipush 7, 2) := by decide +kernel
theorem rd_d_X12_whichOf_97 : decode tX12_whichOf.1.2.1 97 = .ok (.goto 4, 3) := by decide +kernel
theorem rd_d_X12_whichOf_100 : decode tX12_whichOf.1.2.1 100 = .ok (.iconst (-1), 1) := by decide +kernel
theorem rd_d_X12_whichOf_101 : decode tX12_whichOf.1.2.1 101 = .ok (.ireturn, 1) := by decide +kernel
theorem rd_d_X12_line_0 : decode tX12_line.1.2.1 0 = .ok (.aload_n 0, 1) := by decide +kernel
theorem rd_d_X12_line_1 : decode tX12_line.1.2.1 1 = .ok (.ldc2_w 165, 3) := by decide +kernel
theorem rd_k_X12_line_1 : ex_lk ex_mt tX12_line 1 (.ldc2_w 165) [131294707347319, 458936] = true := by decide +kernel
theorem rd_d_X12_line_4 : decode tX12_line.1.2.1 4 = .ok (.invokevirtual 147, 3) := by decide +kernel
theorem rd_k_X12_line_4 : ex_lk ex_mt tX12_line 4 (.invokevirtual 147) [0, 126, 458937] = true := by decide +kernel
theorem rd_d_X12_line_30 : decode tX12_line.1.2.1 30 = .ok (.invokevirtual 131, 3) := by decide +kernel
theorem rd_k_X12_line_30 : ex_lk ex_mt tX12_line 30 (.invokevirtual 131) [0, 141, 458918] = true := by decide +kernel
theorem rd_d_X12_line_40 : decode tX12_line.1.2.1 40 = .ok (.invokevirtual 167, 3) := by decide +kernel
theorem rd_k_X12_line_40 : ex_lk ex_mt tX12_line 40 (.invokevirtual 167) [0, 155, 458945] = true := by decide +kernel
theorem rd_d_X12_line_54 : decode tX12_line.1.2.1 54 = .ok (.invokevirtual 167, 3) := by decide +kernel
theorem rd_k_X12_line_54 : ex_lk ex_mt tX12_line 54 (.invokevirtual 167) [0, 155, 458945] = true := by decide +kernel
theorem rd_d_X12_line_67 : decode tX12_line.1.2.1 67 = .ok (.invokevirtual 167, 3) := by decide +kernel
theorem rd_k_X12_line_67 : ex_lk ex_mt tX12_line 67 (.invokevirtual 167) [0, 155, 458945] = true := by decide +kernel
theorem rd_d_X12_line_81 : decode tX12_line.1.2.1 81 = .ok (.invokevirtual 167, 3) := by decide +kernel
theorem rd_k_X12_line_81 : ex_lk ex_mt tX12_line 81 (.invokevirtual 167) [0, 155, 458945] = true := by decide +kernel
theorem rd_d_X12_line_101 : decode tX12_line.1.2.1 101 = .ok (.aload_n 0, 1) := by decide +kernel
theorem rd_d_X12_line_102 : decode tX12_line.1.2.1 102 = .ok (.ldc2_w 170, 3) := by decide +kernel
theorem rd_k_X12_line_102 : ex_lk ex_mt tX12_line 102 (.ldc2_w 170) [126943688025203, 458956] = true := by decide +kernel
theorem rd_d_X12_line_105 : decode tX12_line.1.2.1 105 = .ok (.invokevirtual 147, 3) := by decide +kernel
theorem rd_k_X12_line_105 : ex_lk ex_mt tX12_line 105 (.invokevirtual 147) [0, 126, 458937] = true := by decide +kernel
theorem rd_d_X12_line_131 : decode tX12_line.1.2.1 131 = .ok (.invokevirtual 131, 3) := by decide +kernel
theorem rd_k_X12_line_131 : ex_lk ex_mt tX12_line 131 (.invokevirtual 131) [0, 141, 458918] = true := by decide +kernel
theorem rd_d_X12_line_182 : decode tX12_line.1.2.1 182 = .ok (.iaload, 1) := by decide +kernel
theorem rd_d_X12_line_214 : decode tX12_line.1.2.1 214 = .ok (.iastore, 1) := by decide +kernel
theorem rd_d_X12_line_216 : decode tX12_line.1.2.1 216 = .ok (.invokevirtual 131, 3) := by decide +kernel
theorem rd_k_X12_line_216 : ex_lk ex_mt tX12_line 216 (.invokevirtual 131) [0, 141, 458918] = true := by decide +kernel
theorem rd_d_X12_line_227 : decode tX12_line.1.2.1 227 = .ok (.invokevirtual 167, 3) := by decide +kernel
theorem rd_k_X12_line_227 : ex_lk ex_mt tX12_line 227 (.invokevirtual 167) [0, 155, 458945] = true := by decide +kernel
theorem rd_d_X12_line_248 : decode tX12_line.1.2.1 248 = .ok (.invokevirtual 172, 3) := by decide +kernel
theorem rd_k_X12_line_248 : ex_lk ex_mt tX12_line 248 (.invokevirtual 172) [0, 186, 458957] = true := by decide +kernel
theorem rd_d_X12_line_267 : decode tX12_line.1.2.1 267 = .ok (.invokestatic 178, 3) := by decide +kernel
theorem rd_k_X12_line_267 : ex_lk ex_mt tX12_line 267 (.invokestatic 178) [0, 83, 458969] = true := by decide +kernel
theorem rd_d_X12_line_286 : decode tX12_line.1.2.1 286 = .ok (.ishl, 1) := by decide +kernel
theorem rd_d_X12_line_287 : decode tX12_line.1.2.1 287 = .ok (.ior, 1) := by decide +kernel
theorem rd_d_X12_line_288 : decode tX12_line.1.2.1 288 = .ok (.putfield 175, 3) := by decide +kernel
theorem rd_k_X12_line_288 : ex_lk ex_mt tX12_line 288 (.putfield 175) [12, 18, 0, 458785] = true := by decide +kernel
theorem rd_d_X12_line_292 : decode tX12_line.1.2.1 292 = .ok (.invokevirtual 131, 3) := by decide +kernel
theorem rd_k_X12_line_292 : ex_lk ex_mt tX12_line 292 (.invokevirtual 131) [0, 141, 458918] = true := by decide +kernel
theorem rd_d_X12_line_313 : decode tX12_line.1.2.1 313 = .ok (.invokevirtual 167, 3) := by decide +kernel
theorem rd_k_X12_line_313 : ex_lk ex_mt tX12_line 313 (.invokevirtual 167) [0, 155, 458945] = true := by decide +kernel
theorem rd_d_X12_bitOf_0 : decode tX12_bitOf.1.2.1 0 = .ok (.iload_n 0, 1) := by decide +kernel
theorem rd_d_X12_bitOf_1 : decode tX12_bitOf.1.2.1 1 = .ok (.iload_n 1, 1) := by decide +kernel
theorem rd_d_X12_bitOf_2 : decode tX12_bitOf.1.2.1 2 = .ok (.ishr, 1) := by decide +kernel
theorem rd_d_X12_bitOf_3 : decode tX12_bitOf.1.2.1 3 = .ok (.iconst 1, 1) := by decide +kernel
theorem rd_d_X12_bitOf_4 : decode tX12_bitOf.1.2.1 4 = .ok (.iand, 1) := by decide +kernel
theorem rd_d_X12_bitOf_5 : decode tX12_bitOf.1.2.1 5 = .ok (.iconst 1, 1) := by decide +kernel
theorem rd_d_X12_bitOf_6 : decode tX12_bitOf.1.2.1 6 = .ok (.if_icmp .ne 7, 3) := by decide +kernel
theorem rd_d_X12_bitOf_9 : decode tX12_bitOf.1.2.1 9 = .ok (.iconst 1, 1) := by decide +kernel
theorem rd_d_X12_bitOf_10 : decode tX12_bitOf.1.2.1 10 = .ok (.goto 4, 3) := by decide +kernel
theorem rd_d_X12_bitOf_13 : decode tX12_bitOf.1.2.1 13 = .ok (.iconst 0, 1) := by decide +kernel
theorem rd_d_X12_bitOf_14 : decode tX12_bitOf.1.2.1 14 = .ok (.ireturn, 1) := by decide +kernel
theorem rd_d_X12_station_32 : decode tX12_station.1.2.1 32 = .ok (.invokevirtual 131, 3) := by decide +kernel
theorem rd_k_X12_station_32 : ex_lk ex_mt tX12_station 32 (.invokevirtual 131) [0, 141, 458918] = true := by decide +kernel
theorem rd_d_X12_station_43 : decode tX12_station.1.2.1 43 = .ok (.invokevirtual 191, 3) := by decide +kernel
theorem rd_k_X12_station_43 : ex_lk ex_mt tX12_station 43 (.invokevirtual 191) [0, 132, 458932] = true := by decide +kernel
theorem rd_d_X12_station_52 : decode tX12_station.1.2.1 52 = .ok (.invokevirtual 195, 3) := by decide +kernel
theorem rd_k_X12_station_52 : ex_lk ex_mt tX12_station 52 (.invokevirtual 195) [0, 169, 458975] = true := by decide +kernel
theorem rd_d_X12_station_80 : decode tX12_station.1.2.1 80 = .ok (.iload_n 1, 1) := by decide +kernel
theorem rd_d_X12_station_81 : decode tX12_station.1.2.1 81 = .ok (.sipush 277, 3) := by decide +kernel
theorem rd_d_X12_station_84 : decode tX12_station.1.2.1 84 = .ok (.if_icmp .ge 31, 3) := by decide +kernel
theorem rd_d_X12_station_87 : decode tX12_station.1.2.1 87 = .ok (.aload_n 0, 1) := by decide +kernel
theorem rd_d_X12_station_88 : decode tX12_station.1.2.1 88 = .ok (.getfield 33, 3) := by decide +kernel
theorem rd_k_X12_station_88 : ex_lk ex_mt tX12_station 88 (.getfield 33) [12, 6, 2, 458773] = true := by decide +kernel
theorem rd_d_X12_station_91 : decode tX12_station.1.2.1 91 = .ok (.iload_n 1, 1) := by decide +kernel
theorem rd_d_X12_station_92 : decode tX12_station.1.2.1 92 = .ok (.iload_n 1, 1) := by decide +kernel
theorem rd_d_X12_station_93 : decode tX12_station.1.2.1 93 = .ok (.bipush 62, 2) := by decide +kernel
theorem rd_d_X12_station_95 : decode tX12_station.1.2.1 95 = .ok (.if_icmp .ge 12, 3) := by decide +kernel
theorem rd_d_X12_station_98 : decode tX12_station.1.2.1 98 = .ok (.aload_n 0, 1) := by decide +kernel
theorem rd_d_X12_station_99 : decode tX12_station.1.2.1 99 = .ok (.getfield 37, 3) := by decide +kernel
theorem rd_k_X12_station_99 : ex_lk ex_mt tX12_station 99 (.getfield 37) [12, 7, 2, 458774] = true := by decide +kernel
theorem rd_d_X12_station_102 : decode tX12_station.1.2.1 102 = .ok (.iload_n 1, 1) := by decide +kernel
theorem rd_d_X12_station_103 : decode tX12_station.1.2.1 103 = .ok (.iaload, 1) := by decide +kernel
theorem rd_d_X12_station_104 : decode tX12_station.1.2.1 104 = .ok (.goto 4, 3) := by decide +kernel
theorem rd_d_X12_station_107 : decode tX12_station.1.2.1 107 = .ok (.iconst 0, 1) := by decide +kernel
theorem rd_d_X12_station_108 : decode tX12_station.1.2.1 108 = .ok (.iastore, 1) := by decide +kernel
theorem rd_d_X12_station_109 : decode tX12_station.1.2.1 109 = .ok (.iinc 1 1, 3) := by decide +kernel
theorem rd_d_X12_station_112 : decode tX12_station.1.2.1 112 = .ok (.goto (-32), 3) := by decide +kernel
theorem rd_d_X10_byteAt_26 : decode tX10_byteAt.1.2.1 26 = .ok (.baload, 1) := by decide +kernel
theorem rd_d_X10_byteAt_30 : decode tX10_byteAt.1.2.1 30 = .ok (.iand, 1) := by decide +kernel
theorem rd_d_X6_step_30 : decode tX6_step.1.2.1 30 = .ok (.invokevirtual 39, 3) := by decide +kernel
theorem rd_k_X6_step_30 : ex_lk ex_mt tX6_step 30 (.invokevirtual 39) [0, 16, 196635] = true := by decide +kernel
theorem rd_d_X6_step_128 : decode tX6_step.1.2.1 128 = .ok (.invokevirtual 39, 3) := by decide +kernel
theorem rd_k_X6_step_128 : ex_lk ex_mt tX6_step 128 (.invokevirtual 39) [0, 16, 196635] = true := by decide +kernel
theorem rd_d_X6_step_145 : decode tX6_step.1.2.1 145 = .ok (.invokevirtual 39, 3) := by decide +kernel
theorem rd_k_X6_step_145 : ex_lk ex_mt tX6_step 145 (.invokevirtual 39) [0, 16, 196635] = true := by decide +kernel
theorem rd_d_X6_step_155 : decode tX6_step.1.2.1 155 = .ok (.invokevirtual 59, 3) := by decide +kernel
theorem rd_k_X6_step_155 : ex_lk ex_mt tX6_step 155 (.invokevirtual 59) [0, 247, 196648] = true := by decide +kernel
theorem rd_d_X6_step_170 : decode tX6_step.1.2.1 170 = .ok (.invokevirtual 39, 3) := by decide +kernel
theorem rd_k_X6_step_170 : ex_lk ex_mt tX6_step 170 (.invokevirtual 39) [0, 16, 196635] = true := by decide +kernel
theorem rd_d_X6_readRun_39 : decode tX6_readRun.1.2.1 39 = .ok (.invokevirtual 39, 3) := by decide +kernel
theorem rd_k_X6_readRun_39 : ex_lk ex_mt tX6_readRun 39 (.invokevirtual 39) [0, 16, 196635] = true := by decide +kernel
theorem rd_d_X6_isAt_16 : decode tX6_isAt.1.2.1 16 = .ok (.invokevirtual 39, 3) := by decide +kernel
theorem rd_k_X6_isAt_16 : ex_lk ex_mt tX6_isAt 16 (.invokevirtual 39) [0, 16, 196635] = true := by decide +kernel
theorem rd_d_X6_takesSign_2 : decode tX6_takesSign.1.2.1 2 = .ok (.invokevirtual 77, 3) := by decide +kernel
theorem rd_k_X6_takesSign_2 : ex_lk ex_mt tX6_takesSign 2 (.invokevirtual 77) [0, 241, 196760] = true := by decide +kernel
theorem rd_d_X6_takesSign_15 : decode tX6_takesSign.1.2.1 15 = .ok (.invokevirtual 28, 3) := by decide +kernel
theorem rd_k_X6_takesSign_15 : ex_lk ex_mt tX6_takesSign 15 (.invokevirtual 28) [0, 250, 196631] = true := by decide +kernel
theorem rd_d_X6_wordOf_23 : decode tX6_wordOf.1.2.1 23 = .ok (.invokevirtual 68, 3) := by decide +kernel
theorem rd_k_X6_wordOf_23 : ex_lk ex_mt tX6_wordOf 23 (.invokevirtual 68) [2, 0, 196672, 0] = true := by decide +kernel
theorem rd_d_X6_wordOf_32 : decode tX6_wordOf.1.2.1 32 = .ok (.invokevirtual 73, 3) := by decide +kernel
theorem rd_k_X6_wordOf_32 : ex_lk ex_mt tX6_wordOf 32 (.invokevirtual 73) [2, 1, 196682, 0] = true := by decide +kernel
theorem rd_d_X6_wordOf_67 : decode tX6_wordOf.1.2.1 67 = .ok (.invokevirtual 39, 3) := by decide +kernel
theorem rd_k_X6_wordOf_67 : ex_lk ex_mt tX6_wordOf 67 (.invokevirtual 39) [0, 16, 196635] = true := by decide +kernel
theorem rd_d_X6_open_21 : decode tX6_open.1.2.1 21 = .ok (.invokevirtual 28, 3) := by decide +kernel
theorem rd_k_X6_open_21 : ex_lk ex_mt tX6_open 21 (.invokevirtual 28) [0, 250, 196631] = true := by decide +kernel
theorem rd_d_X9_readInto_4 : decode tX9_readInto.1.2.1 4 = .ok (.invokevirtual 104, 3) := by decide +kernel
theorem rd_k_X9_readInto_4 : ex_lk ex_mt tX9_readInto 4 (.invokevirtual 104) [0, 249, 196732] = true := by decide +kernel
theorem rd_d_X9_readInto_18 : decode tX9_readInto.1.2.1 18 = .ok (.invokestatic 59, 3) := by decide +kernel
theorem rd_k_X9_readInto_18 : ex_lk ex_mt tX9_readInto 18 (.invokestatic 59) [0, 55, 65646] = true := by decide +kernel
theorem rd_d_X9_readInto_22 : decode tX9_readInto.1.2.1 22 = .ok (.invokevirtual 97, 3) := by decide +kernel
theorem rd_k_X9_readInto_22 : ex_lk ex_mt tX9_readInto 22 (.invokevirtual 97) [0, 250, 196728] = true := by decide +kernel
theorem rd_d_X9_readWindow_16 : decode tX9_readWindow.1.2.1 16 = .ok (.invokevirtual 97, 3) := by decide +kernel
theorem rd_k_X9_readWindow_16 : ex_lk ex_mt tX9_readWindow 16 (.invokevirtual 97) [0, 250, 196728] = true := by decide +kernel
theorem rd_d_X9_readWindow_31 : decode tX9_readWindow.1.2.1 31 = .ok (.invokestatic 100, 3) := by decide +kernel
theorem rd_k_X9_readWindow_31 : ex_lk ex_mt tX9_readWindow 31 (.invokestatic 100) [0, 301, 196729] = true := by decide +kernel
theorem rd_d_X9_readWindow_49 : decode tX9_readWindow.1.2.1 49 = .ok (.invokestatic 100, 3) := by decide +kernel
theorem rd_k_X9_readWindow_49 : ex_lk ex_mt tX9_readWindow 49 (.invokestatic 100) [0, 301, 196729] = true := by decide +kernel
theorem rd_d_X9_readWindow_66 : decode tX9_readWindow.1.2.1 66 = .ok (.invokestatic 100, 3) := by decide +kernel
theorem rd_k_X9_readWindow_66 : ex_lk ex_mt tX9_readWindow 66 (.invokestatic 100) [0, 301, 196729] = true := by decide +kernel
theorem rd_d_X9_readWindow_84 : decode tX9_readWindow.1.2.1 84 = .ok (.invokestatic 100, 3) := by decide +kernel
theorem rd_k_X9_readWindow_84 : ex_lk ex_mt tX9_readWindow 84 (.invokestatic 100) [0, 301, 196729] = true := by decide +kernel
theorem rd_d_X9_readStands_16 : decode tX9_readStands.1.2.1 16 = .ok (.invokevirtual 97, 3) := by decide +kernel
theorem rd_k_X9_readStands_16 : ex_lk ex_mt tX9_readStands 16 (.invokevirtual 97) [0, 250, 196728] = true := by decide +kernel
theorem rd_d_X9_readStands_43 : decode tX9_readStands.1.2.1 43 = .ok (.invokevirtual 108, 3) := by decide +kernel
theorem rd_k_X9_readStands_43 : ex_lk ex_mt tX9_readStands 43 (.invokevirtual 108) [0, 308, 196741] = true := by decide +kernel
theorem rd_d_X9_readStands_77 : decode tX9_readStands.1.2.1 77 = .ok (.invokestatic 59, 3) := by decide +kernel
theorem rd_k_X9_readStands_77 : ex_lk ex_mt tX9_readStands 77 (.invokestatic 59) [0, 55, 65646] = true := by decide +kernel
theorem rd_d_X9_readStands_81 : decode tX9_readStands.1.2.1 81 = .ok (.invokevirtual 97, 3) := by decide +kernel
theorem rd_k_X9_readStands_81 : ex_lk ex_mt tX9_readStands 81 (.invokevirtual 97) [0, 250, 196728] = true := by decide +kernel
theorem rd_d_X9_readStands_96 : decode tX9_readStands.1.2.1 96 = .ok (.invokestatic 100, 3) := by decide +kernel
theorem rd_k_X9_readStands_96 : ex_lk ex_mt tX9_readStands 96 (.invokestatic 100) [0, 301, 196729] = true := by decide +kernel
theorem rd_d_X9_readSetting_5 : decode tX9_readSetting.1.2.1 5 = .ok (.ishr, 1) := by decide +kernel
theorem rd_d_X9_readSetting_7 : decode tX9_readSetting.1.2.1 7 = .ok (.iand, 1) := by decide +kernel
theorem rd_d_X9_readSetting_25 : decode tX9_readSetting.1.2.1 25 = .ok (.ishl, 1) := by decide +kernel
theorem rd_d_X9_readSetting_26 : decode tX9_readSetting.1.2.1 26 = .ok (.ior, 1) := by decide +kernel
theorem rd_d_X9_readSetting_27 : decode tX9_readSetting.1.2.1 27 = .ok (.putfield 49, 3) := by decide +kernel
theorem rd_k_X9_readSetting_27 : ex_lk ex_mt tX9_readSetting 27 (.putfield 49) [9, 10, 0, 65664] = true := by decide +kernel
theorem rd_d_X9_readSetting_31 : decode tX9_readSetting.1.2.1 31 = .ok (.invokevirtual 97, 3) := by decide +kernel
theorem rd_k_X9_readSetting_31 : ex_lk ex_mt tX9_readSetting 31 (.invokevirtual 97) [0, 250, 196728] = true := by decide +kernel
theorem rd_d_X9_readSetting_44 : decode tX9_readSetting.1.2.1 44 = .ok (.invokestatic 118, 3) := by decide +kernel
theorem rd_k_X9_readSetting_44 : ex_lk ex_mt tX9_readSetting 44 (.invokestatic 118) [0, 32, 196745] = true := by decide +kernel
theorem rd_d_X9_readSetting_51 : decode tX9_readSetting.1.2.1 51 = .ok (.invokestatic 118, 3) := by decide +kernel
theorem rd_k_X9_readSetting_51 : ex_lk ex_mt tX9_readSetting 51 (.invokestatic 118) [0, 32, 196745] = true := by decide +kernel
theorem rd_d_X9_readSetting_54 : decode tX9_readSetting.1.2.1 54 = .ok (.invokestatic 100, 3) := by decide +kernel
theorem rd_k_X9_readSetting_54 : ex_lk ex_mt tX9_readSetting 54 (.invokestatic 100) [0, 301, 196729] = true := by decide +kernel
theorem rd_d_X9_readLine_3 : decode tX9_readLine.1.2.1 3 = .ok (.invokevirtual 79, 3) := by decide +kernel
theorem rd_k_X9_readLine_3 : ex_lk ex_mt tX9_readLine 3 (.invokevirtual 79) [0, 252, 196668] = true := by decide +kernel
theorem rd_d_X9_readLine_15 : decode tX9_readLine.1.2.1 15 = .ok (.invokevirtual 83, 3) := by decide +kernel
theorem rd_k_X9_readLine_15 : ex_lk ex_mt tX9_readLine 15 (.invokevirtual 83) [0, 305, 196720] = true := by decide +kernel
theorem rd_d_X9_readLine_27 : decode tX9_readLine.1.2.1 27 = .ok (.invokevirtual 86, 3) := by decide +kernel
theorem rd_k_X9_readLine_27 : ex_lk ex_mt tX9_readLine 27 (.invokevirtual 86) [0, 304, 196737] = true := by decide +kernel
theorem rd_d_X9_readLine_47 : decode tX9_readLine.1.2.1 47 = .ok (.invokevirtual 93, 3) := by decide +kernel
theorem rd_k_X9_readLine_47 : ex_lk ex_mt tX9_readLine 47 (.invokevirtual 93) [0, 303, 196748] = true := by decide +kernel
theorem rd_d_X9_readFrom_1 : decode tX9_readFrom.1.2.1 1 = .ok (.invokevirtual 33, 3) := by decide +kernel
theorem rd_k_X9_readFrom_1 : ex_lk ex_mt tX9_readFrom 1 (.invokevirtual 33) [0, 289, 65630] = true := by decide +kernel
theorem rd_d_X9_readFrom_23 : decode tX9_readFrom.1.2.1 23 = .ok (.invokevirtual 69, 3) := by decide +kernel
theorem rd_k_X9_readFrom_23 : ex_lk ex_mt tX9_readFrom 23 (.invokevirtual 69) [0, 302, 196663] = true := by decide +kernel
theorem rd_d_X9_readFrom_32 : decode tX9_readFrom.1.2.1 32 = .ok (.invokevirtual 73, 3) := by decide +kernel
theorem rd_k_X9_readFrom_32 : ex_lk ex_mt tX9_readFrom 32 (.invokevirtual 73) [0, 251, 196756] = true := by decide +kernel
theorem rd_d_X9_clear_27 : decode tX9_clear.1.2.1 27 = .ok (.invokestatic 55, 3) := by decide +kernel
theorem rd_k_X9_clear_27 : ex_lk ex_mt tX9_clear 27 (.invokestatic 55) [0, 25, 65636] = true := by decide +kernel
theorem rd_d_X9_copyFrom_8 : decode tX9_copyFrom.1.2.1 8 = .ok (.invokestatic 55, 3) := by decide +kernel
theorem rd_k_X9_copyFrom_8 : ex_lk ex_mt tX9_copyFrom 8 (.invokestatic 55) [0, 25, 65636] = true := by decide +kernel
theorem rd_d_X9_copyFrom_19 : decode tX9_copyFrom.1.2.1 19 = .ok (.invokestatic 55, 3) := by decide +kernel
theorem rd_k_X9_copyFrom_19 : ex_lk ex_mt tX9_copyFrom 19 (.invokestatic 55) [0, 25, 65636] = true := by decide +kernel
theorem rd_d_X9_copyFrom_30 : decode tX9_copyFrom.1.2.1 30 = .ok (.invokestatic 55, 3) := by decide +kernel
theorem rd_k_X9_copyFrom_30 : ex_lk ex_mt tX9_copyFrom 30 (.invokestatic 55) [0, 25, 65636] = true := by decide +kernel
theorem rd_d_X9_copyFrom_41 : decode tX9_copyFrom.1.2.1 41 = .ok (.invokestatic 55, 3) := by decide +kernel
theorem rd_k_X9_copyFrom_41 : ex_lk ex_mt tX9_copyFrom 41 (.invokestatic 55) [0, 25, 65636] = true := by decide +kernel
theorem rd_d_X9_copyFrom_52 : decode tX9_copyFrom.1.2.1 52 = .ok (.invokestatic 55, 3) := by decide +kernel
theorem rd_k_X9_copyFrom_52 : ex_lk ex_mt tX9_copyFrom 52 (.invokestatic 55) [0, 25, 65636] = true := by decide +kernel
theorem rd_d_X9_copyFrom_63 : decode tX9_copyFrom.1.2.1 63 = .ok (.invokestatic 55, 3) := by decide +kernel
theorem rd_k_X9_copyFrom_63 : ex_lk ex_mt tX9_copyFrom 63 (.invokestatic 55) [0, 25, 65636] = true := by decide +kernel
theorem rd_d_X9_copyFrom_74 : decode tX9_copyFrom.1.2.1 74 = .ok (.invokestatic 55, 3) := by decide +kernel
theorem rd_k_X9_copyFrom_74 : ex_lk ex_mt tX9_copyFrom 74 (.invokestatic 55) [0, 25, 65636] = true := by decide +kernel
theorem rd_d_X11_station_7 : decode tX11_station.1.2.1 7 = .ok (.invokevirtual 117, 3) := by decide +kernel
theorem rd_k_X11_station_7 : ex_lk ex_mt tX11_station 7 (.invokevirtual 117) [0, 246, 196627] = true := by decide +kernel
theorem rd_d_X11_station_18 : decode tX11_station.1.2.1 18 = .ok (.invokevirtual 120, 3) := by decide +kernel
theorem rd_k_X11_station_18 : ex_lk ex_mt tX11_station 18 (.invokevirtual 120) [0, 300, 196655] = true := by decide +kernel
theorem rd_d_X11_station_63 : decode tX11_station.1.2.1 63 = .ok (.invokevirtual 133, 3) := by decide +kernel
theorem rd_k_X11_station_63 : ex_lk ex_mt tX11_station 63 (.invokevirtual 133) [0, 290, 196764] = true := by decide +kernel
theorem rd_d_X11_put_0 : decode tX11_put.1.2.1 0 = .ok (.iload_n 1, 1) := by decide +kernel
theorem rd_d_X11_put_1 : decode tX11_put.1.2.1 1 = .ok (.ifCond .lt 13, 3) := by decide +kernel
theorem rd_d_X11_put_4 : decode tX11_put.1.2.1 4 = .ok (.iload_n 1, 1) := by decide +kernel
theorem rd_d_X11_put_5 : decode tX11_put.1.2.1 5 = .ok (.aload_n 0, 1) := by decide +kernel
theorem rd_d_X11_put_6 : decode tX11_put.1.2.1 6 = .ok (.arraylength, 1) := by decide +kernel
theorem rd_d_X11_put_7 : decode tX11_put.1.2.1 7 = .ok (.if_icmp .ge 7, 3) := by decide +kernel
theorem rd_d_X11_put_10 : decode tX11_put.1.2.1 10 = .ok (.aload_n 0, 1) := by decide +kernel
theorem rd_d_X11_put_11 : decode tX11_put.1.2.1 11 = .ok (.iload_n 1, 1) := by decide +kernel
theorem rd_d_X11_put_12 : decode tX11_put.1.2.1 12 = .ok (.iload_n 2, 1) := by decide +kernel
theorem rd_d_X11_put_13 : decode tX11_put.1.2.1 13 = .ok (.iastore, 1) := by decide +kernel
theorem rd_d_X11_put_14 : decode tX11_put.1.2.1 14 = .ok (.return_, 1) := by decide +kernel
theorem rd_d_X11_entry_0 : decode tX11_entry.1.2.1 0 = .ok (.iload_n 1, 1) := by decide +kernel
theorem rd_d_X11_entry_1 : decode tX11_entry.1.2.1 1 = .ok (.ifCond .lt 15, 3) := by decide +kernel
theorem rd_d_X11_entry_4 : decode tX11_entry.1.2.1 4 = .ok (.iload_n 1, 1) := by decide +kernel
theorem rd_d_X11_entry_5 : decode tX11_entry.1.2.1 5 = .ok (.aload_n 0, 1) := by decide +kernel
theorem rd_d_X11_entry_6 : decode tX11_entry.1.2.1 6 = .ok (.arraylength, 1) := by decide +kernel
theorem rd_d_X11_entry_7 : decode tX11_entry.1.2.1 7 = .ok (.if_icmp .ge 9, 3) := by decide +kernel
theorem rd_d_X11_entry_10 : decode tX11_entry.1.2.1 10 = .ok (.aload_n 0, 1) := by decide +kernel
theorem rd_d_X11_entry_11 : decode tX11_entry.1.2.1 11 = .ok (.iload_n 1, 1) := by decide +kernel
theorem rd_d_X11_entry_12 : decode tX11_entry.1.2.1 12 = .ok (.iaload, 1) := by decide +kernel
theorem rd_d_X11_entry_13 : decode tX11_entry.1.2.1 13 = .ok (.goto 4, 3) := by decide +kernel
theorem rd_d_X11_entry_16 : decode tX11_entry.1.2.1 16 = .ok (.iconst 0, 1) := by decide +kernel
theorem rd_d_X11_entry_17 : decode tX11_entry.1.2.1 17 = .ok (.ireturn, 1) := by decide +kernel
theorem rd_d_X11_copyRow_0 : decode tX11_copyRow.1.2.1 0 = .ok (.aload_n 0, 1) := by decide +kernel
theorem rd_d_X11_copyRow_1 : decode tX11_copyRow.1.2.1 1 = .ok (.arraylength, 1) := by decide +kernel
theorem rd_d_X11_copyRow_2 : decode tX11_copyRow.1.2.1 2 = .ok (.aload_n 1, 1) := by decide +kernel
theorem rd_d_X11_copyRow_3 : decode tX11_copyRow.1.2.1 3 = .ok (.arraylength, 1) := by decide +kernel
theorem rd_d_X11_copyRow_4 : decode tX11_copyRow.1.2.1 4 = .ok (.invokestatic 365, 3) := by decide +kernel
theorem rd_k_X11_copyRow_4 : ex_lk ex_mt tX11_copyRow 4 (.invokestatic 365) [1, 1, 65639, 0] = true := by decide +kernel
theorem rd_d_X11_copyRow_7 : decode tX11_copyRow.1.2.1 7 = .ok (.istore_n 2, 1) := by decide +kernel
theorem rd_d_X11_copyRow_8 : decode tX11_copyRow.1.2.1 8 = .ok (.iconst 0, 1) := by decide +kernel
theorem rd_d_X11_copyRow_9 : decode tX11_copyRow.1.2.1 9 = .ok (.istore_n 3, 1) := by decide +kernel
theorem rd_d_X11_copyRow_10 : decode tX11_copyRow.1.2.1 10 = .ok (.iload_n 3, 1) := by decide +kernel
theorem rd_d_X11_copyRow_11 : decode tX11_copyRow.1.2.1 11 = .ok (.iload_n 2, 1) := by decide +kernel
theorem rd_d_X11_copyRow_12 : decode tX11_copyRow.1.2.1 12 = .ok (.if_icmp .ge 15, 3) := by decide +kernel
theorem rd_d_X11_copyRow_15 : decode tX11_copyRow.1.2.1 15 = .ok (.aload_n 1, 1) := by decide +kernel
theorem rd_d_X11_copyRow_16 : decode tX11_copyRow.1.2.1 16 = .ok (.iload_n 3, 1) := by decide +kernel
theorem rd_d_X11_copyRow_17 : decode tX11_copyRow.1.2.1 17 = .ok (.aload_n 0, 1) := by decide +kernel
theorem rd_d_X11_copyRow_18 : decode tX11_copyRow.1.2.1 18 = .ok (.iload_n 3, 1) := by decide +kernel
theorem rd_d_X11_copyRow_19 : decode tX11_copyRow.1.2.1 19 = .ok (.iaload, 1) := by decide +kernel
theorem rd_d_X11_copyRow_20 : decode tX11_copyRow.1.2.1 20 = .ok (.iastore, 1) := by decide +kernel
theorem rd_d_X11_copyRow_21 : decode tX11_copyRow.1.2.1 21 = .ok (.iinc 3 1, 3) := by decide +kernel
theorem rd_d_X11_copyRow_24 : decode tX11_copyRow.1.2.1 24 = .ok (.goto (-14), 3) := by decide +kernel
theorem rd_d_X11_copyRow_27 : decode tX11_copyRow.1.2.1 27 = .ok (.return_, 1) := by decide +kernel
theorem rd_d_X9_secondsOf_0 : decode tX9_secondsOf.1.2.1 0 = .ok (.aload_n 0, 1) := by decide +kernel
theorem rd_d_X9_secondsOf_1 : decode tX9_secondsOf.1.2.1 1 = .ok (.getfield 24, 3) := by decide +kernel
theorem rd_k_X9_secondsOf_1 : ex_lk ex_mt tX9_secondsOf 1 (.getfield 24) [9, 4, 2, 65653] = true := by decide +kernel
theorem rd_d_X9_secondsOf_4 : decode tX9_secondsOf.1.2.1 4 = .ok (.iload_n 1, 1) := by decide +kernel
theorem rd_d_X9_secondsOf_5 : decode tX9_secondsOf.1.2.1 5 = .ok (.invokestatic 118, 3) := by decide +kernel
theorem rd_k_X9_secondsOf_5 : ex_lk ex_mt tX9_secondsOf 5 (.invokestatic 118) [0, 32, 196745] = true := by decide +kernel
theorem rd_d_X9_secondsOf_8 : decode tX9_secondsOf.1.2.1 8 = .ok (.ireturn, 1) := by decide +kernel
