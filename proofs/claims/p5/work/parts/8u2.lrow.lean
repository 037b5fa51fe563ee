/-! decodes and links of LOG (written by a program) -/
theorem rd_d_X2_readNumber_3 : decode tX2_readNumber.1.2.1 3 = .ok (.invokevirtual 57, 3) := by decide +kernel
theorem rd_k_X2_readNumber_3 : ex_lk ex_mt tX2_readNumber 3 (.invokevirtual 57) [0, 249, 327877] = true := by decide +kernel
theorem rd_d_X2_readNumber_27 : decode tX2_readNumber.1.2.1 27 = .ok (.invokevirtual 50, 3) := by decide +kernel
theorem rd_k_X2_readNumber_27 : ex_lk ex_mt tX2_readNumber 27 (.invokevirtual 50) [0, 250, 327872] = true := by decide +kernel
theorem rd_d_X2_readLine_3 : decode tX2_readLine.1.2.1 3 = .ok (.invokevirtual 38, 3) := by decide +kernel
theorem rd_k_X2_readLine_3 : ex_lk ex_mt tX2_readLine 3 (.invokevirtual 38) [0, 252, 327869] = true := by decide +kernel
theorem rd_d_X2_readLine_58 : decode tX2_readLine.1.2.1 58 = .ok (.invokevirtual 50, 3) := by decide +kernel
theorem rd_k_X2_readLine_58 : ex_lk ex_mt tX2_readLine 58 (.invokevirtual 50) [0, 250, 327872] = true := by decide +kernel
theorem rd_d_X2_readLine_101 : decode tX2_readLine.1.2.1 101 = .ok (.invokevirtual 53, 3) := by decide +kernel
theorem rd_k_X2_readLine_101 : ex_lk ex_mt tX2_readLine 101 (.invokevirtual 53) [0, 200, 327873] = true := by decide +kernel
theorem rd_d_X2_readLine_110 : decode tX2_readLine.1.2.1 110 = .ok (.invokevirtual 53, 3) := by decide +kernel
theorem rd_k_X2_readLine_110 : ex_lk ex_mt tX2_readLine 110 (.invokevirtual 53) [0, 200, 327873] = true := by decide +kernel
theorem rd_d_X2_readLine_119 : decode tX2_readLine.1.2.1 119 = .ok (.invokevirtual 53, 3) := by decide +kernel
theorem rd_k_X2_readLine_119 : ex_lk ex_mt tX2_readLine 119 (.invokevirtual 53) [0, 200, 327873] = true := by decide +kernel
theorem rd_d_X2_readFrom_22 : decode tX2_readFrom.1.2.1 22 = .ok (.invokevirtual 28, 3) := by decide +kernel
theorem rd_k_X2_readFrom_22 : ex_lk ex_mt tX2_readFrom 22 (.invokevirtual 28) [0, 199, 327864] = true := by decide +kernel
theorem rd_d_X2_readFrom_31 : decode tX2_readFrom.1.2.1 31 = .ok (.invokevirtual 32, 3) := by decide +kernel
theorem rd_k_X2_readFrom_31 : ex_lk ex_mt tX2_readFrom 31 (.invokevirtual 32) [0, 251, 327878] = true := by decide +kernel
theorem rd_d_X11_log_20 : decode tX11_log.1.2.1 20 = .ok (.invokevirtual 117, 3) := by decide +kernel
theorem rd_k_X11_log_20 : ex_lk ex_mt tX11_log 20 (.invokevirtual 117) [0, 246, 196627] = true := by decide +kernel
theorem rd_d_X11_log_31 : decode tX11_log.1.2.1 31 = .ok (.invokevirtual 401, 3) := by decide +kernel
theorem rd_k_X11_log_31 : ex_lk ex_mt tX11_log 31 (.invokevirtual 401) [0, 198, 327859] = true := by decide +kernel
theorem rd_d_X12_deedOf_0 : decode tX12_deedOf.1.2.1 0 = .ok (.aload_n 0, 1) := by decide +kernel
theorem rd_d_X12_deedOf_1 : decode tX12_deedOf.1.2.1 1 = .ok (.ldc2_w 359, 3) := by decide +kernel
theorem rd_k_X12_deedOf_1 : ex_lk ex_mt tX12_deedOf 1 (.ldc2_w 359) [500135192942, 589894] = true := by decide +kernel
theorem rd_d_X12_deedOf_4 : decode tX12_deedOf.1.2.1 4 = .ok (.invokevirtual 147, 3) := by decide +kernel
theorem rd_k_X12_deedOf_4 : ex_lk ex_mt tX12_deedOf 4 (.invokevirtual 147) [0, 126, 458937] = true := by decide +kernel
theorem rd_d_X12_deedOf_7 : decode tX12_deedOf.1.2.1 7 = .ok (.ifCond .eq 5, 3) := by decide +kernel
theorem rd_d_X12_deedOf_10 : decode tX12_deedOf.1.2.1 10 = .ok (.iconst 0, 1) := by decide +kernel
theorem rd_d_X12_deedOf_11 : decode tX12_deedOf.1.2.1 11 = .ok (.ireturn, 1) := by decide +kernel
theorem rd_d_X12_deedOf_12 : decode tX12_deedOf.1.2.1 12 = .ok (.aload_n 0, 1) := by decide +kernel
theorem rd_d_X12_deedOf_13 : decode tX12_deedOf.1.2.1 13 = .ok (.ldc2_w 361, 3) := by decide +kernel
theorem rd_k_X12_deedOf_13 : ex_lk ex_mt tX12_deedOf 13 (.ldc2_w 361) [24948, 589895] = true := by decide +kernel
theorem rd_d_X12_deedOf_16 : decode tX12_deedOf.1.2.1 16 = .ok (.invokevirtual 147, 3) := by decide +kernel
theorem rd_k_X12_deedOf_16 : ex_lk ex_mt tX12_deedOf 16 (.invokevirtual 147) [0, 126, 458937] = true := by decide +kernel
theorem rd_d_X12_deedOf_19 : decode tX12_deedOf.1.2.1 19 = .ok (.ifCond .eq 5, 3) := by decide +kernel
theorem rd_d_X12_deedOf_22 : decode tX12_deedOf.1.2.1 22 = .ok (.iconst 1, 1) := by decide +kernel
theorem rd_d_X12_deedOf_23 : decode tX12_deedOf.1.2.1 23 = .ok (.ireturn, 1) := by decide +kernel
theorem rd_d_X12_deedOf_24 : decode tX12_deedOf.1.2.1 24 = .ok (.aload_n 0, 1) := by decide +kernel
theorem rd_d_X12_deedOf_25 : decode tX12_deedOf.1.2.1 25 = .ok (.ldc2_w 363, 3) := by decide +kernel
theorem rd_k_X12_deedOf_25 : ex_lk ex_mt tX12_deedOf 25 (.ldc2_w 363) [440006961524, 589896] = true := by decide +kernel
theorem rd_d_X12_deedOf_28 : decode tX12_deedOf.1.2.1 28 = .ok (.invokevirtual 147, 3) := by decide +kernel
theorem rd_k_X12_deedOf_28 : ex_lk ex_mt tX12_deedOf 28 (.invokevirtual 147) [0, 126, 458937] = true := by decide +kernel
theorem rd_d_X12_deedOf_31 : decode tX12_deedOf.1.2.1 31 = .ok (.ifCond .eq 5, 3) := by decide +kernel
theorem rd_d_X12_deedOf_34 : decode tX12_deedOf.1.2.1 34 = .ok (.iconst 2, 1) := by decide +kernel
theorem rd_d_X12_deedOf_35 : decode tX12_deedOf.1.2.1 35 = .ok (.ireturn, 1) := by decide +kernel
theorem rd_d_X12_deedOf_36 : decode tX12_deedOf.1.2.1 36 = .ok (.aload_n 0, 1) := by decide +kernel
theorem rd_d_X12_deedOf_37 : decode tX12_deedOf.1.2.1 37 = .ok (.ldc2_w 365, 3) := by decide +kernel
theorem rd_k_X12_deedOf_37 : ex_lk ex_mt tX12_deedOf 37 (.ldc2_w 365) [1668245870, 589897] = true := by decide +kernel
theorem rd_d_X12_deedOf_40 : decode tX12_deedOf.1.2.1 40 = .ok (.invokevirtual 147, 3) := by decide +kernel
theorem rd_k_X12_deedOf_40 : ex_lk ex_mt tX12_deedOf 40 (.invokevirtual 147) [0, 126, 458937] = true := by decide +kernel
theorem rd_d_X12_deedOf_43 : decode tX12_deedOf.1.2.1 43 = .ok (.ifCond .eq 5, 3) := by decide +kernel
theorem rd_d_X12_deedOf_46 : decode tX12_deedOf.1.2.1 46 = .ok (.iconst 3, 1) := by decide +kernel
theorem rd_d_X12_deedOf_47 : decode tX12_deedOf.1.2.1 47 = .ok (.ireturn, 1) := by decide +kernel
theorem rd_d_X12_deedOf_48 : decode tX12_deedOf.1.2.1 48 = .ok (.aload_n 0, 1) := by decide +kernel
theorem rd_d_X12_deedOf_49 : decode tX12_deedOf.1.2.1 49 = .ok (.ldc2_w 367, 3) := by decide +kernel
theorem rd_k_X12_deedOf_49 : ex_lk ex_mt tX12_deedOf 49 (.ldc2_w 367) [30064, 589898] = true := by decide +kernel
theorem rd_d_X12_deedOf_52 : decode tX12_deedOf.1.2.1 52 = .ok (.invokevirtual 147, 3) := by decide +kernel
theorem rd_k_X12_deedOf_52 : ex_lk ex_mt tX12_deedOf 52 (.invokevirtual 147) [0, 126, 458937] = true := by decide +kernel
theorem rd_d_X12_deedOf_55 : decode tX12_deedOf.1.2.1 55 = .ok (.ifCond .eq 5, 3) := by decide +kernel
theorem rd_d_X12_deedOf_58 : decode tX12_deedOf.1.2.1 58 = .ok (.iconst 4, 1) := by decide +kernel
theorem rd_d_X12_deedOf_59 : decode tX12_deedOf.1.2.1 59 = .ok (.ireturn, 1) := by decide +kernel
theorem rd_d_X12_deedOf_60 : decode tX12_deedOf.1.2.1 60 = .ok (.aload_n 0, 1) := by decide +kernel
theorem rd_d_X12_deedOf_61 : decode tX12_deedOf.1.2.1 61 = .ok (.ldc2_w 369, 3) := by decide +kernel
theorem rd_k_X12_deedOf_61 : ex_lk ex_mt tX12_deedOf 61 (.ldc2_w 369) [1685026670, 589899] = true := by decide +kernel
theorem rd_d_X12_deedOf_64 : decode tX12_deedOf.1.2.1 64 = .ok (.invokevirtual 147, 3) := by decide +kernel
theorem rd_k_X12_deedOf_64 : ex_lk ex_mt tX12_deedOf 64 (.invokevirtual 147) [0, 126, 458937] = true := by decide +kernel
theorem rd_d_X12_deedOf_67 : decode tX12_deedOf.1.2.1 67 = .ok (.ifCond .eq 5, 3) := by decide +kernel
theorem rd_d_X12_deedOf_70 : decode tX12_deedOf.1.2.1 70 = .ok (.iconst 5, 1) := by decide +kernel
theorem rd_d_X12_deedOf_71 : decode tX12_deedOf.1.2.1 71 = .ok (.ireturn, 1) := by decide +kernel
theorem rd_d_X12_deedOf_72 : decode tX12_deedOf.1.2.1 72 = .ok (.aload_n 0, 1) := by decide +kernel
theorem rd_d_X12_deedOf_73 : decode tX12_deedOf.1.2.1 73 = .ok (.ldc2_w 371, 3) := by decide +kernel
theorem rd_k_X12_deedOf_73 : ex_lk ex_mt tX12_deedOf 73 (.ldc2_w 371) [512735409267, 589900] = true := by decide +kernel
theorem rd_d_X12_deedOf_76 : decode tX12_deedOf.1.2.1 76 = .ok (.invokevirtual 147, 3) := by decide +kernel
theorem rd_k_X12_deedOf_76 : ex_lk ex_mt tX12_deedOf 76 (.invokevirtual 147) [0, 126, 458937] = true := by decide +kernel
theorem rd_d_X12_deedOf_79 : decode tX12_deedOf.1.2.1 79 = .ok (.ifCond .eq 8, 3) := by decide +kernel
theorem rd_d_X12_deedOf_82 : decode tX12_deedOf.1.2.1 82 = .ok (.bipush 6, 2) := by decide +kernel
theorem rd_d_X12_deedOf_84 : decode tX12_deedOf.1.2.1 84 = .ok (.goto 4, 3) := by decide +kernel
theorem rd_d_X12_deedOf_87 : decode tX12_deedOf.1.2.1 87 = .ok (.iconst (-1), 1) := by decide +kernel
theorem rd_d_X12_deedOf_88 : decode tX12_deedOf.1.2.1 88 = .ok (.ireturn, 1) := by decide +kernel
theorem rd_d_X12_logLine_8 : decode tX12_logLine.1.2.1 8 = .ok (.invokevirtual 376, 3) := by decide +kernel
theorem rd_k_X12_logLine_8 : ex_lk ex_mt tX12_logLine 8 (.invokevirtual 376) [0, 96, 589890] = true := by decide +kernel
theorem rd_d_X12_logLine_43 : decode tX12_logLine.1.2.1 43 = .ok (.iastore, 1) := by decide +kernel
theorem rd_d_X12_logLine_45 : decode tX12_logLine.1.2.1 45 = .ok (.invokevirtual 131, 3) := by decide +kernel
theorem rd_k_X12_logLine_45 : ex_lk ex_mt tX12_logLine 45 (.invokevirtual 131) [0, 141, 458918] = true := by decide +kernel
theorem rd_d_X12_logLine_85 : decode tX12_logLine.1.2.1 85 = .ok (.invokevirtual 141, 3) := by decide +kernel
theorem rd_k_X12_logLine_85 : ex_lk ex_mt tX12_logLine 85 (.invokevirtual 141) [0, 176, 458949] = true := by decide +kernel
theorem rd_d_X12_logLine_104 : decode tX12_logLine.1.2.1 104 = .ok (.iastore, 1) := by decide +kernel
theorem rd_d_X12_log_36 : decode tX12_log.1.2.1 36 = .ok (.invokevirtual 131, 3) := by decide +kernel
theorem rd_k_X12_log_36 : ex_lk ex_mt tX12_log 36 (.invokevirtual 131) [0, 141, 458918] = true := by decide +kernel
theorem rd_d_X12_log_47 : decode tX12_log.1.2.1 47 = .ok (.invokevirtual 379, 3) := by decide +kernel
theorem rd_k_X12_log_47 : ex_lk ex_mt tX12_log 47 (.invokevirtual 379) [0, 134, 589886] = true := by decide +kernel
theorem rd_d_X12_log_56 : decode tX12_log.1.2.1 56 = .ok (.invokevirtual 195, 3) := by decide +kernel
theorem rd_k_X12_log_56 : ex_lk ex_mt tX12_log 56 (.invokevirtual 195) [0, 169, 458975] = true := by decide +kernel
