/-! contracts, checked by the kernel (written by a program) -/
theorem q9_234_9 : sx_chkC z9 ex_mt k9 tX12_chooses 76 k9_234 u9_234 5 u9_234_9 = true := by decide +kernel
theorem q9_234_8 : sx_chkC z9 ex_mt k9 tX12_chooses 76 k9_234 u9_234 5 u9_234_8 = true := by decide +kernel
theorem q9_268 : sx_chk z9 ex_mt k9 tL_curve 184 k9_268 u9_268 = true := by decide +kernel
theorem q9_173 : sx_chk z9 ex_mt k9 tX8_readOne 66 k9_173 u9_173 = true := by decide +kernel
theorem q9_279 : sx_chk z9 ex_mt k9 tX12_drawn 30 k9_279 u9_279 = true := by decide +kernel
