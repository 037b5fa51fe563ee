/-! contracts, checked by the kernel (written by a program) -/
theorem q9_286 : sx_chk z9 ex_mt k9 tX8_readCond 48 k9_286 u9_286 = true := by decide +kernel
theorem q9_284 : sx_chk z9 ex_mt k9 tX8_readCond 48 k9_284 u9_284 = true := by decide +kernel
theorem q9_282 : sx_chk z9 ex_mt k9 tX8_readCond 48 k9_282 u9_282 = true := by decide +kernel
theorem q9_277 : sx_chk z9 ex_mt k9 tX8_readCond 48 k9_277 u9_277 = true := by decide +kernel
theorem q9_253 : sx_chk z9 ex_mt k9 tX8_readCond 48 k9_253 u9_253 = true := by decide +kernel
theorem q9_244 : sx_chk z9 ex_mt k9 tX4_rowGain 112 k9_244 u9_244 = true := by decide +kernel
theorem q9_1 : sx_chk z9 ex_mt k9 tX6_readRun 75 k9_1 u9_1 = true := by decide +kernel
theorem q9_252 : sx_chk z9 ex_mt k9 tX12_plans 26 k9_252 u9_252 = true := by decide +kernel
theorem q9_211 : sx_chk z9 ex_mt k9 tL_meant 139 k9_211 u9_211 = true := by decide +kernel
