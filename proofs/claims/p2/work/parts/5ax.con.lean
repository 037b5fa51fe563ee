/-! contracts, checked by the kernel (written by a program) -/
theorem q9_282 : sx_chk z9 ex_mt k9 tX8_readCond 48 k9_282 u9_282 = true := by decide +kernel
theorem q9_284 : sx_chk z9 ex_mt k9 tX8_readCond 48 k9_284 u9_284 = true := by decide +kernel
theorem q9_286 : sx_chk z9 ex_mt k9 tX8_readCond 48 k9_286 u9_286 = true := by decide +kernel
theorem q9_288 : sx_chk z9 ex_mt k9 tX8_readCond 48 k9_288 u9_288 = true := by decide +kernel
theorem q9_290 : sx_chk z9 ex_mt k9 tX8_readCond 48 k9_290 u9_290 = true := by decide +kernel
theorem q9_292 : sx_chk z9 ex_mt k9 tX8_readCond 48 k9_292 u9_292 = true := by decide +kernel
theorem q9_244 : sx_chk z9 ex_mt k9 tX4_rowGain 112 k9_244 u9_244 = true := by decide +kernel
theorem q9_1 : sx_chk z9 ex_mt k9 tX6_readRun 75 k9_1 u9_1 = true := by decide +kernel
theorem q9_155 : sx_chk z9 ex_mt k9 tX12_feed 433 k9_155 u9_155 = true := by decide +kernel
theorem q9_149 : sx_chk z9 ex_mt k9 tX12_standing 347 k9_149 u9_149 = true := by decide +kernel
theorem q9_222 : sx_chk z9 ex_mt k9 tX12_meant 116 k9_222 u9_222 = true := by decide +kernel
