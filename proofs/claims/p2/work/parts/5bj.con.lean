/-! contracts, checked by the kernel (written by a program) -/
theorem q9_290 : sx_chk z9 ex_mt k9 tX8_readCond 48 k9_290 u9_290 = true := by decide +kernel
theorem q9_288 : sx_chk z9 ex_mt k9 tX8_readCond 48 k9_288 u9_288 = true := by decide +kernel
theorem q9_286 : sx_chk z9 ex_mt k9 tX8_readCond 48 k9_286 u9_286 = true := by decide +kernel
theorem q9_284 : sx_chk z9 ex_mt k9 tX8_readCond 48 k9_284 u9_284 = true := by decide +kernel
theorem q9_282 : sx_chk z9 ex_mt k9 tX8_readCond 48 k9_282 u9_282 = true := by decide +kernel
theorem q9_277 : sx_chk z9 ex_mt k9 tX8_readCond 48 k9_277 u9_277 = true := by decide +kernel
theorem q9_253 : sx_chk z9 ex_mt k9 tX8_readCond 48 k9_253 u9_253 = true := by decide +kernel
theorem q9_244 : sx_chk z9 ex_mt k9 tX4_rowGain 112 k9_244 u9_244 = true := by decide +kernel
theorem q9_216 : sx_chk z9 ex_mt k9 tX12_sell 89 k9_216 u9_216 = true := by decide +kernel
