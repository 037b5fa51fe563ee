/-! contracts, checked by the kernel (written by a program) -/
theorem q9_285 : sx_chk z9 ex_mt k9 tX8_readOne 255 k9_285 u9_285 = true := by decide +kernel
theorem q9_236 : sx_chk z9 ex_mt k9 tX12_chooses 125 k9_236 u9_236 = true := by decide +kernel
theorem q9_217 : sx_chk z9 ex_mt k9 tX12_does 130 k9_217 u9_217 = true := by decide +kernel
theorem q9_149 : sx_chk z9 ex_mt k9 tX12_standing 347 k9_149 u9_149 = true := by decide +kernel
