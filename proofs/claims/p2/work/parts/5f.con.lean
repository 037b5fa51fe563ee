/-! contracts, checked by the kernel (written by a program) -/
theorem q9_285 : sx_chk z9 ex_mt k9 tX8_readOne 255 k9_285 u9_285 = true := by decide +kernel
theorem q9_287 : sx_chk z9 ex_mt k9 tX8_readOne 255 k9_287 u9_287 = true := by decide +kernel
theorem q9_166 : sx_chk z9 ex_mt k9 tX12_rowFrom 25 k9_166 u9_166 = true := by decide +kernel
theorem q9_196 : sx_chk z9 ex_mt k9 tX2_judge 120 k9_196 u9_196 = true := by decide +kernel
theorem q9_167 : sx_chk z9 ex_mt k9 tX12_share 55 k9_167 u9_167 = true := by decide +kernel
