/-! contracts, checked by the kernel (written by a program) -/
theorem q9_170 : sx_chk z9 ex_mt k9 tX12_undo 701 k9_170 u9_170 = true := by decide +kernel
theorem q9_249 : sx_chk z9 ex_mt k9 tX9_readFrom 299 k9_249 u9_249 = true := by decide +kernel
theorem q9_188 : sx_chk z9 ex_mt k9 tX4_prepareGains 176 k9_188 u9_188 = true := by decide +kernel
