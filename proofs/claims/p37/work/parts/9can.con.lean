/-! contracts, checked by the kernel (written by a program) -/
theorem q9_237_0 : sx_chkC z9 ex_mt k9 tX12_log 721 k9_237 u9_237 2 u9_237_0 = true := by decide +kernel
theorem q9_223 : sx_chk z9 ex_mt k9 tX8_readCond 11 k9_223 u9_223 = true := by decide +kernel
