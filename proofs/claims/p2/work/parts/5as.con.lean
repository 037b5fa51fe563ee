/-! contracts, checked by the kernel (written by a program) -/
theorem q9_243_0 : sx_chkC z9 ex_mt k9 tX12_log 721 k9_243 u9_243 2 u9_243_0 = true := by decide +kernel
theorem q9_277 : sx_chk z9 ex_mt (k9o [172]) tX12_draws 586 k9_277 u9_277 = true := by decide +kernel
theorem q9_151 : sx_chk z9 ex_mt k9 tX12_penceBy 41 k9_151 u9_151 = true := by decide +kernel
