/-! contracts, checked by the kernel (written by a program) -/
theorem q9_237_0 : sx_chkC z9 ex_mt k9 tX12_log 721 k9_237 u9_237 2 u9_237_0 = true := by decide +kernel
theorem q9_271 : sx_chk z9 ex_mt (k9o [172]) tX12_draws 586 k9_271 u9_271 = true := by decide +kernel
theorem q9_295 : sx_chk z9 ex_mt k9 tX12_said 18 k9_295 u9_295 = true := by decide +kernel
