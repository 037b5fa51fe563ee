/-! contracts, checked by the kernel (written by a program) -/
theorem q9_188_2 : sx_chkC z9 ex_mt k9 tX4_traceBest 244 k9_188 u9_188 0 u9_188_2 = true := by decide +kernel
theorem q9_199 : sx_chk z9 ex_mt k9 tX8_windowsOf 88 k9_199 u9_199 = true := by decide +kernel
theorem q9_158_0 : sx_chkC z9 ex_mt k9 tX12_next 158 k9_158 u9_158 1 u9_158_0 = true := by decide +kernel
theorem q9_295 : sx_chk z9 ex_mt k9 tX12_said 18 k9_295 u9_295 = true := by decide +kernel
