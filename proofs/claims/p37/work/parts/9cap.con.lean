/-! contracts, checked by the kernel (written by a program) -/
theorem q9_158_1 : sx_chkC z9 ex_mt k9 tX12_next 158 k9_158 u9_158 1 u9_158_1 = true := by decide +kernel
theorem q9_217_10 : sx_chkC z9 ex_mt k9 tX12_line 209 k9_217 u9_217 1 u9_217_10 = true := by decide +kernel
