/-! contracts, checked by the kernel (written by a program) -/
theorem q9_158_1 : sx_chkC z9 ex_mt k9 tX12_next 158 k9_158 u9_158 1 u9_158_1 = true := by decide +kernel
theorem q9_165 : sx_chk z9 ex_mt k9 tX12_rowFrom 25 k9_165 u9_165 = true := by decide +kernel
theorem q9_261 : sx_chk z9 ex_mt k9 tX11_stood 73 k9_261 u9_261 = true := by decide +kernel
