/-! contracts, checked by the kernel (written by a program) -/
theorem q9_160_1 : sx_chkC z9 ex_mt k9 tX12_next 158 k9_160 u9_160 1 u9_160_1 = true := by decide +kernel
theorem q9_169 : sx_chk z9 ex_mt k9 tX12_rowFrom 25 k9_169 u9_169 = true := by decide +kernel
theorem q9_267 : sx_chk z9 ex_mt k9 tX11_stood 73 k9_267 u9_267 = true := by decide +kernel
