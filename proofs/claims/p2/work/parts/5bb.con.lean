/-! contracts, checked by the kernel (written by a program) -/
theorem q9_165 : sx_chk z9 ex_mt k9 tX12_rowFrom 25 k9_165 u9_165 = true := by decide +kernel
theorem q9_234_1 : sx_chkC z9 ex_mt k9 tX12_chooses 125 k9_234 u9_234 5 u9_234_1 = true := by decide +kernel
theorem q9_258 : sx_chk z9 ex_mt k9 tX11_sale 34 k9_258 u9_258 = true := by decide +kernel
