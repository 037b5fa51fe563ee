/-! contracts, checked by the kernel (written by a program) -/
theorem q9_223_0 : sx_chkC z9 ex_mt k9 tX12_line 213 k9_223 u9_223 1 u9_223_0 = true := by decide +kernel
