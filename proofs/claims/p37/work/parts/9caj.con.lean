/-! contracts, checked by the kernel (written by a program) -/
theorem q9_237_2 : sx_chkC z9 ex_mt k9 tX12_log 721 k9_237 u9_237 2 u9_237_2 = true := by decide +kernel
