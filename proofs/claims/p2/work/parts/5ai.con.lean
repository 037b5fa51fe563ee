/-! contracts, checked by the kernel (written by a program) -/
theorem q9_243_2 : sx_chkC z9 ex_mt k9 tX12_log 721 k9_243 u9_243 2 u9_243_2 = true := by decide +kernel
