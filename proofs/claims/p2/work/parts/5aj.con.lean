/-! contracts, checked by the kernel (written by a program) -/
theorem q9_234_2 : sx_chkC z9 ex_mt k9 tX12_chooses 125 k9_234 u9_234 5 u9_234_2 = true := by decide +kernel
