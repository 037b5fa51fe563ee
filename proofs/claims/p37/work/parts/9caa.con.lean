/-! contracts, checked by the kernel (written by a program) -/
theorem q9_148 : sx_chk z9 ex_mt k9 tX12_keep 4275 k9_148 u9_148 = true := by decide +kernel
