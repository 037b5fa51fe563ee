/-! contracts, checked by the kernel (written by a program) -/
theorem q9_168 : sx_chk z9 ex_mt k9 tX12_restore 4742 k9_168 u9_168 = true := by decide +kernel
theorem q9_281 : sx_chk z9 ex_mt k9 tX12_earns 87 k9_281 u9_281 = true := by decide +kernel
