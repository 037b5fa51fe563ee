/-! contracts, checked by the kernel (written by a program) -/
theorem q9_166 : sx_chk z9 ex_mt k9 tX12_restore 4742 k9_166 u9_166 = true := by decide +kernel
theorem q9_255 : sx_chk z9 ex_mt k9 tX8_readCond 48 k9_255 u9_255 = true := by decide +kernel
