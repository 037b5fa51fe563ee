/-! contracts, checked by the kernel (written by a program) -/
theorem q9_243 : sx_chk z9 ex_mt k9 tX8_readOne 255 k9_243 u9_243 = true := by decide +kernel
theorem q9_159 : sx_chk z9 ex_mt k9 tX12_next 158 k9_159 u9_159 = true := by decide +kernel
theorem q9_224 : sx_chk z9 ex_mt k9 tX12_meant 116 k9_224 u9_224 = true := by decide +kernel
