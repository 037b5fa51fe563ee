/-! contracts, checked by the kernel (written by a program) -/
theorem q9_283 : sx_chk z9 ex_mt k9 tX8_readOne 255 k9_283 u9_283 = true := by decide +kernel
