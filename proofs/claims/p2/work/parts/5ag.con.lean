/-! contracts, checked by the kernel (written by a program) -/
theorem q9_295 : sx_chk z9 ex_mt k9 tX8_readOne 255 k9_295 u9_295 = true := by decide +kernel
