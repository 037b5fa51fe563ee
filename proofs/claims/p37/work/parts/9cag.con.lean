/-! contracts, checked by the kernel (written by a program) -/
theorem q9_281 : sx_chk z9 ex_mt k9 tX8_readOne 255 k9_281 u9_281 = true := by decide +kernel
