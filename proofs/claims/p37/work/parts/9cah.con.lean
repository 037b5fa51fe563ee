/-! contracts, checked by the kernel (written by a program) -/
theorem q9_265 : sx_chk z9 ex_mt k9 tX8_readOne 255 k9_265 u9_265 = true := by decide +kernel
