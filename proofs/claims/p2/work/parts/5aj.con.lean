/-! contracts, checked by the kernel (written by a program) -/
theorem q9_247 : sx_chk z9 ex_mt k9 tX8_readOne 255 k9_247 u9_247 = true := by decide +kernel
