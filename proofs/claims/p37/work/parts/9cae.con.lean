/-! contracts, checked by the kernel (written by a program) -/
theorem q9_285 : sx_chk z9 ex_mt k9 tX8_readOne 255 k9_285 u9_285 = true := by decide +kernel
