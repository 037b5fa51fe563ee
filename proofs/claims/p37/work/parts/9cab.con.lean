/-! contracts, checked by the kernel (written by a program) -/
theorem q9_291 : sx_chk z9 ex_mt k9 tX8_readOne 255 k9_291 u9_291 = true := by decide +kernel
