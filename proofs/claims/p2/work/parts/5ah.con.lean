/-! contracts, checked by the kernel (written by a program) -/
theorem q9_297 : sx_chk z9 ex_mt k9 tX8_readOne 255 k9_297 u9_297 = true := by decide +kernel
