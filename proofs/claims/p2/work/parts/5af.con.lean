/-! contracts, checked by the kernel (written by a program) -/
theorem q9_293 : sx_chk z9 ex_mt k9 tX8_readOne 255 k9_293 u9_293 = true := by decide +kernel
