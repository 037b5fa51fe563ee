/-! contracts, checked by the kernel (written by a program) -/
theorem q9_289 : sx_chk z9 ex_mt k9 tX8_readOne 255 k9_289 u9_289 = true := by decide +kernel
