/-! contracts, checked by the kernel (written by a program) -/
theorem q9_241 : sx_chk z9 ex_mt k9 tX8_readOne 255 k9_241 u9_241 = true := by decide +kernel
