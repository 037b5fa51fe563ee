/-! contracts, checked by the kernel (written by a program) -/
theorem q9_287 : sx_chk z9 ex_mt k9 tX8_readOne 255 k9_287 u9_287 = true := by decide +kernel
