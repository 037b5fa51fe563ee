/-! contracts, checked by the kernel (written by a program) -/
theorem q9_271 : sx_chk z9 ex_mt k9 tX8_readOne 255 k9_271 u9_271 = true := by decide +kernel
