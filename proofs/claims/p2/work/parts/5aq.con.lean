/-! contracts, checked by the kernel (written by a program) -/
theorem q9_253_0 : sx_chkC z9 ex_mt k9 tX9_readFrom 299 k9_253 u9_253 0 u9_253_0 = true := by decide +kernel
theorem q9_191 : sx_chk z9 ex_mt k9 tX4_putAhead 78 k9_191 u9_191 = true := by decide +kernel
