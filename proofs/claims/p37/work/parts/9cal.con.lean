/-! contracts, checked by the kernel (written by a program) -/
theorem q9_247_0 : sx_chkC z9 ex_mt k9 tX9_readFrom 299 k9_247 u9_247 0 u9_247_0 = true := by decide +kernel
