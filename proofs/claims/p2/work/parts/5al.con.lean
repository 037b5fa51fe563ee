/-! contracts, checked by the kernel (written by a program) -/
theorem q9_235_0 : sx_chkC z9 ex_mt k9 tX2_readFrom 169 k9_235 u9_235 0 u9_235_0 = true := by decide +kernel
