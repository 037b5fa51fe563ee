/-! contracts, checked by the kernel (written by a program) -/
theorem q9_229_0 : sx_chkC z9 ex_mt k9 tX2_readFrom 169 k9_229 u9_229 0 u9_229_0 = true := by decide +kernel
