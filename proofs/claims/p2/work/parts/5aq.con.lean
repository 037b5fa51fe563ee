/-! contracts, checked by the kernel (written by a program) -/
theorem q9_217_12 : sx_chkC z9 ex_mt k9 tX12_line 209 k9_217 u9_217 1 u9_217_12 = true := by decide +kernel
theorem q9_75 : sx_chk z9 ex_mt k9 tX7_sells 337 k9_75 u9_75 = true := by decide +kernel
theorem q9_253 : sx_chk z9 ex_mt k9 tX8_readCond 48 k9_253 u9_253 = true := by decide +kernel
