/-! contracts, checked by the kernel (written by a program) -/
theorem q9_215 : sx_chk z9 ex_mt k9 tX12_does 130 k9_215 u9_215 = true := by decide +kernel
theorem q9_268 : sx_chk z9 ex_mt k9 tL_curve 184 k9_268 u9_268 = true := by decide +kernel
theorem q9_152 : sx_chk z9 ex_mt k9 tX12_change 129 k9_152 u9_152 = true := by decide +kernel
theorem q9_217_9 : sx_chkC z9 ex_mt k9 tX12_line 209 k9_217 u9_217 1 u9_217_9 = true := by decide +kernel
