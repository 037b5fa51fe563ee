/-! contracts, checked by the kernel (written by a program) -/
theorem q9_158_0 : sx_chkC z9 ex_mt k9 tX12_next 158 k9_158 u9_158 1 u9_158_0 = true := by decide +kernel
theorem q9_217_8 : sx_chkC z9 ex_mt k9 tX12_line 209 k9_217 u9_217 1 u9_217_8 = true := by decide +kernel
theorem q9_217_7 : sx_chkC z9 ex_mt k9 tX12_line 209 k9_217 u9_217 1 u9_217_7 = true := by decide +kernel
theorem q9_158_e : sx_chkE z9 ex_mt k9 tX12_next 158 k9_158 u9_158 1 = true := by decide +kernel
theorem q9_217_6 : sx_chkC z9 ex_mt k9 tX12_line 209 k9_217 u9_217 1 u9_217_6 = true := by decide +kernel
theorem q9_187_0 : sx_chkC z9 ex_mt k9 tX4_putAhead 78 k9_187 u9_187 4 u9_187_0 = true := by decide +kernel
