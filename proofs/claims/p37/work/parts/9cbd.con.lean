/-! contracts, checked by the kernel (written by a program) -/
theorem q9_158_e : sx_chkE z9 ex_mt k9 tX12_next 158 k9_158 u9_158 1 = true := by decide +kernel
theorem q9_217_6 : sx_chkC z9 ex_mt k9 tX12_line 209 k9_217 u9_217 1 u9_217_6 = true := by decide +kernel
theorem q9_217_5 : sx_chkC z9 ex_mt k9 tX12_line 209 k9_217 u9_217 1 u9_217_5 = true := by decide +kernel
theorem q9_217_4 : sx_chkC z9 ex_mt k9 tX12_line 209 k9_217 u9_217 1 u9_217_4 = true := by decide +kernel
theorem q9_217_3 : sx_chkC z9 ex_mt k9 tX12_line 209 k9_217 u9_217 1 u9_217_3 = true := by decide +kernel
theorem q9_78 : sx_chk z9 ex_mt k9 tX11_needs 80 k9_78 u9_78 = true := by decide +kernel
