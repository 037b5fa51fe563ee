/-! contracts, checked by the kernel (written by a program) -/
theorem q9_158_e : sx_chkE z9 ex_mt k9 tX12_next 158 k9_158 u9_158 1 = true := by decide +kernel
theorem q9_158_0 : sx_chkC z9 ex_mt k9 tX12_next 158 k9_158 u9_158 1 u9_158_0 = true := by decide +kernel
theorem q9_152 : sx_chk z9 ex_mt k9 tX12_change 129 k9_152 u9_152 = true := by decide +kernel
theorem q9_217_0 : sx_chkC z9 ex_mt k9 tX12_line 209 k9_217 u9_217 1 u9_217_0 = true := by decide +kernel
theorem q9_217_1 : sx_chkC z9 ex_mt k9 tX12_line 209 k9_217 u9_217 1 u9_217_1 = true := by decide +kernel
theorem q9_217_2 : sx_chkC z9 ex_mt k9 tX12_line 209 k9_217 u9_217 1 u9_217_2 = true := by decide +kernel
theorem q9_217_3 : sx_chkC z9 ex_mt k9 tX12_line 209 k9_217 u9_217 1 u9_217_3 = true := by decide +kernel
theorem q9_210 : sx_chk z9 ex_mt k9 tL_gain 150 k9_210 u9_210 = true := by decide +kernel
theorem q9_4 : sx_chk z9 ex_mt k9 tX11_copyRow 13 k9_4 u9_4 = true := by decide +kernel
