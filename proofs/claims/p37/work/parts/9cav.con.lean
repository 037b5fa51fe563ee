/-! contracts, checked by the kernel (written by a program) -/
theorem q9_217_11 : sx_chkC z9 ex_mt k9 tX12_line 209 k9_217 u9_217 1 u9_217_11 = true := by decide +kernel
theorem q9_44 : sx_chk z9 ex_mt k9 tX11_change 153 k9_44 u9_44 = true := by decide +kernel
theorem q9_153 : sx_chk z9 ex_mt k9 tX12_end 15 k9_153 u9_153 = true := by decide +kernel
