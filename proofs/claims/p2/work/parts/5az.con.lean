/-! contracts, checked by the kernel (written by a program) -/
theorem q9_160_e : sx_chkE z9 ex_mt k9 tX12_next 158 k9_160 u9_160 1 = true := by decide +kernel
theorem q9_160_0 : sx_chkC z9 ex_mt k9 tX12_next 158 k9_160 u9_160 1 u9_160_0 = true := by decide +kernel
theorem q9_152 : sx_chk z9 ex_mt k9 tX12_change 129 k9_152 u9_152 = true := by decide +kernel
theorem q9_223_0 : sx_chkC z9 ex_mt k9 tX12_line 209 k9_223 u9_223 1 u9_223_0 = true := by decide +kernel
theorem q9_223_1 : sx_chkC z9 ex_mt k9 tX12_line 209 k9_223 u9_223 1 u9_223_1 = true := by decide +kernel
theorem q9_223_2 : sx_chkC z9 ex_mt k9 tX12_line 209 k9_223 u9_223 1 u9_223_2 = true := by decide +kernel
theorem q9_223_3 : sx_chkC z9 ex_mt k9 tX12_line 209 k9_223 u9_223 1 u9_223_3 = true := by decide +kernel
theorem q9_214 : sx_chk z9 ex_mt k9 tL_gain 150 k9_214 u9_214 = true := by decide +kernel
theorem q9_4 : sx_chk z9 ex_mt k9 tX11_copyRow 13 k9_4 u9_4 = true := by decide +kernel
