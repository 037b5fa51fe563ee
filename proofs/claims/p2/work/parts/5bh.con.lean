/-! contracts, checked by the kernel (written by a program) -/
theorem q9_217_5 : sx_chkC z9 ex_mt k9 tX12_line 209 k9_217 u9_217 1 u9_217_5 = true := by decide +kernel
theorem q9_217_4 : sx_chkC z9 ex_mt k9 tX12_line 209 k9_217 u9_217 1 u9_217_4 = true := by decide +kernel
theorem q9_217_3 : sx_chkC z9 ex_mt k9 tX12_line 209 k9_217 u9_217 1 u9_217_3 = true := by decide +kernel
theorem q9_217_2 : sx_chkC z9 ex_mt k9 tX12_line 209 k9_217 u9_217 1 u9_217_2 = true := by decide +kernel
theorem q9_217_1 : sx_chkC z9 ex_mt k9 tX12_line 209 k9_217 u9_217 1 u9_217_1 = true := by decide +kernel
theorem q9_273 : sx_chk z9 ex_mt k9 tX12_sellers 43 k9_273 u9_273 = true := by decide +kernel
