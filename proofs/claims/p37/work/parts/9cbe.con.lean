/-! contracts, checked by the kernel (written by a program) -/
theorem q9_217_2 : sx_chkC z9 ex_mt k9 tX12_line 209 k9_217 u9_217 1 u9_217_2 = true := by decide +kernel
theorem q9_217_1 : sx_chkC z9 ex_mt k9 tX12_line 209 k9_217 u9_217 1 u9_217_1 = true := by decide +kernel
theorem q9_217_0 : sx_chkC z9 ex_mt k9 tX12_line 209 k9_217 u9_217 1 u9_217_0 = true := by decide +kernel
theorem q9_155 : sx_chk z9 ex_mt k9 tX12_feed 433 k9_155 u9_155 = true := by decide +kernel
theorem q9_42 : sx_chk z9 ex_mt k9 tX4_weighSales 81 k9_42 u9_42 = true := by decide +kernel
theorem q9_230 : sx_chk z9 ex_mt k9 tX11_restore 124 k9_230 u9_230 = true := by decide +kernel
