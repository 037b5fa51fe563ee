/-! contracts, checked by the kernel (written by a program) -/
theorem q9_223_4 : sx_chkC z9 ex_mt k9 tX12_line 209 k9_223 u9_223 1 u9_223_4 = true := by decide +kernel
theorem q9_223_5 : sx_chkC z9 ex_mt k9 tX12_line 209 k9_223 u9_223 1 u9_223_5 = true := by decide +kernel
theorem q9_223_6 : sx_chkC z9 ex_mt k9 tX12_line 209 k9_223 u9_223 1 u9_223_6 = true := by decide +kernel
theorem q9_223_7 : sx_chkC z9 ex_mt k9 tX12_line 209 k9_223 u9_223 1 u9_223_7 = true := by decide +kernel
theorem q9_223_8 : sx_chkC z9 ex_mt k9 tX12_line 209 k9_223 u9_223 1 u9_223_8 = true := by decide +kernel
theorem q9_223_9 : sx_chkC z9 ex_mt k9 tX12_line 209 k9_223 u9_223 1 u9_223_9 = true := by decide +kernel
theorem q9_177 : sx_chk z9 ex_mt k9 tX8_readOne 66 k9_177 u9_177 = true := by decide +kernel
theorem q9_283 : sx_chk z9 ex_mt k9 tX8_readCond 48 k9_283 u9_283 = true := by decide +kernel
theorem q9_255 : sx_chk z9 ex_mt k9 tX11_waits 75 k9_255 u9_255 = true := by decide +kernel
