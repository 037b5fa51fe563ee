/-! contracts, checked by the kernel (written by a program) -/
theorem q9_217_4 : sx_chkC z9 ex_mt k9 tX12_line 209 k9_217 u9_217 1 u9_217_4 = true := by decide +kernel
theorem q9_217_5 : sx_chkC z9 ex_mt k9 tX12_line 209 k9_217 u9_217 1 u9_217_5 = true := by decide +kernel
theorem q9_217_6 : sx_chkC z9 ex_mt k9 tX12_line 209 k9_217 u9_217 1 u9_217_6 = true := by decide +kernel
theorem q9_217_7 : sx_chkC z9 ex_mt k9 tX12_line 209 k9_217 u9_217 1 u9_217_7 = true := by decide +kernel
theorem q9_217_8 : sx_chkC z9 ex_mt k9 tX12_line 209 k9_217 u9_217 1 u9_217_8 = true := by decide +kernel
theorem q9_217_9 : sx_chkC z9 ex_mt k9 tX12_line 209 k9_217 u9_217 1 u9_217_9 = true := by decide +kernel
theorem q9_173 : sx_chk z9 ex_mt k9 tX8_readOne 66 k9_173 u9_173 = true := by decide +kernel
theorem q9_277 : sx_chk z9 ex_mt k9 tX8_readCond 48 k9_277 u9_277 = true := by decide +kernel
theorem q9_249 : sx_chk z9 ex_mt k9 tX11_waits 75 k9_249 u9_249 = true := by decide +kernel
