/-! contracts, checked by the kernel (written by a program) -/
theorem q9_217_12 : sx_chkC z9 ex_mt k9 tX12_line 209 k9_217 u9_217 1 u9_217_12 = true := by decide +kernel
theorem q9_48 : sx_chk z9 ex_mt k9 tX11_feed 623 k9_48 u9_48 = true := by decide +kernel
theorem q9_218 : sx_chk z9 ex_mt k9 tX12_train 46 k9_218 u9_218 = true := by decide +kernel
