/-! contracts, checked by the kernel (written by a program) -/
theorem q9_221 : sx_chk z9 ex_mt k9 tX12_yet 135 k9_221 u9_221 = true := by decide +kernel
theorem q9_199 : sx_chk z9 ex_mt k9 tX8_windowsOf 88 k9_199 u9_199 = true := by decide +kernel
theorem q9_210 : sx_chk z9 ex_mt k9 tL_gain 150 k9_210 u9_210 = true := by decide +kernel
theorem q9_234_6 : sx_chkC z9 ex_mt k9 tX12_chooses 125 k9_234 u9_234 5 u9_234_6 = true := by decide +kernel
