/-! contracts, checked by the kernel (written by a program) -/
theorem q9_195 : sx_chk z9 ex_mt k9 tX2_judge 120 k9_195 u9_195 = true := by decide +kernel
theorem q9_234_5 : sx_chkC z9 ex_mt k9 tX12_chooses 125 k9_234 u9_234 5 u9_234_5 = true := by decide +kernel
theorem q9_104 : sx_chk z9 ex_mt k9 tX8_bitsOf 114 k9_104 u9_104 = true := by decide +kernel
theorem q9_209 : sx_chk z9 ex_mt k9 tL_yet 62 k9_209 u9_209 = true := by decide +kernel
