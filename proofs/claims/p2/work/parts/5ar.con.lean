/-! contracts, checked by the kernel (written by a program) -/
theorem q9_234 : sx_chk z9 ex_mt k9 tX12_chooses 125 k9_234 u9_234 = true := by decide +kernel
theorem q9_188 : sx_chk z9 ex_mt k9 tX4_traceBest 244 k9_188 u9_188 = true := by decide +kernel
theorem q9_221 : sx_chk z9 ex_mt k9 tX12_yet 135 k9_221 u9_221 = true := by decide +kernel
theorem q9_213 : sx_chk z9 ex_mt k9 tX12_gainOf 41 k9_213 u9_213 = true := by decide +kernel
