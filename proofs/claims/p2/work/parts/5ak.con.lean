/-! contracts, checked by the kernel (written by a program) -/
theorem q9_291 : sx_chk z9 ex_mt k9 tX8_readOne 255 k9_291 u9_291 = true := by decide +kernel
theorem q9_223 : sx_chk z9 ex_mt k9 tX12_yet 135 k9_223 u9_223 = true := by decide +kernel
theorem q9_165 : sx_chk z9 ex_mt k9 tX12_race 144 k9_165 u9_165 = true := by decide +kernel
theorem q9_176 : sx_chk z9 ex_mt k9 tX6_step 181 k9_176 u9_176 = true := by decide +kernel
theorem q9_270 : sx_chk z9 ex_mt k9 tL_curve 184 k9_270 u9_270 = true := by decide +kernel
theorem q9_4 : sx_chk z9 ex_mt k9 tX11_copyRow 13 k9_4 u9_4 = true := by decide +kernel
