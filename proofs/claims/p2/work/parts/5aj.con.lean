/-! contracts, checked by the kernel (written by a program) -/
theorem q9_289 : sx_chk z9 ex_mt k9 tX8_readOne 255 k9_289 u9_289 = true := by decide +kernel
theorem q9_190 : sx_chk z9 ex_mt k9 tX4_traceBest 244 k9_190 u9_190 = true := by decide +kernel
theorem q9_197 : sx_chk z9 ex_mt k9 tX2_judge 120 k9_197 u9_197 = true := by decide +kernel
theorem q9_189 : sx_chk z9 ex_mt k9 tX4_putAhead 78 k9_189 u9_189 = true := by decide +kernel
theorem q9_158 : sx_chk z9 ex_mt k9 tX12_latest 9 k9_158 u9_158 = true := by decide +kernel
