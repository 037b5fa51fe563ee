/-! contracts, checked by the kernel (written by a program) -/
theorem q9_164 : sx_chk z9 ex_mt k9 tX12_race 144 k9_164 u9_164 = true := by decide +kernel
theorem q9_188_1 : sx_chkC z9 ex_mt k9 tX4_traceBest 244 k9_188 u9_188 0 u9_188_1 = true := by decide +kernel
theorem q9_248 : sx_chk z9 ex_mt k9 tX11_train 95 k9_248 u9_248 = true := by decide +kernel
