/-! contracts, checked by the kernel (written by a program) -/
theorem q9_220 : sx_chk z9 ex_mt k9 tX12_does 130 k9_220 u9_220 = true := by decide +kernel
theorem q9_161 : sx_chk z9 ex_mt k9 tX12_sells 176 k9_161 u9_161 = true := by decide +kernel
theorem q9_199 : sx_chk z9 ex_mt k9 tX2_judge 120 k9_199 u9_199 = true := by decide +kernel
theorem q9_166 : sx_chk z9 ex_mt k9 tX12_race 144 k9_166 u9_166 = true := by decide +kernel
theorem q9_80 : sx_chk z9 ex_mt k9 tX5_visit 61 k9_80 u9_80 = true := by decide +kernel
