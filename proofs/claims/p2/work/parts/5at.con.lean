/-! contracts, checked by the kernel (written by a program) -/
theorem q9_215 : sx_chk z9 ex_mt k9 tX12_does 130 k9_215 u9_215 = true := by decide +kernel
theorem q9_159 : sx_chk z9 ex_mt k9 tX12_sells 176 k9_159 u9_159 = true := by decide +kernel
theorem q9_195 : sx_chk z9 ex_mt k9 tX2_judge 120 k9_195 u9_195 = true := by decide +kernel
theorem q9_164 : sx_chk z9 ex_mt k9 tX12_race 144 k9_164 u9_164 = true := by decide +kernel
theorem q9_80 : sx_chk z9 ex_mt k9 tX5_visit 61 k9_80 u9_80 = true := by decide +kernel
