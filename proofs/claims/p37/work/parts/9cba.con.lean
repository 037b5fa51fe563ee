/-! contracts, checked by the kernel (written by a program) -/
theorem q9_195 : sx_chk z9 ex_mt k9 tX2_judge 120 k9_195 u9_195 = true := by decide +kernel
theorem q9_104 : sx_chk z9 ex_mt k9 tX8_bitsOf 114 k9_104 u9_104 = true := by decide +kernel
theorem q9_215 : sx_chk z9 ex_mt k9 tX12_does 130 k9_215 u9_215 = true := by decide +kernel
theorem q9_216 : sx_chk z9 ex_mt k9 tX12_sell 89 k9_216 u9_216 = true := by decide +kernel
