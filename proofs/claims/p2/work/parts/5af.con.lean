/-! contracts, checked by the kernel (written by a program) -/
theorem q9_267 : sx_chk z9 ex_mt k9 tX8_readOne 255 k9_267 u9_267 = true := by decide +kernel
theorem q9_167 : sx_chk z9 ex_mt k9 tX12_rowFrom 25 k9_167 u9_167 = true := by decide +kernel
theorem q9_193 : sx_chk z9 ex_mt k9 tX0_live 211 k9_193 u9_193 = true := by decide +kernel
theorem q9_238 : sx_chk z9 ex_mt k9 tX12_idle 39 k9_238 u9_238 = true := by decide +kernel
