/-! contracts, checked by the kernel (written by a program) -/
theorem q9_287 : sx_chk z9 ex_mt k9 tX8_readOne 255 k9_287 u9_287 = true := by decide +kernel
theorem q9_273 : sx_chk z9 ex_mt (k9o [172]) tX12_draws 586 k9_273 u9_273 = true := by decide +kernel
theorem q9_160 : sx_chk z9 ex_mt k9 tX12_sells 176 k9_160 u9_160 = true := by decide +kernel
theorem q9_264 : sx_chk z9 ex_mt k9 tX12_bests 62 k9_264 u9_264 = true := by decide +kernel
