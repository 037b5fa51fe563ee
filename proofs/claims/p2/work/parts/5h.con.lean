/-! contracts, checked by the kernel (written by a program) -/
theorem q9_241 : sx_chk z9 ex_mt k9 tX8_readOne 255 k9_241 u9_241 = true := by decide +kernel
theorem q9_169 : sx_chk z9 ex_mt k9 tX12_undo 701 k9_169 u9_169 = true := by decide +kernel
theorem q9_238 : sx_chk z9 ex_mt k9 tX12_station 3864 k9_238 u9_238 = true := by decide +kernel
