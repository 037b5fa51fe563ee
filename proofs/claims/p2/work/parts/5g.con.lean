/-! contracts, checked by the kernel (written by a program) -/
theorem q9_289 : sx_chk z9 ex_mt k9 tX8_readOne 255 k9_289 u9_289 = true := by decide +kernel
theorem q9_291 : sx_chk z9 ex_mt k9 tX8_readOne 255 k9_291 u9_291 = true := by decide +kernel
theorem q9_75 : sx_chk z9 ex_mt k9 tX7_sells 337 k9_75 u9_75 = true := by decide +kernel
theorem q9_222 : sx_chk z9 ex_mt k9 tX12_yet 135 k9_222 u9_222 = true := by decide +kernel
theorem q9_197 : sx_chk z9 ex_mt k9 tX11_race 134 k9_197 u9_197 = true := by decide +kernel
