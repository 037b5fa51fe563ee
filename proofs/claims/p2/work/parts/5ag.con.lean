/-! contracts, checked by the kernel (written by a program) -/
theorem q9_283 : sx_chk z9 ex_mt k9 tX8_readOne 255 k9_283 u9_283 = true := by decide +kernel
theorem q9_75 : sx_chk z9 ex_mt k9 tX7_sells 337 k9_75 u9_75 = true := by decide +kernel
theorem q9_44 : sx_chk z9 ex_mt k9 tX11_change 153 k9_44 u9_44 = true := by decide +kernel
theorem q9_251 : sx_chk z9 ex_mt k9 tX11_waits 75 k9_251 u9_251 = true := by decide +kernel
