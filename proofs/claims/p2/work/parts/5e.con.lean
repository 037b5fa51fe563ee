/-! contracts, checked by the kernel (written by a program) -/
theorem q9_157 : sx_chk z9 ex_mt k9 tX12_image 4739 k9_157 u9_157 = true := by decide +kernel
theorem q9_283 : sx_chk z9 ex_mt k9 tX8_readOne 255 k9_283 u9_283 = true := by decide +kernel
theorem q9_261 : sx_chk z9 ex_mt k9 tX11_stood 73 k9_261 u9_261 = true := by decide +kernel
