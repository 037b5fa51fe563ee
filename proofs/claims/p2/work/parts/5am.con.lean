/-! contracts, checked by the kernel (written by a program) -/
theorem q9_243 : sx_chk z9 ex_mt k9 tX8_readOne 255 k9_243 u9_243 = true := by decide +kernel
theorem q9_159 : sx_chk z9 ex_mt k9 tX12_next 158 k9_159 u9_159 = true := by decide +kernel
theorem q9_202 : sx_chk z9 ex_mt k9 tX11_trust 244 k9_202 u9_202 = true := by decide +kernel
