/-! contracts, checked by the kernel (written by a program) -/
theorem q9_230 : sx_chk z9 ex_mt k9 tX2_readFrom 169 k9_230 u9_230 = true := by decide +kernel
theorem q9_247 : sx_chk z9 ex_mt k9 tX9_readFrom 299 k9_247 u9_247 = true := by decide +kernel
theorem q9_159 : sx_chk z9 ex_mt k9 tX12_next 158 k9_159 u9_159 = true := by decide +kernel
theorem q9_235 : sx_chk z9 ex_mt k9 tX12_chooses 125 k9_235 u9_235 = true := by decide +kernel
theorem q9_268 : sx_chk z9 ex_mt k9 tL_curve 184 k9_268 u9_268 = true := by decide +kernel
theorem q9_72 : sx_chk z9 ex_mt k9 tX11_latest 5 k9_72 u9_72 = true := by decide +kernel
