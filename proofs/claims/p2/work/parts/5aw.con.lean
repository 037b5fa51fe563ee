/-! contracts, checked by the kernel (written by a program) -/
theorem q9_223_11 : sx_chkC z9 ex_mt k9 tX12_line 209 k9_223 u9_223 1 u9_223_11 = true := by decide +kernel
theorem q9_195 : sx_chk z9 ex_mt k9 tX0_live 211 k9_195 u9_195 = true := by decide +kernel
theorem q9_44 : sx_chk z9 ex_mt k9 tX11_change 153 k9_44 u9_44 = true := by decide +kernel
theorem q9_268 : sx_chk z9 ex_mt k9 tX12_bests 62 k9_268 u9_268 = true := by decide +kernel
