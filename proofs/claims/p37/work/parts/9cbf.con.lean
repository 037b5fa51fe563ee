/-! contracts, checked by the kernel (written by a program) -/
theorem q9_210 : sx_chk z9 ex_mt k9 tL_gain 150 k9_210 u9_210 = true := by decide +kernel
theorem q9_196 : sx_chk z9 ex_mt k9 tX11_race 134 k9_196 u9_196 = true := by decide +kernel
theorem q9_234_3 : sx_chkC z9 ex_mt k9 tX12_chooses 76 k9_234 u9_234 5 u9_234_3 = true := by decide +kernel
theorem q9_234_2 : sx_chkC z9 ex_mt k9 tX12_chooses 76 k9_234 u9_234 5 u9_234_2 = true := by decide +kernel
theorem q9_292 : sx_chk z9 ex_mt k9 tX8_readCond 48 k9_292 u9_292 = true := by decide +kernel
theorem q9_234_1 : sx_chkC z9 ex_mt k9 tX12_chooses 76 k9_234 u9_234 5 u9_234_1 = true := by decide +kernel
theorem q9_290 : sx_chk z9 ex_mt k9 tX8_readCond 48 k9_290 u9_290 = true := by decide +kernel
theorem q9_288 : sx_chk z9 ex_mt k9 tX8_readCond 48 k9_288 u9_288 = true := by decide +kernel
theorem q9_246 : sx_chk z9 ex_mt k9 tX11_sell 37 k9_246 u9_246 = true := by decide +kernel
