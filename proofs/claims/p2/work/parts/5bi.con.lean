/-! contracts, checked by the kernel (written by a program) -/
theorem q9_217_0 : sx_chkC z9 ex_mt k9 tX12_line 209 k9_217 u9_217 1 u9_217_0 = true := by decide +kernel
theorem q9_155 : sx_chk z9 ex_mt k9 tX12_feed 433 k9_155 u9_155 = true := by decide +kernel
theorem q9_42 : sx_chk z9 ex_mt k9 tX4_weighSales 81 k9_42 u9_42 = true := by decide +kernel
theorem q9_234_e : sx_chkE z9 ex_mt k9 tX12_chooses 125 k9_234 u9_234 5 = true := by decide +kernel
theorem q9_196 : sx_chk z9 ex_mt k9 tX11_race 134 k9_196 u9_196 = true := by decide +kernel
theorem q9_292 : sx_chk z9 ex_mt k9 tX8_readCond 48 k9_292 u9_292 = true := by decide +kernel
theorem q9_80 : sx_chk z9 ex_mt k9 tX5_visit 61 k9_80 u9_80 = true := by decide +kernel
