/-! contracts, checked by the kernel (written by a program) -/
theorem q9_271_0 : sx_chkC z9 ex_mt (k9o [172]) tX12_draws 586 k9_271 u9_271 2 u9_271_0 = true := by decide +kernel
theorem q9_159 : sx_chk z9 ex_mt k9 tX12_sells 176 k9_159 u9_159 = true := by decide +kernel
theorem q9_163 : sx_chk z9 ex_mt k9 tX12_now 30 k9_163 u9_163 = true := by decide +kernel
