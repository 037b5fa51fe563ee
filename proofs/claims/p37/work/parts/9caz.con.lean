/-! contracts, checked by the kernel (written by a program) -/
theorem q9_271_1 : sx_chkC z9 ex_mt (k9o [172]) tX12_draws 586 k9_271 u9_271 2 u9_271_1 = true := by decide +kernel
theorem q9_262 : sx_chk z9 ex_mt k9 tX12_bests 62 k9_262 u9_262 = true := by decide +kernel
theorem q9_146 : sx_chk z9 ex_mt k9 tX9_weightThatMayBe 157 k9_146 u9_146 = true := by decide +kernel
theorem q9_157 : sx_chk z9 ex_mt k9 tX12_latest 9 k9_157 u9_157 = true := by decide +kernel
