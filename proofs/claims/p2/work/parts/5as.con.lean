/-! contracts, checked by the kernel (written by a program) -/
theorem q9_234_4 : sx_chkC z9 ex_mt k9 tX12_chooses 125 k9_234 u9_234 5 u9_234_4 = true := by decide +kernel
theorem q9_173 : sx_chk z9 ex_mt k9 tX8_readOne 66 k9_173 u9_173 = true := by decide +kernel
