/-! contracts, checked by the kernel (written by a program) -/
theorem q9_219 : sx_chk z9 ex_mt k9 tX12_line 239 k9_219 u9_219 = true := by decide +kernel
