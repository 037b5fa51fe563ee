/-! contracts, checked by the kernel (written by a program) -/
theorem q9_218 : sx_chk z9 ex_mt k9 tX12_line 239 k9_218 u9_218 = true := by decide +kernel
