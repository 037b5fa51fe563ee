/-! contracts, checked by the kernel (written by a program) -/
theorem q9_172 : sx_chk z9 ex_mt k9 tX12_undo 701 k9_172 u9_172 = true := by decide +kernel
