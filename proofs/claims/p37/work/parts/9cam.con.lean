/-! contracts, checked by the kernel (written by a program) -/
theorem q9_168 : sx_chk z9 ex_mt k9 tX12_undo 701 k9_168 u9_168 = true := by decide +kernel
