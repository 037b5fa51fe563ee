/-! contracts, checked by the kernel (written by a program) -/
theorem q9_167 : sx_chk z9 ex_mt k9 tX12_restore 4742 k9_167 u9_167 = true := by decide +kernel
theorem q9_145 : sx_chk z9 ex_mt k9 tL_window 49 k9_145 u9_145 = true := by decide +kernel
