/-! contracts, checked by the kernel (written by a program) -/
theorem q9_165 : sx_chk z9 ex_mt k9 tX12_restore 4742 k9_165 u9_165 = true := by decide +kernel
theorem q9_281 : sx_chk z9 ex_mt k9 tX8_readOne 255 k9_281 u9_281 = true := by decide +kernel
theorem q9_42 : sx_chk z9 ex_mt k9 tX4_weighSales 81 k9_42 u9_42 = true := by decide +kernel
