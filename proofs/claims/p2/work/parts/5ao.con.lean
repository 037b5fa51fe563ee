/-! contracts, checked by the kernel (written by a program) -/
theorem q9_157 : sx_chk z9 ex_mt k9 tX12_image 4739 k9_157 u9_157 = true := by decide +kernel
theorem q9_42 : sx_chk z9 ex_mt k9 tX4_weighSales 81 k9_42 u9_42 = true := by decide +kernel
