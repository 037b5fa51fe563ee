/-! contracts, checked by the kernel (written by a program) -/
theorem q9_157 : sx_chk z9 ex_mt k9 tX12_image 4739 k9_157 u9_157 = true := by decide +kernel
theorem q9_212 : sx_chk z9 ex_mt k9 tL_gain 150 k9_212 u9_212 = true := by decide +kernel
