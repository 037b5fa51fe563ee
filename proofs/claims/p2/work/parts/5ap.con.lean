/-! contracts, checked by the kernel (written by a program) -/
theorem q9_158 : sx_chk z9 ex_mt k9 tX12_image 4739 k9_158 u9_158 = true := by decide +kernel
theorem q9_196 : sx_chk z9 ex_mt k9 tX11_idle 160 k9_196 u9_196 = true := by decide +kernel
