/-! contracts, checked by the kernel (written by a program) -/
theorem q9_165 : sx_chk z9 ex_mt k9 tX12_rowFrom 25 k9_165 u9_165 = true := by decide +kernel
theorem q9_221 : sx_chk z9 ex_mt k9 tX12_yet 135 k9_221 u9_221 = true := by decide +kernel
theorem q9_242 : sx_chk z9 ex_mt k9 tX11_begin 67 k9_242 u9_242 = true := by decide +kernel
