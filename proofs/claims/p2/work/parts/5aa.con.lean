/-! contracts, checked by the kernel (written by a program) -/
theorem q9_239 : sx_chk z9 ex_mt k9 tX12_log 727 k9_239 u9_239 = true := by decide +kernel
