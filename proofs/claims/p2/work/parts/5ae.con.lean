/-! contracts, checked by the kernel (written by a program) -/
theorem q9_239 : sx_chk z9 ex_mt k9 tX12_log 721 k9_239 u9_239 = true := by decide +kernel
theorem q9_201 : sx_chk z9 ex_mt k9 tX8_windowsOf 88 k9_201 u9_201 = true := by decide +kernel
