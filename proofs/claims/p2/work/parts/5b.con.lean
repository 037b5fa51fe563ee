/-! contracts, checked by the kernel (written by a program) -/
theorem q9_216 : sx_chk z9 ex_mt k9 tX12_log 727 k9_216 u9_216 = true := by decide +kernel
