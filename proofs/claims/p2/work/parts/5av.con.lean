/-! contracts, checked by the kernel (written by a program) -/
theorem q9_240 : sx_chk z9 ex_mt k9 tX12_chooses 125 k9_240 u9_240 = true := by decide +kernel
theorem q9_192 : sx_chk z9 ex_mt k9 tX4_traceBest 244 k9_192 u9_192 = true := by decide +kernel
theorem q9_227 : sx_chk z9 ex_mt k9 tX12_yet 135 k9_227 u9_227 = true := by decide +kernel
theorem q9_217 : sx_chk z9 ex_mt k9 tX12_gainOf 41 k9_217 u9_217 = true := by decide +kernel
