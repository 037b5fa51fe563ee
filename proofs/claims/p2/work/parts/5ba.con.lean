/-! contracts, checked by the kernel (written by a program) -/
theorem q9_160_e : sx_chkE z9 ex_mt k9 tX12_next 158 k9_160 u9_160 1 = true := by decide +kernel
theorem q9_160_0 : sx_chkC z9 ex_mt k9 tX12_next 158 k9_160 u9_160 1 u9_160_0 = true := by decide +kernel
theorem q9_152 : sx_chk z9 ex_mt k9 tX12_change 129 k9_152 u9_152 = true := by decide +kernel
theorem q9_177 : sx_chk z9 ex_mt k9 tX8_readOne 66 k9_177 u9_177 = true := by decide +kernel
theorem q9_214 : sx_chk z9 ex_mt k9 tL_gain 150 k9_214 u9_214 = true := by decide +kernel
theorem q9_283 : sx_chk z9 ex_mt k9 tX8_readCond 48 k9_283 u9_283 = true := by decide +kernel
theorem q9_288 : sx_chk z9 ex_mt k9 tX8_readCond 48 k9_288 u9_288 = true := by decide +kernel
theorem q9_290 : sx_chk z9 ex_mt k9 tX8_readCond 48 k9_290 u9_290 = true := by decide +kernel
theorem q9_292 : sx_chk z9 ex_mt k9 tX8_readCond 48 k9_292 u9_292 = true := by decide +kernel
theorem q9_179 : sx_chk z9 ex_mt k9 tX7_copyFrom 49 k9_179 u9_179 = true := by decide +kernel
