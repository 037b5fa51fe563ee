/-! contracts, checked by the kernel (written by a program) -/
theorem q9_288 : sx_chk z9 ex_mt k9 tX8_readCond 48 k9_288 u9_288 = true := by decide +kernel
theorem q9_290 : sx_chk z9 ex_mt k9 tX8_readCond 48 k9_290 u9_290 = true := by decide +kernel
theorem q9_292 : sx_chk z9 ex_mt k9 tX8_readCond 48 k9_292 u9_292 = true := by decide +kernel
theorem q9_294 : sx_chk z9 ex_mt k9 tX8_readCond 48 k9_294 u9_294 = true := by decide +kernel
theorem q9_296 : sx_chk z9 ex_mt k9 tX8_readCond 48 k9_296 u9_296 = true := by decide +kernel
theorem q9_298 : sx_chk z9 ex_mt k9 tX8_readCond 48 k9_298 u9_298 = true := by decide +kernel
theorem q9_250 : sx_chk z9 ex_mt k9 tX4_rowGain 112 k9_250 u9_250 = true := by decide +kernel
theorem q9_1 : sx_chk z9 ex_mt k9 tX6_readRun 75 k9_1 u9_1 = true := by decide +kernel
theorem q9_155 : sx_chk z9 ex_mt k9 tX12_feed 433 k9_155 u9_155 = true := by decide +kernel
theorem q9_149 : sx_chk z9 ex_mt k9 tX12_standing 347 k9_149 u9_149 = true := by decide +kernel
theorem q9_228 : sx_chk z9 ex_mt k9 tX12_meant 116 k9_228 u9_228 = true := by decide +kernel
