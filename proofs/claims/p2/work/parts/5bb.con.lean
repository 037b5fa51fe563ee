/-! contracts, checked by the kernel (written by a program) -/
theorem q9_294 : sx_chk z9 ex_mt k9 tX8_readCond 48 k9_294 u9_294 = true := by decide +kernel
theorem q9_296 : sx_chk z9 ex_mt k9 tX8_readCond 48 k9_296 u9_296 = true := by decide +kernel
theorem q9_298 : sx_chk z9 ex_mt k9 tX8_readCond 48 k9_298 u9_298 = true := by decide +kernel
theorem q9_250 : sx_chk z9 ex_mt k9 tX4_rowGain 112 k9_250 u9_250 = true := by decide +kernel
theorem q9_1 : sx_chk z9 ex_mt k9 tX6_readRun 75 k9_1 u9_1 = true := by decide +kernel
theorem q9_155 : sx_chk z9 ex_mt k9 tX12_feed 433 k9_155 u9_155 = true := by decide +kernel
theorem q9_149 : sx_chk z9 ex_mt k9 tX12_standing 347 k9_149 u9_149 = true := by decide +kernel
theorem q9_74 : sx_chk z9 ex_mt k9 tX7_walks 82 k9_74 u9_74 = true := by decide +kernel
theorem q9_200 : sx_chk z9 ex_mt k9 tX11_race 134 k9_200 u9_200 = true := by decide +kernel
theorem q9_257 : sx_chk z9 ex_mt k9 tL_plan 103 k9_257 u9_257 = true := by decide +kernel
theorem q9_230 : sx_chk z9 ex_mt k9 tX3_add 52 k9_230 u9_230 = true := by decide +kernel
theorem q9_147 : sx_chk z9 ex_mt k9 tX11_part 17 k9_147 u9_147 = true := by decide +kernel
