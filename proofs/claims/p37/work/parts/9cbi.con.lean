/-! contracts, checked by the kernel (written by a program) -/
theorem q9_81 : sx_chk z9 ex_mt k9 tX5_visit 61 k9_81 u9_81 = true := by decide +kernel
theorem q9_224 : sx_chk z9 ex_mt k9 tX3_add 52 k9_224 u9_224 = true := by decide +kernel
theorem q9_186 : sx_chk z9 ex_mt k9 tX4_prepareGains 176 k9_186 u9_186 = true := by decide +kernel
theorem q9_240 : sx_chk z9 ex_mt k9 tX12_gain 93 k9_240 u9_240 = true := by decide +kernel
theorem q9_0 : sx_chk z9 ex_mt k9 tX6_wordOf 54 k9_0 u9_0 = true := by decide +kernel
theorem q9_2 : sx_chk z9 ex_mt k9 tX6_wordOf 54 k9_2 u9_2 = true := by decide +kernel
theorem q9_3 : sx_chk z9 ex_mt k9 tX6_wordOf 54 k9_3 u9_3 = true := by decide +kernel
theorem q9_73 : sx_chk z9 ex_mt k9 tX6_wordOf 54 k9_73 u9_73 = true := by decide +kernel
theorem q9_109 : sx_chk z9 ex_mt k9 tX6_wordOf 54 k9_109 u9_109 = true := by decide +kernel
theorem q9_192 : sx_chk z9 ex_mt k9 tX11_idle 160 k9_192 u9_192 = true := by decide +kernel
theorem q9_275 : sx_chk z9 ex_mt k9 tX12_earns 87 k9_275 u9_275 = true := by decide +kernel
theorem q9_261 : sx_chk z9 ex_mt k9 tX11_stood 73 k9_261 u9_261 = true := by decide +kernel
theorem q9_187_e : sx_chkE z9 ex_mt k9 tX4_putAhead 78 k9_187 u9_187 4 = true := by decide +kernel
theorem q9_189 : sx_chk z9 ex_mt k9 tX11_better 178 k9_189 u9_189 = true := by decide +kernel
theorem q9_254 : sx_chk z9 ex_mt k9 tX11_best 87 k9_254 u9_254 = true := by decide +kernel
theorem q9_274 : sx_chk z9 ex_mt k9 tX12_stood 68 k9_274 u9_274 = true := by decide +kernel
theorem q9_229_e : sx_chkE z9 ex_mt k9 tX2_readFrom 169 k9_229 u9_229 0 = true := by decide +kernel
