/-! contracts, checked by the kernel (written by a program) -/
theorem q9_217 : sx_chk z9 ex_mt k9 tX12_sell 264 k9_217 u9_217 = true := by decide +kernel
theorem q9_271 : sx_chk z9 ex_mt (k9o [172]) tX12_draws 586 k9_271 u9_271 = true := by decide +kernel
theorem q9_189 : sx_chk z9 ex_mt k9 tX4_traceBest 244 k9_189 u9_189 = true := by decide +kernel
theorem q9_192 : sx_chk z9 ex_mt k9 tX0_live 211 k9_192 u9_192 = true := by decide +kernel
theorem q9_44 : sx_chk z9 ex_mt k9 tX11_change 153 k9_44 u9_44 = true := by decide +kernel
theorem q9_164 : sx_chk z9 ex_mt k9 tX12_race 144 k9_164 u9_164 = true := by decide +kernel
theorem q9_175 : sx_chk z9 ex_mt k9 tX6_step 181 k9_175 u9_175 = true := by decide +kernel
theorem q9_200 : sx_chk z9 ex_mt k9 tX8_windowsOf 88 k9_200 u9_200 = true := by decide +kernel
theorem q9_104 : sx_chk z9 ex_mt k9 tX8_bitsOf 114 k9_104 u9_104 = true := by decide +kernel
theorem q9_146 : sx_chk z9 ex_mt k9 tX9_weightThatMayBe 157 k9_146 u9_146 = true := by decide +kernel
theorem q9_188 : sx_chk z9 ex_mt k9 tX4_putAhead 78 k9_188 u9_188 = true := by decide +kernel
theorem q9_262 : sx_chk z9 ex_mt k9 tX12_bests 62 k9_262 u9_262 = true := by decide +kernel
