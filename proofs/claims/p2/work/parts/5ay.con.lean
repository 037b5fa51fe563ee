/-! contracts, checked by the kernel (written by a program) -/
theorem q9_178 : sx_chk z9 ex_mt k9 tX6_step 181 k9_178 u9_178 = true := by decide +kernel
theorem q9_203 : sx_chk z9 ex_mt k9 tX8_windowsOf 88 k9_203 u9_203 = true := by decide +kernel
theorem q9_244_e : sx_chkE z9 ex_mt k9 tX12_station 3864 k9_244 u9_244 0 = true := by decide +kernel
theorem q9_274 : sx_chk z9 ex_mt k9 tL_curve 184 k9_274 u9_274 = true := by decide +kernel
theorem q9_146 : sx_chk z9 ex_mt k9 tX9_weightThatMayBe 157 k9_146 u9_146 = true := by decide +kernel
theorem q9_48 : sx_chk z9 ex_mt k9 tX11_feed 623 k9_48 u9_48 = true := by decide +kernel
theorem q9_246 : sx_chk z9 ex_mt k9 tX12_gain 93 k9_246 u9_246 = true := by decide +kernel
