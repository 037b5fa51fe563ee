/-! contracts, checked by the kernel (written by a program) -/
theorem q9_174 : sx_chk z9 ex_mt k9 tX6_step 181 k9_174 u9_174 = true := by decide +kernel
theorem q9_199 : sx_chk z9 ex_mt k9 tX8_windowsOf 88 k9_199 u9_199 = true := by decide +kernel
theorem q9_238_e : sx_chkE z9 ex_mt k9 tX12_station 3864 k9_238 u9_238 0 = true := by decide +kernel
theorem q9_268 : sx_chk z9 ex_mt k9 tL_curve 184 k9_268 u9_268 = true := by decide +kernel
theorem q9_146 : sx_chk z9 ex_mt k9 tX9_weightThatMayBe 157 k9_146 u9_146 = true := by decide +kernel
theorem q9_48 : sx_chk z9 ex_mt k9 tX11_feed 623 k9_48 u9_48 = true := by decide +kernel
theorem q9_240 : sx_chk z9 ex_mt k9 tX12_gain 93 k9_240 u9_240 = true := by decide +kernel
