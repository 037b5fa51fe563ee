/-! contracts, checked by the kernel (written by a program) -/
theorem q9_74 : sx_chk z9 ex_mt k9 tX7_walks 82 k9_74 u9_74 = true := by decide +kernel
theorem q9_200 : sx_chk z9 ex_mt k9 tX11_race 134 k9_200 u9_200 = true := by decide +kernel
theorem q9_257 : sx_chk z9 ex_mt k9 tL_plan 103 k9_257 u9_257 = true := by decide +kernel
theorem q9_230 : sx_chk z9 ex_mt k9 tX3_add 52 k9_230 u9_230 = true := by decide +kernel
theorem q9_223_e : sx_chkE z9 ex_mt k9 tX12_line 209 k9_223 u9_223 1 = true := by decide +kernel
theorem q9_226 : sx_chk z9 ex_mt k9 tX12_walk 141 k9_226 u9_226 = true := by decide +kernel
theorem q9_238 : sx_chk z9 ex_mt k9 tX9_readStands 82 k9_238 u9_238 = true := by decide +kernel
theorem q9_270 : sx_chk z9 ex_mt k9 tX12_plan 129 k9_270 u9_270 = true := by decide +kernel
theorem q9_204 : sx_chk z9 ex_mt k9 tX11_trust 244 k9_204 u9_204 = true := by decide +kernel
theorem q9_81 : sx_chk z9 ex_mt k9 tX5_visit 61 k9_81 u9_81 = true := by decide +kernel
theorem q9_215 : sx_chk z9 ex_mt k9 tL_meant 139 k9_215 u9_215 = true := by decide +kernel
theorem q9_43 : sx_chk z9 ex_mt k9 tX4_penceUntil 113 k9_43 u9_43 = true := by decide +kernel
theorem q9_236 : sx_chk z9 ex_mt k9 tX11_restore 124 k9_236 u9_236 = true := by decide +kernel
theorem q9_190 : sx_chk z9 ex_mt k9 tX4_prepareGains 176 k9_190 u9_190 = true := by decide +kernel
theorem q9_222 : sx_chk z9 ex_mt k9 tX12_sell 89 k9_222 u9_222 = true := by decide +kernel
