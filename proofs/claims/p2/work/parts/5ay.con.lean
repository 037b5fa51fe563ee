/-! contracts, checked by the kernel (written by a program) -/
theorem q9_74 : sx_chk z9 ex_mt k9 tX7_walks 82 k9_74 u9_74 = true := by decide +kernel
theorem q9_196 : sx_chk z9 ex_mt k9 tX11_race 134 k9_196 u9_196 = true := by decide +kernel
theorem q9_251 : sx_chk z9 ex_mt k9 tL_plan 103 k9_251 u9_251 = true := by decide +kernel
theorem q9_224 : sx_chk z9 ex_mt k9 tX3_add 52 k9_224 u9_224 = true := by decide +kernel
theorem q9_217_e : sx_chkE z9 ex_mt k9 tX12_line 209 k9_217 u9_217 1 = true := by decide +kernel
theorem q9_220 : sx_chk z9 ex_mt k9 tX12_walk 141 k9_220 u9_220 = true := by decide +kernel
theorem q9_232 : sx_chk z9 ex_mt k9 tX9_readStands 82 k9_232 u9_232 = true := by decide +kernel
theorem q9_264 : sx_chk z9 ex_mt k9 tX12_plan 129 k9_264 u9_264 = true := by decide +kernel
theorem q9_200 : sx_chk z9 ex_mt k9 tX11_trust 244 k9_200 u9_200 = true := by decide +kernel
theorem q9_81 : sx_chk z9 ex_mt k9 tX5_visit 61 k9_81 u9_81 = true := by decide +kernel
theorem q9_211 : sx_chk z9 ex_mt k9 tL_meant 139 k9_211 u9_211 = true := by decide +kernel
theorem q9_43 : sx_chk z9 ex_mt k9 tX4_penceUntil 113 k9_43 u9_43 = true := by decide +kernel
theorem q9_230 : sx_chk z9 ex_mt k9 tX11_restore 124 k9_230 u9_230 = true := by decide +kernel
theorem q9_186 : sx_chk z9 ex_mt k9 tX4_prepareGains 176 k9_186 u9_186 = true := by decide +kernel
theorem q9_216 : sx_chk z9 ex_mt k9 tX12_sell 89 k9_216 u9_216 = true := by decide +kernel
