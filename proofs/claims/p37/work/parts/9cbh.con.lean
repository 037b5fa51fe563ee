/-! contracts, checked by the kernel (written by a program) -/
theorem q9_74 : sx_chk z9 ex_mt k9 tX7_walks 82 k9_74 u9_74 = true := by decide +kernel
theorem q9_43 : sx_chk z9 ex_mt k9 tX4_penceUntil 113 k9_43 u9_43 = true := by decide +kernel
theorem q9_234_0 : sx_chkC z9 ex_mt k9 tX12_chooses 76 k9_234 u9_234 5 u9_234_0 = true := by decide +kernel
theorem q9_251 : sx_chk z9 ex_mt k9 tL_plan 103 k9_251 u9_251 = true := by decide +kernel
theorem q9_149 : sx_chk z9 ex_mt k9 tX12_standing 347 k9_149 u9_149 = true := by decide +kernel
theorem q9_222 : sx_chk z9 ex_mt k9 tX12_meant 116 k9_222 u9_222 = true := by decide +kernel
theorem q9_220 : sx_chk z9 ex_mt k9 tX12_walk 141 k9_220 u9_220 = true := by decide +kernel
theorem q9_264 : sx_chk z9 ex_mt k9 tX12_plan 129 k9_264 u9_264 = true := by decide +kernel
theorem q9_232 : sx_chk z9 ex_mt k9 tX9_readStands 82 k9_232 u9_232 = true := by decide +kernel
theorem q9_200 : sx_chk z9 ex_mt k9 tX11_trust 244 k9_200 u9_200 = true := by decide +kernel
theorem q9_80 : sx_chk z9 ex_mt k9 tX5_visit 61 k9_80 u9_80 = true := by decide +kernel
