/-! contracts, checked by the kernel (written by a program) -/
theorem q9_276 : sx_chk z9 ex_mt k9 tX12_curve 48 k9_276 u9_276 = true := by decide +kernel
theorem q9_225 : sx_chk z9 ex_mt k9 tX4_prepareStarts 67 k9_225 u9_225 = true := by decide +kernel
theorem q9_228 : sx_chk z9 ex_mt k9 tX11_image 105 k9_228 u9_228 = true := by decide +kernel
theorem q9_188_0 : sx_chkC z9 ex_mt k9 tX4_traceBest 244 k9_188 u9_188 0 u9_188_0 = true := by decide +kernel
theorem q9_249 : sx_chk z9 ex_mt k9 tX11_waits 75 k9_249 u9_249 = true := by decide +kernel
theorem q9_145 : sx_chk z9 ex_mt k9 tL_window 49 k9_145 u9_145 = true := by decide +kernel
theorem q9_231 : sx_chk z9 ex_mt k9 tX11_said 61 k9_231 u9_231 = true := by decide +kernel
theorem q9_170 : sx_chk z9 ex_mt k9 tX12_window 58 k9_170 u9_170 = true := by decide +kernel
theorem q9_226 : sx_chk z9 ex_mt k9 tX4_measureUp 100 k9_226 u9_226 = true := by decide +kernel
theorem q9_227 : sx_chk z9 ex_mt k9 tX4_measureDown 100 k9_227 u9_227 = true := by decide +kernel
theorem q9_166 : sx_chk z9 ex_mt k9 tX12_share 55 k9_166 u9_166 = true := by decide +kernel
theorem q9_187_1 : sx_chkC z9 ex_mt k9 tX4_putAhead 78 k9_187 u9_187 4 u9_187_1 = true := by decide +kernel
theorem q9_293 : sx_chk z9 ex_mt k9 tX11_sentence 85 k9_293 u9_293 = true := by decide +kernel
theorem q9_233 : sx_chk z9 ex_mt k9 tX11_undo 51 k9_233 u9_233 = true := by decide +kernel
theorem q9_260 : sx_chk z9 ex_mt k9 tX11_station 171 k9_260 u9_260 = true := by decide +kernel
theorem q9_209 : sx_chk z9 ex_mt k9 tL_yet 62 k9_209 u9_209 = true := by decide +kernel
theorem q9_234_7 : sx_chkC z9 ex_mt k9 tX12_chooses 76 k9_234 u9_234 5 u9_234_7 = true := by decide +kernel
theorem q9_245 : sx_chk z9 ex_mt k9 tX11_log 78 k9_245 u9_245 = true := by decide +kernel
theorem q9_167 : sx_chk z9 ex_mt k9 tX12_stand 55 k9_167 u9_167 = true := by decide +kernel
theorem q9_234_6 : sx_chkC z9 ex_mt k9 tX12_chooses 76 k9_234 u9_234 5 u9_234_6 = true := by decide +kernel
theorem q9_219 : sx_chk z9 ex_mt k9 tX12_waits 85 k9_219 u9_219 = true := by decide +kernel
theorem q9_49 : sx_chk z9 ex_mt k9 tX11_heard 56 k9_49 u9_49 = true := by decide +kernel
