/-! contracts, checked by the kernel (written by a program) -/
theorem q9_260 : sx_chk z9 ex_mt k9 tX11_best 87 k9_260 u9_260 = true := by decide +kernel
theorem q9_234 : sx_chk z9 ex_mt k9 tX11_image 105 k9_234 u9_234 = true := by decide +kernel
theorem q9_193 : sx_chk z9 ex_mt k9 tX11_better 178 k9_193 u9_193 = true := by decide +kernel
theorem q9_231 : sx_chk z9 ex_mt k9 tX4_prepareStarts 67 k9_231 u9_231 = true := by decide +kernel
theorem q9_299 : sx_chk z9 ex_mt k9 tX11_sentence 85 k9_299 u9_299 = true := by decide +kernel
theorem q9_254 : sx_chk z9 ex_mt k9 tX11_train 95 k9_254 u9_254 = true := by decide +kernel
theorem q9_266 : sx_chk z9 ex_mt k9 tX11_station 171 k9_266 u9_266 = true := by decide +kernel
theorem q9_239 : sx_chk z9 ex_mt k9 tX11_undo 51 k9_239 u9_239 = true := by decide +kernel
theorem q9_280 : sx_chk z9 ex_mt k9 tX12_stood 68 k9_280 u9_280 = true := by decide +kernel
theorem q9_251 : sx_chk z9 ex_mt k9 tX11_log 78 k9_251 u9_251 = true := by decide +kernel
theorem q9_0 : sx_chk z9 ex_mt k9 tX6_wordOf 54 k9_0 u9_0 = true := by decide +kernel
theorem q9_2 : sx_chk z9 ex_mt k9 tX6_wordOf 54 k9_2 u9_2 = true := by decide +kernel
theorem q9_3 : sx_chk z9 ex_mt k9 tX6_wordOf 54 k9_3 u9_3 = true := by decide +kernel
theorem q9_73 : sx_chk z9 ex_mt k9 tX6_wordOf 54 k9_73 u9_73 = true := by decide +kernel
theorem q9_109 : sx_chk z9 ex_mt k9 tX6_wordOf 54 k9_109 u9_109 = true := by decide +kernel
theorem q9_174 : sx_chk z9 ex_mt k9 tX12_window 58 k9_174 u9_174 = true := by decide +kernel
theorem q9_237 : sx_chk z9 ex_mt k9 tX11_said 61 k9_237 u9_237 = true := by decide +kernel
theorem q9_232 : sx_chk z9 ex_mt k9 tX4_measureUp 100 k9_232 u9_232 = true := by decide +kernel
theorem q9_233 : sx_chk z9 ex_mt k9 tX4_measureDown 100 k9_233 u9_233 = true := by decide +kernel
theorem q9_171 : sx_chk z9 ex_mt k9 tX12_stand 55 k9_171 u9_171 = true := by decide +kernel
theorem q9_282 : sx_chk z9 ex_mt k9 tX12_curve 48 k9_282 u9_282 = true := by decide +kernel
theorem q9_223_10 : sx_chkC z9 ex_mt k9 tX12_line 209 k9_223 u9_223 1 u9_223_10 = true := by decide +kernel
theorem q9_213 : sx_chk z9 ex_mt k9 tL_yet 62 k9_213 u9_213 = true := by decide +kernel
theorem q9_225 : sx_chk z9 ex_mt k9 tX12_waits 85 k9_225 u9_225 = true := by decide +kernel
theorem q9_165 : sx_chk z9 ex_mt k9 tX12_now 30 k9_165 u9_165 = true := by decide +kernel
theorem q9_179 : sx_chk z9 ex_mt k9 tX7_copyFrom 49 k9_179 u9_179 = true := by decide +kernel
