/-! contracts, checked by the kernel (written by a program) -/
theorem q9_234_5 : sx_chkC z9 ex_mt k9 tX12_chooses 76 k9_234 u9_234 5 u9_234_5 = true := by decide +kernel
theorem q9_106 : sx_chk z9 ex_mt k9 tX11_share 34 k9_106 u9_106 = true := by decide +kernel
theorem q9_273 : sx_chk z9 ex_mt k9 tX12_sellers 43 k9_273 u9_273 = true := by decide +kernel
theorem q9_212 : sx_chk z9 ex_mt k9 tX12_begin 71 k9_212 u9_212 = true := by decide +kernel
theorem q9_150 : sx_chk z9 ex_mt k9 tX12_standing 56 k9_150 u9_150 = true := by decide +kernel
theorem q9_270 : sx_chk z9 ex_mt k9 tX12_border 40 k9_270 u9_270 = true := by decide +kernel
theorem q9_243 : sx_chk z9 ex_mt k9 tX4_prepareBest 64 k9_243 u9_243 = true := by decide +kernel
theorem q9_144 : sx_chk z9 ex_mt k9 tX11_weekly 110 k9_144 u9_144 = true := by decide +kernel
theorem q9_237_1 : sx_chkC z9 ex_mt k9 tX12_log 721 k9_237 u9_237 2 u9_237_1 = true := by decide +kernel
theorem q9_172 : sx_chk z9 ex_mt k9 tX12_part 13 k9_172 u9_172 = true := by decide +kernel
theorem q9_147 : sx_chk z9 ex_mt k9 tX11_part 17 k9_147 u9_147 = true := by decide +kernel
theorem q9_213 : sx_chk z9 ex_mt k9 tX12_gainOf 41 k9_213 u9_213 = true := by decide +kernel
theorem q9_267 : sx_chk z9 ex_mt k9 tL_earns 57 k9_267 u9_267 = true := by decide +kernel
theorem q9_255 : sx_chk z9 ex_mt k9 tX11_border 38 k9_255 u9_255 = true := by decide +kernel
theorem q9_162 : sx_chk z9 ex_mt k9 tX12_needs 40 k9_162 u9_162 = true := by decide +kernel
theorem q9_169 : sx_chk z9 ex_mt k9 tX12_weekly 67 k9_169 u9_169 = true := by decide +kernel
theorem q9_235 : sx_chk z9 ex_mt k9 tX12_better 61 k9_235 u9_235 = true := by decide +kernel
theorem q9_236 : sx_chk z9 ex_mt k9 tX12_idle 39 k9_236 u9_236 = true := by decide +kernel
theorem q9_272 : sx_chk z9 ex_mt k9 tX12_sale 55 k9_272 u9_272 = true := by decide +kernel
theorem q9_239 : sx_chk z9 ex_mt k9 tX12_trust 31 k9_239 u9_239 = true := by decide +kernel
theorem q9_259 : sx_chk z9 ex_mt k9 tX4_sellerGain 38 k9_259 u9_259 = true := by decide +kernel
theorem q9_263 : sx_chk z9 ex_mt k9 tX12_rowGain 78 k9_263 u9_263 = true := by decide +kernel
theorem q9_156 : sx_chk z9 ex_mt k9 tX12_heard 54 k9_156 u9_156 = true := by decide +kernel
theorem q9_151 : sx_chk z9 ex_mt k9 tX12_penceBy 41 k9_151 u9_151 = true := by decide +kernel
theorem q9_234_e : sx_chkE z9 ex_mt k9 tX12_chooses 76 k9_234 u9_234 5 = true := by decide +kernel
theorem q9_79 : sx_chk z9 ex_mt k9 tX11_now 33 k9_79 u9_79 = true := by decide +kernel
theorem q9_191_0 : sx_chkC z9 ex_mt k9 tX0_live 211 k9_191 u9_191 2 u9_191_0 = true := by decide +kernel
theorem q9_258 : sx_chk z9 ex_mt k9 tX11_sale 34 k9_258 u9_258 = true := by decide +kernel
theorem q9_214 : sx_chk z9 ex_mt k9 tX12_count 30 k9_214 u9_214 = true := by decide +kernel
theorem q9_250 : sx_chk z9 ex_mt k9 tX11_walk 37 k9_250 u9_250 = true := by decide +kernel
theorem q9_234_11 : sx_chkC z9 ex_mt k9 tX12_chooses 76 k9_234 u9_234 5 u9_234_11 = true := by decide +kernel
theorem q9_237_e : sx_chkE z9 ex_mt k9 tX12_log 721 k9_237 u9_237 2 = true := by decide +kernel
theorem q9_269 : sx_chk z9 ex_mt k9 tX12_best 38 k9_269 u9_269 = true := by decide +kernel
theorem q9_188_e : sx_chkE z9 ex_mt k9 tX4_traceBest 244 k9_188 u9_188 0 = true := by decide +kernel
