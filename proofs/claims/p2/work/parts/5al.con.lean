/-! contracts, checked by the kernel (written by a program) -/
theorem q9_293 : sx_chk z9 ex_mt k9 tX8_readOne 255 k9_293 u9_293 = true := by decide +kernel
theorem q9_104 : sx_chk z9 ex_mt k9 tX8_bitsOf 114 k9_104 u9_104 = true := by decide +kernel
theorem q9_146 : sx_chk z9 ex_mt k9 tX9_weightThatMayBe 157 k9_146 u9_146 = true := by decide +kernel
theorem q9_48 : sx_chk z9 ex_mt k9 tX11_feed 623 k9_48 u9_48 = true := by decide +kernel
theorem q9_152 : sx_chk z9 ex_mt k9 tX12_change 129 k9_152 u9_152 = true := by decide +kernel
theorem q9_175 : sx_chk z9 ex_mt k9 tX8_readOne 66 k9_175 u9_175 = true := by decide +kernel
theorem q9_224 : sx_chk z9 ex_mt k9 tX12_meant 116 k9_224 u9_224 = true := by decide +kernel
