/-! contracts, checked by the kernel (written by a program) -/
theorem q9_217_11 : sx_chkC z9 ex_mt k9 tX12_line 209 k9_217 u9_217 1 u9_217_11 = true := by decide +kernel
theorem q9_191 : sx_chk z9 ex_mt k9 tX0_live 211 k9_191 u9_191 = true := by decide +kernel
theorem q9_44 : sx_chk z9 ex_mt k9 tX11_change 153 k9_44 u9_44 = true := by decide +kernel
theorem q9_262 : sx_chk z9 ex_mt k9 tX12_bests 62 k9_262 u9_262 = true := by decide +kernel
