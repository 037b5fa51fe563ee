/-! contracts, checked by the kernel (written by a program) -/
theorem q9_75 : sx_chk z9 ex_mt k9 tX7_sells 337 k9_75 u9_75 = true := by decide +kernel
theorem q9_217_e : sx_chkE z9 ex_mt k9 tX12_line 209 k9_217 u9_217 1 = true := by decide +kernel
theorem q9_107 : sx_chk z9 ex_mt k9 tX11_stand 37 k9_107 u9_107 = true := by decide +kernel
