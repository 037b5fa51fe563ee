/-! contracts, checked by the kernel (written by a program) -/
theorem q9_191_1 : sx_chkC z9 ex_mt k9 tX0_live 211 k9_191 u9_191 2 u9_191_1 = true := by decide +kernel
theorem q9_238_e : sx_chkE z9 ex_mt k9 tX12_station 3864 k9_238 u9_238 0 = true := by decide +kernel
