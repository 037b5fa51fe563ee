/-! contracts, checked by the kernel (written by a program) -/
theorem q9_238_0 : sx_chkC z9 ex_mt k9 tX12_station 3864 k9_238 u9_238 0 u9_238_0 = true := by decide +kernel
theorem q9_104 : sx_chk z9 ex_mt k9 tX8_bitsOf 114 k9_104 u9_104 = true := by decide +kernel
theorem q9_49 : sx_chk z9 ex_mt k9 tX11_heard 56 k9_49 u9_49 = true := by decide +kernel
