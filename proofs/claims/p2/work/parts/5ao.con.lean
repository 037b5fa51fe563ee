/-! contracts, checked by the kernel (written by a program) -/
theorem q9_231 : sx_chk z9 ex_mt k9 tX2_readFrom 169 k9_231 u9_231 = true := by decide +kernel
theorem q9_240 : sx_chk z9 ex_mt k9 tX12_station 3864 k9_240 u9_240 = true := by decide +kernel
theorem q9_144 : sx_chk z9 ex_mt k9 tX11_weekly 110 k9_144 u9_144 = true := by decide +kernel
