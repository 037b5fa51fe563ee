/-! contracts, checked by the kernel (written by a program) -/
theorem q9_187_2 : sx_chkC z9 ex_mt k9 tX4_putAhead 78 k9_187 u9_187 4 u9_187_2 = true := by decide +kernel
theorem q9_174 : sx_chk z9 ex_mt k9 tX6_step 181 k9_174 u9_174 = true := by decide +kernel
theorem q9_266 : sx_chk z9 ex_mt k9 tX4_allEarn 41 k9_266 u9_266 = true := by decide +kernel
