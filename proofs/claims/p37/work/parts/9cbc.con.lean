/-! contracts, checked by the kernel (written by a program) -/
theorem q9_152 : sx_chk z9 ex_mt k9 tX12_change 129 k9_152 u9_152 = true := by decide +kernel
theorem q9_217_9 : sx_chkC z9 ex_mt k9 tX12_line 209 k9_217 u9_217 1 u9_217_9 = true := by decide +kernel
theorem q9_217_8 : sx_chkC z9 ex_mt k9 tX12_line 209 k9_217 u9_217 1 u9_217_8 = true := by decide +kernel
theorem q9_217_7 : sx_chkC z9 ex_mt k9 tX12_line 209 k9_217 u9_217 1 u9_217_7 = true := by decide +kernel
theorem q9_234_10 : sx_chkC z9 ex_mt k9 tX12_chooses 76 k9_234 u9_234 5 u9_234_10 = true := by decide +kernel
theorem q9_45 : sx_chk z9 ex_mt k9 tX9_secondsAtDraw 50 k9_45 u9_45 = true := by decide +kernel
