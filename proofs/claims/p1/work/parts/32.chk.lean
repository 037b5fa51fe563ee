/-! the tables keep to what they must (written by a program) -/
theorem ok_L_law_26 : bL_law_26.all (fun e => ex_chk ex_mt tL_law e) = true := by decide +kernel
theorem ok_L_law_27 : bL_law_27.all (fun e => ex_chk ex_mt tL_law e) = true := by decide +kernel
theorem ok_L_law_28 : bL_law_28.all (fun e => ex_chk ex_mt tL_law e) = true := by decide +kernel
theorem ok_L_law_29 : bL_law_29.all (fun e => ex_chk ex_mt tL_law e) = true := by decide +kernel
theorem ok_L_law_30 : bL_law_30.all (fun e => ex_chk ex_mt tL_law e) = true := by decide +kernel
theorem ok_L_law_31 : bL_law_31.all (fun e => ex_chk ex_mt tL_law e) = true := by decide +kernel
theorem ok_L_law_32 : bL_law_32.all (fun e => ex_chk ex_mt tL_law e) = true := by decide +kernel
theorem ok_L_law_33 : bL_law_33.all (fun e => ex_chk ex_mt tL_law e) = true := by decide +kernel
theorem ok_L_law_34 : bL_law_34.all (fun e => ex_chk ex_mt tL_law e) = true := by decide +kernel
theorem ok_L_law_35 : bL_law_35.all (fun e => ex_chk ex_mt tL_law e) = true := by decide +kernel
theorem ok_L_law_36 : bL_law_36.all (fun e => ex_chk ex_mt tL_law e) = true := by decide +kernel
theorem ok_L_law_37 : bL_law_37.all (fun e => ex_chk ex_mt tL_law e) = true := by decide +kernel
theorem ok_L_law_38 : bL_law_38.all (fun e => ex_chk ex_mt tL_law e) = true := by decide +kernel
