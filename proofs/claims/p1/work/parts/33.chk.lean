/-! the tables keep to what they must (written by a program) -/
theorem ok_L_law_39 : bL_law_39.all (fun e => ex_chk ex_mt tL_law e) = true := by decide +kernel
theorem ok_L_law_40 : bL_law_40.all (fun e => ex_chk ex_mt tL_law e) = true := by decide +kernel
theorem ok_L_law_41 : bL_law_41.all (fun e => ex_chk ex_mt tL_law e) = true := by decide +kernel
theorem ok_L_law_42 : bL_law_42.all (fun e => ex_chk ex_mt tL_law e) = true := by decide +kernel
theorem ok_L_law_43 : bL_law_43.all (fun e => ex_chk ex_mt tL_law e) = true := by decide +kernel
theorem ok_L_law_44 : bL_law_44.all (fun e => ex_chk ex_mt tL_law e) = true := by decide +kernel
theorem ok_L_law_45 : bL_law_45.all (fun e => ex_chk ex_mt tL_law e) = true := by decide +kernel
theorem ok_L_law_46 : bL_law_46.all (fun e => ex_chk ex_mt tL_law e) = true := by decide +kernel
theorem ok_L_law_47 : bL_law_47.all (fun e => ex_chk ex_mt tL_law e) = true := by decide +kernel
theorem ok_L_law_48 : bL_law_48.all (fun e => ex_chk ex_mt tL_law e) = true := by decide +kernel
