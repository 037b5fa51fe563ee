set_option maxRecDepth 1000000 in
theorem law_runD : ex_law [(ex_e0, 21, 21), (ex_len, 6, 6)] = true := by decide +kernel
