set_option maxRecDepth 1000000 in
theorem law_runB : ex_law [(ex_e0, 0, 6), (ex_len, 6, 6)] = true := by decide +kernel
