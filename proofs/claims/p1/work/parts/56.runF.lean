set_option maxRecDepth 1000000 in
theorem law_runF : ex_law [(ex_e0, 40, 40), (ex_len, 6, 6)] = true := by decide +kernel
