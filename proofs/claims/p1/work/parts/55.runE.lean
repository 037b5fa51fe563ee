set_option maxRecDepth 1000000 in
theorem law_runE : ex_law [(ex_e0, 22, 39), (ex_len, 6, 6)] = true := by decide +kernel
