set_option maxRecDepth 1000000 in
theorem law_runG : ex_law [(ex_e0, 41, 63), (ex_len, 6, 6)] = true := by decide +kernel
