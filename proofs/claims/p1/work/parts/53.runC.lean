set_option maxRecDepth 1000000 in
theorem law_runC : ex_law [(ex_e0, 7, 20), (ex_len, 6, 6)] = true := by decide +kernel
