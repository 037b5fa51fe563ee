set_option maxRecDepth 1000000 in
theorem ex_try : ex_run ex_mt 3000 tL_law [] 0 100 600002 7302232 [(0, .inr (.inr (.inr (some 0))))] [] [] (0, false, .nil, .nil, .nil, .nil) [(ex_len, 0, 6)] = false := by decide +kernel
