/-! the law, run by the executor: scripts of at most five ints, and for six ints the calls one by one; the kernel runs it -/
abbrev ex_e0 : ex_F := .tag 3 (.append (.tag 0 .line) (.nest 63 .nil))
noncomputable abbrev ex_law (pa : ex_Pa) : Bool := ex_run ex_mt 40000 tL_law [] 0 100 600002 7302232 [(0, .inr (.inr (.inr (some 0))))] [] [] (0, false, .nil, .nil, .nil, .nil) pa
set_option maxRecDepth 1000000 in
theorem law_runA : ex_law [(ex_len, 0, 5)] = true := by decide +kernel
