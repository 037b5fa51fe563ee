/-! the tables keep to what they must (written by a program) -/
theorem ok_X12_leafOf : ex_tok ex_mt tX12_leafOf = true := by decide +kernel
theorem ok_X12_lesser : ex_tok ex_mt tX12_lesser = true := by decide +kernel
theorem ok_X12_line_0 : bX12_line_0.all (fun e => ex_chk ex_mt tX12_line e) = true := by decide +kernel
theorem ok_X12_line_1 : bX12_line_1.all (fun e => ex_chk ex_mt tX12_line e) = true := by decide +kernel
theorem ok_X12_line_2 : bX12_line_2.all (fun e => ex_chk ex_mt tX12_line e) = true := by decide +kernel
theorem ok_X12_line_3 : bX12_line_3.all (fun e => ex_chk ex_mt tX12_line e) = true := by decide +kernel
theorem ok_X12_line_4 : bX12_line_4.all (fun e => ex_chk ex_mt tX12_line e) = true := by decide +kernel
theorem ok_X12_line_5 : bX12_line_5.all (fun e => ex_chk ex_mt tX12_line e) = true := by decide +kernel
theorem ok_X12_line_6 : bX12_line_6.all (fun e => ex_chk ex_mt tX12_line e) = true := by decide +kernel
theorem ok_X12_line_7 : bX12_line_7.all (fun e => ex_chk ex_mt tX12_line e) = true := by decide +kernel
theorem ok_X12_line_8 : bX12_line_8.all (fun e => ex_chk ex_mt tX12_line e) = true := by decide +kernel
theorem ok_X12_line_9 : bX12_line_9.all (fun e => ex_chk ex_mt tX12_line e) = true := by decide +kernel
theorem ok_X12_line : ex_tok ex_mt tX12_line = true := by
  unfold ex_tok
  rw [Bool.and_eq_true]
  refine ⟨by decide +kernel, ?_⟩
  show List.all [bX12_line_0, bX12_line_1, bX12_line_2, bX12_line_3, bX12_line_4, bX12_line_5, bX12_line_6, bX12_line_7, bX12_line_8, bX12_line_9] _ = true
  simp only [List.all_cons, List.all_nil, ok_X12_line_0, ok_X12_line_1, ok_X12_line_2, ok_X12_line_3, ok_X12_line_4, ok_X12_line_5, ok_X12_line_6, ok_X12_line_7, ok_X12_line_8, ok_X12_line_9, Bool.and_true]
theorem ok_X12_log_0 : bX12_log_0.all (fun e => ex_chk ex_mt tX12_log e) = true := by decide +kernel
theorem ok_X12_log_1 : bX12_log_1.all (fun e => ex_chk ex_mt tX12_log e) = true := by decide +kernel
theorem ok_X12_log_2 : bX12_log_2.all (fun e => ex_chk ex_mt tX12_log e) = true := by decide +kernel
theorem ok_X12_log_3 : bX12_log_3.all (fun e => ex_chk ex_mt tX12_log e) = true := by decide +kernel
theorem ok_X12_log_4 : bX12_log_4.all (fun e => ex_chk ex_mt tX12_log e) = true := by decide +kernel
theorem ok_X12_log_5 : bX12_log_5.all (fun e => ex_chk ex_mt tX12_log e) = true := by decide +kernel
theorem ok_X12_log_6 : bX12_log_6.all (fun e => ex_chk ex_mt tX12_log e) = true := by decide +kernel
theorem ok_X12_log_7 : bX12_log_7.all (fun e => ex_chk ex_mt tX12_log e) = true := by decide +kernel
theorem ok_X12_log_8 : bX12_log_8.all (fun e => ex_chk ex_mt tX12_log e) = true := by decide +kernel
theorem ok_X12_log_9 : bX12_log_9.all (fun e => ex_chk ex_mt tX12_log e) = true := by decide +kernel
theorem ok_X12_log_10 : bX12_log_10.all (fun e => ex_chk ex_mt tX12_log e) = true := by decide +kernel
theorem ok_X12_log : ex_tok ex_mt tX12_log = true := by
  unfold ex_tok
  rw [Bool.and_eq_true]
  refine ⟨by decide +kernel, ?_⟩
  show List.all [bX12_log_0, bX12_log_1, bX12_log_2, bX12_log_3, bX12_log_4, bX12_log_5, bX12_log_6, bX12_log_7, bX12_log_8, bX12_log_9, bX12_log_10] _ = true
  simp only [List.all_cons, List.all_nil, ok_X12_log_0, ok_X12_log_1, ok_X12_log_2, ok_X12_log_3, ok_X12_log_4, ok_X12_log_5, ok_X12_log_6, ok_X12_log_7, ok_X12_log_8, ok_X12_log_9, ok_X12_log_10, Bool.and_true]
theorem ok_X12_logLine_0 : bX12_logLine_0.all (fun e => ex_chk ex_mt tX12_logLine e) = true := by decide +kernel
theorem ok_X12_logLine_1 : bX12_logLine_1.all (fun e => ex_chk ex_mt tX12_logLine e) = true := by decide +kernel
theorem ok_X12_logLine_2 : bX12_logLine_2.all (fun e => ex_chk ex_mt tX12_logLine e) = true := by decide +kernel
theorem ok_X12_logLine_3 : bX12_logLine_3.all (fun e => ex_chk ex_mt tX12_logLine e) = true := by decide +kernel
theorem ok_X12_logLine : ex_tok ex_mt tX12_logLine = true := by
  unfold ex_tok
  rw [Bool.and_eq_true]
  refine ⟨by decide +kernel, ?_⟩
  show List.all [bX12_logLine_0, bX12_logLine_1, bX12_logLine_2, bX12_logLine_3] _ = true
  simp only [List.all_cons, List.all_nil, ok_X12_logLine_0, ok_X12_logLine_1, ok_X12_logLine_2, ok_X12_logLine_3, Bool.and_true]
theorem ok_X12_logged : ex_tok ex_mt tX12_logged = true := by decide +kernel
theorem ok_X12_luckiest : ex_tok ex_mt tX12_luckiest = true := by decide +kernel
theorem ok_X12_meant_0 : bX12_meant_0.all (fun e => ex_chk ex_mt tX12_meant e) = true := by decide +kernel
theorem ok_X12_meant_1 : bX12_meant_1.all (fun e => ex_chk ex_mt tX12_meant e) = true := by decide +kernel
theorem ok_X12_meant_2 : bX12_meant_2.all (fun e => ex_chk ex_mt tX12_meant e) = true := by decide +kernel
theorem ok_X12_meant_3 : bX12_meant_3.all (fun e => ex_chk ex_mt tX12_meant e) = true := by decide +kernel
theorem ok_X12_meant : ex_tok ex_mt tX12_meant = true := by
  unfold ex_tok
  rw [Bool.and_eq_true]
  refine ⟨by decide +kernel, ?_⟩
  show List.all [bX12_meant_0, bX12_meant_1, bX12_meant_2, bX12_meant_3] _ = true
  simp only [List.all_cons, List.all_nil, ok_X12_meant_0, ok_X12_meant_1, ok_X12_meant_2, ok_X12_meant_3, Bool.and_true]
theorem ok_X12_mostAt : ex_tok ex_mt tX12_mostAt = true := by decide +kernel
theorem ok_X12_mostOf : ex_tok ex_mt tX12_mostOf = true := by decide +kernel
theorem ok_X12_needs : ex_tok ex_mt tX12_needs = true := by decide +kernel
theorem ok_X12_next_0 : bX12_next_0.all (fun e => ex_chk ex_mt tX12_next e) = true := by decide +kernel
theorem ok_X12_next_1 : bX12_next_1.all (fun e => ex_chk ex_mt tX12_next e) = true := by decide +kernel
theorem ok_X12_next_2 : bX12_next_2.all (fun e => ex_chk ex_mt tX12_next e) = true := by decide +kernel
theorem ok_X12_next_3 : bX12_next_3.all (fun e => ex_chk ex_mt tX12_next e) = true := by decide +kernel
theorem ok_X12_next_4 : bX12_next_4.all (fun e => ex_chk ex_mt tX12_next e) = true := by decide +kernel
theorem ok_X12_next_5 : bX12_next_5.all (fun e => ex_chk ex_mt tX12_next e) = true := by decide +kernel
theorem ok_X12_next_6 : bX12_next_6.all (fun e => ex_chk ex_mt tX12_next e) = true := by decide +kernel
theorem ok_X12_next_7 : bX12_next_7.all (fun e => ex_chk ex_mt tX12_next e) = true := by decide +kernel
theorem ok_X12_next_8 : bX12_next_8.all (fun e => ex_chk ex_mt tX12_next e) = true := by decide +kernel
theorem ok_X12_next_9 : bX12_next_9.all (fun e => ex_chk ex_mt tX12_next e) = true := by decide +kernel
theorem ok_X12_next_10 : bX12_next_10.all (fun e => ex_chk ex_mt tX12_next e) = true := by decide +kernel
theorem ok_X12_next : ex_tok ex_mt tX12_next = true := by
  unfold ex_tok
  rw [Bool.and_eq_true]
  refine ⟨by decide +kernel, ?_⟩
  show List.all [bX12_next_0, bX12_next_1, bX12_next_2, bX12_next_3, bX12_next_4, bX12_next_5, bX12_next_6, bX12_next_7, bX12_next_8, bX12_next_9, bX12_next_10] _ = true
  simp only [List.all_cons, List.all_nil, ok_X12_next_0, ok_X12_next_1, ok_X12_next_2, ok_X12_next_3, ok_X12_next_4, ok_X12_next_5, ok_X12_next_6, ok_X12_next_7, ok_X12_next_8, ok_X12_next_9, ok_X12_next_10, Bool.and_true]
theorem ok_X12_nots : ex_tok ex_mt tX12_nots = true := by decide +kernel
theorem ok_X12_now_0 : bX12_now_0.all (fun e => ex_chk ex_mt tX12_now e) = true := by decide +kernel
theorem ok_X12_now_1 : bX12_now_1.all (fun e => ex_chk ex_mt tX12_now e) = true := by decide +kernel
theorem ok_X12_now_2 : bX12_now_2.all (fun e => ex_chk ex_mt tX12_now e) = true := by decide +kernel
theorem ok_X12_now_3 : bX12_now_3.all (fun e => ex_chk ex_mt tX12_now e) = true := by decide +kernel
theorem ok_X12_now_4 : bX12_now_4.all (fun e => ex_chk ex_mt tX12_now e) = true := by decide +kernel
theorem ok_X12_now : ex_tok ex_mt tX12_now = true := by
  unfold ex_tok
  rw [Bool.and_eq_true]
  refine ⟨by decide +kernel, ?_⟩
  show List.all [bX12_now_0, bX12_now_1, bX12_now_2, bX12_now_3, bX12_now_4] _ = true
  simp only [List.all_cons, List.all_nil, ok_X12_now_0, ok_X12_now_1, ok_X12_now_2, ok_X12_now_3, ok_X12_now_4, Bool.and_true]
theorem ok_X12_octet : ex_tok ex_mt tX12_octet = true := by decide +kernel
theorem ok_X12_off : ex_tok ex_mt tX12_off = true := by decide +kernel
theorem ok_X12_operand_0 : bX12_operand_0.all (fun e => ex_chk ex_mt tX12_operand e) = true := by decide +kernel
theorem ok_X12_operand_1 : bX12_operand_1.all (fun e => ex_chk ex_mt tX12_operand e) = true := by decide +kernel
theorem ok_X12_operand_2 : bX12_operand_2.all (fun e => ex_chk ex_mt tX12_operand e) = true := by decide +kernel
theorem ok_X12_operand_3 : bX12_operand_3.all (fun e => ex_chk ex_mt tX12_operand e) = true := by decide +kernel
theorem ok_X12_operand_4 : bX12_operand_4.all (fun e => ex_chk ex_mt tX12_operand e) = true := by decide +kernel
theorem ok_X12_operand_5 : bX12_operand_5.all (fun e => ex_chk ex_mt tX12_operand e) = true := by decide +kernel
theorem ok_X12_operand_6 : bX12_operand_6.all (fun e => ex_chk ex_mt tX12_operand e) = true := by decide +kernel
theorem ok_X12_operand : ex_tok ex_mt tX12_operand = true := by
  unfold ex_tok
  rw [Bool.and_eq_true]
  refine ⟨by decide +kernel, ?_⟩
  show List.all [bX12_operand_0, bX12_operand_1, bX12_operand_2, bX12_operand_3, bX12_operand_4, bX12_operand_5, bX12_operand_6] _ = true
  simp only [List.all_cons, List.all_nil, ok_X12_operand_0, ok_X12_operand_1, ok_X12_operand_2, ok_X12_operand_3, ok_X12_operand_4, ok_X12_operand_5, ok_X12_operand_6, Bool.and_true]
theorem ok_X12_paid : ex_tok ex_mt tX12_paid = true := by decide +kernel
theorem ok_X12_part : ex_tok ex_mt tX12_part = true := by decide +kernel
theorem ok_X12_passes : ex_tok ex_mt tX12_passes = true := by decide +kernel
theorem ok_X12_peek : ex_tok ex_mt tX12_peek = true := by decide +kernel
theorem ok_X12_penceBy : ex_tok ex_mt tX12_penceBy = true := by decide +kernel
theorem ok_X12_plan : ex_tok ex_mt tX12_plan = true := by decide +kernel
theorem ok_X12_planOf : ex_tok ex_mt tX12_planOf = true := by decide +kernel
theorem ok_X12_plans : ex_tok ex_mt tX12_plans = true := by decide +kernel
theorem ok_X12_puts : ex_tok ex_mt tX12_puts = true := by decide +kernel
theorem ok_X12_race_0 : bX12_race_0.all (fun e => ex_chk ex_mt tX12_race e) = true := by decide +kernel
theorem ok_X12_race_1 : bX12_race_1.all (fun e => ex_chk ex_mt tX12_race e) = true := by decide +kernel
theorem ok_X12_race_2 : bX12_race_2.all (fun e => ex_chk ex_mt tX12_race e) = true := by decide +kernel
theorem ok_X12_race_3 : bX12_race_3.all (fun e => ex_chk ex_mt tX12_race e) = true := by decide +kernel
theorem ok_X12_race_4 : bX12_race_4.all (fun e => ex_chk ex_mt tX12_race e) = true := by decide +kernel
theorem ok_X12_race_5 : bX12_race_5.all (fun e => ex_chk ex_mt tX12_race e) = true := by decide +kernel
theorem ok_X12_race_6 : bX12_race_6.all (fun e => ex_chk ex_mt tX12_race e) = true := by decide +kernel
theorem ok_X12_race_7 : bX12_race_7.all (fun e => ex_chk ex_mt tX12_race e) = true := by decide +kernel
theorem ok_X12_race_8 : bX12_race_8.all (fun e => ex_chk ex_mt tX12_race e) = true := by decide +kernel
theorem ok_X12_race_9 : bX12_race_9.all (fun e => ex_chk ex_mt tX12_race e) = true := by decide +kernel
theorem ok_X12_race_10 : bX12_race_10.all (fun e => ex_chk ex_mt tX12_race e) = true := by decide +kernel
