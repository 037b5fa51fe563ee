/-! the tables keep to what they must (written by a program) -/
theorem ok_X12_four : ex_tok ex_mt tX12_four = true := by decide +kernel
theorem ok_X12_gain : ex_tok ex_mt tX12_gain = true := by decide +kernel
theorem ok_X12_greater : ex_tok ex_mt tX12_greater = true := by decide +kernel
theorem ok_X12_heard : ex_tok ex_mt tX12_heard = true := by decide +kernel
theorem ok_X12_hears : ex_tok ex_mt tX12_hears = true := by decide +kernel
theorem ok_X12_idle : ex_tok ex_mt tX12_idle = true := by decide +kernel
theorem ok_X12_image : ex_tok ex_mt tX12_image = true := by decide +kernel
theorem ok_X12_init_0 : bX12_init_0.all (fun e => ex_chk ex_mt tX12_init e) = true := by decide +kernel
theorem ok_X12_init_1 : bX12_init_1.all (fun e => ex_chk ex_mt tX12_init e) = true := by decide +kernel
theorem ok_X12_init_2 : bX12_init_2.all (fun e => ex_chk ex_mt tX12_init e) = true := by decide +kernel
theorem ok_X12_init_3 : bX12_init_3.all (fun e => ex_chk ex_mt tX12_init e) = true := by decide +kernel
theorem ok_X12_init_4 : bX12_init_4.all (fun e => ex_chk ex_mt tX12_init e) = true := by decide +kernel
theorem ok_X12_init_5 : bX12_init_5.all (fun e => ex_chk ex_mt tX12_init e) = true := by decide +kernel
theorem ok_X12_init : ex_tok ex_mt tX12_init = true := by
  unfold ex_tok
  rw [Bool.and_eq_true]
  refine ⟨by decide +kernel, ?_⟩
  show List.all [bX12_init_0, bX12_init_1, bX12_init_2, bX12_init_3, bX12_init_4, bX12_init_5] _ = true
  simp only [List.all_cons, List.all_nil, ok_X12_init_0, ok_X12_init_1, ok_X12_init_2, ok_X12_init_3, ok_X12_init_4, ok_X12_init_5, Bool.and_true]
theorem ok_X12_isIn : ex_tok ex_mt tX12_isIn = true := by decide +kernel
theorem ok_X12_isSign : ex_tok ex_mt tX12_isSign = true := by decide +kernel
theorem ok_X12_isThere : ex_tok ex_mt tX12_isThere = true := by decide +kernel
theorem ok_X12_isWindow : ex_tok ex_mt tX12_isWindow = true := by decide +kernel
theorem ok_X12_isWord : ex_tok ex_mt tX12_isWord = true := by decide +kernel
theorem ok_X12_keep : ex_tok ex_mt tX12_keep = true := by decide +kernel
theorem ok_X12_latest : ex_tok ex_mt tX12_latest = true := by decide +kernel
theorem ok_X12_leafOf : ex_tok ex_mt tX12_leafOf = true := by decide +kernel
theorem ok_X12_log_0 : bX12_log_0.all (fun e => ex_chk ex_mt tX12_log e) = true := by decide +kernel
theorem ok_X12_log_1 : bX12_log_1.all (fun e => ex_chk ex_mt tX12_log e) = true := by decide +kernel
theorem ok_X12_log_2 : bX12_log_2.all (fun e => ex_chk ex_mt tX12_log e) = true := by decide +kernel
theorem ok_X12_log_3 : bX12_log_3.all (fun e => ex_chk ex_mt tX12_log e) = true := by decide +kernel
theorem ok_X12_log_4 : bX12_log_4.all (fun e => ex_chk ex_mt tX12_log e) = true := by decide +kernel
theorem ok_X12_log_6 : bX12_log_6.all (fun e => ex_chk ex_mt tX12_log e) = true := by decide +kernel
theorem ok_X12_log_7 : bX12_log_7.all (fun e => ex_chk ex_mt tX12_log e) = true := by decide +kernel
theorem ok_X12_log_8 : bX12_log_8.all (fun e => ex_chk ex_mt tX12_log e) = true := by decide +kernel
theorem ok_X12_log_9 : bX12_log_9.all (fun e => ex_chk ex_mt tX12_log e) = true := by decide +kernel
theorem ok_X12_log_10 : bX12_log_10.all (fun e => ex_chk ex_mt tX12_log e) = true := by decide +kernel
theorem ok_X12_log : ex_tok ex_mt tX12_log = true := by
  unfold ex_tok
  rw [Bool.and_eq_true]
  refine ⟨by decide +kernel, ?_⟩
  show List.all [bX12_log_0, bX12_log_1, bX12_log_2, bX12_log_3, bX12_log_4, [], bX12_log_6, bX12_log_7, bX12_log_8, bX12_log_9, bX12_log_10] _ = true
  simp only [List.all_cons, List.all_nil, ok_X12_log_0, ok_X12_log_1, ok_X12_log_2, ok_X12_log_3, ok_X12_log_4, ok_X12_log_6, ok_X12_log_7, ok_X12_log_8, ok_X12_log_9, ok_X12_log_10, Bool.and_true]
theorem ok_X12_logged : ex_tok ex_mt tX12_logged = true := by decide +kernel
theorem ok_X12_luckiest : ex_tok ex_mt tX12_luckiest = true := by decide +kernel
theorem ok_X12_meant : ex_tok ex_mt tX12_meant = true := by decide +kernel
theorem ok_X12_needs : ex_tok ex_mt tX12_needs = true := by decide +kernel
theorem ok_X12_next : ex_tok ex_mt tX12_next = true := by decide +kernel
theorem ok_X12_now : ex_tok ex_mt tX12_now = true := by decide +kernel
