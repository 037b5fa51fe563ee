/-! the tables keep to what they must (written by a program) -/
theorem ok_X12_change_0 : bX12_change_0.all (fun e => ex_chk ex_mt tX12_change e) = true := by decide +kernel
theorem ok_X12_change_1 : bX12_change_1.all (fun e => ex_chk ex_mt tX12_change e) = true := by decide +kernel
theorem ok_X12_change_2 : bX12_change_2.all (fun e => ex_chk ex_mt tX12_change e) = true := by decide +kernel
theorem ok_X12_change_3 : bX12_change_3.all (fun e => ex_chk ex_mt tX12_change e) = true := by decide +kernel
theorem ok_X12_change : ex_tok ex_mt tX12_change = true := by
  unfold ex_tok
  rw [Bool.and_eq_true]
  refine ⟨by decide +kernel, ?_⟩
  show List.all [bX12_change_0, bX12_change_1, bX12_change_2, bX12_change_3] _ = true
  simp only [List.all_cons, List.all_nil, ok_X12_change_0, ok_X12_change_1, ok_X12_change_2, ok_X12_change_3, Bool.and_true]
theorem ok_X12_chooses_0 : bX12_chooses_0.all (fun e => ex_chk ex_mt tX12_chooses e) = true := by decide +kernel
theorem ok_X12_chooses_1 : bX12_chooses_1.all (fun e => ex_chk ex_mt tX12_chooses e) = true := by decide +kernel
theorem ok_X12_chooses_2 : bX12_chooses_2.all (fun e => ex_chk ex_mt tX12_chooses e) = true := by decide +kernel
theorem ok_X12_chooses_3 : bX12_chooses_3.all (fun e => ex_chk ex_mt tX12_chooses e) = true := by decide +kernel
theorem ok_X12_chooses_4 : bX12_chooses_4.all (fun e => ex_chk ex_mt tX12_chooses e) = true := by decide +kernel
theorem ok_X12_chooses_5 : bX12_chooses_5.all (fun e => ex_chk ex_mt tX12_chooses e) = true := by decide +kernel
theorem ok_X12_chooses : ex_tok ex_mt tX12_chooses = true := by
  unfold ex_tok
  rw [Bool.and_eq_true]
  refine ⟨by decide +kernel, ?_⟩
  show List.all [bX12_chooses_0, bX12_chooses_1, bX12_chooses_2, bX12_chooses_3, bX12_chooses_4, bX12_chooses_5] _ = true
  simp only [List.all_cons, List.all_nil, ok_X12_chooses_0, ok_X12_chooses_1, ok_X12_chooses_2, ok_X12_chooses_3, ok_X12_chooses_4, ok_X12_chooses_5, Bool.and_true]
theorem ok_X12_clears : ex_tok ex_mt tX12_clears = true := by decide +kernel
theorem ok_X12_clipped : ex_tok ex_mt tX12_clipped = true := by decide +kernel
theorem ok_X12_code : ex_tok ex_mt tX12_code = true := by decide +kernel
theorem ok_X12_coinFirst : ex_tok ex_mt tX12_coinFirst = true := by decide +kernel
theorem ok_X12_comes : ex_tok ex_mt tX12_comes = true := by decide +kernel
theorem ok_X12_count : ex_tok ex_mt tX12_count = true := by decide +kernel
theorem ok_X12_curve : ex_tok ex_mt tX12_curve = true := by decide +kernel
theorem ok_X12_deedOf : ex_tok ex_mt tX12_deedOf = true := by decide +kernel
theorem ok_X12_does_0 : bX12_does_0.all (fun e => ex_chk ex_mt tX12_does e) = true := by decide +kernel
theorem ok_X12_does_1 : bX12_does_1.all (fun e => ex_chk ex_mt tX12_does e) = true := by decide +kernel
theorem ok_X12_does_2 : bX12_does_2.all (fun e => ex_chk ex_mt tX12_does e) = true := by decide +kernel
theorem ok_X12_does_3 : bX12_does_3.all (fun e => ex_chk ex_mt tX12_does e) = true := by decide +kernel
theorem ok_X12_does_4 : bX12_does_4.all (fun e => ex_chk ex_mt tX12_does e) = true := by decide +kernel
theorem ok_X12_does_5 : bX12_does_5.all (fun e => ex_chk ex_mt tX12_does e) = true := by decide +kernel
theorem ok_X12_does : ex_tok ex_mt tX12_does = true := by
  unfold ex_tok
  rw [Bool.and_eq_true]
  refine ⟨by decide +kernel, ?_⟩
  show List.all [bX12_does_0, bX12_does_1, bX12_does_2, bX12_does_3, bX12_does_4, bX12_does_5] _ = true
  simp only [List.all_cons, List.all_nil, ok_X12_does_0, ok_X12_does_1, ok_X12_does_2, ok_X12_does_3, ok_X12_does_4, ok_X12_does_5, Bool.and_true]
theorem ok_X12_draw : ex_tok ex_mt tX12_draw = true := by decide +kernel
theorem ok_X12_drawn : ex_tok ex_mt tX12_drawn = true := by decide +kernel
theorem ok_X12_draws_0 : bX12_draws_0.all (fun e => ex_chk ex_mt tX12_draws e) = true := by decide +kernel
theorem ok_X12_draws_1 : bX12_draws_1.all (fun e => ex_chk ex_mt tX12_draws e) = true := by decide +kernel
theorem ok_X12_draws_2 : bX12_draws_2.all (fun e => ex_chk ex_mt tX12_draws e) = true := by decide +kernel
theorem ok_X12_draws_3 : bX12_draws_3.all (fun e => ex_chk ex_mt tX12_draws e) = true := by decide +kernel
theorem ok_X12_draws_4 : bX12_draws_4.all (fun e => ex_chk ex_mt tX12_draws e) = true := by decide +kernel
theorem ok_X12_draws_5 : bX12_draws_5.all (fun e => ex_chk ex_mt tX12_draws e) = true := by decide +kernel
theorem ok_X12_draws_6 : bX12_draws_6.all (fun e => ex_chk ex_mt tX12_draws e) = true := by decide +kernel
theorem ok_X12_draws : ex_tok ex_mt tX12_draws = true := by
  unfold ex_tok
  rw [Bool.and_eq_true]
  refine ⟨by decide +kernel, ?_⟩
  show List.all [bX12_draws_0, bX12_draws_1, bX12_draws_2, bX12_draws_3, bX12_draws_4, bX12_draws_5, bX12_draws_6] _ = true
  simp only [List.all_cons, List.all_nil, ok_X12_draws_0, ok_X12_draws_1, ok_X12_draws_2, ok_X12_draws_3, ok_X12_draws_4, ok_X12_draws_5, ok_X12_draws_6, Bool.and_true]
theorem ok_X12_earned : ex_tok ex_mt tX12_earned = true := by decide +kernel
theorem ok_X12_earns : ex_tok ex_mt tX12_earns = true := by decide +kernel
theorem ok_X12_end : ex_tok ex_mt tX12_end = true := by decide +kernel
theorem ok_X12_endOf : ex_tok ex_mt tX12_endOf = true := by decide +kernel
theorem ok_X12_fault : ex_tok ex_mt tX12_fault = true := by decide +kernel
theorem ok_X12_feed : ex_tok ex_mt tX12_feed = true := by decide +kernel
theorem ok_X12_four : ex_tok ex_mt tX12_four = true := by decide +kernel
theorem ok_X12_fruitFirst : ex_tok ex_mt tX12_fruitFirst = true := by decide +kernel
theorem ok_X12_gain : ex_tok ex_mt tX12_gain = true := by decide +kernel
theorem ok_X12_gainOf : ex_tok ex_mt tX12_gainOf = true := by decide +kernel
theorem ok_X12_greater : ex_tok ex_mt tX12_greater = true := by decide +kernel
theorem ok_X12_heard : ex_tok ex_mt tX12_heard = true := by decide +kernel
theorem ok_X12_hears : ex_tok ex_mt tX12_hears = true := by decide +kernel
theorem ok_X12_holds : ex_tok ex_mt tX12_holds = true := by decide +kernel
theorem ok_X12_idle : ex_tok ex_mt tX12_idle = true := by decide +kernel
theorem ok_X12_image : ex_tok ex_mt tX12_image = true := by decide +kernel
theorem ok_X12_init_0 : bX12_init_0.all (fun e => ex_chk ex_mt tX12_init e) = true := by decide +kernel
theorem ok_X12_init_1 : bX12_init_1.all (fun e => ex_chk ex_mt tX12_init e) = true := by decide +kernel
theorem ok_X12_init_2 : bX12_init_2.all (fun e => ex_chk ex_mt tX12_init e) = true := by decide +kernel
theorem ok_X12_init_3 : bX12_init_3.all (fun e => ex_chk ex_mt tX12_init e) = true := by decide +kernel
theorem ok_X12_init_4 : bX12_init_4.all (fun e => ex_chk ex_mt tX12_init e) = true := by decide +kernel
theorem ok_X12_init_5 : bX12_init_5.all (fun e => ex_chk ex_mt tX12_init e) = true := by decide +kernel
theorem ok_X12_init : ex_tok ex_mt tX12_init = true := by
  unfold ex_tok
  rw [Bool.and_eq_true]
  refine ⟨by decide +kernel, ?_⟩
  show List.all [bX12_init_0, bX12_init_1, bX12_init_2, bX12_init_3, bX12_init_4, bX12_init_5] _ = true
  simp only [List.all_cons, List.all_nil, ok_X12_init_0, ok_X12_init_1, ok_X12_init_2, ok_X12_init_3, ok_X12_init_4, ok_X12_init_5, Bool.and_true]
theorem ok_X12_isDigit : ex_tok ex_mt tX12_isDigit = true := by decide +kernel
theorem ok_X12_isIn : ex_tok ex_mt tX12_isIn = true := by decide +kernel
theorem ok_X12_isLeaf_0 : bX12_isLeaf_0.all (fun e => ex_chk ex_mt tX12_isLeaf e) = true := by decide +kernel
theorem ok_X12_isLeaf_1 : bX12_isLeaf_1.all (fun e => ex_chk ex_mt tX12_isLeaf e) = true := by decide +kernel
theorem ok_X12_isLeaf_2 : bX12_isLeaf_2.all (fun e => ex_chk ex_mt tX12_isLeaf e) = true := by decide +kernel
theorem ok_X12_isLeaf_3 : bX12_isLeaf_3.all (fun e => ex_chk ex_mt tX12_isLeaf e) = true := by decide +kernel
theorem ok_X12_isLeaf_4 : bX12_isLeaf_4.all (fun e => ex_chk ex_mt tX12_isLeaf e) = true := by decide +kernel
theorem ok_X12_isLeaf_5 : bX12_isLeaf_5.all (fun e => ex_chk ex_mt tX12_isLeaf e) = true := by decide +kernel
theorem ok_X12_isLeaf_6 : bX12_isLeaf_6.all (fun e => ex_chk ex_mt tX12_isLeaf e) = true := by decide +kernel
theorem ok_X12_isLeaf : ex_tok ex_mt tX12_isLeaf = true := by
  unfold ex_tok
  rw [Bool.and_eq_true]
  refine ⟨by decide +kernel, ?_⟩
  show List.all [bX12_isLeaf_0, bX12_isLeaf_1, bX12_isLeaf_2, bX12_isLeaf_3, bX12_isLeaf_4, bX12_isLeaf_5, bX12_isLeaf_6] _ = true
  simp only [List.all_cons, List.all_nil, ok_X12_isLeaf_0, ok_X12_isLeaf_1, ok_X12_isLeaf_2, ok_X12_isLeaf_3, ok_X12_isLeaf_4, ok_X12_isLeaf_5, ok_X12_isLeaf_6, Bool.and_true]
theorem ok_X12_isSaid_0 : bX12_isSaid_0.all (fun e => ex_chk ex_mt tX12_isSaid e) = true := by decide +kernel
theorem ok_X12_isSaid_1 : bX12_isSaid_1.all (fun e => ex_chk ex_mt tX12_isSaid e) = true := by decide +kernel
theorem ok_X12_isSaid_2 : bX12_isSaid_2.all (fun e => ex_chk ex_mt tX12_isSaid e) = true := by decide +kernel
theorem ok_X12_isSaid_3 : bX12_isSaid_3.all (fun e => ex_chk ex_mt tX12_isSaid e) = true := by decide +kernel
theorem ok_X12_isSaid_4 : bX12_isSaid_4.all (fun e => ex_chk ex_mt tX12_isSaid e) = true := by decide +kernel
theorem ok_X12_isSaid_5 : bX12_isSaid_5.all (fun e => ex_chk ex_mt tX12_isSaid e) = true := by decide +kernel
theorem ok_X12_isSaid_6 : bX12_isSaid_6.all (fun e => ex_chk ex_mt tX12_isSaid e) = true := by decide +kernel
theorem ok_X12_isSaid : ex_tok ex_mt tX12_isSaid = true := by
  unfold ex_tok
  rw [Bool.and_eq_true]
  refine ⟨by decide +kernel, ?_⟩
  show List.all [bX12_isSaid_0, bX12_isSaid_1, bX12_isSaid_2, bX12_isSaid_3, bX12_isSaid_4, bX12_isSaid_5, bX12_isSaid_6] _ = true
  simp only [List.all_cons, List.all_nil, ok_X12_isSaid_0, ok_X12_isSaid_1, ok_X12_isSaid_2, ok_X12_isSaid_3, ok_X12_isSaid_4, ok_X12_isSaid_5, ok_X12_isSaid_6, Bool.and_true]
theorem ok_X12_isSign : ex_tok ex_mt tX12_isSign = true := by decide +kernel
theorem ok_X12_isSmall : ex_tok ex_mt tX12_isSmall = true := by decide +kernel
theorem ok_X12_isThere : ex_tok ex_mt tX12_isThere = true := by decide +kernel
theorem ok_X12_isWindow : ex_tok ex_mt tX12_isWindow = true := by decide +kernel
theorem ok_X12_isWord : ex_tok ex_mt tX12_isWord = true := by decide +kernel
theorem ok_X12_joins : ex_tok ex_mt tX12_joins = true := by decide +kernel
theorem ok_X12_keep : ex_tok ex_mt tX12_keep = true := by decide +kernel
theorem ok_X12_latest : ex_tok ex_mt tX12_latest = true := by decide +kernel
