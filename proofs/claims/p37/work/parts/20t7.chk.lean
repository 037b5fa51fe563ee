/-! the tables keep to what they must (written by a program) -/
theorem ok_X3_takeBack : ex_tok ex_mt tX3_takeBack = true := by decide +kernel
theorem ok_X4_allEarn : ex_tok ex_mt tX4_allEarn = true := by decide +kernel
theorem ok_X4_choiceIndex : ex_tok ex_mt tX4_choiceIndex = true := by decide +kernel
theorem ok_X4_chosenSales : ex_tok ex_mt tX4_chosenSales = true := by decide +kernel
theorem ok_X4_clearRests : ex_tok ex_mt tX4_clearRests = true := by decide +kernel
theorem ok_X4_forget : ex_tok ex_mt tX4_forget = true := by decide +kernel
theorem ok_X4_gainInAll : ex_tok ex_mt tX4_gainInAll = true := by decide +kernel
theorem ok_X4_init : ex_tok ex_mt tX4_init = true := by decide +kernel
theorem ok_X4_keepChoice : ex_tok ex_mt tX4_keepChoice = true := by decide +kernel
theorem ok_X4_lastEnd : ex_tok ex_mt tX4_lastEnd = true := by decide +kernel
theorem ok_X4_measureDown : ex_tok ex_mt tX4_measureDown = true := by decide +kernel
theorem ok_X4_measureUp : ex_tok ex_mt tX4_measureUp = true := by decide +kernel
theorem ok_X4_noteSale : ex_tok ex_mt tX4_noteSale = true := by decide +kernel
theorem ok_X4_penceUntil : ex_tok ex_mt tX4_penceUntil = true := by decide +kernel
theorem ok_X4_prepareBest : ex_tok ex_mt tX4_prepareBest = true := by decide +kernel
theorem ok_X4_prepareGains : ex_tok ex_mt tX4_prepareGains = true := by decide +kernel
theorem ok_X4_prepareStarts_0 : bX4_prepareStarts_0.all (fun e => ex_chk ex_mt tX4_prepareStarts e) = true := by decide +kernel
theorem ok_X4_prepareStarts_1 : bX4_prepareStarts_1.all (fun e => ex_chk ex_mt tX4_prepareStarts e) = true := by decide +kernel
theorem ok_X4_prepareStarts_2 : bX4_prepareStarts_2.all (fun e => ex_chk ex_mt tX4_prepareStarts e) = true := by decide +kernel
theorem ok_X4_prepareStarts_3 : bX4_prepareStarts_3.all (fun e => ex_chk ex_mt tX4_prepareStarts e) = true := by decide +kernel
theorem ok_X4_prepareStarts : ex_tok ex_mt tX4_prepareStarts = true := by
  unfold ex_tok
  rw [Bool.and_eq_true]
  refine ⟨by decide +kernel, ?_⟩
  show List.all [bX4_prepareStarts_0, bX4_prepareStarts_1, bX4_prepareStarts_2, bX4_prepareStarts_3] _ = true
  simp only [List.all_cons, List.all_nil, ok_X4_prepareStarts_0, ok_X4_prepareStarts_1, ok_X4_prepareStarts_2, ok_X4_prepareStarts_3, Bool.and_true]
theorem ok_X4_putAhead_0 : bX4_putAhead_0.all (fun e => ex_chk ex_mt tX4_putAhead e) = true := by decide +kernel
theorem ok_X4_putAhead_1 : bX4_putAhead_1.all (fun e => ex_chk ex_mt tX4_putAhead e) = true := by decide +kernel
theorem ok_X4_putAhead_2 : bX4_putAhead_2.all (fun e => ex_chk ex_mt tX4_putAhead e) = true := by decide +kernel
theorem ok_X4_putAhead_3 : bX4_putAhead_3.all (fun e => ex_chk ex_mt tX4_putAhead e) = true := by decide +kernel
theorem ok_X4_putAhead_4 : bX4_putAhead_4.all (fun e => ex_chk ex_mt tX4_putAhead e) = true := by decide +kernel
theorem ok_X4_putAhead_5 : bX4_putAhead_5.all (fun e => ex_chk ex_mt tX4_putAhead e) = true := by decide +kernel
theorem ok_X4_putAhead_6 : bX4_putAhead_6.all (fun e => ex_chk ex_mt tX4_putAhead e) = true := by decide +kernel
theorem ok_X4_putAhead : ex_tok ex_mt tX4_putAhead = true := by
  unfold ex_tok
  rw [Bool.and_eq_true]
  refine ⟨by decide +kernel, ?_⟩
  show List.all [bX4_putAhead_0, bX4_putAhead_1, bX4_putAhead_2, bX4_putAhead_3, bX4_putAhead_4, bX4_putAhead_5, bX4_putAhead_6] _ = true
  simp only [List.all_cons, List.all_nil, ok_X4_putAhead_0, ok_X4_putAhead_1, ok_X4_putAhead_2, ok_X4_putAhead_3, ok_X4_putAhead_4, ok_X4_putAhead_5, ok_X4_putAhead_6, Bool.and_true]
theorem ok_X4_restFrom : ex_tok ex_mt tX4_restFrom = true := by decide +kernel
theorem ok_X4_rowGain : ex_tok ex_mt tX4_rowGain = true := by decide +kernel
theorem ok_X4_saleEnd : ex_tok ex_mt tX4_saleEnd = true := by decide +kernel
theorem ok_X4_saleSecond : ex_tok ex_mt tX4_saleSecond = true := by decide +kernel
theorem ok_X4_saleWay : ex_tok ex_mt tX4_saleWay = true := by decide +kernel
theorem ok_X4_saleWindow : ex_tok ex_mt tX4_saleWindow = true := by decide +kernel
theorem ok_X4_sellerGain : ex_tok ex_mt tX4_sellerGain = true := by decide +kernel
theorem ok_X4_startGain : ex_tok ex_mt tX4_startGain = true := by decide +kernel
theorem ok_X4_startIndex : ex_tok ex_mt tX4_startIndex = true := by decide +kernel
theorem ok_X4_traceBest_0 : bX4_traceBest_0.all (fun e => ex_chk ex_mt tX4_traceBest e) = true := by decide +kernel
theorem ok_X4_traceBest_1 : bX4_traceBest_1.all (fun e => ex_chk ex_mt tX4_traceBest e) = true := by decide +kernel
theorem ok_X4_traceBest_2 : bX4_traceBest_2.all (fun e => ex_chk ex_mt tX4_traceBest e) = true := by decide +kernel
theorem ok_X4_traceBest_3 : bX4_traceBest_3.all (fun e => ex_chk ex_mt tX4_traceBest e) = true := by decide +kernel
theorem ok_X4_traceBest_4 : bX4_traceBest_4.all (fun e => ex_chk ex_mt tX4_traceBest e) = true := by decide +kernel
theorem ok_X4_traceBest_5 : bX4_traceBest_5.all (fun e => ex_chk ex_mt tX4_traceBest e) = true := by decide +kernel
theorem ok_X4_traceBest_6 : bX4_traceBest_6.all (fun e => ex_chk ex_mt tX4_traceBest e) = true := by decide +kernel
theorem ok_X4_traceBest : ex_tok ex_mt tX4_traceBest = true := by
  unfold ex_tok
  rw [Bool.and_eq_true]
  refine ⟨by decide +kernel, ?_⟩
  show List.all [bX4_traceBest_0, bX4_traceBest_1, bX4_traceBest_2, bX4_traceBest_3, bX4_traceBest_4, bX4_traceBest_5, bX4_traceBest_6] _ = true
  simp only [List.all_cons, List.all_nil, ok_X4_traceBest_0, ok_X4_traceBest_1, ok_X4_traceBest_2, ok_X4_traceBest_3, ok_X4_traceBest_4, ok_X4_traceBest_5, ok_X4_traceBest_6, Bool.and_true]
theorem ok_X4_weighSales : ex_tok ex_mt tX4_weighSales = true := by decide +kernel
theorem ok_X5_init : ex_tok ex_mt tX5_init = true := by decide +kernel
theorem ok_X5_isAhead : ex_tok ex_mt tX5_isAhead = true := by decide +kernel
theorem ok_X5_prepare : ex_tok ex_mt tX5_prepare = true := by decide +kernel
theorem ok_X5_visit_0 : bX5_visit_0.all (fun e => ex_chk ex_mt tX5_visit e) = true := by decide +kernel
theorem ok_X5_visit_1 : bX5_visit_1.all (fun e => ex_chk ex_mt tX5_visit e) = true := by decide +kernel
theorem ok_X5_visit_2 : bX5_visit_2.all (fun e => ex_chk ex_mt tX5_visit e) = true := by decide +kernel
theorem ok_X5_visit_3 : bX5_visit_3.all (fun e => ex_chk ex_mt tX5_visit e) = true := by decide +kernel
theorem ok_X5_visit_4 : bX5_visit_4.all (fun e => ex_chk ex_mt tX5_visit e) = true := by decide +kernel
theorem ok_X5_visit : ex_tok ex_mt tX5_visit = true := by
  unfold ex_tok
  rw [Bool.and_eq_true]
  refine ⟨by decide +kernel, ?_⟩
  show List.all [bX5_visit_0, bX5_visit_1, bX5_visit_2, bX5_visit_3, bX5_visit_4] _ = true
  simp only [List.all_cons, List.all_nil, ok_X5_visit_0, ok_X5_visit_1, ok_X5_visit_2, ok_X5_visit_3, ok_X5_visit_4, Bool.and_true]
theorem ok_X6_hasMore : ex_tok ex_mt tX6_hasMore = true := by decide +kernel
theorem ok_X6_init : ex_tok ex_mt tX6_init = true := by decide +kernel
theorem ok_X6_isAt : ex_tok ex_mt tX6_isAt = true := by decide +kernel
theorem ok_X6_isBlank : ex_tok ex_mt tX6_isBlank = true := by decide +kernel
theorem ok_X6_isDigit : ex_tok ex_mt tX6_isDigit = true := by decide +kernel
theorem ok_X6_isLetter : ex_tok ex_mt tX6_isLetter = true := by decide +kernel
theorem ok_X6_isSign : ex_tok ex_mt tX6_isSign = true := by decide +kernel
theorem ok_X6_open : ex_tok ex_mt tX6_open = true := by decide +kernel
theorem ok_X6_readRun_0 : bX6_readRun_0.all (fun e => ex_chk ex_mt tX6_readRun e) = true := by decide +kernel
theorem ok_X6_readRun_1 : bX6_readRun_1.all (fun e => ex_chk ex_mt tX6_readRun e) = true := by decide +kernel
theorem ok_X6_readRun_2 : bX6_readRun_2.all (fun e => ex_chk ex_mt tX6_readRun e) = true := by decide +kernel
theorem ok_X6_readRun_3 : bX6_readRun_3.all (fun e => ex_chk ex_mt tX6_readRun e) = true := by decide +kernel
theorem ok_X6_readRun_4 : bX6_readRun_4.all (fun e => ex_chk ex_mt tX6_readRun e) = true := by decide +kernel
theorem ok_X6_readRun : ex_tok ex_mt tX6_readRun = true := by
  unfold ex_tok
  rw [Bool.and_eq_true]
  refine ⟨by decide +kernel, ?_⟩
  show List.all [bX6_readRun_0, bX6_readRun_1, bX6_readRun_2, bX6_readRun_3, bX6_readRun_4] _ = true
  simp only [List.all_cons, List.all_nil, ok_X6_readRun_0, ok_X6_readRun_1, ok_X6_readRun_2, ok_X6_readRun_3, ok_X6_readRun_4, Bool.and_true]
theorem ok_X6_refuse : ex_tok ex_mt tX6_refuse = true := by decide +kernel
theorem ok_X6_seesNumber : ex_tok ex_mt tX6_seesNumber = true := by decide +kernel
theorem ok_X6_step_0 : bX6_step_0.all (fun e => ex_chk ex_mt tX6_step e) = true := by decide +kernel
theorem ok_X6_step_1 : bX6_step_1.all (fun e => ex_chk ex_mt tX6_step e) = true := by decide +kernel
theorem ok_X6_step_2 : bX6_step_2.all (fun e => ex_chk ex_mt tX6_step e) = true := by decide +kernel
theorem ok_X6_step_3 : bX6_step_3.all (fun e => ex_chk ex_mt tX6_step e) = true := by decide +kernel
theorem ok_X6_step_4 : bX6_step_4.all (fun e => ex_chk ex_mt tX6_step e) = true := by decide +kernel
theorem ok_X6_step_5 : bX6_step_5.all (fun e => ex_chk ex_mt tX6_step e) = true := by decide +kernel
theorem ok_X6_step_6 : bX6_step_6.all (fun e => ex_chk ex_mt tX6_step e) = true := by decide +kernel
theorem ok_X6_step : ex_tok ex_mt tX6_step = true := by
  unfold ex_tok
  rw [Bool.and_eq_true]
  refine ⟨by decide +kernel, ?_⟩
  show List.all [bX6_step_0, bX6_step_1, bX6_step_2, bX6_step_3, bX6_step_4, bX6_step_5, bX6_step_6] _ = true
  simp only [List.all_cons, List.all_nil, ok_X6_step_0, ok_X6_step_1, ok_X6_step_2, ok_X6_step_3, ok_X6_step_4, ok_X6_step_5, ok_X6_step_6, Bool.and_true]
theorem ok_X6_takesSign : ex_tok ex_mt tX6_takesSign = true := by decide +kernel
theorem ok_X6_wordOf_0 : bX6_wordOf_0.all (fun e => ex_chk ex_mt tX6_wordOf e) = true := by decide +kernel
theorem ok_X6_wordOf_1 : bX6_wordOf_1.all (fun e => ex_chk ex_mt tX6_wordOf e) = true := by decide +kernel
theorem ok_X6_wordOf_2 : bX6_wordOf_2.all (fun e => ex_chk ex_mt tX6_wordOf e) = true := by decide +kernel
theorem ok_X6_wordOf_3 : bX6_wordOf_3.all (fun e => ex_chk ex_mt tX6_wordOf e) = true := by decide +kernel
theorem ok_X6_wordOf_4 : bX6_wordOf_4.all (fun e => ex_chk ex_mt tX6_wordOf e) = true := by decide +kernel
theorem ok_X6_wordOf : ex_tok ex_mt tX6_wordOf = true := by
  unfold ex_tok
  rw [Bool.and_eq_true]
  refine ⟨by decide +kernel, ?_⟩
  show List.all [bX6_wordOf_0, bX6_wordOf_1, bX6_wordOf_2, bX6_wordOf_3, bX6_wordOf_4] _ = true
  simp only [List.all_cons, List.all_nil, ok_X6_wordOf_0, ok_X6_wordOf_1, ok_X6_wordOf_2, ok_X6_wordOf_3, ok_X6_wordOf_4, Bool.and_true]
theorem ok_X7_book_0 : bX7_book_0.all (fun e => ex_chk ex_mt tX7_book e) = true := by decide +kernel
theorem ok_X7_book_1 : bX7_book_1.all (fun e => ex_chk ex_mt tX7_book e) = true := by decide +kernel
theorem ok_X7_book_2 : bX7_book_2.all (fun e => ex_chk ex_mt tX7_book e) = true := by decide +kernel
theorem ok_X7_book_3 : bX7_book_3.all (fun e => ex_chk ex_mt tX7_book e) = true := by decide +kernel
theorem ok_X7_book : ex_tok ex_mt tX7_book = true := by
  unfold ex_tok
  rw [Bool.and_eq_true]
  refine ⟨by decide +kernel, ?_⟩
  show List.all [bX7_book_0, bX7_book_1, bX7_book_2, bX7_book_3] _ = true
  simp only [List.all_cons, List.all_nil, ok_X7_book_0, ok_X7_book_1, ok_X7_book_2, ok_X7_book_3, Bool.and_true]
theorem ok_X7_boughtBy : ex_tok ex_mt tX7_boughtBy = true := by decide +kernel
theorem ok_X7_boughtInAllBy : ex_tok ex_mt tX7_boughtInAllBy = true := by decide +kernel
theorem ok_X7_canAct : ex_tok ex_mt tX7_canAct = true := by decide +kernel
theorem ok_X7_clear : ex_tok ex_mt tX7_clear = true := by decide +kernel
theorem ok_X7_coinResult : ex_tok ex_mt tX7_coinResult = true := by decide +kernel
