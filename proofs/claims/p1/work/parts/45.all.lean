theorem ok_row0 : ([tL_law, tJ7_fill_53178, tL_curve, tL_earns, tL_gain, tL_meant, tL_plan, tL_window, tL_yet, tX0_init, tX10_append, tX10_byteAt, tX10_hasRoom, tX10_init] : List ex_T).all (fun T => ex_tok ex_mt T) = true := by
  simp only [List.all_cons, List.all_nil, ok_L_law, ok_J7_fill_53178, ok_L_curve, ok_L_earns, ok_L_gain, ok_L_meant, ok_L_plan, ok_L_window, ok_L_yet, ok_X0_init, ok_X10_append, ok_X10_byteAt, ok_X10_hasRoom, ok_X10_init, Bool.and_true]
theorem ok_row1 : ([tX11_begin, tX11_best, tX11_better, tX11_border, tX11_canDraw, tX11_change, tX11_copyRow, tX11_count, tX11_curve, tX11_drawn, tX11_earns, tX11_end, tX11_entry, tX11_fault] : List ex_T).all (fun T => ex_tok ex_mt T) = true := by
  simp only [List.all_cons, List.all_nil, ok_X11_begin, ok_X11_best, ok_X11_better, ok_X11_border, ok_X11_canDraw, ok_X11_change, ok_X11_copyRow, ok_X11_count, ok_X11_curve, ok_X11_drawn, ok_X11_earns, ok_X11_end, ok_X11_entry, ok_X11_fault, Bool.and_true]
theorem ok_row2 : ([tX11_feed, tX11_gain, tX11_heard, tX11_idle, tX11_image, tX11_imageAt, tX11_init, tX11_isPart, tX11_keepIfDone, tX11_keepTrial, tX11_latest, tX11_log, tX11_logged, tX11_luckiest] : List ex_T).all (fun T => ex_tok ex_mt T) = true := by
  simp only [List.all_cons, List.all_nil, ok_X11_feed, ok_X11_gain, ok_X11_heard, ok_X11_idle, ok_X11_image, ok_X11_imageAt, ok_X11_init, ok_X11_isPart, ok_X11_keepIfDone, ok_X11_keepTrial, ok_X11_latest, ok_X11_log, ok_X11_logged, ok_X11_luckiest, Bool.and_true]
theorem ok_row3 : ([tX11_meant, tX11_needs, tX11_now, tX11_plan, tX11_put, tX11_race, tX11_restore, tX11_said, tX11_sale, tX11_sell, tX11_sellers, tX11_sentence, tX11_share, tX11_stand] : List ex_T).all (fun T => ex_tok ex_mt T) = true := by
  simp only [List.all_cons, List.all_nil, ok_X11_meant, ok_X11_needs, ok_X11_now, ok_X11_plan, ok_X11_put, ok_X11_race, ok_X11_restore, ok_X11_said, ok_X11_sale, ok_X11_sell, ok_X11_sellers, ok_X11_sentence, ok_X11_share, ok_X11_stand, Bool.and_true]
theorem ok_row4 : ([tX11_station, tX11_stood, tX11_train, tX11_trust, tX11_undo, tX11_waits, tX11_walk, tX11_weekly, tX11_window, tX11_yet, tX12_bad, tX12_begin, tX12_best, tX12_better] : List ex_T).all (fun T => ex_tok ex_mt T) = true := by
  simp only [List.all_cons, List.all_nil, ok_X11_station, ok_X11_stood, ok_X11_train, ok_X11_trust, ok_X11_undo, ok_X11_waits, ok_X11_walk, ok_X11_weekly, ok_X11_window, ok_X11_yet, ok_X12_bad, ok_X12_begin, ok_X12_best, ok_X12_better, Bool.and_true]
theorem ok_row5 : ([tX12_border, tX12_canAct, tX12_change, tX12_clears, tX12_comes, tX12_count, tX12_curve, tX12_drawn, tX12_earns, tX12_end, tX12_fault, tX12_feed, tX12_four, tX12_gain] : List ex_T).all (fun T => ex_tok ex_mt T) = true := by
  simp only [List.all_cons, List.all_nil, ok_X12_border, ok_X12_canAct, ok_X12_change, ok_X12_clears, ok_X12_comes, ok_X12_count, ok_X12_curve, ok_X12_drawn, ok_X12_earns, ok_X12_end, ok_X12_fault, ok_X12_feed, ok_X12_four, ok_X12_gain, Bool.and_true]
theorem ok_row6 : ([tX12_greater, tX12_heard, tX12_hears, tX12_idle, tX12_image, tX12_init, tX12_isIn, tX12_isSign, tX12_isThere, tX12_isWindow, tX12_isWord, tX12_keep, tX12_latest, tX12_leafOf] : List ex_T).all (fun T => ex_tok ex_mt T) = true := by
  simp only [List.all_cons, List.all_nil, ok_X12_greater, ok_X12_heard, ok_X12_hears, ok_X12_idle, ok_X12_image, ok_X12_init, ok_X12_isIn, ok_X12_isSign, ok_X12_isThere, ok_X12_isWindow, ok_X12_isWord, ok_X12_keep, ok_X12_latest, ok_X12_leafOf, Bool.and_true]
theorem ok_row7 : ([tX12_log, tX12_logged, tX12_luckiest, tX12_meant, tX12_needs, tX12_next, tX12_now, tX12_off, tX12_operand, tX12_peek, tX12_plan, tX12_race, tX12_restore, tX12_rowGain] : List ex_T).all (fun T => ex_tok ex_mt T) = true := by
  simp only [List.all_cons, List.all_nil, ok_X12_log, ok_X12_logged, ok_X12_luckiest, ok_X12_meant, ok_X12_needs, ok_X12_next, ok_X12_now, ok_X12_off, ok_X12_operand, ok_X12_peek, ok_X12_plan, ok_X12_race, ok_X12_restore, ok_X12_rowGain, Bool.and_true]
theorem ok_row8 : ([tX12_said, tX12_sale, tX12_secondsOf, tX12_sell, tX12_sellers, tX12_sentence, tX12_share, tX12_stand, tX12_standMany, tX12_standing, tX12_station, tX12_stood, tX12_taken, tX12_thrown] : List ex_T).all (fun T => ex_tok ex_mt T) = true := by
  simp only [List.all_cons, List.all_nil, ok_X12_said, ok_X12_sale, ok_X12_secondsOf, ok_X12_sell, ok_X12_sellers, ok_X12_sentence, ok_X12_share, ok_X12_stand, ok_X12_standMany, ok_X12_standing, ok_X12_station, ok_X12_stood, ok_X12_taken, ok_X12_thrown, Bool.and_true]
theorem ok_row9 : ([tX12_throwsIf, tX12_train, tX12_trust, tX12_undo, tX12_waits, tX12_walk, tX12_weekly, tX12_weightOf, tX12_whySell, tX12_whyWait, tX12_whyWalk, tX12_window, tX12_yet, tX1_init] : List ex_T).all (fun T => ex_tok ex_mt T) = true := by
  simp only [List.all_cons, List.all_nil, ok_X12_throwsIf, ok_X12_train, ok_X12_trust, ok_X12_undo, ok_X12_waits, ok_X12_walk, ok_X12_weekly, ok_X12_weightOf, ok_X12_whySell, ok_X12_whyWait, ok_X12_whyWalk, ok_X12_window, ok_X12_yet, ok_X1_init, Bool.and_true]
theorem ok_row10 : ([tX1_keep, tX2_init, tX2_judge, tX2_readFrom, tX3_add, tX3_clear, tX3_init, tX3_sceneAt, tX3_takeBack, tX4_clearRests, tX4_forget, tX4_init, tX4_prepareBest, tX4_prepareGains] : List ex_T).all (fun T => ex_tok ex_mt T) = true := by
  simp only [List.all_cons, List.all_nil, ok_X1_keep, ok_X2_init, ok_X2_judge, ok_X2_readFrom, ok_X3_add, ok_X3_clear, ok_X3_init, ok_X3_sceneAt, ok_X3_takeBack, ok_X4_clearRests, ok_X4_forget, ok_X4_init, ok_X4_prepareBest, ok_X4_prepareGains, Bool.and_true]
theorem ok_row11 : ([tX4_prepareStarts, tX4_rowGain, tX4_traceBest, tX5_init, tX6_hasMore, tX6_init, tX6_isAt, tX6_open, tX6_refuse, tX6_step, tX6_wordOf, tX7_canAct, tX7_clear, tX7_comes] : List ex_T).all (fun T => ex_tok ex_mt T) = true := by
  simp only [List.all_cons, List.all_nil, ok_X4_prepareStarts, ok_X4_rowGain, ok_X4_traceBest, ok_X5_init, ok_X6_hasMore, ok_X6_init, ok_X6_isAt, ok_X6_open, ok_X6_refuse, ok_X6_step, ok_X6_wordOf, ok_X7_canAct, ok_X7_clear, ok_X7_comes, Bool.and_true]
theorem ok_row12 : ([tX7_copyFrom, tX7_init, tX7_isThere, tX7_rests, tX7_salesOf, tX7_sells, tX7_walks, tX8_clear, tX8_copyFrom, tX8_init, tX8_readCond, tX8_readFrom, tX8_readOne, tX9_addUsualStand] : List ex_T).all (fun T => ex_tok ex_mt T) = true := by
  simp only [List.all_cons, List.all_nil, ok_X7_copyFrom, ok_X7_init, ok_X7_isThere, ok_X7_rests, ok_X7_salesOf, ok_X7_sells, ok_X7_walks, ok_X8_clear, ok_X8_copyFrom, ok_X8_init, ok_X8_readCond, ok_X8_readFrom, ok_X8_readOne, ok_X9_addUsualStand, Bool.and_true]
theorem ok_row13 : ([tX9_basket, tX9_clear, tX9_copyFrom, tX9_has, tX9_init, tX9_longest, tX9_readFrom, tX9_secondsOf, tX9_settingOf, tX9_weightFrom, tX9_weightOf] : List ex_T).all (fun T => ex_tok ex_mt T) = true := by
  simp only [List.all_cons, List.all_nil, ok_X9_basket, ok_X9_clear, ok_X9_copyFrom, ok_X9_has, ok_X9_init, ok_X9_longest, ok_X9_readFrom, ok_X9_secondsOf, ok_X9_settingOf, ok_X9_weightFrom, ok_X9_weightOf, Bool.and_true]
theorem ex_mt_ok : ∀ mi T, ex_mt mi = some T → ex_tok ex_mt T = true := by
  intro mi T h
  unfold ex_mt at h
  split at h
  · rename_i l hl
    have hm := ex_nth_mem hl
    have ht := ex_nth_mem h
    have key : ∀ l ∈ ex_ms, l.all (fun T => ex_tok ex_mt T) = true := by
      unfold ex_ms
      simp only [List.forall_mem_cons, List.not_mem_nil, false_imp_iff, implies_true, and_true, ok_row0, ok_row1, ok_row2, ok_row3, ok_row4, ok_row5, ok_row6, ok_row7, ok_row8, ok_row9, ok_row10, ok_row11, ok_row12, ok_row13]
    exact List.all_eq_true.mp (key l hm) T ht
  · cases h
