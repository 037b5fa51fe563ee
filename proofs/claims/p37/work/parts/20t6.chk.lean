/-! the tables keep to what they must (written by a program) -/
theorem ok_X12_race_11 : bX12_race_11.all (fun e => ex_chk ex_mt tX12_race e) = true := by decide +kernel
theorem ok_X12_race : ex_tok ex_mt tX12_race = true := by
  unfold ex_tok
  rw [Bool.and_eq_true]
  refine ⟨by decide +kernel, ?_⟩
  show List.all [bX12_race_0, bX12_race_1, bX12_race_2, bX12_race_3, bX12_race_4, bX12_race_5, bX12_race_6, bX12_race_7, bX12_race_8, bX12_race_9, bX12_race_10, bX12_race_11] _ = true
  simp only [List.all_cons, List.all_nil, ok_X12_race_0, ok_X12_race_1, ok_X12_race_2, ok_X12_race_3, ok_X12_race_4, ok_X12_race_5, ok_X12_race_6, ok_X12_race_7, ok_X12_race_8, ok_X12_race_9, ok_X12_race_10, ok_X12_race_11, Bool.and_true]
theorem ok_X12_restore : ex_tok ex_mt tX12_restore = true := by decide +kernel
theorem ok_X12_rowFrom : ex_tok ex_mt tX12_rowFrom = true := by decide +kernel
theorem ok_X12_rowGain : ex_tok ex_mt tX12_rowGain = true := by decide +kernel
theorem ok_X12_said : ex_tok ex_mt tX12_said = true := by decide +kernel
theorem ok_X12_sale : ex_tok ex_mt tX12_sale = true := by decide +kernel
theorem ok_X12_saleEnd : ex_tok ex_mt tX12_saleEnd = true := by decide +kernel
theorem ok_X12_secondsOf : ex_tok ex_mt tX12_secondsOf = true := by decide +kernel
theorem ok_X12_sell : ex_tok ex_mt tX12_sell = true := by decide +kernel
theorem ok_X12_sellers : ex_tok ex_mt tX12_sellers = true := by decide +kernel
theorem ok_X12_sells_0 : bX12_sells_0.all (fun e => ex_chk ex_mt tX12_sells e) = true := by decide +kernel
theorem ok_X12_sells_1 : bX12_sells_1.all (fun e => ex_chk ex_mt tX12_sells e) = true := by decide +kernel
theorem ok_X12_sells_2 : bX12_sells_2.all (fun e => ex_chk ex_mt tX12_sells e) = true := by decide +kernel
theorem ok_X12_sells_3 : bX12_sells_3.all (fun e => ex_chk ex_mt tX12_sells e) = true := by decide +kernel
theorem ok_X12_sells_4 : bX12_sells_4.all (fun e => ex_chk ex_mt tX12_sells e) = true := by decide +kernel
theorem ok_X12_sells_5 : bX12_sells_5.all (fun e => ex_chk ex_mt tX12_sells e) = true := by decide +kernel
theorem ok_X12_sells_6 : bX12_sells_6.all (fun e => ex_chk ex_mt tX12_sells e) = true := by decide +kernel
theorem ok_X12_sells : ex_tok ex_mt tX12_sells = true := by
  unfold ex_tok
  rw [Bool.and_eq_true]
  refine ⟨by decide +kernel, ?_⟩
  show List.all [bX12_sells_0, bX12_sells_1, bX12_sells_2, bX12_sells_3, bX12_sells_4, bX12_sells_5, bX12_sells_6] _ = true
  simp only [List.all_cons, List.all_nil, ok_X12_sells_0, ok_X12_sells_1, ok_X12_sells_2, ok_X12_sells_3, ok_X12_sells_4, ok_X12_sells_5, ok_X12_sells_6, Bool.and_true]
theorem ok_X12_sentence_0 : bX12_sentence_0.all (fun e => ex_chk ex_mt tX12_sentence e) = true := by decide +kernel
theorem ok_X12_sentence_1 : bX12_sentence_1.all (fun e => ex_chk ex_mt tX12_sentence e) = true := by decide +kernel
theorem ok_X12_sentence_2 : bX12_sentence_2.all (fun e => ex_chk ex_mt tX12_sentence e) = true := by decide +kernel
theorem ok_X12_sentence_3 : bX12_sentence_3.all (fun e => ex_chk ex_mt tX12_sentence e) = true := by decide +kernel
theorem ok_X12_sentence_4 : bX12_sentence_4.all (fun e => ex_chk ex_mt tX12_sentence e) = true := by decide +kernel
theorem ok_X12_sentence_5 : bX12_sentence_5.all (fun e => ex_chk ex_mt tX12_sentence e) = true := by decide +kernel
theorem ok_X12_sentence : ex_tok ex_mt tX12_sentence = true := by
  unfold ex_tok
  rw [Bool.and_eq_true]
  refine ⟨by decide +kernel, ?_⟩
  show List.all [bX12_sentence_0, bX12_sentence_1, bX12_sentence_2, bX12_sentence_3, bX12_sentence_4, bX12_sentence_5] _ = true
  simp only [List.all_cons, List.all_nil, ok_X12_sentence_0, ok_X12_sentence_1, ok_X12_sentence_2, ok_X12_sentence_3, ok_X12_sentence_4, ok_X12_sentence_5, Bool.and_true]
theorem ok_X12_share : ex_tok ex_mt tX12_share = true := by decide +kernel
theorem ok_X12_sign : ex_tok ex_mt tX12_sign = true := by decide +kernel
theorem ok_X12_stand : ex_tok ex_mt tX12_stand = true := by decide +kernel
theorem ok_X12_standMany : ex_tok ex_mt tX12_standMany = true := by decide +kernel
theorem ok_X12_standing : ex_tok ex_mt tX12_standing = true := by decide +kernel
theorem ok_X12_station_0 : bX12_station_0.all (fun e => ex_chk ex_mt tX12_station e) = true := by decide +kernel
theorem ok_X12_station_1 : bX12_station_1.all (fun e => ex_chk ex_mt tX12_station e) = true := by decide +kernel
theorem ok_X12_station_2 : bX12_station_2.all (fun e => ex_chk ex_mt tX12_station e) = true := by decide +kernel
theorem ok_X12_station_3 : bX12_station_3.all (fun e => ex_chk ex_mt tX12_station e) = true := by decide +kernel
theorem ok_X12_station : ex_tok ex_mt tX12_station = true := by
  unfold ex_tok
  rw [Bool.and_eq_true]
  refine ⟨by decide +kernel, ?_⟩
  show List.all [bX12_station_0, bX12_station_1, bX12_station_2, bX12_station_3] _ = true
  simp only [List.all_cons, List.all_nil, ok_X12_station_0, ok_X12_station_1, ok_X12_station_2, ok_X12_station_3, Bool.and_true]
theorem ok_X12_stood : ex_tok ex_mt tX12_stood = true := by decide +kernel
theorem ok_X12_taken : ex_tok ex_mt tX12_taken = true := by decide +kernel
theorem ok_X12_takes : ex_tok ex_mt tX12_takes = true := by decide +kernel
theorem ok_X12_throwsIf : ex_tok ex_mt tX12_throwsIf = true := by decide +kernel
theorem ok_X12_train : ex_tok ex_mt tX12_train = true := by decide +kernel
theorem ok_X12_trust : ex_tok ex_mt tX12_trust = true := by decide +kernel
theorem ok_X12_undo : ex_tok ex_mt tX12_undo = true := by decide +kernel
theorem ok_X12_waits : ex_tok ex_mt tX12_waits = true := by decide +kernel
theorem ok_X12_walk : ex_tok ex_mt tX12_walk = true := by decide +kernel
theorem ok_X12_walks : ex_tok ex_mt tX12_walks = true := by decide +kernel
theorem ok_X12_weekly : ex_tok ex_mt tX12_weekly = true := by decide +kernel
theorem ok_X12_weightOf : ex_tok ex_mt tX12_weightOf = true := by decide +kernel
theorem ok_X12_whichOf : ex_tok ex_mt tX12_whichOf = true := by decide +kernel
theorem ok_X12_whyBegin : ex_tok ex_mt tX12_whyBegin = true := by decide +kernel
theorem ok_X12_whySell : ex_tok ex_mt tX12_whySell = true := by decide +kernel
theorem ok_X12_whyWait : ex_tok ex_mt tX12_whyWait = true := by decide +kernel
theorem ok_X12_whyWalk : ex_tok ex_mt tX12_whyWalk = true := by decide +kernel
theorem ok_X12_window_0 : bX12_window_0.all (fun e => ex_chk ex_mt tX12_window e) = true := by decide +kernel
theorem ok_X12_window_1 : bX12_window_1.all (fun e => ex_chk ex_mt tX12_window e) = true := by decide +kernel
theorem ok_X12_window_2 : bX12_window_2.all (fun e => ex_chk ex_mt tX12_window e) = true := by decide +kernel
theorem ok_X12_window_3 : bX12_window_3.all (fun e => ex_chk ex_mt tX12_window e) = true := by decide +kernel
theorem ok_X12_window : ex_tok ex_mt tX12_window = true := by
  unfold ex_tok
  rw [Bool.and_eq_true]
  refine ⟨by decide +kernel, ?_⟩
  show List.all [bX12_window_0, bX12_window_1, bX12_window_2, bX12_window_3] _ = true
  simp only [List.all_cons, List.all_nil, ok_X12_window_0, ok_X12_window_1, ok_X12_window_2, ok_X12_window_3, Bool.and_true]
theorem ok_X12_yet_0 : bX12_yet_0.all (fun e => ex_chk ex_mt tX12_yet e) = true := by decide +kernel
theorem ok_X12_yet_1 : bX12_yet_1.all (fun e => ex_chk ex_mt tX12_yet e) = true := by decide +kernel
theorem ok_X12_yet_2 : bX12_yet_2.all (fun e => ex_chk ex_mt tX12_yet e) = true := by decide +kernel
theorem ok_X12_yet_3 : bX12_yet_3.all (fun e => ex_chk ex_mt tX12_yet e) = true := by decide +kernel
theorem ok_X12_yet_4 : bX12_yet_4.all (fun e => ex_chk ex_mt tX12_yet e) = true := by decide +kernel
theorem ok_X12_yet : ex_tok ex_mt tX12_yet = true := by
  unfold ex_tok
  rw [Bool.and_eq_true]
  refine ⟨by decide +kernel, ?_⟩
  show List.all [bX12_yet_0, bX12_yet_1, bX12_yet_2, bX12_yet_3, bX12_yet_4] _ = true
  simp only [List.all_cons, List.all_nil, ok_X12_yet_0, ok_X12_yet_1, ok_X12_yet_2, ok_X12_yet_3, ok_X12_yet_4, Bool.and_true]
theorem ok_X1_init : ex_tok ex_mt tX1_init = true := by decide +kernel
theorem ok_X1_keep : ex_tok ex_mt tX1_keep = true := by decide +kernel
theorem ok_X2_above : ex_tok ex_mt tX2_above = true := by decide +kernel
theorem ok_X2_init : ex_tok ex_mt tX2_init = true := by decide +kernel
theorem ok_X2_judge : ex_tok ex_mt tX2_judge = true := by decide +kernel
theorem ok_X2_readFrom : ex_tok ex_mt tX2_readFrom = true := by decide +kernel
theorem ok_X2_readLine : ex_tok ex_mt tX2_readLine = true := by decide +kernel
theorem ok_X2_readNumber : ex_tok ex_mt tX2_readNumber = true := by decide +kernel
theorem ok_X2_whyNot : ex_tok ex_mt tX2_whyNot = true := by decide +kernel
theorem ok_X3_add : ex_tok ex_mt tX3_add = true := by decide +kernel
theorem ok_X3_clear : ex_tok ex_mt tX3_clear = true := by decide +kernel
theorem ok_X3_init : ex_tok ex_mt tX3_init = true := by decide +kernel
theorem ok_X3_sceneAt : ex_tok ex_mt tX3_sceneAt = true := by decide +kernel
