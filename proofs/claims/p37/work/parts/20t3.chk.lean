/-! the tables keep to what they must (written by a program) -/
theorem ok_X11_image : ex_tok ex_mt tX11_image = true := by decide +kernel
theorem ok_X11_imageAt : ex_tok ex_mt tX11_imageAt = true := by decide +kernel
theorem ok_X11_init_0 : bX11_init_0.all (fun e => ex_chk ex_mt tX11_init e) = true := by decide +kernel
theorem ok_X11_init_1 : bX11_init_1.all (fun e => ex_chk ex_mt tX11_init e) = true := by decide +kernel
theorem ok_X11_init_2 : bX11_init_2.all (fun e => ex_chk ex_mt tX11_init e) = true := by decide +kernel
theorem ok_X11_init_3 : bX11_init_3.all (fun e => ex_chk ex_mt tX11_init e) = true := by decide +kernel
theorem ok_X11_init_4 : bX11_init_4.all (fun e => ex_chk ex_mt tX11_init e) = true := by decide +kernel
theorem ok_X11_init_5 : bX11_init_5.all (fun e => ex_chk ex_mt tX11_init e) = true := by decide +kernel
theorem ok_X11_init : ex_tok ex_mt tX11_init = true := by
  unfold ex_tok
  rw [Bool.and_eq_true]
  refine ⟨by decide +kernel, ?_⟩
  show List.all [bX11_init_0, bX11_init_1, bX11_init_2, bX11_init_3, bX11_init_4, bX11_init_5] _ = true
  simp only [List.all_cons, List.all_nil, ok_X11_init_0, ok_X11_init_1, ok_X11_init_2, ok_X11_init_3, ok_X11_init_4, ok_X11_init_5, Bool.and_true]
theorem ok_X11_isPart : ex_tok ex_mt tX11_isPart = true := by decide +kernel
theorem ok_X11_isSecond : ex_tok ex_mt tX11_isSecond = true := by decide +kernel
theorem ok_X11_keepIfDone : ex_tok ex_mt tX11_keepIfDone = true := by decide +kernel
theorem ok_X11_keepTrial : ex_tok ex_mt tX11_keepTrial = true := by decide +kernel
theorem ok_X11_latest : ex_tok ex_mt tX11_latest = true := by decide +kernel
theorem ok_X11_log_0 : bX11_log_0.all (fun e => ex_chk ex_mt tX11_log e) = true := by decide +kernel
theorem ok_X11_log_1 : bX11_log_1.all (fun e => ex_chk ex_mt tX11_log e) = true := by decide +kernel
theorem ok_X11_log_2 : bX11_log_2.all (fun e => ex_chk ex_mt tX11_log e) = true := by decide +kernel
theorem ok_X11_log_3 : bX11_log_3.all (fun e => ex_chk ex_mt tX11_log e) = true := by decide +kernel
theorem ok_X11_log : ex_tok ex_mt tX11_log = true := by
  unfold ex_tok
  rw [Bool.and_eq_true]
  refine ⟨by decide +kernel, ?_⟩
  show List.all [bX11_log_0, bX11_log_1, bX11_log_2, bX11_log_3] _ = true
  simp only [List.all_cons, List.all_nil, ok_X11_log_0, ok_X11_log_1, ok_X11_log_2, ok_X11_log_3, Bool.and_true]
theorem ok_X11_logged : ex_tok ex_mt tX11_logged = true := by decide +kernel
theorem ok_X11_luckiest : ex_tok ex_mt tX11_luckiest = true := by decide +kernel
theorem ok_X11_meant_0 : bX11_meant_0.all (fun e => ex_chk ex_mt tX11_meant e) = true := by decide +kernel
theorem ok_X11_meant_1 : bX11_meant_1.all (fun e => ex_chk ex_mt tX11_meant e) = true := by decide +kernel
theorem ok_X11_meant_2 : bX11_meant_2.all (fun e => ex_chk ex_mt tX11_meant e) = true := by decide +kernel
theorem ok_X11_meant_3 : bX11_meant_3.all (fun e => ex_chk ex_mt tX11_meant e) = true := by decide +kernel
theorem ok_X11_meant : ex_tok ex_mt tX11_meant = true := by
  unfold ex_tok
  rw [Bool.and_eq_true]
  refine ⟨by decide +kernel, ?_⟩
  show List.all [bX11_meant_0, bX11_meant_1, bX11_meant_2, bX11_meant_3] _ = true
  simp only [List.all_cons, List.all_nil, ok_X11_meant_0, ok_X11_meant_1, ok_X11_meant_2, ok_X11_meant_3, Bool.and_true]
theorem ok_X11_needs : ex_tok ex_mt tX11_needs = true := by decide +kernel
theorem ok_X11_nextSeed : ex_tok ex_mt tX11_nextSeed = true := by decide +kernel
theorem ok_X11_now : ex_tok ex_mt tX11_now = true := by decide +kernel
theorem ok_X11_part : ex_tok ex_mt tX11_part = true := by decide +kernel
theorem ok_X11_plan : ex_tok ex_mt tX11_plan = true := by decide +kernel
theorem ok_X11_put : ex_tok ex_mt tX11_put = true := by decide +kernel
theorem ok_X11_race_0 : bX11_race_0.all (fun e => ex_chk ex_mt tX11_race e) = true := by decide +kernel
theorem ok_X11_race_1 : bX11_race_1.all (fun e => ex_chk ex_mt tX11_race e) = true := by decide +kernel
theorem ok_X11_race_2 : bX11_race_2.all (fun e => ex_chk ex_mt tX11_race e) = true := by decide +kernel
theorem ok_X11_race_3 : bX11_race_3.all (fun e => ex_chk ex_mt tX11_race e) = true := by decide +kernel
theorem ok_X11_race_4 : bX11_race_4.all (fun e => ex_chk ex_mt tX11_race e) = true := by decide +kernel
theorem ok_X11_race_5 : bX11_race_5.all (fun e => ex_chk ex_mt tX11_race e) = true := by decide +kernel
theorem ok_X11_race : ex_tok ex_mt tX11_race = true := by
  unfold ex_tok
  rw [Bool.and_eq_true]
  refine ⟨by decide +kernel, ?_⟩
  show List.all [bX11_race_0, bX11_race_1, bX11_race_2, bX11_race_3, bX11_race_4, bX11_race_5] _ = true
  simp only [List.all_cons, List.all_nil, ok_X11_race_0, ok_X11_race_1, ok_X11_race_2, ok_X11_race_3, ok_X11_race_4, ok_X11_race_5, Bool.and_true]
theorem ok_X11_restore : ex_tok ex_mt tX11_restore = true := by decide +kernel
theorem ok_X11_said : ex_tok ex_mt tX11_said = true := by decide +kernel
theorem ok_X11_sale : ex_tok ex_mt tX11_sale = true := by decide +kernel
theorem ok_X11_sell : ex_tok ex_mt tX11_sell = true := by decide +kernel
theorem ok_X11_sellers : ex_tok ex_mt tX11_sellers = true := by decide +kernel
theorem ok_X11_sentence : ex_tok ex_mt tX11_sentence = true := by decide +kernel
theorem ok_X11_share : ex_tok ex_mt tX11_share = true := by decide +kernel
theorem ok_X11_stand : ex_tok ex_mt tX11_stand = true := by decide +kernel
theorem ok_X11_station : ex_tok ex_mt tX11_station = true := by decide +kernel
theorem ok_X11_stood : ex_tok ex_mt tX11_stood = true := by decide +kernel
theorem ok_X11_train : ex_tok ex_mt tX11_train = true := by decide +kernel
theorem ok_X11_trust : ex_tok ex_mt tX11_trust = true := by decide +kernel
theorem ok_X11_undo : ex_tok ex_mt tX11_undo = true := by decide +kernel
theorem ok_X11_waits : ex_tok ex_mt tX11_waits = true := by decide +kernel
theorem ok_X11_walk : ex_tok ex_mt tX11_walk = true := by decide +kernel
theorem ok_X11_weekly : ex_tok ex_mt tX11_weekly = true := by decide +kernel
theorem ok_X11_window : ex_tok ex_mt tX11_window = true := by decide +kernel
theorem ok_X11_yet : ex_tok ex_mt tX11_yet = true := by decide +kernel
theorem ok_X12_bad : ex_tok ex_mt tX12_bad = true := by decide +kernel
theorem ok_X12_begin : ex_tok ex_mt tX12_begin = true := by decide +kernel
theorem ok_X12_behind_0 : bX12_behind_0.all (fun e => ex_chk ex_mt tX12_behind e) = true := by decide +kernel
theorem ok_X12_behind_1 : bX12_behind_1.all (fun e => ex_chk ex_mt tX12_behind e) = true := by decide +kernel
theorem ok_X12_behind_2 : bX12_behind_2.all (fun e => ex_chk ex_mt tX12_behind e) = true := by decide +kernel
theorem ok_X12_behind_3 : bX12_behind_3.all (fun e => ex_chk ex_mt tX12_behind e) = true := by decide +kernel
theorem ok_X12_behind_4 : bX12_behind_4.all (fun e => ex_chk ex_mt tX12_behind e) = true := by decide +kernel
theorem ok_X12_behind : ex_tok ex_mt tX12_behind = true := by
  unfold ex_tok
  rw [Bool.and_eq_true]
  refine ⟨by decide +kernel, ?_⟩
  show List.all [bX12_behind_0, bX12_behind_1, bX12_behind_2, bX12_behind_3, bX12_behind_4] _ = true
  simp only [List.all_cons, List.all_nil, ok_X12_behind_0, ok_X12_behind_1, ok_X12_behind_2, ok_X12_behind_3, ok_X12_behind_4, Bool.and_true]
theorem ok_X12_below : ex_tok ex_mt tX12_below = true := by decide +kernel
theorem ok_X12_best : ex_tok ex_mt tX12_best = true := by decide +kernel
theorem ok_X12_bests_0 : bX12_bests_0.all (fun e => ex_chk ex_mt tX12_bests e) = true := by decide +kernel
theorem ok_X12_bests_1 : bX12_bests_1.all (fun e => ex_chk ex_mt tX12_bests e) = true := by decide +kernel
theorem ok_X12_bests_2 : bX12_bests_2.all (fun e => ex_chk ex_mt tX12_bests e) = true := by decide +kernel
theorem ok_X12_bests_3 : bX12_bests_3.all (fun e => ex_chk ex_mt tX12_bests e) = true := by decide +kernel
theorem ok_X12_bests_4 : bX12_bests_4.all (fun e => ex_chk ex_mt tX12_bests e) = true := by decide +kernel
theorem ok_X12_bests_5 : bX12_bests_5.all (fun e => ex_chk ex_mt tX12_bests e) = true := by decide +kernel
theorem ok_X12_bests_6 : bX12_bests_6.all (fun e => ex_chk ex_mt tX12_bests e) = true := by decide +kernel
theorem ok_X12_bests_7 : bX12_bests_7.all (fun e => ex_chk ex_mt tX12_bests e) = true := by decide +kernel
theorem ok_X12_bests_8 : bX12_bests_8.all (fun e => ex_chk ex_mt tX12_bests e) = true := by decide +kernel
theorem ok_X12_bests : ex_tok ex_mt tX12_bests = true := by
  unfold ex_tok
  rw [Bool.and_eq_true]
  refine ⟨by decide +kernel, ?_⟩
  show List.all [bX12_bests_0, bX12_bests_1, bX12_bests_2, bX12_bests_3, bX12_bests_4, bX12_bests_5, bX12_bests_6, bX12_bests_7, bX12_bests_8] _ = true
  simp only [List.all_cons, List.all_nil, ok_X12_bests_0, ok_X12_bests_1, ok_X12_bests_2, ok_X12_bests_3, ok_X12_bests_4, ok_X12_bests_5, ok_X12_bests_6, ok_X12_bests_7, ok_X12_bests_8, Bool.and_true]
theorem ok_X12_better : ex_tok ex_mt tX12_better = true := by decide +kernel
theorem ok_X12_betterOf : ex_tok ex_mt tX12_betterOf = true := by decide +kernel
theorem ok_X12_bitOf : ex_tok ex_mt tX12_bitOf = true := by decide +kernel
theorem ok_X12_border : ex_tok ex_mt tX12_border = true := by decide +kernel
theorem ok_X12_canAct : ex_tok ex_mt tX12_canAct = true := by decide +kernel
theorem ok_X12_cell : ex_tok ex_mt tX12_cell = true := by decide +kernel
