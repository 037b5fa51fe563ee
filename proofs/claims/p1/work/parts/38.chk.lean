/-! the tables keep to what they must (written by a program) -/
theorem ok_X12_off : ex_tok ex_mt tX12_off = true := by decide +kernel
theorem ok_X12_operand : ex_tok ex_mt tX12_operand = true := by decide +kernel
theorem ok_X12_peek : ex_tok ex_mt tX12_peek = true := by decide +kernel
theorem ok_X12_plan : ex_tok ex_mt tX12_plan = true := by decide +kernel
theorem ok_X12_race : ex_tok ex_mt tX12_race = true := by decide +kernel
theorem ok_X12_restore : ex_tok ex_mt tX12_restore = true := by decide +kernel
theorem ok_X12_rowGain : ex_tok ex_mt tX12_rowGain = true := by decide +kernel
theorem ok_X12_said : ex_tok ex_mt tX12_said = true := by decide +kernel
theorem ok_X12_sale : ex_tok ex_mt tX12_sale = true := by decide +kernel
theorem ok_X12_secondsOf : ex_tok ex_mt tX12_secondsOf = true := by decide +kernel
theorem ok_X12_sell : ex_tok ex_mt tX12_sell = true := by decide +kernel
theorem ok_X12_sellers : ex_tok ex_mt tX12_sellers = true := by decide +kernel
theorem ok_X12_sentence : ex_tok ex_mt tX12_sentence = true := by decide +kernel
theorem ok_X12_share : ex_tok ex_mt tX12_share = true := by decide +kernel
theorem ok_X12_stand : ex_tok ex_mt tX12_stand = true := by decide +kernel
theorem ok_X12_standMany : ex_tok ex_mt tX12_standMany = true := by decide +kernel
theorem ok_X12_standing : ex_tok ex_mt tX12_standing = true := by decide +kernel
theorem ok_X12_station : ex_tok ex_mt tX12_station = true := by decide +kernel
theorem ok_X12_stood : ex_tok ex_mt tX12_stood = true := by decide +kernel
theorem ok_X12_taken : ex_tok ex_mt tX12_taken = true := by decide +kernel
theorem ok_X12_thrown : ex_tok ex_mt tX12_thrown = true := by decide +kernel
theorem ok_X12_throwsIf : ex_tok ex_mt tX12_throwsIf = true := by decide +kernel
theorem ok_X12_train : ex_tok ex_mt tX12_train = true := by decide +kernel
theorem ok_X12_trust : ex_tok ex_mt tX12_trust = true := by decide +kernel
theorem ok_X12_undo : ex_tok ex_mt tX12_undo = true := by decide +kernel
theorem ok_X12_waits : ex_tok ex_mt tX12_waits = true := by decide +kernel
theorem ok_X12_walk : ex_tok ex_mt tX12_walk = true := by decide +kernel
theorem ok_X12_weekly : ex_tok ex_mt tX12_weekly = true := by decide +kernel
theorem ok_X12_weightOf : ex_tok ex_mt tX12_weightOf = true := by decide +kernel
theorem ok_X12_whySell : ex_tok ex_mt tX12_whySell = true := by decide +kernel
theorem ok_X12_whyWait : ex_tok ex_mt tX12_whyWait = true := by decide +kernel
theorem ok_X12_whyWalk : ex_tok ex_mt tX12_whyWalk = true := by decide +kernel
theorem ok_X12_window : ex_tok ex_mt tX12_window = true := by decide +kernel
theorem ok_X12_yet_0 : bX12_yet_0.all (fun e => ex_chk ex_mt tX12_yet e) = true := by decide +kernel
theorem ok_X12_yet_1 : bX12_yet_1.all (fun e => ex_chk ex_mt tX12_yet e) = true := by decide +kernel
theorem ok_X12_yet_2 : bX12_yet_2.all (fun e => ex_chk ex_mt tX12_yet e) = true := by decide +kernel
theorem ok_X12_yet_3 : bX12_yet_3.all (fun e => ex_chk ex_mt tX12_yet e) = true := by decide +kernel
theorem ok_X12_yet_4 : bX12_yet_4.all (fun e => ex_chk ex_mt tX12_yet e) = true := by decide +kernel
theorem ok_X12_yet : ex_tok ex_mt tX12_yet = true := by
  unfold ex_tok
  rw [Bool.and_eq_true]
  refine ⟨by decide +kernel, ?_⟩
  show List.all [bX12_yet_0, bX12_yet_1, bX12_yet_2, bX12_yet_3, bX12_yet_4] _ = true
  simp only [List.all_cons, List.all_nil, ok_X12_yet_0, ok_X12_yet_1, ok_X12_yet_2, ok_X12_yet_3, ok_X12_yet_4, Bool.and_true]
theorem ok_X1_init : ex_tok ex_mt tX1_init = true := by decide +kernel
