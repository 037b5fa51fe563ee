/-! the tables keep to what they must (written by a program) -/
theorem ok_X7_comes : ex_tok ex_mt tX7_comes = true := by decide +kernel
theorem ok_X7_copyFrom : ex_tok ex_mt tX7_copyFrom = true := by decide +kernel
theorem ok_X7_draw : ex_tok ex_mt tX7_draw = true := by decide +kernel
theorem ok_X7_fruitResult : ex_tok ex_mt tX7_fruitResult = true := by decide +kernel
theorem ok_X7_init : ex_tok ex_mt tX7_init = true := by decide +kernel
theorem ok_X7_isThere : ex_tok ex_mt tX7_isThere = true := by decide +kernel
theorem ok_X7_passes : ex_tok ex_mt tX7_passes = true := by decide +kernel
theorem ok_X7_rests : ex_tok ex_mt tX7_rests = true := by decide +kernel
theorem ok_X7_salesOf : ex_tok ex_mt tX7_salesOf = true := by decide +kernel
theorem ok_X7_sells_0 : bX7_sells_0.all (fun e => ex_chk ex_mt tX7_sells e) = true := by decide +kernel
theorem ok_X7_sells_1 : bX7_sells_1.all (fun e => ex_chk ex_mt tX7_sells e) = true := by decide +kernel
theorem ok_X7_sells_2 : bX7_sells_2.all (fun e => ex_chk ex_mt tX7_sells e) = true := by decide +kernel
theorem ok_X7_sells_3 : bX7_sells_3.all (fun e => ex_chk ex_mt tX7_sells e) = true := by decide +kernel
theorem ok_X7_sells : ex_tok ex_mt tX7_sells = true := by
  unfold ex_tok
  rw [Bool.and_eq_true]
  refine ⟨by decide +kernel, ?_⟩
  show List.all [bX7_sells_0, bX7_sells_1, bX7_sells_2, bX7_sells_3] _ = true
  simp only [List.all_cons, List.all_nil, ok_X7_sells_0, ok_X7_sells_1, ok_X7_sells_2, ok_X7_sells_3, Bool.and_true]
theorem ok_X7_startsAt : ex_tok ex_mt tX7_startsAt = true := by decide +kernel
theorem ok_X7_walks : ex_tok ex_mt tX7_walks = true := by decide +kernel
theorem ok_X8_bitsOf : ex_tok ex_mt tX8_bitsOf = true := by decide +kernel
theorem ok_X8_clear : ex_tok ex_mt tX8_clear = true := by decide +kernel
theorem ok_X8_compares : ex_tok ex_mt tX8_compares = true := by decide +kernel
theorem ok_X8_copyFrom : ex_tok ex_mt tX8_copyFrom = true := by decide +kernel
theorem ok_X8_emit : ex_tok ex_mt tX8_emit = true := by decide +kernel
theorem ok_X8_holds : ex_tok ex_mt tX8_holds = true := by decide +kernel
theorem ok_X8_init : ex_tok ex_mt tX8_init = true := by decide +kernel
theorem ok_X8_readComparison : ex_tok ex_mt tX8_readComparison = true := by decide +kernel
theorem ok_X8_readCond : ex_tok ex_mt tX8_readCond = true := by decide +kernel
theorem ok_X8_readFrom : ex_tok ex_mt tX8_readFrom = true := by decide +kernel
theorem ok_X8_readOne_0 : bX8_readOne_0.all (fun e => ex_chk ex_mt tX8_readOne e) = true := by decide +kernel
theorem ok_X8_readOne_1 : bX8_readOne_1.all (fun e => ex_chk ex_mt tX8_readOne e) = true := by decide +kernel
theorem ok_X8_readOne_2 : bX8_readOne_2.all (fun e => ex_chk ex_mt tX8_readOne e) = true := by decide +kernel
theorem ok_X8_readOne_3 : bX8_readOne_3.all (fun e => ex_chk ex_mt tX8_readOne e) = true := by decide +kernel
theorem ok_X8_readOne_4 : bX8_readOne_4.all (fun e => ex_chk ex_mt tX8_readOne e) = true := by decide +kernel
theorem ok_X8_readOne : ex_tok ex_mt tX8_readOne = true := by
  unfold ex_tok
  rw [Bool.and_eq_true]
  refine ⟨by decide +kernel, ?_⟩
  show List.all [bX8_readOne_0, bX8_readOne_1, bX8_readOne_2, bX8_readOne_3, bX8_readOne_4] _ = true
  simp only [List.all_cons, List.all_nil, ok_X8_readOne_0, ok_X8_readOne_1, ok_X8_readOne_2, ok_X8_readOne_3, ok_X8_readOne_4, Bool.and_true]
theorem ok_X8_signOf : ex_tok ex_mt tX8_signOf = true := by decide +kernel
theorem ok_X8_windowsOf_0 : bX8_windowsOf_0.all (fun e => ex_chk ex_mt tX8_windowsOf e) = true := by decide +kernel
theorem ok_X8_windowsOf_1 : bX8_windowsOf_1.all (fun e => ex_chk ex_mt tX8_windowsOf e) = true := by decide +kernel
theorem ok_X8_windowsOf_2 : bX8_windowsOf_2.all (fun e => ex_chk ex_mt tX8_windowsOf e) = true := by decide +kernel
theorem ok_X8_windowsOf_3 : bX8_windowsOf_3.all (fun e => ex_chk ex_mt tX8_windowsOf e) = true := by decide +kernel
theorem ok_X8_windowsOf_4 : bX8_windowsOf_4.all (fun e => ex_chk ex_mt tX8_windowsOf e) = true := by decide +kernel
theorem ok_X8_windowsOf_5 : bX8_windowsOf_5.all (fun e => ex_chk ex_mt tX8_windowsOf e) = true := by decide +kernel
theorem ok_X8_windowsOf_6 : bX8_windowsOf_6.all (fun e => ex_chk ex_mt tX8_windowsOf e) = true := by decide +kernel
theorem ok_X8_windowsOf : ex_tok ex_mt tX8_windowsOf = true := by
  unfold ex_tok
  rw [Bool.and_eq_true]
  refine ⟨by decide +kernel, ?_⟩
  show List.all [bX8_windowsOf_0, bX8_windowsOf_1, bX8_windowsOf_2, bX8_windowsOf_3, bX8_windowsOf_4, bX8_windowsOf_5, bX8_windowsOf_6] _ = true
  simp only [List.all_cons, List.all_nil, ok_X8_windowsOf_0, ok_X8_windowsOf_1, ok_X8_windowsOf_2, ok_X8_windowsOf_3, ok_X8_windowsOf_4, ok_X8_windowsOf_5, ok_X8_windowsOf_6, Bool.and_true]
theorem ok_X9_addUsualStand : ex_tok ex_mt tX9_addUsualStand = true := by decide +kernel
theorem ok_X9_again : ex_tok ex_mt tX9_again = true := by decide +kernel
theorem ok_X9_basket : ex_tok ex_mt tX9_basket = true := by decide +kernel
theorem ok_X9_betterGain : ex_tok ex_mt tX9_betterGain = true := by decide +kernel
theorem ok_X9_betterWay : ex_tok ex_mt tX9_betterWay = true := by decide +kernel
theorem ok_X9_clear : ex_tok ex_mt tX9_clear = true := by decide +kernel
theorem ok_X9_copyFrom : ex_tok ex_mt tX9_copyFrom = true := by decide +kernel
theorem ok_X9_cost : ex_tok ex_mt tX9_cost = true := by decide +kernel
theorem ok_X9_gainOf : ex_tok ex_mt tX9_gainOf = true := by decide +kernel
theorem ok_X9_has : ex_tok ex_mt tX9_has = true := by decide +kernel
theorem ok_X9_honest : ex_tok ex_mt tX9_honest = true := by decide +kernel
theorem ok_X9_init : ex_tok ex_mt tX9_init = true := by decide +kernel
theorem ok_X9_isFair : ex_tok ex_mt tX9_isFair = true := by decide +kernel
theorem ok_X9_longest : ex_tok ex_mt tX9_longest = true := by decide +kernel
theorem ok_X9_oftenOf : ex_tok ex_mt tX9_oftenOf = true := by decide +kernel
theorem ok_X9_priceOf : ex_tok ex_mt tX9_priceOf = true := by decide +kernel
theorem ok_X9_readFrom : ex_tok ex_mt tX9_readFrom = true := by decide +kernel
theorem ok_X9_readInto : ex_tok ex_mt tX9_readInto = true := by decide +kernel
theorem ok_X9_readLine : ex_tok ex_mt tX9_readLine = true := by decide +kernel
theorem ok_X9_readSetting : ex_tok ex_mt tX9_readSetting = true := by decide +kernel
theorem ok_X9_readStands_0 : bX9_readStands_0.all (fun e => ex_chk ex_mt tX9_readStands e) = true := by decide +kernel
theorem ok_X9_readStands_1 : bX9_readStands_1.all (fun e => ex_chk ex_mt tX9_readStands e) = true := by decide +kernel
theorem ok_X9_readStands_2 : bX9_readStands_2.all (fun e => ex_chk ex_mt tX9_readStands e) = true := by decide +kernel
theorem ok_X9_readStands_3 : bX9_readStands_3.all (fun e => ex_chk ex_mt tX9_readStands e) = true := by decide +kernel
theorem ok_X9_readStands : ex_tok ex_mt tX9_readStands = true := by
  unfold ex_tok
  rw [Bool.and_eq_true]
  refine ⟨by decide +kernel, ?_⟩
  show List.all [bX9_readStands_0, bX9_readStands_1, bX9_readStands_2, bX9_readStands_3] _ = true
  simp only [List.all_cons, List.all_nil, ok_X9_readStands_0, ok_X9_readStands_1, ok_X9_readStands_2, ok_X9_readStands_3, Bool.and_true]
theorem ok_X9_readWindow : ex_tok ex_mt tX9_readWindow = true := by decide +kernel
theorem ok_X9_runner : ex_tok ex_mt tX9_runner = true := by decide +kernel
theorem ok_X9_secondsAtDraw : ex_tok ex_mt tX9_secondsAtDraw = true := by decide +kernel
theorem ok_X9_secondsOf : ex_tok ex_mt tX9_secondsOf = true := by decide +kernel
theorem ok_X9_settingOf : ex_tok ex_mt tX9_settingOf = true := by decide +kernel
theorem ok_X9_shy : ex_tok ex_mt tX9_shy = true := by decide +kernel
theorem ok_X9_takesOf : ex_tok ex_mt tX9_takesOf = true := by decide +kernel
theorem ok_X9_unit : ex_tok ex_mt tX9_unit = true := by decide +kernel
theorem ok_X9_walking : ex_tok ex_mt tX9_walking = true := by decide +kernel
theorem ok_X9_weightFrom : ex_tok ex_mt tX9_weightFrom = true := by decide +kernel
theorem ok_X9_weightOf : ex_tok ex_mt tX9_weightOf = true := by decide +kernel
theorem ok_X9_weightThatMayBe_0 : bX9_weightThatMayBe_0.all (fun e => ex_chk ex_mt tX9_weightThatMayBe e) = true := by decide +kernel
theorem ok_X9_weightThatMayBe_1 : bX9_weightThatMayBe_1.all (fun e => ex_chk ex_mt tX9_weightThatMayBe e) = true := by decide +kernel
theorem ok_X9_weightThatMayBe_2 : bX9_weightThatMayBe_2.all (fun e => ex_chk ex_mt tX9_weightThatMayBe e) = true := by decide +kernel
theorem ok_X9_weightThatMayBe_3 : bX9_weightThatMayBe_3.all (fun e => ex_chk ex_mt tX9_weightThatMayBe e) = true := by decide +kernel
theorem ok_X9_weightThatMayBe : ex_tok ex_mt tX9_weightThatMayBe = true := by
  unfold ex_tok
  rw [Bool.and_eq_true]
  refine ⟨by decide +kernel, ?_⟩
  show List.all [bX9_weightThatMayBe_0, bX9_weightThatMayBe_1, bX9_weightThatMayBe_2, bX9_weightThatMayBe_3] _ = true
  simp only [List.all_cons, List.all_nil, ok_X9_weightThatMayBe_0, ok_X9_weightThatMayBe_1, ok_X9_weightThatMayBe_2, ok_X9_weightThatMayBe_3, Bool.and_true]
theorem ok_X9_whistle : ex_tok ex_mt tX9_whistle = true := by decide +kernel
theorem ok_X9_whistlesFor : ex_tok ex_mt tX9_whistlesFor = true := by decide +kernel
theorem ok_X9_worthOf : ex_tok ex_mt tX9_worthOf = true := by decide +kernel
