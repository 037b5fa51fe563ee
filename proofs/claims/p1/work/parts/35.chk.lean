/-! the tables keep to what they must (written by a program) -/
theorem ok_X11_canDraw : ex_tok ex_mt tX11_canDraw = true := by decide +kernel
theorem ok_X11_change : ex_tok ex_mt tX11_change = true := by decide +kernel
theorem ok_X11_copyRow : ex_tok ex_mt tX11_copyRow = true := by decide +kernel
theorem ok_X11_count : ex_tok ex_mt tX11_count = true := by decide +kernel
theorem ok_X11_curve : ex_tok ex_mt tX11_curve = true := by decide +kernel
theorem ok_X11_drawn : ex_tok ex_mt tX11_drawn = true := by decide +kernel
theorem ok_X11_earns : ex_tok ex_mt tX11_earns = true := by decide +kernel
theorem ok_X11_end : ex_tok ex_mt tX11_end = true := by decide +kernel
theorem ok_X11_entry : ex_tok ex_mt tX11_entry = true := by decide +kernel
theorem ok_X11_fault : ex_tok ex_mt tX11_fault = true := by decide +kernel
theorem ok_X11_feed : ex_tok ex_mt tX11_feed = true := by decide +kernel
theorem ok_X11_gain : ex_tok ex_mt tX11_gain = true := by decide +kernel
theorem ok_X11_heard : ex_tok ex_mt tX11_heard = true := by decide +kernel
theorem ok_X11_idle : ex_tok ex_mt tX11_idle = true := by decide +kernel
theorem ok_X11_image : ex_tok ex_mt tX11_image = true := by decide +kernel
theorem ok_X11_imageAt : ex_tok ex_mt tX11_imageAt = true := by decide +kernel
theorem ok_X11_init_0 : bX11_init_0.all (fun e => ex_chk ex_mt tX11_init e) = true := by decide +kernel
theorem ok_X11_init_1 : bX11_init_1.all (fun e => ex_chk ex_mt tX11_init e) = true := by decide +kernel
theorem ok_X11_init_2 : bX11_init_2.all (fun e => ex_chk ex_mt tX11_init e) = true := by decide +kernel
theorem ok_X11_init_3 : bX11_init_3.all (fun e => ex_chk ex_mt tX11_init e) = true := by decide +kernel
theorem ok_X11_init_4 : bX11_init_4.all (fun e => ex_chk ex_mt tX11_init e) = true := by decide +kernel
theorem ok_X11_init_5 : bX11_init_5.all (fun e => ex_chk ex_mt tX11_init e) = true := by decide +kernel
theorem ok_X11_init : ex_tok ex_mt tX11_init = true := by
  unfold ex_tok
  rw [Bool.and_eq_true]
  refine ⟨by decide +kernel, ?_⟩
  show List.all [bX11_init_0, bX11_init_1, bX11_init_2, bX11_init_3, bX11_init_4, bX11_init_5] _ = true
  simp only [List.all_cons, List.all_nil, ok_X11_init_0, ok_X11_init_1, ok_X11_init_2, ok_X11_init_3, ok_X11_init_4, ok_X11_init_5, Bool.and_true]
theorem ok_X11_isPart : ex_tok ex_mt tX11_isPart = true := by decide +kernel
theorem ok_X11_keepIfDone : ex_tok ex_mt tX11_keepIfDone = true := by decide +kernel
theorem ok_X11_keepTrial : ex_tok ex_mt tX11_keepTrial = true := by decide +kernel
theorem ok_X11_latest : ex_tok ex_mt tX11_latest = true := by decide +kernel
theorem ok_X11_log : ex_tok ex_mt tX11_log = true := by decide +kernel
theorem ok_X11_logged : ex_tok ex_mt tX11_logged = true := by decide +kernel
theorem ok_X11_luckiest : ex_tok ex_mt tX11_luckiest = true := by decide +kernel
theorem ok_X11_meant : ex_tok ex_mt tX11_meant = true := by decide +kernel
theorem ok_X11_needs : ex_tok ex_mt tX11_needs = true := by decide +kernel
theorem ok_X11_now : ex_tok ex_mt tX11_now = true := by decide +kernel
theorem ok_X11_plan : ex_tok ex_mt tX11_plan = true := by decide +kernel
theorem ok_X11_put : ex_tok ex_mt tX11_put = true := by decide +kernel
theorem ok_X11_race : ex_tok ex_mt tX11_race = true := by decide +kernel
theorem ok_X11_restore : ex_tok ex_mt tX11_restore = true := by decide +kernel
theorem ok_X11_said : ex_tok ex_mt tX11_said = true := by decide +kernel
theorem ok_X11_sale : ex_tok ex_mt tX11_sale = true := by decide +kernel
theorem ok_X11_sell : ex_tok ex_mt tX11_sell = true := by decide +kernel
