/-! the tables keep to what they must (written by a program) -/
theorem ok_L_law_39 : bL_law_39.all (fun e => ex_chk ex_mt tL_law e) = true := by decide +kernel
theorem ok_L_law_40 : bL_law_40.all (fun e => ex_chk ex_mt tL_law e) = true := by decide +kernel
theorem ok_L_law_41 : bL_law_41.all (fun e => ex_chk ex_mt tL_law e) = true := by decide +kernel
theorem ok_L_law_42 : bL_law_42.all (fun e => ex_chk ex_mt tL_law e) = true := by decide +kernel
theorem ok_L_law_43 : bL_law_43.all (fun e => ex_chk ex_mt tL_law e) = true := by decide +kernel
theorem ok_L_law_44 : bL_law_44.all (fun e => ex_chk ex_mt tL_law e) = true := by decide +kernel
theorem ok_L_law_45 : bL_law_45.all (fun e => ex_chk ex_mt tL_law e) = true := by decide +kernel
theorem ok_L_law_46 : bL_law_46.all (fun e => ex_chk ex_mt tL_law e) = true := by decide +kernel
theorem ok_L_law_47 : bL_law_47.all (fun e => ex_chk ex_mt tL_law e) = true := by decide +kernel
theorem ok_L_law_48 : bL_law_48.all (fun e => ex_chk ex_mt tL_law e) = true := by decide +kernel
theorem ok_L_law : ex_tok ex_mt tL_law = true := by
  unfold ex_tok
  rw [Bool.and_eq_true]
  refine ⟨by decide +kernel, ?_⟩
  show List.all [bL_law_0, bL_law_1, [], [], [], [], [], bL_law_7, bL_law_8, bL_law_9, bL_law_10, bL_law_11, bL_law_12, bL_law_13, bL_law_14, bL_law_15, bL_law_16, bL_law_17, bL_law_18, bL_law_19, bL_law_20, bL_law_21, bL_law_22, bL_law_23, bL_law_24, bL_law_25, bL_law_26, bL_law_27, bL_law_28, bL_law_29, bL_law_30, bL_law_31, bL_law_32, bL_law_33, bL_law_34, bL_law_35, bL_law_36, bL_law_37, bL_law_38, bL_law_39, bL_law_40, bL_law_41, bL_law_42, bL_law_43, bL_law_44, bL_law_45, bL_law_46, bL_law_47, bL_law_48] _ = true
  simp only [List.all_cons, List.all_nil, ok_L_law_0, ok_L_law_1, ok_L_law_7, ok_L_law_8, ok_L_law_9, ok_L_law_10, ok_L_law_11, ok_L_law_12, ok_L_law_13, ok_L_law_14, ok_L_law_15, ok_L_law_16, ok_L_law_17, ok_L_law_18, ok_L_law_19, ok_L_law_20, ok_L_law_21, ok_L_law_22, ok_L_law_23, ok_L_law_24, ok_L_law_25, ok_L_law_26, ok_L_law_27, ok_L_law_28, ok_L_law_29, ok_L_law_30, ok_L_law_31, ok_L_law_32, ok_L_law_33, ok_L_law_34, ok_L_law_35, ok_L_law_36, ok_L_law_37, ok_L_law_38, ok_L_law_39, ok_L_law_40, ok_L_law_41, ok_L_law_42, ok_L_law_43, ok_L_law_44, ok_L_law_45, ok_L_law_46, ok_L_law_47, ok_L_law_48, Bool.and_true]
theorem ok_J6_bitCount_0f7a4 : ex_tok ex_mt tJ6_bitCount_0f7a4 = true := by decide +kernel
theorem ok_J6_compare_7cf53 : ex_tok ex_mt tJ6_compare_7cf53 = true := by decide +kernel
theorem ok_J7_fill_53178 : ex_tok ex_mt tJ7_fill_53178 = true := by decide +kernel
theorem ok_L_curve : ex_tok ex_mt tL_curve = true := by decide +kernel
theorem ok_L_earns : ex_tok ex_mt tL_earns = true := by decide +kernel
theorem ok_L_gain : ex_tok ex_mt tL_gain = true := by decide +kernel
theorem ok_L_meant : ex_tok ex_mt tL_meant = true := by decide +kernel
theorem ok_L_plan : ex_tok ex_mt tL_plan = true := by decide +kernel
theorem ok_L_window : ex_tok ex_mt tL_window = true := by decide +kernel
theorem ok_L_yet : ex_tok ex_mt tL_yet = true := by decide +kernel
theorem ok_X0_draw : ex_tok ex_mt tX0_draw = true := by decide +kernel
theorem ok_X0_init : ex_tok ex_mt tX0_init = true := by decide +kernel
theorem ok_X0_isPaid : ex_tok ex_mt tX0_isPaid = true := by decide +kernel
theorem ok_X0_live_0 : bX0_live_0.all (fun e => ex_chk ex_mt tX0_live e) = true := by decide +kernel
theorem ok_X0_live_1 : bX0_live_1.all (fun e => ex_chk ex_mt tX0_live e) = true := by decide +kernel
theorem ok_X0_live_2 : bX0_live_2.all (fun e => ex_chk ex_mt tX0_live e) = true := by decide +kernel
theorem ok_X0_live_3 : bX0_live_3.all (fun e => ex_chk ex_mt tX0_live e) = true := by decide +kernel
theorem ok_X0_live_4 : bX0_live_4.all (fun e => ex_chk ex_mt tX0_live e) = true := by decide +kernel
theorem ok_X0_live : ex_tok ex_mt tX0_live = true := by
  unfold ex_tok
  rw [Bool.and_eq_true]
  refine ⟨by decide +kernel, ?_⟩
  show List.all [bX0_live_0, bX0_live_1, bX0_live_2, bX0_live_3, bX0_live_4] _ = true
  simp only [List.all_cons, List.all_nil, ok_X0_live_0, ok_X0_live_1, ok_X0_live_2, ok_X0_live_3, ok_X0_live_4, Bool.and_true]
theorem ok_X10_append : ex_tok ex_mt tX10_append = true := by decide +kernel
theorem ok_X10_byteAt : ex_tok ex_mt tX10_byteAt = true := by decide +kernel
theorem ok_X10_hasRoom : ex_tok ex_mt tX10_hasRoom = true := by decide +kernel
theorem ok_X10_init : ex_tok ex_mt tX10_init = true := by decide +kernel
theorem ok_X11_begin : ex_tok ex_mt tX11_begin = true := by decide +kernel
theorem ok_X11_best : ex_tok ex_mt tX11_best = true := by decide +kernel
theorem ok_X11_better : ex_tok ex_mt tX11_better = true := by decide +kernel
theorem ok_X11_border : ex_tok ex_mt tX11_border = true := by decide +kernel
theorem ok_X11_canDraw : ex_tok ex_mt tX11_canDraw = true := by decide +kernel
theorem ok_X11_change_0 : bX11_change_0.all (fun e => ex_chk ex_mt tX11_change e) = true := by decide +kernel
theorem ok_X11_change_1 : bX11_change_1.all (fun e => ex_chk ex_mt tX11_change e) = true := by decide +kernel
theorem ok_X11_change_2 : bX11_change_2.all (fun e => ex_chk ex_mt tX11_change e) = true := by decide +kernel
theorem ok_X11_change_3 : bX11_change_3.all (fun e => ex_chk ex_mt tX11_change e) = true := by decide +kernel
theorem ok_X11_change : ex_tok ex_mt tX11_change = true := by
  unfold ex_tok
  rw [Bool.and_eq_true]
  refine ⟨by decide +kernel, ?_⟩
  show List.all [bX11_change_0, bX11_change_1, bX11_change_2, bX11_change_3] _ = true
  simp only [List.all_cons, List.all_nil, ok_X11_change_0, ok_X11_change_1, ok_X11_change_2, ok_X11_change_3, Bool.and_true]
theorem ok_X11_copyRow : ex_tok ex_mt tX11_copyRow = true := by decide +kernel
theorem ok_X11_count : ex_tok ex_mt tX11_count = true := by decide +kernel
theorem ok_X11_curve : ex_tok ex_mt tX11_curve = true := by decide +kernel
theorem ok_X11_drawOf : ex_tok ex_mt tX11_drawOf = true := by decide +kernel
theorem ok_X11_drawn : ex_tok ex_mt tX11_drawn = true := by decide +kernel
theorem ok_X11_earns : ex_tok ex_mt tX11_earns = true := by decide +kernel
theorem ok_X11_end : ex_tok ex_mt tX11_end = true := by decide +kernel
theorem ok_X11_entry : ex_tok ex_mt tX11_entry = true := by decide +kernel
theorem ok_X11_fault : ex_tok ex_mt tX11_fault = true := by decide +kernel
theorem ok_X11_feed : ex_tok ex_mt tX11_feed = true := by decide +kernel
theorem ok_X11_gain : ex_tok ex_mt tX11_gain = true := by decide +kernel
theorem ok_X11_heard : ex_tok ex_mt tX11_heard = true := by decide +kernel
theorem ok_X11_idle : ex_tok ex_mt tX11_idle = true := by decide +kernel
