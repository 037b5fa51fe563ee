/-! decodes and links of feed (written by a program) -/
theorem rd_d_X12_four_17 : decode tX12_four.1.2.1 17 = .ok (.ishr, 1) := by decide +kernel
theorem rd_d_X12_four_18 : decode tX12_four.1.2.1 18 = .ok (.i2b, 1) := by decide +kernel
theorem rd_d_X12_four_19 : decode tX12_four.1.2.1 19 = .ok (.bastore, 1) := by decide +kernel
theorem rd_d_X12_feed_22 : decode tX12_feed.1.2.1 22 = .ok (.invokevirtual 10, 3) := by decide +kernel
theorem rd_k_X12_feed_22 : ex_lk ex_mt tX12_feed 22 (.invokevirtual 10) [0, 107, 393453] = true := by decide +kernel
theorem rd_d_X12_feed_27 : decode tX12_feed.1.2.1 27 = .ok (.invokevirtual 10, 3) := by decide +kernel
theorem rd_k_X12_feed_27 : ex_lk ex_mt tX12_feed 27 (.invokevirtual 10) [0, 107, 393453] = true := by decide +kernel
theorem rd_d_X12_feed_32 : decode tX12_feed.1.2.1 32 = .ok (.invokevirtual 10, 3) := by decide +kernel
theorem rd_k_X12_feed_32 : ex_lk ex_mt tX12_feed 32 (.invokevirtual 10) [0, 107, 393453] = true := by decide +kernel
theorem rd_d_X12_feed_38 : decode tX12_feed.1.2.1 38 = .ok (.invokevirtual 10, 3) := by decide +kernel
theorem rd_k_X12_feed_38 : ex_lk ex_mt tX12_feed 38 (.invokevirtual 10) [0, 107, 393453] = true := by decide +kernel
theorem rd_d_X12_feed_44 : decode tX12_feed.1.2.1 44 = .ok (.invokevirtual 10, 3) := by decide +kernel
theorem rd_k_X12_feed_44 : ex_lk ex_mt tX12_feed 44 (.invokevirtual 10) [0, 107, 393453] = true := by decide +kernel
theorem rd_d_X10_append_36 : decode tX10_append.1.2.1 36 = .ok (.iushr, 1) := by decide +kernel
theorem rd_d_X10_append_37 : decode tX10_append.1.2.1 37 = .ok (.i2b, 1) := by decide +kernel
theorem rd_d_X10_append_38 : decode tX10_append.1.2.1 38 = .ok (.bastore, 1) := by decide +kernel
theorem rd_d_X11_feed_17 : decode tX11_feed.1.2.1 17 = .ok (.invokevirtual 109, 3) := by decide +kernel
theorem rd_k_X11_feed_17 : ex_lk ex_mt tX11_feed 17 (.invokevirtual 109) [0, 15, 196615] = true := by decide +kernel
theorem rd_d_X11_feed_25 : decode tX11_feed.1.2.1 25 = .ok (.invokevirtual 109, 3) := by decide +kernel
theorem rd_k_X11_feed_25 : ex_lk ex_mt tX11_feed 25 (.invokevirtual 109) [0, 15, 196615] = true := by decide +kernel
theorem rd_d_X11_feed_33 : decode tX11_feed.1.2.1 33 = .ok (.invokevirtual 109, 3) := by decide +kernel
theorem rd_k_X11_feed_33 : ex_lk ex_mt tX11_feed 33 (.invokevirtual 109) [0, 15, 196615] = true := by decide +kernel
theorem rd_d_X11_feed_42 : decode tX11_feed.1.2.1 42 = .ok (.invokevirtual 109, 3) := by decide +kernel
theorem rd_k_X11_feed_42 : ex_lk ex_mt tX11_feed 42 (.invokevirtual 109) [0, 15, 196615] = true := by decide +kernel
theorem rd_d_X11_feed_51 : decode tX11_feed.1.2.1 51 = .ok (.invokevirtual 109, 3) := by decide +kernel
theorem rd_k_X11_feed_51 : ex_lk ex_mt tX11_feed 51 (.invokevirtual 109) [0, 15, 196615] = true := by decide +kernel
