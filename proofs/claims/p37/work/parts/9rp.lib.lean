/-! exact answers, further (rows written by a program) -/
theorem rd_d_X11_nextSeed_0 : decode tX11_nextSeed.1.2.1 0 = .ok (.iload_n 0, 1) := by decide +kernel
theorem rd_d_X11_nextSeed_1 : decode tX11_nextSeed.1.2.1 1 = .ok (.ldc_w 451, 3) := by decide +kernel
theorem rd_k_X11_nextSeed_1 : ex_lk ex_mt tX11_nextSeed 1 (.ldc_w 451) [1103515245, 262191] = true := by decide +kernel
theorem rd_d_X11_nextSeed_4 : decode tX11_nextSeed.1.2.1 4 = .ok (.imul, 1) := by decide +kernel
theorem rd_d_X11_nextSeed_5 : decode tX11_nextSeed.1.2.1 5 = .ok (.sipush 12345, 3) := by decide +kernel
theorem rd_d_X11_nextSeed_8 : decode tX11_nextSeed.1.2.1 8 = .ok (.iadd, 1) := by decide +kernel
theorem rd_d_X11_nextSeed_9 : decode tX11_nextSeed.1.2.1 9 = .ok (.ireturn, 1) := by decide +kernel
theorem rd_d_X11_drawOf_0 : decode tX11_drawOf.1.2.1 0 = .ok (.iload_n 1, 1) := by decide +kernel
theorem rd_d_X11_drawOf_1 : decode tX11_drawOf.1.2.1 1 = .ok (.ifCond .le 12, 3) := by decide +kernel
theorem rd_d_X11_drawOf_4 : decode tX11_drawOf.1.2.1 4 = .ok (.iload_n 0, 1) := by decide +kernel
theorem rd_d_X11_drawOf_5 : decode tX11_drawOf.1.2.1 5 = .ok (.bipush 8, 2) := by decide +kernel
theorem rd_d_X11_drawOf_7 : decode tX11_drawOf.1.2.1 7 = .ok (.iushr, 1) := by decide +kernel
theorem rd_d_X11_drawOf_8 : decode tX11_drawOf.1.2.1 8 = .ok (.iload_n 1, 1) := by decide +kernel
theorem rd_d_X11_drawOf_9 : decode tX11_drawOf.1.2.1 9 = .ok (.irem, 1) := by decide +kernel
theorem rd_d_X11_drawOf_10 : decode tX11_drawOf.1.2.1 10 = .ok (.goto 4, 3) := by decide +kernel
theorem rd_d_X11_drawOf_13 : decode tX11_drawOf.1.2.1 13 = .ok (.iconst 0, 1) := by decide +kernel
theorem rd_d_X11_drawOf_14 : decode tX11_drawOf.1.2.1 14 = .ok (.ireturn, 1) := by decide +kernel
theorem rd_d_X0_draw_0 : decode tX0_draw.1.2.1 0 = .ok (.aload_n 0, 1) := by decide +kernel
theorem rd_d_X0_draw_1 : decode tX0_draw.1.2.1 1 = .ok (.aload_n 0, 1) := by decide +kernel
theorem rd_d_X0_draw_2 : decode tX0_draw.1.2.1 2 = .ok (.getfield 9, 3) := by decide +kernel
theorem rd_k_X0_draw_2 : ex_lk ex_mt tX0_draw 2 (.getfield 9) [0, 0, 0, 131155] = true := by decide +kernel
theorem rd_d_X0_draw_5 : decode tX0_draw.1.2.1 5 = .ok (.invokestatic 70, 3) := by decide +kernel
theorem rd_k_X0_draw_5 : ex_lk ex_mt tX0_draw 5 (.invokestatic 70) [0, 51, 327832] = true := by decide +kernel
theorem rd_d_X0_draw_8 : decode tX0_draw.1.2.1 8 = .ok (.putfield 9, 3) := by decide +kernel
theorem rd_k_X0_draw_8 : ex_lk ex_mt tX0_draw 8 (.putfield 9) [0, 0, 0, 131155] = true := by decide +kernel
theorem rd_d_X0_draw_11 : decode tX0_draw.1.2.1 11 = .ok (.aload_n 0, 1) := by decide +kernel
theorem rd_d_X0_draw_12 : decode tX0_draw.1.2.1 12 = .ok (.getfield 9, 3) := by decide +kernel
theorem rd_k_X0_draw_12 : ex_lk ex_mt tX0_draw 12 (.getfield 9) [0, 0, 0, 131155] = true := by decide +kernel
theorem rd_d_X0_draw_15 : decode tX0_draw.1.2.1 15 = .ok (.iload_n 1, 1) := by decide +kernel
theorem rd_d_X0_draw_16 : decode tX0_draw.1.2.1 16 = .ok (.invokestatic 73, 3) := by decide +kernel
theorem rd_k_X0_draw_16 : ex_lk ex_mt tX0_draw 16 (.invokestatic 73) [0, 28, 327833] = true := by decide +kernel
theorem rd_d_X0_draw_19 : decode tX0_draw.1.2.1 19 = .ok (.ireturn, 1) := by decide +kernel
theorem rd_d_X9_secondsAtDraw_0 : decode tX9_secondsAtDraw.1.2.1 0 = .ok (.iconst 0, 1) := by decide +kernel
theorem rd_d_X9_secondsAtDraw_1 : decode tX9_secondsAtDraw.1.2.1 1 = .ok (.istore_n 2, 1) := by decide +kernel
theorem rd_d_X9_secondsAtDraw_2 : decode tX9_secondsAtDraw.1.2.1 2 = .ok (.iconst 0, 1) := by decide +kernel
theorem rd_d_X9_secondsAtDraw_3 : decode tX9_secondsAtDraw.1.2.1 3 = .ok (.istore_n 3, 1) := by decide +kernel
theorem rd_d_X9_secondsAtDraw_4 : decode tX9_secondsAtDraw.1.2.1 4 = .ok (.iload_n 3, 1) := by decide +kernel
theorem rd_d_X9_secondsAtDraw_5 : decode tX9_secondsAtDraw.1.2.1 5 = .ok (.aload_n 0, 1) := by decide +kernel
theorem rd_d_X9_secondsAtDraw_6 : decode tX9_secondsAtDraw.1.2.1 6 = .ok (.getfield 43, 3) := by decide +kernel
theorem rd_k_X9_secondsAtDraw_6 : ex_lk ex_mt tX9_secondsAtDraw 6 (.getfield 43) [9, 8, 0, 65660] = true := by decide +kernel
theorem rd_d_X9_secondsAtDraw_9 : decode tX9_secondsAtDraw.1.2.1 9 = .ok (.if_icmp .ge 28, 3) := by decide +kernel
theorem rd_d_X9_secondsAtDraw_12 : decode tX9_secondsAtDraw.1.2.1 12 = .ok (.iload_n 2, 1) := by decide +kernel
theorem rd_d_X9_secondsAtDraw_13 : decode tX9_secondsAtDraw.1.2.1 13 = .ok (.aload_n 0, 1) := by decide +kernel
theorem rd_d_X9_secondsAtDraw_14 : decode tX9_secondsAtDraw.1.2.1 14 = .ok (.iload_n 3, 1) := by decide +kernel
theorem rd_d_X9_secondsAtDraw_15 : decode tX9_secondsAtDraw.1.2.1 15 = .ok (.invokevirtual 134, 3) := by decide +kernel
theorem rd_k_X9_secondsAtDraw_15 : ex_lk ex_mt tX9_secondsAtDraw 15 (.invokevirtual 134) [0, 315, 327838] = true := by decide +kernel
theorem rd_d_X9_secondsAtDraw_18 : decode tX9_secondsAtDraw.1.2.1 18 = .ok (.iadd, 1) := by decide +kernel
theorem rd_d_X9_secondsAtDraw_19 : decode tX9_secondsAtDraw.1.2.1 19 = .ok (.istore_n 2, 1) := by decide +kernel
theorem rd_d_X9_secondsAtDraw_20 : decode tX9_secondsAtDraw.1.2.1 20 = .ok (.iload_n 1, 1) := by decide +kernel
theorem rd_d_X9_secondsAtDraw_21 : decode tX9_secondsAtDraw.1.2.1 21 = .ok (.iload_n 2, 1) := by decide +kernel
theorem rd_d_X9_secondsAtDraw_22 : decode tX9_secondsAtDraw.1.2.1 22 = .ok (.if_icmp .ge 9, 3) := by decide +kernel
theorem rd_d_X9_secondsAtDraw_25 : decode tX9_secondsAtDraw.1.2.1 25 = .ok (.aload_n 0, 1) := by decide +kernel
theorem rd_d_X9_secondsAtDraw_26 : decode tX9_secondsAtDraw.1.2.1 26 = .ok (.iload_n 3, 1) := by decide +kernel
theorem rd_d_X9_secondsAtDraw_27 : decode tX9_secondsAtDraw.1.2.1 27 = .ok (.invokevirtual 108, 3) := by decide +kernel
theorem rd_k_X9_secondsAtDraw_27 : ex_lk ex_mt tX9_secondsAtDraw 27 (.invokevirtual 108) [0, 308, 196741] = true := by decide +kernel
theorem rd_d_X9_secondsAtDraw_30 : decode tX9_secondsAtDraw.1.2.1 30 = .ok (.ireturn, 1) := by decide +kernel
theorem rd_d_X9_secondsAtDraw_31 : decode tX9_secondsAtDraw.1.2.1 31 = .ok (.iinc 3 1, 3) := by decide +kernel
theorem rd_d_X9_secondsAtDraw_34 : decode tX9_secondsAtDraw.1.2.1 34 = .ok (.goto (-30), 3) := by decide +kernel
theorem rd_d_X0_isPaid_0 : decode tX0_isPaid.1.2.1 0 = .ok (.aload 4, 2) := by decide +kernel
theorem rd_d_X0_isPaid_2 : decode tX0_isPaid.1.2.1 2 = .ok (.iload_n 1, 1) := by decide +kernel
theorem rd_d_X0_isPaid_3 : decode tX0_isPaid.1.2.1 3 = .ok (.invokevirtual 57, 3) := by decide +kernel
theorem rd_k_X0_isPaid_3 : ex_lk ex_mt tX0_isPaid 3 (.invokevirtual 57) [0, 228, 327844] = true := by decide +kernel
theorem rd_d_X0_isPaid_6 : decode tX0_isPaid.1.2.1 6 = .ok (.iconst 1, 1) := by decide +kernel
theorem rd_d_X0_isPaid_7 : decode tX0_isPaid.1.2.1 7 = .ok (.if_icmp .ne 22, 3) := by decide +kernel
theorem rd_d_X0_isPaid_10 : decode tX0_isPaid.1.2.1 10 = .ok (.aload_n 0, 1) := by decide +kernel
theorem rd_d_X0_isPaid_11 : decode tX0_isPaid.1.2.1 11 = .ok (.bipush 12, 2) := by decide +kernel
theorem rd_d_X0_isPaid_13 : decode tX0_isPaid.1.2.1 13 = .ok (.invokevirtual 27, 3) := by decide +kernel
theorem rd_k_X0_isPaid_13 : ex_lk ex_mt tX0_isPaid 13 (.invokevirtual 27) [0, 11, 327828] = true := by decide +kernel
theorem rd_d_X0_isPaid_16 : decode tX0_isPaid.1.2.1 16 = .ok (.aload_n 3, 1) := by decide +kernel
theorem rd_d_X0_isPaid_17 : decode tX0_isPaid.1.2.1 17 = .ok (.invokevirtual 60, 3) := by decide +kernel
theorem rd_k_X0_isPaid_17 : ex_lk ex_mt tX0_isPaid 17 (.invokevirtual 60) [0, 310, 327845] = true := by decide +kernel
theorem rd_d_X0_isPaid_20 : decode tX0_isPaid.1.2.1 20 = .ok (.if_icmp .lt 7, 3) := by decide +kernel
theorem rd_d_X0_isPaid_23 : decode tX0_isPaid.1.2.1 23 = .ok (.iconst 1, 1) := by decide +kernel
theorem rd_d_X0_isPaid_24 : decode tX0_isPaid.1.2.1 24 = .ok (.goto 4, 3) := by decide +kernel
theorem rd_d_X0_isPaid_27 : decode tX0_isPaid.1.2.1 27 = .ok (.iconst 0, 1) := by decide +kernel
theorem rd_d_X0_isPaid_28 : decode tX0_isPaid.1.2.1 28 = .ok (.ireturn, 1) := by decide +kernel
theorem rd_d_X0_isPaid_29 : decode tX0_isPaid.1.2.1 29 = .ok (.aload 4, 2) := by decide +kernel
theorem rd_d_X0_isPaid_31 : decode tX0_isPaid.1.2.1 31 = .ok (.iload_n 1, 1) := by decide +kernel
theorem rd_d_X0_isPaid_32 : decode tX0_isPaid.1.2.1 32 = .ok (.invokevirtual 64, 3) := by decide +kernel
theorem rd_k_X0_isPaid_32 : ex_lk ex_mt tX0_isPaid 32 (.invokevirtual 64) [0, 226, 327846] = true := by decide +kernel
theorem rd_d_X0_isPaid_35 : decode tX0_isPaid.1.2.1 35 = .ok (.iload_n 2, 1) := by decide +kernel
theorem rd_d_X0_isPaid_36 : decode tX0_isPaid.1.2.1 36 = .ok (.if_icmp .le 16, 3) := by decide +kernel
theorem rd_d_X0_isPaid_39 : decode tX0_isPaid.1.2.1 39 = .ok (.aload_n 0, 1) := by decide +kernel
theorem rd_d_X0_isPaid_40 : decode tX0_isPaid.1.2.1 40 = .ok (.bipush 12, 2) := by decide +kernel
theorem rd_d_X0_isPaid_42 : decode tX0_isPaid.1.2.1 42 = .ok (.invokevirtual 27, 3) := by decide +kernel
theorem rd_k_X0_isPaid_42 : ex_lk ex_mt tX0_isPaid 42 (.invokevirtual 27) [0, 11, 327828] = true := by decide +kernel
theorem rd_d_X0_isPaid_45 : decode tX0_isPaid.1.2.1 45 = .ok (.aload_n 3, 1) := by decide +kernel
theorem rd_d_X0_isPaid_46 : decode tX0_isPaid.1.2.1 46 = .ok (.invokevirtual 67, 3) := by decide +kernel
theorem rd_k_X0_isPaid_46 : ex_lk ex_mt tX0_isPaid 46 (.invokevirtual 67) [0, 294, 327847] = true := by decide +kernel
theorem rd_d_X0_isPaid_49 : decode tX0_isPaid.1.2.1 49 = .ok (.if_icmp .ge 7, 3) := by decide +kernel
theorem rd_d_X0_isPaid_52 : decode tX0_isPaid.1.2.1 52 = .ok (.iconst 1, 1) := by decide +kernel
theorem rd_d_X0_isPaid_53 : decode tX0_isPaid.1.2.1 53 = .ok (.goto 4, 3) := by decide +kernel
theorem rd_d_X0_isPaid_56 : decode tX0_isPaid.1.2.1 56 = .ok (.iconst 0, 1) := by decide +kernel
theorem rd_d_X0_isPaid_57 : decode tX0_isPaid.1.2.1 57 = .ok (.ireturn, 1) := by decide +kernel
theorem rd_d_X0_live_45 : decode tX0_live.1.2.1 45 = .ok (.iload 8, 2) := by decide +kernel
theorem rd_d_X0_live_47 : decode tX0_live.1.2.1 47 = .ok (.aload 4, 2) := by decide +kernel
theorem rd_d_X0_live_49 : decode tX0_live.1.2.1 49 = .ok (.getfield 33, 3) := by decide +kernel
theorem rd_k_X0_live_49 : ex_lk ex_mt tX0_live 49 (.getfield 33) [4, 12, 0, 131095] = true := by decide +kernel
theorem rd_d_X0_live_52 : decode tX0_live.1.2.1 52 = .ok (.if_icmp .ge 51, 3) := by decide +kernel
theorem rd_d_X0_live_55 : decode tX0_live.1.2.1 55 = .ok (.aload 4, 2) := by decide +kernel
theorem rd_d_X0_live_57 : decode tX0_live.1.2.1 57 = .ok (.iload 8, 2) := by decide +kernel
theorem rd_d_X0_live_59 : decode tX0_live.1.2.1 59 = .ok (.invokevirtual 38, 3) := by decide +kernel
theorem rd_k_X0_live_59 : ex_lk ex_mt tX0_live 59 (.invokevirtual 38) [0, 227, 327839] = true := by decide +kernel
theorem rd_d_X0_live_62 : decode tX0_live.1.2.1 62 = .ok (.iload 6, 2) := by decide +kernel
theorem rd_d_X0_live_64 : decode tX0_live.1.2.1 64 = .ok (.if_icmp .ge 33, 3) := by decide +kernel
theorem rd_d_X0_live_67 : decode tX0_live.1.2.1 67 = .ok (.aload_n 0, 1) := by decide +kernel
theorem rd_d_X0_live_68 : decode tX0_live.1.2.1 68 = .ok (.iload 8, 2) := by decide +kernel
theorem rd_d_X0_live_70 : decode tX0_live.1.2.1 70 = .ok (.iload 6, 2) := by decide +kernel
theorem rd_d_X0_live_72 : decode tX0_live.1.2.1 72 = .ok (.aload_n 3, 1) := by decide +kernel
theorem rd_d_X0_live_73 : decode tX0_live.1.2.1 73 = .ok (.aload 4, 2) := by decide +kernel
theorem rd_d_X0_live_75 : decode tX0_live.1.2.1 75 = .ok (.invokevirtual 41, 3) := by decide +kernel
theorem rd_k_X0_live_75 : ex_lk ex_mt tX0_live 75 (.invokevirtual 41) [0, 13, 327840] = true := by decide +kernel
theorem rd_d_X0_live_78 : decode tX0_live.1.2.1 78 = .ok (.ifCond .eq 19, 3) := by decide +kernel
theorem rd_d_X0_live_81 : decode tX0_live.1.2.1 81 = .ok (.iload 7, 2) := by decide +kernel
theorem rd_d_X0_live_83 : decode tX0_live.1.2.1 83 = .ok (.aload_n 3, 1) := by decide +kernel
theorem rd_d_X0_live_84 : decode tX0_live.1.2.1 84 = .ok (.aload 4, 2) := by decide +kernel
theorem rd_d_X0_live_86 : decode tX0_live.1.2.1 86 = .ok (.iload 8, 2) := by decide +kernel
theorem rd_d_X0_live_88 : decode tX0_live.1.2.1 88 = .ok (.invokevirtual 45, 3) := by decide +kernel
theorem rd_k_X0_live_88 : ex_lk ex_mt tX0_live 88 (.invokevirtual 45) [0, 229, 327848] = true := by decide +kernel
theorem rd_d_X0_live_91 : decode tX0_live.1.2.1 91 = .ok (.invokevirtual 48, 3) := by decide +kernel
theorem rd_k_X0_live_91 : ex_lk ex_mt tX0_live 91 (.invokevirtual 48) [0, 299, 327849] = true := by decide +kernel
theorem rd_d_X0_live_94 : decode tX0_live.1.2.1 94 = .ok (.iadd, 1) := by decide +kernel
theorem rd_d_X0_live_95 : decode tX0_live.1.2.1 95 = .ok (.istore 7, 2) := by decide +kernel
theorem rd_d_X0_live_97 : decode tX0_live.1.2.1 97 = .ok (.iinc 8 1, 3) := by decide +kernel
theorem rd_d_X0_live_100 : decode tX0_live.1.2.1 100 = .ok (.goto (-55), 3) := by decide +kernel
section AXX
variable {g : am_C} {L : Nat} {xs : Nat → Int32}
/-! trains drawn -/
theorem rd_c0 {T : ex_T} {pc i r p : Nat} {v : Int32} (hl : ex_lk ex_mt T pc (.ldc i) [r, p] = true) (hv : Int32.ofInt (.ofNat r) = v) : Cond.constant T.1.1.cls i v ∈ lw_tbl := hv ▸ ex_mem_ok hl
theorem rd_c1 {T : ex_T} {pc i r p : Nat} {v : Int32} (hl : ex_lk ex_mt T pc (.ldc_w i) [r, p] = true) (hv : Int32.ofInt (.ofNat r) = v) : Cond.constant T.1.1.cls i v ∈ lw_tbl := hv ▸ ex_mem_ok hl
def ax_f_dof (x n : Int32) : Int32 := if n ≤ 0 then 0 else ((x : Int32).toUInt32 >>> ((8 : Int32).toUInt32 &&& Int32.toUInt32 31)).toInt32 - ((x : Int32).toUInt32 >>> ((8 : Int32).toUInt32 &&& Int32.toUInt32 31)).toInt32 / n * n
theorem dof_b {x n : Int32} {N : Nat} (en : n.toInt = (N : Int)) (h : 0 < N) : ∃ R : Nat, R < N ∧ (ax_f_dof x n).toInt = (R : Int) := by
  have z0 : (0 : Int32).toInt = 0 := rfl
  obtain ⟨Q, hQ⟩ : ∃ Q : Nat, (((x : Int32).toUInt32 >>> ((8 : Int32).toUInt32 &&& Int32.toUInt32 31)).toInt32).toInt = (Q : Int) := by
    refine ⟨(x.toUInt32 >>> ((8 : Int32).toUInt32 &&& Int32.toUInt32 31)).toNat, ?_⟩
    have e8 : ((8 : Int32).toUInt32 &&& Int32.toUInt32 31) = 8 := by decide
    rw [e8]
    have hl : (x.toUInt32 >>> (8 : UInt32)).toNat = x.toUInt32.toNat >>> 8 := by rw [UInt32.toNat_shiftRight]; rfl
    have hb : x.toUInt32.toNat < 2 ^ 32 := UInt32.toNat_lt _
    have h24 : x.toUInt32.toNat >>> 8 < 2 ^ 24 := by rw [Nat.shiftRight_eq_div_pow]; omega
    show ((x.toUInt32 >>> (8 : UInt32)).toBitVec).toInt = _
    exact BitVec.toInt_eq_toNat_of_lt (by show 2 * (x.toUInt32 >>> (8 : UInt32)).toNat < 2 ^ 32; omega)
  refine ⟨Q % N, Nat.mod_lt _ h, ?_⟩
  rw [ax_f_dof, if_neg (fun q => by have := Int32.le_iff_toInt_le.mp q; omega)]
  exact ax_rem hQ en h
theorem gr_max (a b : Int32) : ax_f_gr a b = ax_f_max a b := by
  rw [ax_f_gr, ax_f_max]
  by_cases h : a < b
  · rw [if_pos h, if_pos (Int32.le_iff_toInt_le.mpr (by have := Int32.lt_iff_toInt_lt.mp h; omega))]
  · have h' : ¬ a.toInt < b.toInt := fun q => h (Int32.lt_iff_toInt_lt.mpr q)
    rw [if_neg h]
    by_cases c : a ≤ b
    · have := Int32.le_iff_toInt_le.mp c
      rw [if_pos c]
      exact Int32.toInt_inj.mp (by omega)
    · rw [if_neg c]
def ax_f_nxs (x : Int32) : Int32 := (x * 1103515245) + 12345
theorem ax_nxs (G : sx_G0 g L xs z9 hd_C ex_mt) {σ : am_S} (hS : ax_S σ) (x : Int32) : am_K g 1 tX11_nextSeed.1 0 0 0 (lv_args 0 [.int x]) [] σ (ax_R (ax_f_nxs x) σ) := by
  refine kr_iload_n 0 rd_d_X11_nextSeed_0 rfl ?_
  refine kr_ldcw G.1 (v := 1103515245) rd_d_X11_nextSeed_1 (rd_c1 rd_k_X11_nextSeed_1 (by decide)) ?_
  refine kr_imul rd_d_X11_nextSeed_4 ?_
  refine kr_sipush (v := 12345) rd_d_X11_nextSeed_5 (by decide) ?_
  refine kr_iadd rd_d_X11_nextSeed_8 ?_
  exact kr_ireturn rd_d_X11_nextSeed_9 (ty := .int) rfl rfl ⟨rfl, rfl⟩
theorem ax_dof (G : sx_G0 g L xs z9 hd_C ex_mt) {σ : am_S} (hS : ax_S σ) (x n : Int32) : am_K g 1 tX11_drawOf.1 0 0 0 (lv_args 0 [.int x, .int n]) [] σ (ax_R (ax_f_dof x n) σ) := by
  refine kr_iload_n 1 rd_d_X11_drawOf_0 rfl ?_
  refine kr_if_le (tgt := 13) rd_d_X11_drawOf_1 rfl (fun h1 => ?_) (fun h1 => ?_)
  · refine kr_iconst (v := 0) rd_d_X11_drawOf_13 (by decide) ?_
    exact kr_ireturn rd_d_X11_drawOf_14 (ty := .int) rfl rfl ⟨by rw [ax_f_dof, if_pos h1], rfl⟩
  · refine kr_iload_n 0 rd_d_X11_drawOf_4 rfl ?_
    refine kr_bipush (v := 8) rd_d_X11_drawOf_5 (by decide) ?_
    refine kr_iushr rd_d_X11_drawOf_7 ?_
    refine kr_iload_n 1 rd_d_X11_drawOf_8 rfl ?_
    refine kr_irem rd_d_X11_drawOf_9 (fun e => h1 (by rw [e]; decide)) ?_
    refine kr_goto (tgt := 14) rd_d_X11_drawOf_10 rfl ?_
    exact kr_ireturn rd_d_X11_drawOf_14 (ty := .int) rfl rfl ⟨by rw [ax_f_dof, if_neg h1], rfl⟩
theorem ax_drX (G : sx_G0 g L xs z9 hd_C ex_mt) {σ : am_S} (hS : ax_S σ) (n : Int32) : am_K g 2 tX0_draw.1 0 0 0 (lv_args 0 [.ref 80, .int n]) [] σ (fun r σ' => r = some (some (.int (ax_f_dof (ax_f_nxs (σ.2.1 80 0)) n))) ∧ ax_S σ' ∧ σ'.2.1 80 0 = ax_f_nxs (σ.2.1 80 0) ∧ (∀ a b, ¬ (a = 80 ∧ b = 0) → σ'.2.1 a b = σ.2.1 a b) ∧ σ'.2.2 = σ.2.2) := by
  refine kr_aload_n 0 rd_d_X0_draw_0 rfl ?_
  refine kr_aload_n 0 rd_d_X0_draw_1 rfl ?_
  refine kr_getf G.1 (rd_FL rd_k_X0_draw_2).1 rd_d_X0_draw_2 (hS.1 80 (.inl 0) rfl) (v := .int (σ.2.1 80 0)) (by unfold am_fa; rw [(rd_FL rd_k_X0_draw_2).2]; rfl) ?_
  refine rd_callS G (T2 := tX11_nextSeed) rfl rd_d_X0_draw_5 rd_k_X0_draw_5 rfl rfl (as := [.int (σ.2.1 80 0)]) (st := [.ref 80]) rfl (Nat.le_of_ble_eq_true rfl) rfl (Nat.le_of_ble_eq_true rfl) (d1 := 1) (by decide) (fun _ h => by cases h.1) (ax_nxs G hS (σ.2.1 80 0)) ?_
  intro v1 σ1 ⟨hv1, hs1⟩
  cases hv1
  rw [hs1]
  refine ax_putWL G hS rd_d_X0_draw_8 rd_k_X0_draw_8 (hS.1 80 (.inl 0) rfl) rfl rfl rfl ?_
  intro τ1 hT1 hw1 hf1 hl1
  have hsτ1 : τ1.2.1 120 = σ.2.1 120 := (ax_120F hf1 (by decide))
  have hqτ1 : ax_pl τ1.2.1 = ax_pl σ.2.1 := (ax_plF hf1 (by decide))
  have hLτ1 : τ1.2.2 = σ.2.2 := hl1
  refine kr_aload_n 0 rd_d_X0_draw_11 rfl ?_
  refine kr_getf G.1 (rd_FL rd_k_X0_draw_12).1 rd_d_X0_draw_12 (hT1.1 80 (.inl 0) rfl) (v := .int (ax_f_nxs (σ.2.1 80 0))) (by unfold am_fa; rw [(rd_FL rd_k_X0_draw_12).2]; exact congrArg Value.int (hw1)) ?_
  refine kr_iload_n 1 rd_d_X0_draw_15 rfl ?_
  refine rd_callS G (T2 := tX11_drawOf) rfl rd_d_X0_draw_16 rd_k_X0_draw_16 rfl rfl (as := [.int (ax_f_nxs (σ.2.1 80 0)), .int n]) (st := []) rfl (Nat.le_of_ble_eq_true rfl) rfl (Nat.le_of_ble_eq_true rfl) (d1 := 1) (by decide) (fun _ h => by cases h.1) (ax_dof G hT1 (ax_f_nxs (σ.2.1 80 0)) n) ?_
  intro v2 σ2 ⟨hv2, hs2⟩
  cases hv2
  rw [hs2]
  exact kr_ireturn rd_d_X0_draw_19 (ty := .int) rfl rfl ⟨rfl, hT1, hw1, hf1, hl1⟩
/-- is a sale paid; the seed behind it -/
def pd_pd (s : Nat → Int32) (q : Nat × Nat) (S x : Int32) : Bool × Int32 := if ax_f_bwM s (Int32.ofNat q.1) (Int32.ofNat q.2) = 1 then (!(decide (ax_f_dof (ax_f_nxs x) 12 < s 57)), ax_f_nxs x) else if (pz_en s q : Int) ≤ S.toInt then (true, x) else (decide (ax_f_dof (ax_f_nxs x) 12 < s 56), ax_f_nxs x)
/-- the sales of a day: pence, seed -/
def pd_in (s : Nat → Int32) (S x : Int32) : Nat → Int32 × Int32
  | 0 => (0, x)
  | j + 1 => if (((pz_best s).getD j (0, 0)).2 : Int) < S.toInt then (if (pd_pd s ((pz_best s).getD j (0, 0)) S (pd_in s S x j).2).1 = true then (pd_in s S x j).1 + s (2 + ((pz_best s).getD j (0, 0)).1) else (pd_in s S x j).1, (pd_pd s ((pz_best s).getD j (0, 0)) S (pd_in s S x j).2).2) else pd_in s S x j
def pd_W (s : Nat → Int32) : Nat → Int
  | 0 => 0
  | k + 1 => pd_W s k + (ax_f_wgtM s 0 k).toInt
def pd_kf (s : Nat → Int32) (v : Int) : Nat → Nat → Nat
  | k, 0 => k
  | k, f + 1 => if v < pd_W s (k + 1) then k else pd_kf s v (k + 1) f
/-- how long a train stands, by its draw -/
def pd_S (s : Nat → Int32) (v : Int32) : Int32 := ax_f_secM s 0 (pd_kf s v.toInt 0 (pz_sN s))
/-- the days: in all, the most, seed -/
def pd_out (s : Nat → Int32) (x : Int32) : Nat → Int32 × Int32 × Int32
  | 0 => (0, 0, x)
  | i + 1 => ((pd_out s x i).1 + (pd_in s (pd_S s (ax_f_dof (ax_f_nxs (pd_out s x i).2.2) (ax_f_sd s 0))) (ax_f_nxs (pd_out s x i).2.2) (pz_best s).length).1, ax_f_max (pd_out s x i).2.1 (pd_in s (pd_S s (ax_f_dof (ax_f_nxs (pd_out s x i).2.2) (ax_f_sd s 0))) (ax_f_nxs (pd_out s x i).2.2) (pz_best s).length).1, (pd_in s (pd_S s (ax_f_dof (ax_f_nxs (pd_out s x i).2.2) (ax_f_sd s 0))) (ax_f_nxs (pd_out s x i).2.2) (pz_best s).length).2)
theorem wgt_b {s : Nat → Int32} (b : pn_B s) (k : Int32) {j : Nat} (hj : j < 6) : 0 ≤ (ax_f_wgtM s k j).toInt ∧ (ax_f_wgtM s k j).toInt ≤ 9 := by
  rw [ax_f_wgtM]
  split
  · exact ⟨by decide, by decide⟩
  · exact b.2.1.2.2.2.2 j hj
theorem pd_Wb {s : Nat → Int32} (b : pn_B s) : ∀ j, j ≤ 6 → 0 ≤ pd_W s j ∧ pd_W s j ≤ 9 * j := by
  intro j
  induction j with
  | zero => intro _; exact ⟨Int.le_refl _, Int.le_refl _⟩
  | succ j ih =>
    intro h
    have h1 := ih (by omega)
    have h2 := wgt_b b 0 (j := j) (by omega)
    show 0 ≤ pd_W s j + (ax_f_wgtM s 0 j).toInt ∧ pd_W s j + (ax_f_wgtM s 0 j).toInt ≤ 9 * ((j + 1 : Nat) : Int)
    omega
theorem pd_sd {s : Nat → Int32} (b : pn_B s) (h0 : ∀ k, k < 6 → 0 ≤ (s (42 + k)).toInt) : (ax_f_sd s 0).toInt = pd_W s (pz_sN s) := by
  have hn := ax_many6 (s := s) b.1.2
  have z0 : (0 : Int32).toInt = 0 := rfl
  have hN : (ax_f_many s).toInt = (pz_sN s : Int) := by unfold pz_sN; omega
  have sec0 : ∀ k, k < 6 → 0 ≤ (ax_f_secM s 0 k).toInt := fun k hk => by
    rw [ax_f_secM]
    split
    · decide
    · exact h0 k hk
  have g : ∀ (f j : Nat) (k z : Int32), k.toInt = (j : Int) → j + f = 6 → j ≤ pz_sN s → z.toInt = pd_W s j → (ax_l_sdM s 0 f k z).toInt = pd_W s (pz_sN s) := by
    intro f
    induction f with
    | zero =>
      intro j k z ek hj hjn ez
      have e : j = pz_sN s := by omega
      rw [ax_l_sdM_zero, ax_s_sdM, if_pos (Int32.le_iff_toInt_le.mpr (by omega)), ← e]
      exact ez
    | succ f ih =>
      intro j k z ek hj hjn ez
      rw [ax_l_sdM_succ, ax_s_sdM]
      by_cases q : ax_f_many s ≤ k
      · have q' := Int32.le_iff_toInt_le.mp q
        have e : j = pz_sN s := by omega
        rw [if_pos q, ← e]
        exact ez
      · have q' : ¬ (ax_f_many s).toInt ≤ k.toInt := fun y => q (Int32.le_iff_toInt_le.mpr y)
        have hkj : k.toInt.toNat = j := by omega
        have hsec := sec0 j (by omega)
        have hw := wgt_b b 0 (j := j) (by omega)
        have hWb := pd_Wb b j (by omega)
        have es : ax_f_secM s k k.toInt.toNat = ax_f_secM s 0 j := by rw [hkj]; rfl
        have ew : ax_f_wgtM s k k.toInt.toNat = ax_f_wgtM s 0 j := by rw [hkj]; rfl
        rw [if_neg q, es, ew, if_neg (fun z => by have := Int32.lt_iff_toInt_lt.mp z; have z0 : (0 : Int32).toInt = 0 := rfl; omega)]
        refine ih (j + 1) _ _ (ax_inc ek (by omega)) (by omega) (by omega) ?_
        rw [sx_addI _ _ (by show (-2147483648 : Int) ≤ _; omega) (by show _ ≤ (2147483647 : Int); omega), ez]
        rfl
  rw [ax_f_sd]
  exact g 6 0 0 0 rfl rfl (Nat.zero_le _) rfl
theorem ax_saL (G : sx_G0 g L xs z9 hd_C ex_mt) {s : Nat → Int32} (b : pn_B s) {σ : am_S} (hS : ax_S σ) (hX : pc_X s σ) {v : Int32} (hv : v.toInt < pd_W s (pz_sN s)) : ∀ (f j : Nat) (a k : Int32), k.toInt = (j : Int) → j + f = pz_sN s → a.toInt = pd_W s j → pd_W s j ≤ v.toInt → am_K g 3 tX9_secondsAtDraw.1 0 0 4 [(3, .int k), (2, .int a), (0, .ref 4), (1, .int v)] [] σ (fun r σ' => r = some (some (.int (ax_f_secM s 0 (pd_kf s v.toInt j f)))) ∧ σ' = σ) := by
  have hm := pl_many hX.1 b.1
  have h6 := ax_many6 (s := s) b.1.2
  have hN : (σ.2.1 4 8).toInt = (pz_sN s : Int) := by unfold pz_sN; omega
  intro f
  induction f with
  | zero =>
    intro j a k ek hj ea hle
    have e : j = pz_sN s := by omega
    subst e
    omega
  | succ f ih =>
    intro j a k ek hj ea hle
    obtain ⟨hsec, hwgt⟩ := pl_sec hX.1 b.1 ek (by omega)
    have hsec0 : ax_f_secX σ.2.1 k = ax_f_secM s 0 j := hsec
    have hwgt0 : ax_f_wgtX σ.2.1 k = ax_f_wgtM s 0 j := hwgt
    have hw := wgt_b b 0 (j := j) (by omega)
    have hWb := pd_Wb b j (by omega)
    have hstep : pd_W s (j + 1) = pd_W s j + (ax_f_wgtM s 0 j).toInt := rfl
    have hkf : pd_kf s v.toInt j (f + 1) = if v.toInt < pd_W s (j + 1) then j else pd_kf s v.toInt (j + 1) f := rfl
    have ea2 : (a + ax_f_wgtX σ.2.1 k).toInt = pd_W s (j + 1) := by rw [hwgt0, sx_addI _ _ (by show (-2147483648 : Int) ≤ _; omega) (by show _ ≤ (2147483647 : Int); omega), ea]; exact hstep.symm
    refine kr_iload_n 0 rd_d_X9_secondsAtDraw_4 rfl ?_
    refine kr_aload_n 2 rd_d_X9_secondsAtDraw_5 rfl ?_
    refine kr_getf G.1 (rd_FL rd_k_X9_secondsAtDraw_6).1 rd_d_X9_secondsAtDraw_6 (hS.1 4 (.inl 9) rfl) (v := .int (σ.2.1 4 8)) (by unfold am_fa; rw [(rd_FL rd_k_X9_secondsAtDraw_6).2]; rfl) ?_
    refine kr_icmp_ge (tgt := 37) rd_d_X9_secondsAtDraw_9 rfl (fun h21 => ?_) (fun h21 => ?_)
    · have := Int32.le_iff_toInt_le.mp h21
      omega
    · refine kr_iload_n 1 rd_d_X9_secondsAtDraw_12 rfl ?_
      refine kr_aload_n 2 rd_d_X9_secondsAtDraw_13 rfl ?_
      refine kr_iload_n 0 rd_d_X9_secondsAtDraw_14 rfl ?_
      refine rd_call G (T2 := tX9_weightOf) rfl rd_d_X9_secondsAtDraw_15 rd_k_X9_secondsAtDraw_15 rfl (hS.1 4 (.inl 9) rfl) (as := [.int k]) (st := [.int a]) rfl (Nat.le_of_ble_eq_true rfl) rfl (Nat.le_of_ble_eq_true rfl) (d1 := 2) (by decide) (fun _ h => by cases h.1) (ax_wgtX G hS k) ?_
      intro v41 σ41 ⟨hv41, hs41⟩
      cases hv41
      rw [hs41]
      refine kr_iadd rd_d_X9_secondsAtDraw_18 ?_
      refine kr_istore_n (lv' := [(2, .int (a + (ax_f_wgtX σ.2.1 k))), (3, .int k), (0, .ref 4), (1, .int v)]) rd_d_X9_secondsAtDraw_19 (by decide) rfl ?_
      refine kr_iload_n 3 rd_d_X9_secondsAtDraw_20 rfl ?_
      refine kr_iload_n 0 rd_d_X9_secondsAtDraw_21 rfl ?_
      refine kr_icmp_ge (tgt := 31) rd_d_X9_secondsAtDraw_22 rfl (fun h42 => ?_) (fun h42 => ?_)
      · refine kr_iinc (v := k + 1) (lv' := [(3, .int (k + 1)), (2, .int (a + (ax_f_wgtX σ.2.1 k))), (0, .ref 4), (1, .int v)]) 1 rd_d_X9_secondsAtDraw_31 rfl rfl (by decide) rfl ?_
        refine kr_goto (tgt := 4) rd_d_X9_secondsAtDraw_34 rfl ?_
        refine kr_sub (lv' := [(3, .int (k + 1)), (2, .int (a + (ax_f_wgtX σ.2.1 k))), (0, .ref 4), (1, .int v)]) (by simp) ?_
        have q := Int32.le_iff_toInt_le.mp h42
        rw [hkf, if_neg (by omega)]
        exact ih (j + 1) (a + (ax_f_wgtX σ.2.1 k)) (k + 1) (ax_inc ek (by omega)) (by omega) ea2 (by omega)
      · refine kr_aload_n 2 rd_d_X9_secondsAtDraw_25 rfl ?_
        refine kr_iload_n 1 rd_d_X9_secondsAtDraw_26 rfl ?_
        refine rd_call G (T2 := tX9_secondsOf) rfl rd_d_X9_secondsAtDraw_27 rd_k_X9_secondsAtDraw_27 rfl (hS.1 4 (.inl 9) rfl) (as := [.int k]) (st := []) rfl (Nat.le_of_ble_eq_true rfl) rfl (Nat.le_of_ble_eq_true rfl) (d1 := 2) (by decide) (fun _ h => by cases h.1) (ax_secX G hS k) ?_
        intro v43 σ43 ⟨hv43, hs43⟩
        cases hv43
        rw [hs43]
        have q : ¬ (a + ax_f_wgtX σ.2.1 k).toInt ≤ v.toInt := fun q => h42 (Int32.le_iff_toInt_le.mpr q)
        rw [hkf, if_pos (by omega)]
        exact kr_ireturn rd_d_X9_secondsAtDraw_30 (ty := .int) rfl rfl ⟨by rw [hsec0], rfl⟩
theorem ax_sadX (G : sx_G0 g L xs z9 hd_C ex_mt) {s : Nat → Int32} (b : pn_B s) {σ : am_S} (hS : ax_S σ) (hX : pc_X s σ) {v : Int32} (hv : v.toInt < pd_W s (pz_sN s)) (h0 : 0 ≤ v.toInt) : am_K g 3 tX9_secondsAtDraw.1 0 0 0 (lv_args 0 [.ref 4, .int v]) [] σ (fun r σ' => r = some (some (.int (pd_S s v))) ∧ σ' = σ) := by
  refine kr_iconst (v := 0) rd_d_X9_secondsAtDraw_0 (by decide) ?_
  refine kr_istore_n (lv' := [(2, .int 0), (0, .ref 4), (1, .int v)]) rd_d_X9_secondsAtDraw_1 (by decide) rfl ?_
  refine kr_iconst (v := 0) rd_d_X9_secondsAtDraw_2 (by decide) ?_
  refine kr_istore_n (lv' := [(3, .int 0), (2, .int 0), (0, .ref 4), (1, .int v)]) rd_d_X9_secondsAtDraw_3 (by decide) rfl ?_
  exact ax_saL G b hS hX hv (pz_sN s) 0 0 0 rfl (by omega) rfl h0
theorem ax_ipX (G : sx_G0 g L xs z9 hd_C ex_mt) {s : Nat → Int32} (b : pn_B s) (b6 : pl_B6 s) {σ : am_S} (hS : ax_S σ) (hX : pc_X s σ) (hL : pb_L s (pz_best s) σ.2.1) {k S : Int32} {i : Nat} (ek : k.toInt = (i : Int)) (hi : i < (pz_best s).length) : am_K g 4 tX0_isPaid.1 0 0 0 (lv_args 0 [.ref 80, .int k, .int S, .ref 4, .ref 68]) [] σ (fun r σ' => r = some (some (.int (if (pd_pd s ((pz_best s).getD i (0, 0)) S (σ.2.1 80 0)).1 = true then 1 else 0))) ∧ ax_S σ' ∧ σ'.2.1 80 0 = (pd_pd s ((pz_best s).getD i (0, 0)) S (σ.2.1 80 0)).2 ∧ (∀ a b, ¬ (a = 80 ∧ b = 0) → σ'.2.1 a b = σ.2.1 a b) ∧ σ'.2.2 = σ.2.2) := by
  have hok := pz_best_ok b b6
  obtain ⟨g1, g2, g3⟩ := sl_g hL hok.1 ek hi
  have gE := sl_e b hX.1 hL hok ek hi
  obtain ⟨q, hq⟩ : ∃ q, (pz_best s).getD i (0, 0) = q := ⟨_, rfl⟩
  rw [hq] at g3 gE ⊢
  refine kr_aload 4 rd_d_X0_isPaid_0 rfl ?_
  refine kr_iload_n 1 rd_d_X0_isPaid_2 rfl ?_
  refine rd_call G (T2 := tX4_saleWay) rfl rd_d_X0_isPaid_3 rd_k_X0_isPaid_3 rfl (hS.1 68 (.inl 4) rfl) (as := [.int k]) (st := []) rfl (Nat.le_of_ble_eq_true rfl) rfl (Nat.le_of_ble_eq_true rfl) (d1 := 2) (by decide) (fun _ h => by cases h.1) (ax_sly G hS k) ?_
  intro v1 σ1 ⟨hv1, hs1⟩
  cases hv1
  rw [hs1]
  refine kr_iconst (v := 1) rd_d_X0_isPaid_6 (by decide) ?_
  refine kr_icmp_ne (tgt := 29) rd_d_X0_isPaid_7 rfl (fun h2 => ?_) (fun h2 => ?_)
  · refine kr_aload 4 rd_d_X0_isPaid_29 rfl ?_
    refine kr_iload_n 1 rd_d_X0_isPaid_31 rfl ?_
    refine rd_call G (T2 := tX4_saleEnd) rfl rd_d_X0_isPaid_32 rd_k_X0_isPaid_32 rfl (hS.1 68 (.inl 4) rfl) (as := [.int k]) (st := []) rfl (Nat.le_of_ble_eq_true rfl) rfl (Nat.le_of_ble_eq_true rfl) (d1 := 3) (by decide) (fun _ h => by cases h.1) (ax_sle G hS k) ?_
    intro v3 σ3 ⟨hv3, hs3⟩
    cases hv3
    rw [hs3]
    refine kr_iload_n 2 rd_d_X0_isPaid_35 rfl ?_
    refine kr_icmp_le (tgt := 52) rd_d_X0_isPaid_36 rfl (fun h4 => ?_) (fun h4 => ?_)
    · refine kr_iconst (v := 1) rd_d_X0_isPaid_52 (by decide) ?_
      refine kr_goto (tgt := 57) rd_d_X0_isPaid_53 rfl ?_
      have e : pd_pd s q S (σ.2.1 80 0) = (true, σ.2.1 80 0) := by rw [pd_pd, if_neg (fun z => h2 (g3.trans z)), if_pos (by have := Int32.le_iff_toInt_le.mp h4; omega)]
      rw [e]
      exact kr_ireturn rd_d_X0_isPaid_57 (ty := .boolean) rfl rfl ⟨rfl, hS, rfl, fun _ _ _ => rfl, rfl⟩
    · refine kr_aload_n 0 rd_d_X0_isPaid_39 rfl ?_
      refine kr_bipush (v := 12) rd_d_X0_isPaid_40 (by decide) ?_
      refine rd_call G (T2 := tX0_draw) rfl rd_d_X0_isPaid_42 rd_k_X0_isPaid_42 rfl (hS.1 80 (.inl 0) rfl) (as := [.int 12]) (st := []) rfl (Nat.le_of_ble_eq_true rfl) rfl (Nat.le_of_ble_eq_true rfl) (d1 := 2) (by decide) (fun _ h => by cases h.1) (ax_drX G hS 12) ?_
      intro v1 σ1 ⟨hv1, hS1, hw1, hf1, hl1⟩
      cases hv1
      have hX1 : pc_X s σ1 := pc_F hX (fun x y z => hf1 x y (by omega))
      have e57 : ax_f_shy σ1.2.1 = s 57 := ax_setE hX1.1 (a := 3) (j := 3) rfl (by decide)
      have e56 : ax_f_hon σ1.2.1 = s 56 := ax_setE hX1.1 (a := 2) (j := 2) rfl (by decide)
      refine kr_aload_n 3 rd_d_X0_isPaid_45 rfl ?_
      refine rd_call G (T2 := tX9_honest) rfl rd_d_X0_isPaid_46 rd_k_X0_isPaid_46 rfl (hS1.1 4 (.inl 9) rfl) (as := []) (st := [.int (ax_f_dof (ax_f_nxs (σ.2.1 80 0)) 12)]) rfl (Nat.le_of_ble_eq_true rfl) rfl (Nat.le_of_ble_eq_true rfl) (d1 := 2) (by decide) (fun _ h => by cases h.1) (ax_hon G hS1) ?_
      intro v5 σ5 ⟨hv5, hs5⟩
      cases hv5
      rw [hs5]
      refine kr_icmp_ge (tgt := 56) rd_d_X0_isPaid_49 rfl (fun h6 => ?_) (fun h6 => ?_)
      · refine kr_iconst (v := 0) rd_d_X0_isPaid_56 (by decide) ?_
        rw [e56] at h6
        have e : pd_pd s q S (σ.2.1 80 0) = (decide (ax_f_dof (ax_f_nxs (σ.2.1 80 0)) 12 < s 56), ax_f_nxs (σ.2.1 80 0)) := by rw [pd_pd, if_neg (fun z => h2 (g3.trans z)), if_neg (fun z => h4 (Int32.le_iff_toInt_le.mpr (by omega)))]
        rw [e, decide_eq_false (pd_nlt h6)]
        exact kr_ireturn rd_d_X0_isPaid_57 (ty := .boolean) rfl rfl ⟨rfl, hS1, hw1, hf1, hl1⟩
      · refine kr_iconst (v := 1) rd_d_X0_isPaid_52 (by decide) ?_
        refine kr_goto (tgt := 57) rd_d_X0_isPaid_53 rfl ?_
        rw [e56] at h6
        have e : pd_pd s q S (σ.2.1 80 0) = (decide (ax_f_dof (ax_f_nxs (σ.2.1 80 0)) 12 < s 56), ax_f_nxs (σ.2.1 80 0)) := by rw [pd_pd, if_neg (fun z => h2 (g3.trans z)), if_neg (fun z => h4 (Int32.le_iff_toInt_le.mpr (by omega)))]
        rw [e, decide_eq_true (pd_lt h6)]
        exact kr_ireturn rd_d_X0_isPaid_57 (ty := .boolean) rfl rfl ⟨rfl, hS1, hw1, hf1, hl1⟩
  · refine kr_aload_n 0 rd_d_X0_isPaid_10 rfl ?_
    refine kr_bipush (v := 12) rd_d_X0_isPaid_11 (by decide) ?_
    refine rd_call G (T2 := tX0_draw) rfl rd_d_X0_isPaid_13 rd_k_X0_isPaid_13 rfl (hS.1 80 (.inl 0) rfl) (as := [.int 12]) (st := []) rfl (Nat.le_of_ble_eq_true rfl) rfl (Nat.le_of_ble_eq_true rfl) (d1 := 2) (by decide) (fun _ h => by cases h.1) (ax_drX G hS 12) ?_
    intro v1 σ1 ⟨hv1, hS1, hw1, hf1, hl1⟩
    cases hv1
    have hX1 : pc_X s σ1 := pc_F hX (fun x y z => hf1 x y (by omega))
    have e57 : ax_f_shy σ1.2.1 = s 57 := ax_setE hX1.1 (a := 3) (j := 3) rfl (by decide)
    have e56 : ax_f_hon σ1.2.1 = s 56 := ax_setE hX1.1 (a := 2) (j := 2) rfl (by decide)
    refine kr_aload_n 3 rd_d_X0_isPaid_16 rfl ?_
    refine rd_call G (T2 := tX9_shy) rfl rd_d_X0_isPaid_17 rd_k_X0_isPaid_17 rfl (hS1.1 4 (.inl 9) rfl) (as := []) (st := [.int (ax_f_dof (ax_f_nxs (σ.2.1 80 0)) 12)]) rfl (Nat.le_of_ble_eq_true rfl) rfl (Nat.le_of_ble_eq_true rfl) (d1 := 2) (by decide) (fun _ h => by cases h.1) (ax_shy G hS1) ?_
    intro v7 σ7 ⟨hv7, hs7⟩
    cases hv7
    rw [hs7]
    refine kr_icmp_lt (tgt := 27) rd_d_X0_isPaid_20 rfl (fun h8 => ?_) (fun h8 => ?_)
    · refine kr_iconst (v := 0) rd_d_X0_isPaid_27 (by decide) ?_
      rw [e57] at h8
      have e : pd_pd s q S (σ.2.1 80 0) = (!(decide (ax_f_dof (ax_f_nxs (σ.2.1 80 0)) 12 < s 57)), ax_f_nxs (σ.2.1 80 0)) := by rw [pd_pd, if_pos (by rw [← g3]; exact h2)]
      rw [e, decide_eq_true h8]
      exact kr_ireturn rd_d_X0_isPaid_28 (ty := .boolean) rfl rfl ⟨rfl, hS1, hw1, hf1, hl1⟩
    · refine kr_iconst (v := 1) rd_d_X0_isPaid_23 (by decide) ?_
      refine kr_goto (tgt := 28) rd_d_X0_isPaid_24 rfl ?_
      rw [e57] at h8
      have e : pd_pd s q S (σ.2.1 80 0) = (!(decide (ax_f_dof (ax_f_nxs (σ.2.1 80 0)) 12 < s 57)), ax_f_nxs (σ.2.1 80 0)) := by rw [pd_pd, if_pos (by rw [← g3]; exact h2)]
      rw [e, decide_eq_false h8]
      exact kr_ireturn rd_d_X0_isPaid_28 (ty := .boolean) rfl rfl ⟨rfl, hS1, hw1, hf1, hl1⟩
theorem ax_liI (G : sx_G0 g L xs z9 hd_C ex_mt) {s : Nat → Int32} (b : pn_B s) (b6 : pl_B6 s) {S x k n x0 : Int32} {post : Option (Option Value) → am_S → Prop} : ∀ (f j : Nat) (pe sd : Int32) (σ : am_S), ax_S σ → pc_X s σ → pb_L s (pz_best s) σ.2.1 → sd.toInt = (j : Int) → j + f = (pz_best s).length → pe = (pd_in s S x j).1 → σ.2.1 80 0 = (pd_in s S x j).2 → (∀ (sd2 : Int32) (σ' : am_S), ax_S σ' → (∀ a b, ¬ (a = 80 ∧ b = 0) → σ'.2.1 a b = σ.2.1 a b) → σ'.2.2 = σ.2.2 → σ'.2.1 80 0 = (pd_in s S x (pz_best s).length).2 → am_K g 5 tX0_live.1 0 0 103 [(8, .int sd2), (7, .int ((pd_in s S x (pz_best s).length).1)), (6, .int S), (5, .int k), (0, .ref 80), (1, .int n), (2, .int x0), (3, .ref 4), (4, .ref 68)] [] σ' post) → am_K g 5 tX0_live.1 0 0 45 [(8, .int sd), (7, .int pe), (6, .int S), (5, .int k), (0, .ref 80), (1, .int n), (2, .int x0), (3, .ref 4), (4, .ref 68)] [] σ post := by
  have hok := pz_best_ok b b6
  have h24 := hok.1
  intro f
  induction f with
  | zero =>
    intro j pe sd σ hS hX hL ej hj ep ex kk
    have hlen := hL.1
    refine kr_iload 0 rd_d_X0_live_45 rfl ?_
    refine kr_aload 8 rd_d_X0_live_47 rfl ?_
    refine kr_getf G.1 (rd_FL rd_k_X0_live_49).1 rd_d_X0_live_49 (hS.1 68 (.inl 4) rfl) (v := .int (σ.2.1 68 12)) (by unfold am_fa; rw [(rd_FL rd_k_X0_live_49).2]; rfl) ?_
    refine kr_icmp_ge (tgt := 103) rd_d_X0_live_52 rfl (fun h1 => ?_) (fun h1 => ?_)
    · have e : j = (pz_best s).length := by omega
      rw [e] at ep ex
      rw [ep]
      exact kk sd σ hS (fun _ _ _ => rfl) rfl ex
    · exact absurd (Int32.le_iff_toInt_le.mpr (by omega)) h1
  | succ f ih =>
    intro j pe sd σ hS hX hL ej hj ep ex kk
    have hlen := hL.1
    have hi : j < (pz_best s).length := by omega
    obtain ⟨g1, g2, g3⟩ := sl_g hL h24 ej hi
    obtain ⟨w1, t1⟩ := hok.2 j hi
    have h10 := b.1.1.2
    have hin : pd_in s S x (j + 1) = if (((pz_best s).getD j (0, 0)).2 : Int) < S.toInt then (if (pd_pd s ((pz_best s).getD j (0, 0)) S (pd_in s S x j).2).1 = true then (pd_in s S x j).1 + s (2 + ((pz_best s).getD j (0, 0)).1) else (pd_in s S x j).1, (pd_pd s ((pz_best s).getD j (0, 0)) S (pd_in s S x j).2).2) else pd_in s S x j := rfl
    refine kr_iload 0 rd_d_X0_live_45 rfl ?_
    refine kr_aload 8 rd_d_X0_live_47 rfl ?_
    refine kr_getf G.1 (rd_FL rd_k_X0_live_49).1 rd_d_X0_live_49 (hS.1 68 (.inl 4) rfl) (v := .int (σ.2.1 68 12)) (by unfold am_fa; rw [(rd_FL rd_k_X0_live_49).2]; rfl) ?_
    refine kr_icmp_ge (tgt := 103) rd_d_X0_live_52 rfl (fun h21 => ?_) (fun h21 => ?_)
    · have := Int32.le_iff_toInt_le.mp h21
      omega
    · refine kr_aload 8 rd_d_X0_live_55 rfl ?_
      refine kr_iload 0 rd_d_X0_live_57 rfl ?_
      refine rd_call G (T2 := tX4_saleSecond) rfl rd_d_X0_live_59 rd_k_X0_live_59 rfl (hS.1 68 (.inl 4) rfl) (as := [.int sd]) (st := []) rfl (Nat.le_of_ble_eq_true rfl) rfl (Nat.le_of_ble_eq_true rfl) (d1 := 2) (by decide) (fun _ h => by cases h.1) (ax_sls G hS sd) ?_
      intro v41 σ41 ⟨hv41, hs41⟩
      cases hv41
      rw [hs41]
      refine kr_iload 2 rd_d_X0_live_62 rfl ?_
      refine kr_icmp_ge (tgt := 97) rd_d_X0_live_64 rfl (fun h42 => ?_) (fun h42 => ?_)
      · refine kr_iinc (v := sd + 1) (lv' := [(8, .int (sd + 1)), (7, .int pe), (6, .int S), (5, .int k), (0, .ref 80), (1, .int n), (2, .int x0), (3, .ref 4), (4, .ref 68)]) 0 rd_d_X0_live_97 rfl rfl (by decide) rfl ?_
        refine kr_goto (tgt := 45) rd_d_X0_live_100 rfl ?_
        refine kr_sub (lv' := [(8, .int (sd + 1)), (7, .int pe), (6, .int S), (5, .int k), (0, .ref 80), (1, .int n), (2, .int x0), (3, .ref 4), (4, .ref 68)]) (by simp) ?_
        have hlt : ¬ (((pz_best s).getD j (0, 0)).2 : Int) < S.toInt := by have := Int32.le_iff_toInt_le.mp h42; omega
        rw [if_neg hlt] at hin
        exact ih (j + 1) pe (sd + 1) σ hS hX hL (ax_inc ej (by omega)) (by omega) (by rw [hin]; exact ep) (by rw [hin]; exact ex) kk
      · refine kr_aload_n 4 rd_d_X0_live_67 rfl ?_
        refine kr_iload 0 rd_d_X0_live_68 rfl ?_
        refine kr_iload 2 rd_d_X0_live_70 rfl ?_
        refine kr_aload_n 7 rd_d_X0_live_72 rfl ?_
        refine kr_aload 8 rd_d_X0_live_73 rfl ?_
        refine rd_call G (T2 := tX0_isPaid) rfl rd_d_X0_live_75 rd_k_X0_live_75 rfl (hS.1 80 (.inl 0) rfl) (as := [.int sd, .int S, .ref 4, .ref 68]) (st := []) rfl (Nat.le_of_ble_eq_true rfl) rfl (Nat.le_of_ble_eq_true rfl) (d1 := 4) (by decide) (fun _ h => by cases h.1) (ax_ipX G b b6 hS hX hL ej hi) ?_
        rw [ex]
        intro v1 σ1 ⟨hv1, hS1, hw1, hf1, hl1⟩
        cases hv1
        have hX1 : pc_X s σ1 := pc_F hX (fun a y z => hf1 a y (by omega))
        have hL1 : pb_L s (pz_best s) σ1.2.1 := ⟨by rw [hf1 68 12 (by omega)]; exact hL.1, fun i h => by rw [hf1 75 i (by omega), hf1 76 i (by omega), hf1 77 i (by omega)]; exact hL.2 i h⟩
        have g4 := (sl_g hL1 h24 ej hi).1
        generalize hB : (pd_pd s ((pz_best s).getD j (0, 0)) S (pd_in s S x j).2).1 = B at hin ⊢
        refine kr_if_eq (tgt := 97) rd_d_X0_live_78 rfl (fun h43 => ?_) (fun h43 => ?_)
        · refine kr_iinc (v := sd + 1) (lv' := [(8, .int (sd + 1)), (7, .int pe), (6, .int S), (5, .int k), (0, .ref 80), (1, .int n), (2, .int x0), (3, .ref 4), (4, .ref 68)]) 0 rd_d_X0_live_97 rfl rfl (by decide) rfl ?_
          refine kr_goto (tgt := 45) rd_d_X0_live_100 rfl ?_
          refine kr_sub (lv' := [(8, .int (sd + 1)), (7, .int pe), (6, .int S), (5, .int k), (0, .ref 80), (1, .int n), (2, .int x0), (3, .ref 4), (4, .ref 68)]) (by simp) ?_
          have hlt : (((pz_best s).getD j (0, 0)).2 : Int) < S.toInt := by have : ¬ S.toInt ≤ (ax_f_sls σ.2.1 sd).toInt := fun z => h42 (Int32.le_iff_toInt_le.mpr z); omega
          rw [if_pos hlt] at hin
          have hBt : ¬ B = true := fun z => by rw [z] at h43; exact absurd h43 (by decide)
          rw [if_neg hBt] at hin
          refine ih (j + 1) pe (sd + 1) σ1 hS1 hX1 hL1 (ax_inc ej (by omega)) (by omega) (by rw [hin]; exact ep) (by rw [hin]; exact hw1) (fun sd2 σ2 a1 a2 a3 a4 => kk sd2 σ2 a1 (fun a y z => (a2 a y z).trans (hf1 a y z)) (a3.trans hl1) a4)
        · refine kr_iload 1 rd_d_X0_live_81 rfl ?_
          refine kr_aload_n 7 rd_d_X0_live_83 rfl ?_
          refine kr_aload 8 rd_d_X0_live_84 rfl ?_
          refine kr_iload 0 rd_d_X0_live_86 rfl ?_
          refine rd_call G (T2 := tX4_saleWindow) rfl rd_d_X0_live_88 rd_k_X0_live_88 rfl (hS1.1 68 (.inl 4) rfl) (as := [.int sd]) (st := [.ref 4, .int pe]) rfl (Nat.le_of_ble_eq_true rfl) rfl (Nat.le_of_ble_eq_true rfl) (d1 := 2) (by decide) (fun _ h => by cases h.1) (ax_slw G hS1 sd) ?_
          intro v44 σ44 ⟨hv44, hs44⟩
          cases hv44
          rw [hs44]
          refine rd_call G (T2 := tX9_priceOf) rfl rd_d_X0_live_91 rd_k_X0_live_91 rfl (hS1.1 4 (.inl 9) rfl) (as := [.int (ax_f_slw σ1.2.1 sd)]) (st := [.int pe]) rfl (Nat.le_of_ble_eq_true rfl) rfl (Nat.le_of_ble_eq_true rfl) (d1 := 2) (by decide) (fun _ h => by cases h.1) (ax_pri G hS1 (ax_f_slw σ1.2.1 sd)) ?_
          intro v45 σ45 ⟨hv45, hs45⟩
          cases hv45
          rw [hs45]
          refine kr_iadd rd_d_X0_live_94 ?_
          refine kr_istore (lv' := [(7, .int (pe + (ax_f_pri σ1.2.1 (ax_f_slw σ1.2.1 sd)))), (8, .int sd), (6, .int S), (5, .int k), (0, .ref 80), (1, .int n), (2, .int x0), (3, .ref 4), (4, .ref 68)]) rd_d_X0_live_95 (by decide) rfl ?_
          refine kr_iinc (v := sd + 1) (lv' := [(8, .int (sd + 1)), (7, .int (pe + (ax_f_pri σ1.2.1 (ax_f_slw σ1.2.1 sd)))), (6, .int S), (5, .int k), (0, .ref 80), (1, .int n), (2, .int x0), (3, .ref 4), (4, .ref 68)]) 1 rd_d_X0_live_97 rfl rfl (by decide) rfl ?_
          refine kr_goto (tgt := 45) rd_d_X0_live_100 rfl ?_
          refine kr_sub (lv' := [(8, .int (sd + 1)), (7, .int (pe + (ax_f_pri σ1.2.1 (ax_f_slw σ1.2.1 sd)))), (6, .int S), (5, .int k), (0, .ref 80), (1, .int n), (2, .int x0), (3, .ref 4), (4, .ref 68)]) (by simp) ?_
          have hlt : (((pz_best s).getD j (0, 0)).2 : Int) < S.toInt := by have : ¬ S.toInt ≤ (ax_f_sls σ.2.1 sd).toInt := fun z => h42 (Int32.le_iff_toInt_le.mpr z); omega
          rw [if_pos hlt] at hin
          have hBt : B = true := by cases B with | true => rfl | false => exact absurd rfl h43
          rw [if_pos hBt] at hin
          have epr : ax_f_pri σ1.2.1 (ax_f_slw σ1.2.1 sd) = s (2 + ((pz_best s).getD j (0, 0)).1) := by have ha := ax_winV b.1 (a := ax_f_slw σ1.2.1 sd) ⟨by omega, by omega⟩; have e1 := ax_rowE hX1.1 b.1 ha (r := 0) (by decide); rw [show (ax_f_slw σ1.2.1 sd).toInt.toNat = ((pz_best s).getD j (0, 0)).1 by omega] at e1; exact e1
          refine ih (j + 1) _ (sd + 1) σ1 hS1 hX1 hL1 (ax_inc ej (by omega)) (by omega) (by rw [hin, epr, ep]) (by rw [hin]; exact hw1) (fun sd2 σ2 a1 a2 a3 a4 => kk sd2 σ2 a1 (fun a y z => (a2 a y z).trans (hf1 a y z)) (a3.trans hl1) a4)
end AXX
