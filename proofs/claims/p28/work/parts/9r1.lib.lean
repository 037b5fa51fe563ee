/-! exact answers (rows written by a program) -/
theorem ax_inc {k : Int32} {j : Nat} (h : k.toInt = (j : Int)) (hj : j < 100000) : (k + 1).toInt = ((j + 1 : Nat) : Int) := by
  have z1 : (1 : Int32).toInt = 1 := rfl
  rw [sx_addI k 1 (by show (-2147483648 : Int) ≤ _; omega) (by show _ ≤ (2147483647 : Int); omega)]
  omega
theorem ax_ixn {c w : Int32} {C : Nat} (hc : c.toInt = C) (hC : C < 1000) (hw : 0 ≤ w.toInt ∧ w.toInt < 1000) : (c + w).toInt = ((C + w.toInt.toNat : Nat) : Int) := by
  rw [sx_addI c w (by show (-2147483648 : Int) ≤ _; omega) (by show _ ≤ (2147483647 : Int); omega)]
  omega
theorem ax_lkc {a o df : Int} {r : List (Int × Int)} {x A : Int32} (hA : A.toInt = a) (h : ¬ x = A) : Op.lookupswitch.offset ((a, o) :: r) df x.toInt = Op.lookupswitch.offset r df x.toInt := by
  rw [Op.lookupswitch.offset_cons, if_neg (fun e => h (Int32.toInt_inj.mp (by rw [hA, ← e])))]
theorem ax_dec {k : Int32} {f : Nat} (h : k.toInt = ((f + 1 : Nat) : Int) - 1) : (k + (-1)).toInt = (f : Int) - 1 := by
  have z1 : ((-1 : Int32)).toInt = -1 := rfl
  have := Int32.toInt_lt k
  rw [sx_addI k (-1) (by show (-2147483648 : Int) ≤ _; omega) (by show _ ≤ (2147483647 : Int); omega)]
  omega
theorem ax_dec0 {k : Int32} {f : Nat} (h : k.toInt = ((f + 1 : Nat) : Int)) : (k + (-1)).toInt = (f : Int) := by
  have z1 : ((-1 : Int32)).toInt = -1 := rfl
  have := Int32.toInt_lt k
  rw [sx_addI k (-1) (by show (-2147483648 : Int) ≤ _; omega) (by show _ ≤ (2147483647 : Int); omega)]
  omega
def ax_f_max (x y : Int32) : Int32 := if x < y then y else x
theorem ax_isIn_b (a b c : Int32) : narrow .boolean (.int (ax_f_isIn a b c)) = .int (ax_f_isIn a b c) := by
  rw [ax_f_isIn]
  split
  · rfl
  · split <;> rfl
theorem ax_ixc {w : Int32} {n : Nat} (h : w.toInt = (n : Int)) : w.toInt = ((w.toInt.toNat : Nat) : Int) := by omega
theorem rd_d_X9_has_0 : decode tX9_has.1.2.1 0 = .ok (.iload_n 1, 1) := by decide +kernel
theorem rd_d_X9_has_1 : decode tX9_has.1.2.1 1 = .ok (.ifCond .lt 15, 3) := by decide +kernel
theorem rd_d_X9_has_4 : decode tX9_has.1.2.1 4 = .ok (.iload_n 1, 1) := by decide +kernel
theorem rd_d_X9_has_5 : decode tX9_has.1.2.1 5 = .ok (.aload_n 0, 1) := by decide +kernel
theorem rd_d_X9_has_6 : decode tX9_has.1.2.1 6 = .ok (.getfield 39, 3) := by decide +kernel
theorem rd_k_X9_has_6 : ex_lk ex_mt tX9_has 6 (.getfield 39) [9, 7, 0, 65656] = true := by decide +kernel
theorem rd_d_X9_has_9 : decode tX9_has.1.2.1 9 = .ok (.if_icmp .ge 7, 3) := by decide +kernel
theorem rd_d_X9_has_12 : decode tX9_has.1.2.1 12 = .ok (.iconst 1, 1) := by decide +kernel
theorem rd_d_X9_has_13 : decode tX9_has.1.2.1 13 = .ok (.goto 4, 3) := by decide +kernel
theorem rd_d_X9_has_16 : decode tX9_has.1.2.1 16 = .ok (.iconst 0, 1) := by decide +kernel
theorem rd_d_X9_has_17 : decode tX9_has.1.2.1 17 = .ok (.ireturn, 1) := by decide +kernel
theorem rd_d_X12_isWindow_0 : decode tX12_isWindow.1.2.1 0 = .ok (.iload_n 1, 1) := by decide +kernel
theorem rd_d_X12_isWindow_1 : decode tX12_isWindow.1.2.1 1 = .ok (.iconst 0, 1) := by decide +kernel
theorem rd_d_X12_isWindow_2 : decode tX12_isWindow.1.2.1 2 = .ok (.aload_n 0, 1) := by decide +kernel
theorem rd_d_X12_isWindow_3 : decode tX12_isWindow.1.2.1 3 = .ok (.getfield 33, 3) := by decide +kernel
theorem rd_k_X12_isWindow_3 : ex_lk ex_mt tX12_isWindow 3 (.getfield 33) [12, 6, 2, 458773] = true := by decide +kernel
theorem rd_d_X12_isWindow_6 : decode tX12_isWindow.1.2.1 6 = .ok (.iconst 0, 1) := by decide +kernel
theorem rd_d_X12_isWindow_7 : decode tX12_isWindow.1.2.1 7 = .ok (.iaload, 1) := by decide +kernel
theorem rd_d_X12_isWindow_8 : decode tX12_isWindow.1.2.1 8 = .ok (.iconst 1, 1) := by decide +kernel
theorem rd_d_X12_isWindow_9 : decode tX12_isWindow.1.2.1 9 = .ok (.isub, 1) := by decide +kernel
theorem rd_d_X12_isWindow_10 : decode tX12_isWindow.1.2.1 10 = .ok (.invokestatic 134, 3) := by decide +kernel
theorem rd_k_X12_isWindow_10 : ex_lk ex_mt tX12_isWindow 10 (.invokestatic 134) [0, 119, 458953] = true := by decide +kernel
theorem rd_d_X12_isWindow_13 : decode tX12_isWindow.1.2.1 13 = .ok (.ireturn, 1) := by decide +kernel
theorem rd_d_X9_priceOf_0 : decode tX9_priceOf.1.2.1 0 = .ok (.aload_n 0, 1) := by decide +kernel
theorem rd_d_X9_priceOf_1 : decode tX9_priceOf.1.2.1 1 = .ok (.getfield 9, 3) := by decide +kernel
theorem rd_k_X9_priceOf_1 : ex_lk ex_mt tX9_priceOf 1 (.getfield 9) [9, 0, 2, 65649] = true := by decide +kernel
theorem rd_d_X9_priceOf_4 : decode tX9_priceOf.1.2.1 4 = .ok (.iload_n 1, 1) := by decide +kernel
theorem rd_d_X9_priceOf_5 : decode tX9_priceOf.1.2.1 5 = .ok (.invokestatic 118, 3) := by decide +kernel
theorem rd_k_X9_priceOf_5 : ex_lk ex_mt tX9_priceOf 5 (.invokestatic 118) [0, 32, 196745] = true := by decide +kernel
theorem rd_d_X9_priceOf_8 : decode tX9_priceOf.1.2.1 8 = .ok (.ireturn, 1) := by decide +kernel
theorem rd_d_X9_takesOf_0 : decode tX9_takesOf.1.2.1 0 = .ok (.aload_n 0, 1) := by decide +kernel
theorem rd_d_X9_takesOf_1 : decode tX9_takesOf.1.2.1 1 = .ok (.getfield 15, 3) := by decide +kernel
theorem rd_k_X9_takesOf_1 : ex_lk ex_mt tX9_takesOf 1 (.getfield 15) [9, 1, 2, 65650] = true := by decide +kernel
theorem rd_d_X9_takesOf_4 : decode tX9_takesOf.1.2.1 4 = .ok (.iload_n 1, 1) := by decide +kernel
theorem rd_d_X9_takesOf_5 : decode tX9_takesOf.1.2.1 5 = .ok (.invokestatic 118, 3) := by decide +kernel
theorem rd_k_X9_takesOf_5 : ex_lk ex_mt tX9_takesOf 5 (.invokestatic 118) [0, 32, 196745] = true := by decide +kernel
theorem rd_d_X9_takesOf_8 : decode tX9_takesOf.1.2.1 8 = .ok (.ireturn, 1) := by decide +kernel
theorem rd_d_X9_oftenOf_0 : decode tX9_oftenOf.1.2.1 0 = .ok (.aload_n 0, 1) := by decide +kernel
theorem rd_d_X9_oftenOf_1 : decode tX9_oftenOf.1.2.1 1 = .ok (.getfield 18, 3) := by decide +kernel
theorem rd_k_X9_oftenOf_1 : ex_lk ex_mt tX9_oftenOf 1 (.getfield 18) [9, 2, 2, 65651] = true := by decide +kernel
theorem rd_d_X9_oftenOf_4 : decode tX9_oftenOf.1.2.1 4 = .ok (.iload_n 1, 1) := by decide +kernel
theorem rd_d_X9_oftenOf_5 : decode tX9_oftenOf.1.2.1 5 = .ok (.invokestatic 118, 3) := by decide +kernel
theorem rd_k_X9_oftenOf_5 : ex_lk ex_mt tX9_oftenOf 5 (.invokestatic 118) [0, 32, 196745] = true := by decide +kernel
theorem rd_d_X9_oftenOf_8 : decode tX9_oftenOf.1.2.1 8 = .ok (.ireturn, 1) := by decide +kernel
theorem rd_d_X9_basket_0 : decode tX9_basket.1.2.1 0 = .ok (.aload_n 0, 1) := by decide +kernel
theorem rd_d_X9_basket_1 : decode tX9_basket.1.2.1 1 = .ok (.getfield 30, 3) := by decide +kernel
theorem rd_k_X9_basket_1 : ex_lk ex_mt tX9_basket 1 (.getfield 30) [9, 6, 2, 65655] = true := by decide +kernel
theorem rd_d_X9_basket_4 : decode tX9_basket.1.2.1 4 = .ok (.iconst 1, 1) := by decide +kernel
theorem rd_d_X9_basket_5 : decode tX9_basket.1.2.1 5 = .ok (.invokestatic 118, 3) := by decide +kernel
theorem rd_k_X9_basket_5 : ex_lk ex_mt tX9_basket 5 (.invokestatic 118) [0, 32, 196745] = true := by decide +kernel
theorem rd_d_X9_basket_8 : decode tX9_basket.1.2.1 8 = .ok (.ireturn, 1) := by decide +kernel
theorem rd_d_X9_walking_0 : decode tX9_walking.1.2.1 0 = .ok (.aload_n 0, 1) := by decide +kernel
theorem rd_d_X9_walking_1 : decode tX9_walking.1.2.1 1 = .ok (.getfield 30, 3) := by decide +kernel
theorem rd_k_X9_walking_1 : ex_lk ex_mt tX9_walking 1 (.getfield 30) [9, 6, 2, 65655] = true := by decide +kernel
theorem rd_d_X9_walking_4 : decode tX9_walking.1.2.1 4 = .ok (.iconst 0, 1) := by decide +kernel
theorem rd_d_X9_walking_5 : decode tX9_walking.1.2.1 5 = .ok (.invokestatic 118, 3) := by decide +kernel
theorem rd_k_X9_walking_5 : ex_lk ex_mt tX9_walking 5 (.invokestatic 118) [0, 32, 196745] = true := by decide +kernel
theorem rd_d_X9_walking_8 : decode tX9_walking.1.2.1 8 = .ok (.ireturn, 1) := by decide +kernel
theorem rd_d_X11_isSecond_0 : decode tX11_isSecond.1.2.1 0 = .ok (.iload_n 0, 1) := by decide +kernel
theorem rd_d_X11_isSecond_1 : decode tX11_isSecond.1.2.1 1 = .ok (.ifCond .lt 13, 3) := by decide +kernel
theorem rd_d_X11_isSecond_4 : decode tX11_isSecond.1.2.1 4 = .ok (.iload_n 0, 1) := by decide +kernel
theorem rd_d_X11_isSecond_5 : decode tX11_isSecond.1.2.1 5 = .ok (.bipush 60, 2) := by decide +kernel
theorem rd_d_X11_isSecond_7 : decode tX11_isSecond.1.2.1 7 = .ok (.if_icmp .gt 7, 3) := by decide +kernel
theorem rd_d_X11_isSecond_10 : decode tX11_isSecond.1.2.1 10 = .ok (.iconst 1, 1) := by decide +kernel
theorem rd_d_X11_isSecond_11 : decode tX11_isSecond.1.2.1 11 = .ok (.goto 4, 3) := by decide +kernel
theorem rd_d_X11_isSecond_14 : decode tX11_isSecond.1.2.1 14 = .ok (.iconst 0, 1) := by decide +kernel
theorem rd_d_X11_isSecond_15 : decode tX11_isSecond.1.2.1 15 = .ok (.ireturn, 1) := by decide +kernel
theorem rd_d_X5_prepare_0 : decode tX5_prepare.1.2.1 0 = .ok (.aload_n 0, 1) := by decide +kernel
theorem rd_d_X5_prepare_1 : decode tX5_prepare.1.2.1 1 = .ok (.iload_n 1, 1) := by decide +kernel
theorem rd_d_X5_prepare_2 : decode tX5_prepare.1.2.1 2 = .ok (.putfield 7, 3) := by decide +kernel
theorem rd_k_X5_prepare_2 : ex_lk ex_mt tX5_prepare 2 (.putfield 7) [5, 0, 0, 131173] = true := by decide +kernel
theorem rd_d_X5_prepare_5 : decode tX5_prepare.1.2.1 5 = .ok (.aload_n 0, 1) := by decide +kernel
theorem rd_d_X5_prepare_6 : decode tX5_prepare.1.2.1 6 = .ok (.iload_n 2, 1) := by decide +kernel
theorem rd_d_X5_prepare_7 : decode tX5_prepare.1.2.1 7 = .ok (.putfield 13, 3) := by decide +kernel
theorem rd_k_X5_prepare_7 : ex_lk ex_mt tX5_prepare 7 (.putfield 13) [5, 1, 0, 131175] = true := by decide +kernel
theorem rd_d_X5_prepare_10 : decode tX5_prepare.1.2.1 10 = .ok (.aload_n 0, 1) := by decide +kernel
theorem rd_d_X5_prepare_11 : decode tX5_prepare.1.2.1 11 = .ok (.iconst 0, 1) := by decide +kernel
theorem rd_d_X5_prepare_12 : decode tX5_prepare.1.2.1 12 = .ok (.putfield 16, 3) := by decide +kernel
theorem rd_k_X5_prepare_12 : ex_lk ex_mt tX5_prepare 12 (.putfield 16) [5, 2, 0, 131176] = true := by decide +kernel
theorem rd_d_X5_prepare_15 : decode tX5_prepare.1.2.1 15 = .ok (.aload_n 0, 1) := by decide +kernel
theorem rd_d_X5_prepare_16 : decode tX5_prepare.1.2.1 16 = .ok (.aload_n 3, 1) := by decide +kernel
theorem rd_d_X5_prepare_17 : decode tX5_prepare.1.2.1 17 = .ok (.invokevirtual 19, 3) := by decide +kernel
theorem rd_k_X5_prepare_17 : ex_lk ex_mt tX5_prepare 17 (.invokevirtual 19) [0, 286, 327752] = true := by decide +kernel
theorem rd_d_X5_prepare_20 : decode tX5_prepare.1.2.1 20 = .ok (.putfield 25, 3) := by decide +kernel
theorem rd_k_X5_prepare_20 : ex_lk ex_mt tX5_prepare 20 (.putfield 25) [5, 3, 0, 131177] = true := by decide +kernel
theorem rd_d_X5_prepare_23 : decode tX5_prepare.1.2.1 23 = .ok (.aload_n 0, 1) := by decide +kernel
theorem rd_d_X5_prepare_24 : decode tX5_prepare.1.2.1 24 = .ok (.iconst 0, 1) := by decide +kernel
theorem rd_d_X5_prepare_25 : decode tX5_prepare.1.2.1 25 = .ok (.putfield 28, 3) := by decide +kernel
theorem rd_k_X5_prepare_25 : ex_lk ex_mt tX5_prepare 25 (.putfield 28) [5, 4, 0, 131178] = true := by decide +kernel
theorem rd_d_X5_prepare_28 : decode tX5_prepare.1.2.1 28 = .ok (.aload_n 0, 1) := by decide +kernel
theorem rd_d_X5_prepare_29 : decode tX5_prepare.1.2.1 29 = .ok (.iconst 0, 1) := by decide +kernel
theorem rd_d_X5_prepare_30 : decode tX5_prepare.1.2.1 30 = .ok (.putfield 31, 3) := by decide +kernel
theorem rd_k_X5_prepare_30 : ex_lk ex_mt tX5_prepare 30 (.putfield 31) [5, 5, 0, 131180] = true := by decide +kernel
theorem rd_d_X5_prepare_33 : decode tX5_prepare.1.2.1 33 = .ok (.return_, 1) := by decide +kernel
theorem rd_d_X5_isAhead_0 : decode tX5_isAhead.1.2.1 0 = .ok (.aload_n 2, 1) := by decide +kernel
theorem rd_d_X5_isAhead_1 : decode tX5_isAhead.1.2.1 1 = .ok (.aload_n 0, 1) := by decide +kernel
theorem rd_d_X5_isAhead_2 : decode tX5_isAhead.1.2.1 2 = .ok (.getfield 7, 3) := by decide +kernel
theorem rd_k_X5_isAhead_2 : ex_lk ex_mt tX5_isAhead 2 (.getfield 7) [5, 0, 0, 131173] = true := by decide +kernel
theorem rd_d_X5_isAhead_5 : decode tX5_isAhead.1.2.1 5 = .ok (.invokevirtual 34, 3) := by decide +kernel
theorem rd_k_X5_isAhead_5 : ex_lk ex_mt tX5_isAhead 5 (.invokevirtual 34) [0, 293, 327757] = true := by decide +kernel
theorem rd_d_X5_isAhead_8 : decode tX5_isAhead.1.2.1 8 = .ok (.ifCond .eq 29, 3) := by decide +kernel
theorem rd_d_X5_isAhead_11 : decode tX5_isAhead.1.2.1 11 = .ok (.aload_n 2, 1) := by decide +kernel
theorem rd_d_X5_isAhead_12 : decode tX5_isAhead.1.2.1 12 = .ok (.aload_n 1, 1) := by decide +kernel
theorem rd_d_X5_isAhead_13 : decode tX5_isAhead.1.2.1 13 = .ok (.getfield 7, 3) := by decide +kernel
theorem rd_k_X5_isAhead_13 : ex_lk ex_mt tX5_isAhead 13 (.getfield 7) [5, 0, 0, 131173] = true := by decide +kernel
theorem rd_d_X5_isAhead_16 : decode tX5_isAhead.1.2.1 16 = .ok (.invokevirtual 34, 3) := by decide +kernel
theorem rd_k_X5_isAhead_16 : ex_lk ex_mt tX5_isAhead 16 (.invokevirtual 34) [0, 293, 327757] = true := by decide +kernel
theorem rd_d_X5_isAhead_19 : decode tX5_isAhead.1.2.1 19 = .ok (.ifCond .eq 14, 3) := by decide +kernel
theorem rd_d_X5_isAhead_22 : decode tX5_isAhead.1.2.1 22 = .ok (.aload_n 0, 1) := by decide +kernel
theorem rd_d_X5_isAhead_23 : decode tX5_isAhead.1.2.1 23 = .ok (.getfield 16, 3) := by decide +kernel
theorem rd_k_X5_isAhead_23 : ex_lk ex_mt tX5_isAhead 23 (.getfield 16) [5, 2, 0, 131176] = true := by decide +kernel
theorem rd_d_X5_isAhead_26 : decode tX5_isAhead.1.2.1 26 = .ok (.aload_n 1, 1) := by decide +kernel
theorem rd_d_X5_isAhead_27 : decode tX5_isAhead.1.2.1 27 = .ok (.getfield 16, 3) := by decide +kernel
theorem rd_k_X5_isAhead_27 : ex_lk ex_mt tX5_isAhead 27 (.getfield 16) [5, 2, 0, 131176] = true := by decide +kernel
theorem rd_d_X5_isAhead_30 : decode tX5_isAhead.1.2.1 30 = .ok (.if_icmp .gt 7, 3) := by decide +kernel
theorem rd_d_X5_isAhead_33 : decode tX5_isAhead.1.2.1 33 = .ok (.iconst 1, 1) := by decide +kernel
theorem rd_d_X5_isAhead_34 : decode tX5_isAhead.1.2.1 34 = .ok (.goto 4, 3) := by decide +kernel
theorem rd_d_X5_isAhead_37 : decode tX5_isAhead.1.2.1 37 = .ok (.iconst 0, 1) := by decide +kernel
theorem rd_d_X5_isAhead_38 : decode tX5_isAhead.1.2.1 38 = .ok (.ireturn, 1) := by decide +kernel
theorem rd_d_X5_visit_0 : decode tX5_visit.1.2.1 0 = .ok (.aload_n 1, 1) := by decide +kernel
theorem rd_d_X5_visit_1 : decode tX5_visit.1.2.1 1 = .ok (.getfield 31, 3) := by decide +kernel
theorem rd_k_X5_visit_1 : ex_lk ex_mt tX5_visit 1 (.getfield 31) [5, 5, 0, 131180] = true := by decide +kernel
theorem rd_d_X5_visit_4 : decode tX5_visit.1.2.1 4 = .ok (.aload_n 0, 1) := by decide +kernel
theorem rd_d_X5_visit_5 : decode tX5_visit.1.2.1 5 = .ok (.getfield 7, 3) := by decide +kernel
theorem rd_k_X5_visit_5 : ex_lk ex_mt tX5_visit 5 (.getfield 7) [5, 0, 0, 131173] = true := by decide +kernel
theorem rd_d_X5_visit_8 : decode tX5_visit.1.2.1 8 = .ok (.ishr, 1) := by decide +kernel
theorem rd_d_X5_visit_9 : decode tX5_visit.1.2.1 9 = .ok (.iconst 1, 1) := by decide +kernel
theorem rd_d_X5_visit_10 : decode tX5_visit.1.2.1 10 = .ok (.iand, 1) := by decide +kernel
theorem rd_d_X5_visit_11 : decode tX5_visit.1.2.1 11 = .ok (.ifCond .ne 89, 3) := by decide +kernel
theorem rd_d_X5_visit_14 : decode tX5_visit.1.2.1 14 = .ok (.aload_n 0, 1) := by decide +kernel
theorem rd_d_X5_visit_15 : decode tX5_visit.1.2.1 15 = .ok (.getfield 25, 3) := by decide +kernel
theorem rd_k_X5_visit_15 : ex_lk ex_mt tX5_visit 15 (.getfield 25) [5, 3, 0, 131177] = true := by decide +kernel
theorem rd_d_X5_visit_18 : decode tX5_visit.1.2.1 18 = .ok (.aload_n 3, 1) := by decide +kernel
theorem rd_d_X5_visit_19 : decode tX5_visit.1.2.1 19 = .ok (.aload_n 0, 1) := by decide +kernel
theorem rd_d_X5_visit_20 : decode tX5_visit.1.2.1 20 = .ok (.getfield 7, 3) := by decide +kernel
theorem rd_k_X5_visit_20 : ex_lk ex_mt tX5_visit 20 (.getfield 7) [5, 0, 0, 131173] = true := by decide +kernel
theorem rd_d_X5_visit_23 : decode tX5_visit.1.2.1 23 = .ok (.invokevirtual 38, 3) := by decide +kernel
theorem rd_k_X5_visit_23 : ex_lk ex_mt tX5_visit 23 (.invokevirtual 38) [0, 298, 327762] = true := by decide +kernel
theorem rd_d_X5_visit_26 : decode tX5_visit.1.2.1 26 = .ok (.invokestatic 42, 3) := by decide +kernel
theorem rd_k_X5_visit_26 : ex_lk ex_mt tX5_visit 26 (.invokestatic 42) [1, 1, 327763, 0] = true := by decide +kernel
theorem rd_d_X5_visit_29 : decode tX5_visit.1.2.1 29 = .ok (.istore 4, 2) := by decide +kernel
theorem rd_d_X5_visit_31 : decode tX5_visit.1.2.1 31 = .ok (.iconst 0, 1) := by decide +kernel
theorem rd_d_X5_visit_32 : decode tX5_visit.1.2.1 32 = .ok (.istore 5, 2) := by decide +kernel
theorem rd_d_X5_visit_34 : decode tX5_visit.1.2.1 34 = .ok (.iload 5, 2) := by decide +kernel
theorem rd_d_X5_visit_36 : decode tX5_visit.1.2.1 36 = .ok (.iload 4, 2) := by decide +kernel
theorem rd_d_X5_visit_38 : decode tX5_visit.1.2.1 38 = .ok (.if_icmp .ge 51, 3) := by decide +kernel
theorem rd_d_X5_visit_41 : decode tX5_visit.1.2.1 41 = .ok (.aload_n 0, 1) := by decide +kernel
theorem rd_d_X5_visit_42 : decode tX5_visit.1.2.1 42 = .ok (.dup, 1) := by decide +kernel
theorem rd_d_X5_visit_43 : decode tX5_visit.1.2.1 43 = .ok (.getfield 16, 3) := by decide +kernel
theorem rd_k_X5_visit_43 : ex_lk ex_mt tX5_visit 43 (.getfield 16) [5, 2, 0, 131176] = true := by decide +kernel
theorem rd_d_X5_visit_46 : decode tX5_visit.1.2.1 46 = .ok (.aload_n 3, 1) := by decide +kernel
theorem rd_d_X5_visit_47 : decode tX5_visit.1.2.1 47 = .ok (.aload_n 0, 1) := by decide +kernel
theorem rd_d_X5_visit_48 : decode tX5_visit.1.2.1 48 = .ok (.getfield 7, 3) := by decide +kernel
theorem rd_k_X5_visit_48 : ex_lk ex_mt tX5_visit 48 (.getfield 7) [5, 0, 0, 131173] = true := by decide +kernel
theorem rd_d_X5_visit_51 : decode tX5_visit.1.2.1 51 = .ok (.invokevirtual 48, 3) := by decide +kernel
theorem rd_k_X5_visit_51 : ex_lk ex_mt tX5_visit 51 (.invokevirtual 48) [0, 311, 327764] = true := by decide +kernel
theorem rd_d_X5_visit_54 : decode tX5_visit.1.2.1 54 = .ok (.iadd, 1) := by decide +kernel
theorem rd_d_X5_visit_55 : decode tX5_visit.1.2.1 55 = .ok (.putfield 16, 3) := by decide +kernel
theorem rd_k_X5_visit_55 : ex_lk ex_mt tX5_visit 55 (.putfield 16) [5, 2, 0, 131176] = true := by decide +kernel
theorem rd_d_X5_visit_58 : decode tX5_visit.1.2.1 58 = .ok (.aload_n 0, 1) := by decide +kernel
theorem rd_d_X5_visit_59 : decode tX5_visit.1.2.1 59 = .ok (.getfield 16, 3) := by decide +kernel
theorem rd_k_X5_visit_59 : ex_lk ex_mt tX5_visit 59 (.getfield 16) [5, 2, 0, 131176] = true := by decide +kernel
theorem rd_d_X5_visit_62 : decode tX5_visit.1.2.1 62 = .ok (.iload_n 2, 1) := by decide +kernel
theorem rd_d_X5_visit_63 : decode tX5_visit.1.2.1 63 = .ok (.if_icmp .gt 20, 3) := by decide +kernel
theorem rd_d_X5_visit_66 : decode tX5_visit.1.2.1 66 = .ok (.aload_n 0, 1) := by decide +kernel
theorem rd_d_X5_visit_67 : decode tX5_visit.1.2.1 67 = .ok (.dup, 1) := by decide +kernel
theorem rd_d_X5_visit_68 : decode tX5_visit.1.2.1 68 = .ok (.getfield 28, 3) := by decide +kernel
theorem rd_k_X5_visit_68 : ex_lk ex_mt tX5_visit 68 (.getfield 28) [5, 4, 0, 131178] = true := by decide +kernel
theorem rd_d_X5_visit_71 : decode tX5_visit.1.2.1 71 = .ok (.aload_n 3, 1) := by decide +kernel
theorem rd_d_X5_visit_72 : decode tX5_visit.1.2.1 72 = .ok (.aload_n 0, 1) := by decide +kernel
theorem rd_d_X5_visit_73 : decode tX5_visit.1.2.1 73 = .ok (.getfield 7, 3) := by decide +kernel
theorem rd_k_X5_visit_73 : ex_lk ex_mt tX5_visit 73 (.getfield 7) [5, 0, 0, 131173] = true := by decide +kernel
theorem rd_d_X5_visit_76 : decode tX5_visit.1.2.1 76 = .ok (.invokevirtual 51, 3) := by decide +kernel
theorem rd_k_X5_visit_76 : ex_lk ex_mt tX5_visit 76 (.invokevirtual 51) [0, 299, 327765] = true := by decide +kernel
theorem rd_d_X5_visit_79 : decode tX5_visit.1.2.1 79 = .ok (.iadd, 1) := by decide +kernel
theorem rd_d_X5_visit_80 : decode tX5_visit.1.2.1 80 = .ok (.putfield 28, 3) := by decide +kernel
theorem rd_k_X5_visit_80 : ex_lk ex_mt tX5_visit 80 (.putfield 28) [5, 4, 0, 131178] = true := by decide +kernel
theorem rd_d_X5_visit_83 : decode tX5_visit.1.2.1 83 = .ok (.iinc 5 1, 3) := by decide +kernel
theorem rd_d_X5_visit_86 : decode tX5_visit.1.2.1 86 = .ok (.goto (-52), 3) := by decide +kernel
theorem rd_d_X5_visit_89 : decode tX5_visit.1.2.1 89 = .ok (.aload_n 0, 1) := by decide +kernel
theorem rd_d_X5_visit_90 : decode tX5_visit.1.2.1 90 = .ok (.dup, 1) := by decide +kernel
theorem rd_d_X5_visit_91 : decode tX5_visit.1.2.1 91 = .ok (.getfield 25, 3) := by decide +kernel
theorem rd_k_X5_visit_91 : ex_lk ex_mt tX5_visit 91 (.getfield 25) [5, 3, 0, 131177] = true := by decide +kernel
theorem rd_d_X5_visit_94 : decode tX5_visit.1.2.1 94 = .ok (.iload 4, 2) := by decide +kernel
theorem rd_d_X5_visit_96 : decode tX5_visit.1.2.1 96 = .ok (.isub, 1) := by decide +kernel
theorem rd_d_X5_visit_97 : decode tX5_visit.1.2.1 97 = .ok (.putfield 25, 3) := by decide +kernel
theorem rd_k_X5_visit_97 : ex_lk ex_mt tX5_visit 97 (.putfield 25) [5, 3, 0, 131177] = true := by decide +kernel
theorem rd_d_X5_visit_100 : decode tX5_visit.1.2.1 100 = .ok (.aload_n 0, 1) := by decide +kernel
theorem rd_d_X5_visit_101 : decode tX5_visit.1.2.1 101 = .ok (.dup, 1) := by decide +kernel
theorem rd_d_X5_visit_102 : decode tX5_visit.1.2.1 102 = .ok (.getfield 31, 3) := by decide +kernel
theorem rd_k_X5_visit_102 : ex_lk ex_mt tX5_visit 102 (.getfield 31) [5, 5, 0, 131180] = true := by decide +kernel
theorem rd_d_X5_visit_105 : decode tX5_visit.1.2.1 105 = .ok (.iconst 1, 1) := by decide +kernel
theorem rd_d_X5_visit_106 : decode tX5_visit.1.2.1 106 = .ok (.aload_n 0, 1) := by decide +kernel
theorem rd_d_X5_visit_107 : decode tX5_visit.1.2.1 107 = .ok (.getfield 7, 3) := by decide +kernel
theorem rd_k_X5_visit_107 : ex_lk ex_mt tX5_visit 107 (.getfield 7) [5, 0, 0, 131173] = true := by decide +kernel
theorem rd_d_X5_visit_110 : decode tX5_visit.1.2.1 110 = .ok (.ishl, 1) := by decide +kernel
theorem rd_d_X5_visit_111 : decode tX5_visit.1.2.1 111 = .ok (.ior, 1) := by decide +kernel
theorem rd_d_X5_visit_112 : decode tX5_visit.1.2.1 112 = .ok (.putfield 31, 3) := by decide +kernel
theorem rd_k_X5_visit_112 : ex_lk ex_mt tX5_visit 112 (.putfield 31) [5, 5, 0, 131180] = true := by decide +kernel
theorem rd_d_X5_visit_115 : decode tX5_visit.1.2.1 115 = .ok (.aload_n 0, 1) := by decide +kernel
theorem rd_d_X5_visit_116 : decode tX5_visit.1.2.1 116 = .ok (.dup, 1) := by decide +kernel
theorem rd_d_X5_visit_117 : decode tX5_visit.1.2.1 117 = .ok (.getfield 7, 3) := by decide +kernel
theorem rd_k_X5_visit_117 : ex_lk ex_mt tX5_visit 117 (.getfield 7) [5, 0, 0, 131173] = true := by decide +kernel
theorem rd_d_X5_visit_120 : decode tX5_visit.1.2.1 120 = .ok (.aload_n 0, 1) := by decide +kernel
theorem rd_d_X5_visit_121 : decode tX5_visit.1.2.1 121 = .ok (.getfield 13, 3) := by decide +kernel
theorem rd_k_X5_visit_121 : ex_lk ex_mt tX5_visit 121 (.getfield 13) [5, 1, 0, 131175] = true := by decide +kernel
theorem rd_d_X5_visit_124 : decode tX5_visit.1.2.1 124 = .ok (.iadd, 1) := by decide +kernel
theorem rd_d_X5_visit_125 : decode tX5_visit.1.2.1 125 = .ok (.putfield 7, 3) := by decide +kernel
theorem rd_k_X5_visit_125 : ex_lk ex_mt tX5_visit 125 (.putfield 7) [5, 0, 0, 131173] = true := by decide +kernel
theorem rd_d_X5_visit_128 : decode tX5_visit.1.2.1 128 = .ok (.aload_n 0, 1) := by decide +kernel
theorem rd_d_X5_visit_129 : decode tX5_visit.1.2.1 129 = .ok (.dup, 1) := by decide +kernel
theorem rd_d_X5_visit_130 : decode tX5_visit.1.2.1 130 = .ok (.getfield 16, 3) := by decide +kernel
theorem rd_k_X5_visit_130 : ex_lk ex_mt tX5_visit 130 (.getfield 16) [5, 2, 0, 131176] = true := by decide +kernel
theorem rd_d_X5_visit_133 : decode tX5_visit.1.2.1 133 = .ok (.aload_n 3, 1) := by decide +kernel
theorem rd_d_X5_visit_134 : decode tX5_visit.1.2.1 134 = .ok (.invokevirtual 54, 3) := by decide +kernel
theorem rd_k_X5_visit_134 : ex_lk ex_mt tX5_visit 134 (.invokevirtual 54) [0, 313, 327766] = true := by decide +kernel
theorem rd_d_X5_visit_137 : decode tX5_visit.1.2.1 137 = .ok (.iadd, 1) := by decide +kernel
theorem rd_d_X5_visit_138 : decode tX5_visit.1.2.1 138 = .ok (.putfield 16, 3) := by decide +kernel
theorem rd_k_X5_visit_138 : ex_lk ex_mt tX5_visit 138 (.putfield 16) [5, 2, 0, 131176] = true := by decide +kernel
theorem rd_d_X5_visit_141 : decode tX5_visit.1.2.1 141 = .ok (.return_, 1) := by decide +kernel
theorem rd_d_X11_race_0 : decode tX11_race.1.2.1 0 = .ok (.aload_n 0, 1) := by decide +kernel
theorem rd_d_X11_race_1 : decode tX11_race.1.2.1 1 = .ok (.getfield 28, 3) := by decide +kernel
theorem rd_k_X11_race_1 : ex_lk ex_mt tX11_race 1 (.getfield 28) [11, 2, 2, 131261] = true := by decide +kernel
theorem rd_d_X11_race_4 : decode tX11_race.1.2.1 4 = .ok (.iload_n 1, 1) := by decide +kernel
theorem rd_d_X11_race_5 : decode tX11_race.1.2.1 5 = .ok (.invokevirtual 147, 3) := by decide +kernel
theorem rd_k_X11_race_5 : ex_lk ex_mt tX11_race 5 (.invokevirtual 147) [0, 293, 262148] = true := by decide +kernel
theorem rd_d_X11_race_8 : decode tX11_race.1.2.1 8 = .ok (.ifCond .eq 32, 3) := by decide +kernel
theorem rd_d_X11_race_11 : decode tX11_race.1.2.1 11 = .ok (.aload_n 0, 1) := by decide +kernel
theorem rd_d_X11_race_12 : decode tX11_race.1.2.1 12 = .ok (.getfield 28, 3) := by decide +kernel
theorem rd_k_X11_race_12 : ex_lk ex_mt tX11_race 12 (.getfield 28) [11, 2, 2, 131261] = true := by decide +kernel
theorem rd_d_X11_race_15 : decode tX11_race.1.2.1 15 = .ok (.iload_n 2, 1) := by decide +kernel
theorem rd_d_X11_race_16 : decode tX11_race.1.2.1 16 = .ok (.invokevirtual 147, 3) := by decide +kernel
theorem rd_k_X11_race_16 : ex_lk ex_mt tX11_race 16 (.invokevirtual 147) [0, 293, 262148] = true := by decide +kernel
theorem rd_d_X11_race_19 : decode tX11_race.1.2.1 19 = .ok (.ifCond .eq 21, 3) := by decide +kernel
theorem rd_d_X11_race_22 : decode tX11_race.1.2.1 22 = .ok (.iload_n 3, 1) := by decide +kernel
theorem rd_d_X11_race_23 : decode tX11_race.1.2.1 23 = .ok (.invokestatic 270, 3) := by decide +kernel
theorem rd_k_X11_race_23 : ex_lk ex_mt tX11_race 23 (.invokestatic 270) [0, 42, 262278] = true := by decide +kernel
theorem rd_d_X11_race_26 : decode tX11_race.1.2.1 26 = .ok (.ifCond .eq 14, 3) := by decide +kernel
theorem rd_d_X11_race_29 : decode tX11_race.1.2.1 29 = .ok (.iload 4, 2) := by decide +kernel
theorem rd_d_X11_race_31 : decode tX11_race.1.2.1 31 = .ok (.ifCond .lt 9, 3) := by decide +kernel
theorem rd_d_X11_race_34 : decode tX11_race.1.2.1 34 = .ok (.iload 4, 2) := by decide +kernel
theorem rd_d_X11_race_36 : decode tX11_race.1.2.1 36 = .ok (.iconst 1, 1) := by decide +kernel
theorem rd_d_X11_race_37 : decode tX11_race.1.2.1 37 = .ok (.if_icmp .le 5, 3) := by decide +kernel
theorem rd_d_X11_race_40 : decode tX11_race.1.2.1 40 = .ok (.iconst (-1), 1) := by decide +kernel
theorem rd_d_X11_race_41 : decode tX11_race.1.2.1 41 = .ok (.ireturn, 1) := by decide +kernel
theorem rd_d_X11_race_42 : decode tX11_race.1.2.1 42 = .ok (.aload_n 0, 1) := by decide +kernel
theorem rd_d_X11_race_43 : decode tX11_race.1.2.1 43 = .ok (.getfield 81, 3) := by decide +kernel
theorem rd_k_X11_race_43 : ex_lk ex_mt tX11_race 43 (.getfield 81) [11, 11, 2, 131270] = true := by decide +kernel
theorem rd_d_X11_race_46 : decode tX11_race.1.2.1 46 = .ok (.iload_n 1, 1) := by decide +kernel
theorem rd_d_X11_race_47 : decode tX11_race.1.2.1 47 = .ok (.iconst 1, 1) := by decide +kernel
theorem rd_d_X11_race_48 : decode tX11_race.1.2.1 48 = .ok (.aload_n 0, 1) := by decide +kernel
theorem rd_d_X11_race_49 : decode tX11_race.1.2.1 49 = .ok (.getfield 28, 3) := by decide +kernel
theorem rd_k_X11_race_49 : ex_lk ex_mt tX11_race 49 (.getfield 28) [11, 2, 2, 131261] = true := by decide +kernel
theorem rd_d_X11_race_52 : decode tX11_race.1.2.1 52 = .ok (.invokevirtual 334, 3) := by decide +kernel
theorem rd_k_X11_race_52 : ex_lk ex_mt tX11_race 52 (.invokevirtual 334) [0, 237, 327748] = true := by decide +kernel
theorem rd_d_X11_race_55 : decode tX11_race.1.2.1 55 = .ok (.aload_n 0, 1) := by decide +kernel
theorem rd_d_X11_race_56 : decode tX11_race.1.2.1 56 = .ok (.getfield 85, 3) := by decide +kernel
theorem rd_k_X11_race_56 : ex_lk ex_mt tX11_race 56 (.getfield 85) [11, 12, 2, 131271] = true := by decide +kernel
theorem rd_d_X11_race_59 : decode tX11_race.1.2.1 59 = .ok (.iload_n 2, 1) := by decide +kernel
theorem rd_d_X11_race_60 : decode tX11_race.1.2.1 60 = .ok (.iconst (-1), 1) := by decide +kernel
theorem rd_d_X11_race_61 : decode tX11_race.1.2.1 61 = .ok (.aload_n 0, 1) := by decide +kernel
theorem rd_d_X11_race_62 : decode tX11_race.1.2.1 62 = .ok (.getfield 28, 3) := by decide +kernel
theorem rd_k_X11_race_62 : ex_lk ex_mt tX11_race 62 (.getfield 28) [11, 2, 2, 131261] = true := by decide +kernel
theorem rd_d_X11_race_65 : decode tX11_race.1.2.1 65 = .ok (.invokevirtual 334, 3) := by decide +kernel
theorem rd_k_X11_race_65 : ex_lk ex_mt tX11_race 65 (.invokevirtual 334) [0, 237, 327748] = true := by decide +kernel
theorem rd_d_X11_race_68 : decode tX11_race.1.2.1 68 = .ok (.iconst 0, 1) := by decide +kernel
theorem rd_d_X11_race_69 : decode tX11_race.1.2.1 69 = .ok (.istore 5, 2) := by decide +kernel
theorem rd_d_X11_race_71 : decode tX11_race.1.2.1 71 = .ok (.iload 5, 2) := by decide +kernel
theorem rd_d_X11_race_73 : decode tX11_race.1.2.1 73 = .ok (.bipush 20, 2) := by decide +kernel
theorem rd_d_X11_race_75 : decode tX11_race.1.2.1 75 = .ok (.if_icmp .ge 79, 3) := by decide +kernel
theorem rd_d_X11_race_78 : decode tX11_race.1.2.1 78 = .ok (.aload_n 0, 1) := by decide +kernel
theorem rd_d_X11_race_79 : decode tX11_race.1.2.1 79 = .ok (.getfield 81, 3) := by decide +kernel
theorem rd_k_X11_race_79 : ex_lk ex_mt tX11_race 79 (.getfield 81) [11, 11, 2, 131270] = true := by decide +kernel
theorem rd_d_X11_race_82 : decode tX11_race.1.2.1 82 = .ok (.aload_n 0, 1) := by decide +kernel
theorem rd_d_X11_race_83 : decode tX11_race.1.2.1 83 = .ok (.getfield 85, 3) := by decide +kernel
theorem rd_k_X11_race_83 : ex_lk ex_mt tX11_race 83 (.getfield 85) [11, 12, 2, 131271] = true := by decide +kernel
theorem rd_d_X11_race_86 : decode tX11_race.1.2.1 86 = .ok (.aload_n 0, 1) := by decide +kernel
theorem rd_d_X11_race_87 : decode tX11_race.1.2.1 87 = .ok (.getfield 28, 3) := by decide +kernel
theorem rd_k_X11_race_87 : ex_lk ex_mt tX11_race 87 (.getfield 28) [11, 2, 2, 131261] = true := by decide +kernel
theorem rd_d_X11_race_90 : decode tX11_race.1.2.1 90 = .ok (.invokevirtual 338, 3) := by decide +kernel
theorem rd_k_X11_race_90 : ex_lk ex_mt tX11_race 90 (.invokevirtual 338) [0, 236, 327753] = true := by decide +kernel
theorem rd_d_X11_race_93 : decode tX11_race.1.2.1 93 = .ok (.ifCond .eq 22, 3) := by decide +kernel
theorem rd_d_X11_race_96 : decode tX11_race.1.2.1 96 = .ok (.aload_n 0, 1) := by decide +kernel
theorem rd_d_X11_race_97 : decode tX11_race.1.2.1 97 = .ok (.getfield 81, 3) := by decide +kernel
theorem rd_k_X11_race_97 : ex_lk ex_mt tX11_race 97 (.getfield 81) [11, 11, 2, 131270] = true := by decide +kernel
theorem rd_d_X11_race_100 : decode tX11_race.1.2.1 100 = .ok (.aload_n 0, 1) := by decide +kernel
theorem rd_d_X11_race_101 : decode tX11_race.1.2.1 101 = .ok (.getfield 85, 3) := by decide +kernel
theorem rd_k_X11_race_101 : ex_lk ex_mt tX11_race 101 (.getfield 85) [11, 12, 2, 131271] = true := by decide +kernel
theorem rd_d_X11_race_104 : decode tX11_race.1.2.1 104 = .ok (.iload_n 3, 1) := by decide +kernel
theorem rd_d_X11_race_105 : decode tX11_race.1.2.1 105 = .ok (.aload_n 0, 1) := by decide +kernel
theorem rd_d_X11_race_106 : decode tX11_race.1.2.1 106 = .ok (.getfield 28, 3) := by decide +kernel
theorem rd_k_X11_race_106 : ex_lk ex_mt tX11_race 106 (.getfield 28) [11, 2, 2, 131261] = true := by decide +kernel
theorem rd_d_X11_race_109 : decode tX11_race.1.2.1 109 = .ok (.invokevirtual 342, 3) := by decide +kernel
theorem rd_k_X11_race_109 : ex_lk ex_mt tX11_race 109 (.invokevirtual 342) [0, 238, 327758] = true := by decide +kernel
theorem rd_d_X11_race_112 : decode tX11_race.1.2.1 112 = .ok (.goto 36, 3) := by decide +kernel
theorem rd_d_X11_race_115 : decode tX11_race.1.2.1 115 = .ok (.aload_n 0, 1) := by decide +kernel
theorem rd_d_X11_race_116 : decode tX11_race.1.2.1 116 = .ok (.getfield 28, 3) := by decide +kernel
theorem rd_k_X11_race_116 : ex_lk ex_mt tX11_race 116 (.getfield 28) [11, 2, 2, 131261] = true := by decide +kernel
theorem rd_d_X11_race_119 : decode tX11_race.1.2.1 119 = .ok (.aload_n 0, 1) := by decide +kernel
theorem rd_d_X11_race_120 : decode tX11_race.1.2.1 120 = .ok (.getfield 85, 3) := by decide +kernel
theorem rd_k_X11_race_120 : ex_lk ex_mt tX11_race 120 (.getfield 85) [11, 12, 2, 131271] = true := by decide +kernel
theorem rd_d_X11_race_123 : decode tX11_race.1.2.1 123 = .ok (.getfield 346, 3) := by decide +kernel
theorem rd_k_X11_race_123 : ex_lk ex_mt tX11_race 123 (.getfield 346) [5, 0, 0, 131174] = true := by decide +kernel
theorem rd_d_X11_race_126 : decode tX11_race.1.2.1 126 = .ok (.invokevirtual 147, 3) := by decide +kernel
theorem rd_k_X11_race_126 : ex_lk ex_mt tX11_race 126 (.invokevirtual 147) [0, 293, 262148] = true := by decide +kernel
theorem rd_d_X11_race_129 : decode tX11_race.1.2.1 129 = .ok (.ifCond .eq 19, 3) := by decide +kernel
theorem rd_d_X11_race_132 : decode tX11_race.1.2.1 132 = .ok (.aload_n 0, 1) := by decide +kernel
theorem rd_d_X11_race_133 : decode tX11_race.1.2.1 133 = .ok (.getfield 85, 3) := by decide +kernel
theorem rd_k_X11_race_133 : ex_lk ex_mt tX11_race 133 (.getfield 85) [11, 12, 2, 131271] = true := by decide +kernel
theorem rd_d_X11_race_136 : decode tX11_race.1.2.1 136 = .ok (.aload_n 0, 1) := by decide +kernel
theorem rd_d_X11_race_137 : decode tX11_race.1.2.1 137 = .ok (.getfield 81, 3) := by decide +kernel
theorem rd_k_X11_race_137 : ex_lk ex_mt tX11_race 137 (.getfield 81) [11, 11, 2, 131270] = true := by decide +kernel
theorem rd_d_X11_race_140 : decode tX11_race.1.2.1 140 = .ok (.iload_n 3, 1) := by decide +kernel
theorem rd_d_X11_race_141 : decode tX11_race.1.2.1 141 = .ok (.aload_n 0, 1) := by decide +kernel
theorem rd_d_X11_race_142 : decode tX11_race.1.2.1 142 = .ok (.getfield 28, 3) := by decide +kernel
theorem rd_k_X11_race_142 : ex_lk ex_mt tX11_race 142 (.getfield 28) [11, 2, 2, 131261] = true := by decide +kernel
theorem rd_d_X11_race_145 : decode tX11_race.1.2.1 145 = .ok (.invokevirtual 342, 3) := by decide +kernel
theorem rd_k_X11_race_145 : ex_lk ex_mt tX11_race 145 (.invokevirtual 342) [0, 238, 327758] = true := by decide +kernel
theorem rd_d_X11_race_148 : decode tX11_race.1.2.1 148 = .ok (.iinc 5 1, 3) := by decide +kernel
theorem rd_d_X11_race_151 : decode tX11_race.1.2.1 151 = .ok (.goto (-80), 3) := by decide +kernel
theorem rd_d_X11_race_154 : decode tX11_race.1.2.1 154 = .ok (.iload 4, 2) := by decide +kernel
theorem rd_d_X11_race_156 : decode tX11_race.1.2.1 156 = .ok (.ifCond .ne 13, 3) := by decide +kernel
theorem rd_d_X11_race_159 : decode tX11_race.1.2.1 159 = .ok (.aload_n 0, 1) := by decide +kernel
theorem rd_d_X11_race_160 : decode tX11_race.1.2.1 160 = .ok (.getfield 81, 3) := by decide +kernel
theorem rd_k_X11_race_160 : ex_lk ex_mt tX11_race 160 (.getfield 81) [11, 11, 2, 131270] = true := by decide +kernel
theorem rd_d_X11_race_163 : decode tX11_race.1.2.1 163 = .ok (.getfield 347, 3) := by decide +kernel
theorem rd_k_X11_race_163 : ex_lk ex_mt tX11_race 163 (.getfield 347) [5, 4, 0, 131179] = true := by decide +kernel
theorem rd_d_X11_race_166 : decode tX11_race.1.2.1 166 = .ok (.goto 10, 3) := by decide +kernel
theorem rd_d_X11_race_169 : decode tX11_race.1.2.1 169 = .ok (.aload_n 0, 1) := by decide +kernel
theorem rd_d_X11_race_170 : decode tX11_race.1.2.1 170 = .ok (.getfield 85, 3) := by decide +kernel
theorem rd_k_X11_race_170 : ex_lk ex_mt tX11_race 170 (.getfield 85) [11, 12, 2, 131271] = true := by decide +kernel
theorem rd_d_X11_race_173 : decode tX11_race.1.2.1 173 = .ok (.getfield 347, 3) := by decide +kernel
theorem rd_k_X11_race_173 : ex_lk ex_mt tX11_race 173 (.getfield 347) [5, 4, 0, 131179] = true := by decide +kernel
theorem rd_d_X11_race_176 : decode tX11_race.1.2.1 176 = .ok (.ireturn, 1) := by decide +kernel
theorem rd_d_X12_lesser_0 : decode tX12_lesser.1.2.1 0 = .ok (.iload_n 0, 1) := by decide +kernel
theorem rd_d_X12_lesser_1 : decode tX12_lesser.1.2.1 1 = .ok (.iload_n 1, 1) := by decide +kernel
theorem rd_d_X12_lesser_2 : decode tX12_lesser.1.2.1 2 = .ok (.if_icmp .ge 7, 3) := by decide +kernel
theorem rd_d_X12_lesser_5 : decode tX12_lesser.1.2.1 5 = .ok (.iload_n 0, 1) := by decide +kernel
theorem rd_d_X12_lesser_6 : decode tX12_lesser.1.2.1 6 = .ok (.goto 4, 3) := by decide +kernel
theorem rd_d_X12_lesser_9 : decode tX12_lesser.1.2.1 9 = .ok (.iload_n 1, 1) := by decide +kernel
theorem rd_d_X12_lesser_10 : decode tX12_lesser.1.2.1 10 = .ok (.ireturn, 1) := by decide +kernel
theorem rd_d_X12_race_0 : decode tX12_race.1.2.1 0 = .ok (.aload_n 0, 1) := by decide +kernel
theorem rd_d_X12_race_1 : decode tX12_race.1.2.1 1 = .ok (.iconst 0, 1) := by decide +kernel
theorem rd_d_X12_race_2 : decode tX12_race.1.2.1 2 = .ok (.putfield 1, 3) := by decide +kernel
theorem rd_k_X12_race_2 : ex_lk ex_mt tX12_race 2 (.putfield 1) [12, 0, 0, 458767] = true := by decide +kernel
theorem rd_d_X12_race_5 : decode tX12_race.1.2.1 5 = .ok (.aload_n 0, 1) := by decide +kernel
theorem rd_d_X12_race_6 : decode tX12_race.1.2.1 6 = .ok (.iload_n 1, 1) := by decide +kernel
theorem rd_d_X12_race_7 : decode tX12_race.1.2.1 7 = .ok (.invokevirtual 214, 3) := by decide +kernel
theorem rd_k_X12_race_7 : ex_lk ex_mt tX12_race 7 (.invokevirtual 214) [0, 125, 458991] = true := by decide +kernel
theorem rd_d_X12_race_10 : decode tX12_race.1.2.1 10 = .ok (.ifCond .eq 31, 3) := by decide +kernel
theorem rd_d_X12_race_13 : decode tX12_race.1.2.1 13 = .ok (.aload_n 0, 1) := by decide +kernel
theorem rd_d_X12_race_14 : decode tX12_race.1.2.1 14 = .ok (.iload_n 2, 1) := by decide +kernel
theorem rd_d_X12_race_15 : decode tX12_race.1.2.1 15 = .ok (.invokevirtual 214, 3) := by decide +kernel
theorem rd_k_X12_race_15 : ex_lk ex_mt tX12_race 15 (.invokevirtual 214) [0, 125, 458991] = true := by decide +kernel
theorem rd_d_X12_race_18 : decode tX12_race.1.2.1 18 = .ok (.ifCond .eq 23, 3) := by decide +kernel
theorem rd_d_X12_race_21 : decode tX12_race.1.2.1 21 = .ok (.iload_n 3, 1) := by decide +kernel
theorem rd_d_X12_race_22 : decode tX12_race.1.2.1 22 = .ok (.iconst 0, 1) := by decide +kernel
theorem rd_d_X12_race_23 : decode tX12_race.1.2.1 23 = .ok (.bipush 60, 2) := by decide +kernel
theorem rd_d_X12_race_25 : decode tX12_race.1.2.1 25 = .ok (.invokestatic 134, 3) := by decide +kernel
theorem rd_k_X12_race_25 : ex_lk ex_mt tX12_race 25 (.invokestatic 134) [0, 119, 458953] = true := by decide +kernel
theorem rd_d_X12_race_28 : decode tX12_race.1.2.1 28 = .ok (.ifCond .eq 13, 3) := by decide +kernel
theorem rd_d_X12_race_31 : decode tX12_race.1.2.1 31 = .ok (.iload 4, 2) := by decide +kernel
theorem rd_d_X12_race_33 : decode tX12_race.1.2.1 33 = .ok (.iconst 0, 1) := by decide +kernel
theorem rd_d_X12_race_34 : decode tX12_race.1.2.1 34 = .ok (.iconst 1, 1) := by decide +kernel
theorem rd_d_X12_race_35 : decode tX12_race.1.2.1 35 = .ok (.invokestatic 134, 3) := by decide +kernel
theorem rd_k_X12_race_35 : ex_lk ex_mt tX12_race 35 (.invokestatic 134) [0, 119, 458953] = true := by decide +kernel
theorem rd_d_X12_race_38 : decode tX12_race.1.2.1 38 = .ok (.ifCond .ne 5, 3) := by decide +kernel
theorem rd_d_X12_race_41 : decode tX12_race.1.2.1 41 = .ok (.iconst (-1), 1) := by decide +kernel
theorem rd_d_X12_race_42 : decode tX12_race.1.2.1 42 = .ok (.ireturn, 1) := by decide +kernel
theorem rd_d_X12_race_43 : decode tX12_race.1.2.1 43 = .ok (.aload_n 0, 1) := by decide +kernel
theorem rd_d_X12_race_44 : decode tX12_race.1.2.1 44 = .ok (.getfield 61, 3) := by decide +kernel
theorem rd_k_X12_race_44 : ex_lk ex_mt tX12_race 44 (.getfield 61) [12, 29, 2, 458796] = true := by decide +kernel
theorem rd_d_X12_race_47 : decode tX12_race.1.2.1 47 = .ok (.iconst 0, 1) := by decide +kernel
theorem rd_d_X12_race_48 : decode tX12_race.1.2.1 48 = .ok (.iload_n 1, 1) := by decide +kernel
theorem rd_d_X12_race_49 : decode tX12_race.1.2.1 49 = .ok (.iastore, 1) := by decide +kernel
theorem rd_d_X12_race_50 : decode tX12_race.1.2.1 50 = .ok (.aload_n 0, 1) := by decide +kernel
theorem rd_d_X12_race_51 : decode tX12_race.1.2.1 51 = .ok (.getfield 61, 3) := by decide +kernel
theorem rd_k_X12_race_51 : ex_lk ex_mt tX12_race 51 (.getfield 61) [12, 29, 2, 458796] = true := by decide +kernel
theorem rd_d_X12_race_54 : decode tX12_race.1.2.1 54 = .ok (.iconst 1, 1) := by decide +kernel
theorem rd_d_X12_race_55 : decode tX12_race.1.2.1 55 = .ok (.iload_n 2, 1) := by decide +kernel
theorem rd_d_X12_race_56 : decode tX12_race.1.2.1 56 = .ok (.iastore, 1) := by decide +kernel
theorem rd_d_X12_race_57 : decode tX12_race.1.2.1 57 = .ok (.iconst 0, 1) := by decide +kernel
theorem rd_d_X12_race_58 : decode tX12_race.1.2.1 58 = .ok (.istore 5, 2) := by decide +kernel
theorem rd_d_X12_race_60 : decode tX12_race.1.2.1 60 = .ok (.iload 5, 2) := by decide +kernel
theorem rd_d_X12_race_62 : decode tX12_race.1.2.1 62 = .ok (.iconst 2, 1) := by decide +kernel
theorem rd_d_X12_race_63 : decode tX12_race.1.2.1 63 = .ok (.if_icmp .ge 39, 3) := by decide +kernel
theorem rd_d_X12_race_66 : decode tX12_race.1.2.1 66 = .ok (.aload_n 0, 1) := by decide +kernel
theorem rd_d_X12_race_67 : decode tX12_race.1.2.1 67 = .ok (.getfield 64, 3) := by decide +kernel
theorem rd_k_X12_race_67 : ex_lk ex_mt tX12_race 67 (.getfield 64) [12, 30, 2, 458797] = true := by decide +kernel
theorem rd_d_X12_race_70 : decode tX12_race.1.2.1 70 = .ok (.iload 5, 2) := by decide +kernel
theorem rd_d_X12_race_72 : decode tX12_race.1.2.1 72 = .ok (.iconst 0, 1) := by decide +kernel
theorem rd_d_X12_race_73 : decode tX12_race.1.2.1 73 = .ok (.iastore, 1) := by decide +kernel
theorem rd_d_X12_race_74 : decode tX12_race.1.2.1 74 = .ok (.aload_n 0, 1) := by decide +kernel
theorem rd_d_X12_race_75 : decode tX12_race.1.2.1 75 = .ok (.getfield 67, 3) := by decide +kernel
theorem rd_k_X12_race_75 : ex_lk ex_mt tX12_race 75 (.getfield 67) [12, 31, 2, 458798] = true := by decide +kernel
theorem rd_d_X12_race_78 : decode tX12_race.1.2.1 78 = .ok (.iload 5, 2) := by decide +kernel
theorem rd_d_X12_race_80 : decode tX12_race.1.2.1 80 = .ok (.aload_n 0, 1) := by decide +kernel
theorem rd_d_X12_race_81 : decode tX12_race.1.2.1 81 = .ok (.getfield 33, 3) := by decide +kernel
theorem rd_k_X12_race_81 : ex_lk ex_mt tX12_race 81 (.getfield 33) [12, 6, 2, 458773] = true := by decide +kernel
theorem rd_d_X12_race_84 : decode tX12_race.1.2.1 84 = .ok (.bipush 55, 2) := by decide +kernel
theorem rd_d_X12_race_86 : decode tX12_race.1.2.1 86 = .ok (.iaload, 1) := by decide +kernel
theorem rd_d_X12_race_87 : decode tX12_race.1.2.1 87 = .ok (.iastore, 1) := by decide +kernel
theorem rd_d_X12_race_88 : decode tX12_race.1.2.1 88 = .ok (.aload_n 0, 1) := by decide +kernel
theorem rd_d_X12_race_89 : decode tX12_race.1.2.1 89 = .ok (.getfield 70, 3) := by decide +kernel
theorem rd_k_X12_race_89 : ex_lk ex_mt tX12_race 89 (.getfield 70) [12, 32, 2, 458799] = true := by decide +kernel
theorem rd_d_X12_race_92 : decode tX12_race.1.2.1 92 = .ok (.iload 5, 2) := by decide +kernel
theorem rd_d_X12_race_94 : decode tX12_race.1.2.1 94 = .ok (.iconst 0, 1) := by decide +kernel
theorem rd_d_X12_race_95 : decode tX12_race.1.2.1 95 = .ok (.iastore, 1) := by decide +kernel
theorem rd_d_X12_race_96 : decode tX12_race.1.2.1 96 = .ok (.iinc 5 1, 3) := by decide +kernel
theorem rd_d_X12_race_99 : decode tX12_race.1.2.1 99 = .ok (.goto (-39), 3) := by decide +kernel
theorem rd_d_X12_race_102 : decode tX12_race.1.2.1 102 = .ok (.iconst 0, 1) := by decide +kernel
theorem rd_d_X12_race_103 : decode tX12_race.1.2.1 103 = .ok (.istore 5, 2) := by decide +kernel
theorem rd_d_X12_race_105 : decode tX12_race.1.2.1 105 = .ok (.aload_n 0, 1) := by decide +kernel
theorem rd_d_X12_race_106 : decode tX12_race.1.2.1 106 = .ok (.aload_n 0, 1) := by decide +kernel
theorem rd_d_X12_race_107 : decode tX12_race.1.2.1 107 = .ok (.getfield 61, 3) := by decide +kernel
theorem rd_k_X12_race_107 : ex_lk ex_mt tX12_race 107 (.getfield 61) [12, 29, 2, 458796] = true := by decide +kernel
theorem rd_d_X12_race_110 : decode tX12_race.1.2.1 110 = .ok (.iconst 0, 1) := by decide +kernel
theorem rd_d_X12_race_111 : decode tX12_race.1.2.1 111 = .ok (.iaload, 1) := by decide +kernel
theorem rd_d_X12_race_112 : decode tX12_race.1.2.1 112 = .ok (.invokevirtual 214, 3) := by decide +kernel
theorem rd_k_X12_race_112 : ex_lk ex_mt tX12_race 112 (.invokevirtual 214) [0, 125, 458991] = true := by decide +kernel
theorem rd_d_X12_race_115 : decode tX12_race.1.2.1 115 = .ok (.ifCond .ne 16, 3) := by decide +kernel
theorem rd_d_X12_race_118 : decode tX12_race.1.2.1 118 = .ok (.aload_n 0, 1) := by decide +kernel
theorem rd_d_X12_race_119 : decode tX12_race.1.2.1 119 = .ok (.aload_n 0, 1) := by decide +kernel
theorem rd_d_X12_race_120 : decode tX12_race.1.2.1 120 = .ok (.getfield 61, 3) := by decide +kernel
theorem rd_k_X12_race_120 : ex_lk ex_mt tX12_race 120 (.getfield 61) [12, 29, 2, 458796] = true := by decide +kernel
theorem rd_d_X12_race_123 : decode tX12_race.1.2.1 123 = .ok (.iconst 1, 1) := by decide +kernel
theorem rd_d_X12_race_124 : decode tX12_race.1.2.1 124 = .ok (.iaload, 1) := by decide +kernel
theorem rd_d_X12_race_125 : decode tX12_race.1.2.1 125 = .ok (.invokevirtual 214, 3) := by decide +kernel
theorem rd_k_X12_race_125 : ex_lk ex_mt tX12_race 125 (.invokevirtual 214) [0, 125, 458991] = true := by decide +kernel
theorem rd_d_X12_race_128 : decode tX12_race.1.2.1 128 = .ok (.ifCond .eq 227, 3) := by decide +kernel
theorem rd_d_X12_race_131 : decode tX12_race.1.2.1 131 = .ok (.aload_n 0, 1) := by decide +kernel
theorem rd_d_X12_race_132 : decode tX12_race.1.2.1 132 = .ok (.aload_n 0, 1) := by decide +kernel
theorem rd_d_X12_race_133 : decode tX12_race.1.2.1 133 = .ok (.getfield 61, 3) := by decide +kernel
theorem rd_k_X12_race_133 : ex_lk ex_mt tX12_race 133 (.getfield 61) [12, 29, 2, 458796] = true := by decide +kernel
theorem rd_d_X12_race_136 : decode tX12_race.1.2.1 136 = .ok (.iconst 0, 1) := by decide +kernel
theorem rd_d_X12_race_137 : decode tX12_race.1.2.1 137 = .ok (.iaload, 1) := by decide +kernel
theorem rd_d_X12_race_138 : decode tX12_race.1.2.1 138 = .ok (.invokevirtual 214, 3) := by decide +kernel
theorem rd_k_X12_race_138 : ex_lk ex_mt tX12_race 138 (.invokevirtual 214) [0, 125, 458991] = true := by decide +kernel
theorem rd_d_X12_race_141 : decode tX12_race.1.2.1 141 = .ok (.ifCond .eq 31, 3) := by decide +kernel
theorem rd_d_X12_race_144 : decode tX12_race.1.2.1 144 = .ok (.aload_n 0, 1) := by decide +kernel
theorem rd_d_X12_race_145 : decode tX12_race.1.2.1 145 = .ok (.aload_n 0, 1) := by decide +kernel
theorem rd_d_X12_race_146 : decode tX12_race.1.2.1 146 = .ok (.getfield 61, 3) := by decide +kernel
theorem rd_k_X12_race_146 : ex_lk ex_mt tX12_race 146 (.getfield 61) [12, 29, 2, 458796] = true := by decide +kernel
theorem rd_d_X12_race_149 : decode tX12_race.1.2.1 149 = .ok (.iconst 1, 1) := by decide +kernel
theorem rd_d_X12_race_150 : decode tX12_race.1.2.1 150 = .ok (.iaload, 1) := by decide +kernel
theorem rd_d_X12_race_151 : decode tX12_race.1.2.1 151 = .ok (.invokevirtual 214, 3) := by decide +kernel
theorem rd_k_X12_race_151 : ex_lk ex_mt tX12_race 151 (.invokevirtual 214) [0, 125, 458991] = true := by decide +kernel
theorem rd_d_X12_race_154 : decode tX12_race.1.2.1 154 = .ok (.ifCond .eq 22, 3) := by decide +kernel
theorem rd_d_X12_race_157 : decode tX12_race.1.2.1 157 = .ok (.aload_n 0, 1) := by decide +kernel
theorem rd_d_X12_race_158 : decode tX12_race.1.2.1 158 = .ok (.getfield 64, 3) := by decide +kernel
theorem rd_k_X12_race_158 : ex_lk ex_mt tX12_race 158 (.getfield 64) [12, 30, 2, 458797] = true := by decide +kernel
theorem rd_d_X12_race_161 : decode tX12_race.1.2.1 161 = .ok (.iconst 1, 1) := by decide +kernel
theorem rd_d_X12_race_162 : decode tX12_race.1.2.1 162 = .ok (.iaload, 1) := by decide +kernel
theorem rd_d_X12_race_163 : decode tX12_race.1.2.1 163 = .ok (.aload_n 0, 1) := by decide +kernel
theorem rd_d_X12_race_164 : decode tX12_race.1.2.1 164 = .ok (.getfield 64, 3) := by decide +kernel
theorem rd_k_X12_race_164 : ex_lk ex_mt tX12_race 164 (.getfield 64) [12, 30, 2, 458797] = true := by decide +kernel
theorem rd_d_X12_race_167 : decode tX12_race.1.2.1 167 = .ok (.iconst 0, 1) := by decide +kernel
theorem rd_d_X12_race_168 : decode tX12_race.1.2.1 168 = .ok (.iaload, 1) := by decide +kernel
theorem rd_d_X12_race_169 : decode tX12_race.1.2.1 169 = .ok (.if_icmp .ge 7, 3) := by decide +kernel
theorem rd_d_X12_race_172 : decode tX12_race.1.2.1 172 = .ok (.iconst 1, 1) := by decide +kernel
theorem rd_d_X12_race_173 : decode tX12_race.1.2.1 173 = .ok (.goto 4, 3) := by decide +kernel
theorem rd_d_X12_race_176 : decode tX12_race.1.2.1 176 = .ok (.iconst 0, 1) := by decide +kernel
theorem rd_d_X12_race_177 : decode tX12_race.1.2.1 177 = .ok (.istore 6, 2) := by decide +kernel
theorem rd_d_X12_race_179 : decode tX12_race.1.2.1 179 = .ok (.aload_n 0, 1) := by decide +kernel
theorem rd_d_X12_race_180 : decode tX12_race.1.2.1 180 = .ok (.getfield 61, 3) := by decide +kernel
theorem rd_k_X12_race_180 : ex_lk ex_mt tX12_race 180 (.getfield 61) [12, 29, 2, 458796] = true := by decide +kernel
theorem rd_d_X12_race_183 : decode tX12_race.1.2.1 183 = .ok (.iload 6, 2) := by decide +kernel
theorem rd_d_X12_race_185 : decode tX12_race.1.2.1 185 = .ok (.iaload, 1) := by decide +kernel
theorem rd_d_X12_race_186 : decode tX12_race.1.2.1 186 = .ok (.istore 7, 2) := by decide +kernel
theorem rd_d_X12_race_188 : decode tX12_race.1.2.1 188 = .ok (.iload 5, 2) := by decide +kernel
theorem rd_d_X12_race_190 : decode tX12_race.1.2.1 190 = .ok (.iload 7, 2) := by decide +kernel
theorem rd_d_X12_race_192 : decode tX12_race.1.2.1 192 = .ok (.invokestatic 178, 3) := by decide +kernel
theorem rd_k_X12_race_192 : ex_lk ex_mt tX12_race 192 (.invokestatic 178) [0, 83, 458969] = true := by decide +kernel
theorem rd_d_X12_race_195 : decode tX12_race.1.2.1 195 = .ok (.ifCond .eq 7, 3) := by decide +kernel
theorem rd_d_X12_race_198 : decode tX12_race.1.2.1 198 = .ok (.iconst 0, 1) := by decide +kernel
theorem rd_d_X12_race_199 : decode tX12_race.1.2.1 199 = .ok (.goto 23, 3) := by decide +kernel
theorem rd_d_X12_race_202 : decode tX12_race.1.2.1 202 = .ok (.aload_n 0, 1) := by decide +kernel
theorem rd_d_X12_race_203 : decode tX12_race.1.2.1 203 = .ok (.getfield 67, 3) := by decide +kernel
theorem rd_k_X12_race_203 : ex_lk ex_mt tX12_race 203 (.getfield 67) [12, 31, 2, 458798] = true := by decide +kernel
theorem rd_d_X12_race_206 : decode tX12_race.1.2.1 206 = .ok (.iload 6, 2) := by decide +kernel
theorem rd_d_X12_race_208 : decode tX12_race.1.2.1 208 = .ok (.iaload, 1) := by decide +kernel
theorem rd_d_X12_race_209 : decode tX12_race.1.2.1 209 = .ok (.aload_n 0, 1) := by decide +kernel
theorem rd_d_X12_race_210 : decode tX12_race.1.2.1 210 = .ok (.getfield 33, 3) := by decide +kernel
theorem rd_k_X12_race_210 : ex_lk ex_mt tX12_race 210 (.getfield 33) [12, 6, 2, 458773] = true := by decide +kernel
theorem rd_d_X12_race_213 : decode tX12_race.1.2.1 213 = .ok (.bipush 22, 2) := by decide +kernel
theorem rd_d_X12_race_215 : decode tX12_race.1.2.1 215 = .ok (.iload 7, 2) := by decide +kernel
theorem rd_d_X12_race_217 : decode tX12_race.1.2.1 217 = .ok (.iadd, 1) := by decide +kernel
theorem rd_d_X12_race_218 : decode tX12_race.1.2.1 218 = .ok (.iaload, 1) := by decide +kernel
theorem rd_d_X12_race_219 : decode tX12_race.1.2.1 219 = .ok (.invokestatic 228, 3) := by decide +kernel
theorem rd_k_X12_race_219 : ex_lk ex_mt tX12_race 219 (.invokestatic 228) [0, 131, 524375] = true := by decide +kernel
theorem rd_d_X12_race_222 : decode tX12_race.1.2.1 222 = .ok (.istore 8, 2) := by decide +kernel
theorem rd_d_X12_race_224 : decode tX12_race.1.2.1 224 = .ok (.iload 5, 2) := by decide +kernel
theorem rd_d_X12_race_226 : decode tX12_race.1.2.1 226 = .ok (.iconst 1, 1) := by decide +kernel
theorem rd_d_X12_race_227 : decode tX12_race.1.2.1 227 = .ok (.iload 7, 2) := by decide +kernel
theorem rd_d_X12_race_229 : decode tX12_race.1.2.1 229 = .ok (.ishl, 1) := by decide +kernel
theorem rd_d_X12_race_230 : decode tX12_race.1.2.1 230 = .ok (.ior, 1) := by decide +kernel
theorem rd_d_X12_race_231 : decode tX12_race.1.2.1 231 = .ok (.istore 5, 2) := by decide +kernel
theorem rd_d_X12_race_233 : decode tX12_race.1.2.1 233 = .ok (.aload_n 0, 1) := by decide +kernel
theorem rd_d_X12_race_234 : decode tX12_race.1.2.1 234 = .ok (.getfield 67, 3) := by decide +kernel
theorem rd_k_X12_race_234 : ex_lk ex_mt tX12_race 234 (.getfield 67) [12, 31, 2, 458798] = true := by decide +kernel
theorem rd_d_X12_race_237 : decode tX12_race.1.2.1 237 = .ok (.iload 6, 2) := by decide +kernel
theorem rd_d_X12_race_239 : decode tX12_race.1.2.1 239 = .ok (.dup2, 1) := by decide +kernel
theorem rd_d_X12_race_240 : decode tX12_race.1.2.1 240 = .ok (.iaload, 1) := by decide +kernel
theorem rd_d_X12_race_241 : decode tX12_race.1.2.1 241 = .ok (.iload 8, 2) := by decide +kernel
theorem rd_d_X12_race_243 : decode tX12_race.1.2.1 243 = .ok (.isub, 1) := by decide +kernel
theorem rd_d_X12_race_244 : decode tX12_race.1.2.1 244 = .ok (.iastore, 1) := by decide +kernel
theorem rd_d_X12_race_245 : decode tX12_race.1.2.1 245 = .ok (.iconst 0, 1) := by decide +kernel
theorem rd_d_X12_race_246 : decode tX12_race.1.2.1 246 = .ok (.istore 9, 2) := by decide +kernel
theorem rd_d_X12_race_248 : decode tX12_race.1.2.1 248 = .ok (.iload 9, 2) := by decide +kernel
theorem rd_d_X12_race_250 : decode tX12_race.1.2.1 250 = .ok (.iload 8, 2) := by decide +kernel
theorem rd_d_X12_race_252 : decode tX12_race.1.2.1 252 = .ok (.if_icmp .ge 63, 3) := by decide +kernel
theorem rd_d_X12_race_255 : decode tX12_race.1.2.1 255 = .ok (.aload_n 0, 1) := by decide +kernel
theorem rd_d_X12_race_256 : decode tX12_race.1.2.1 256 = .ok (.getfield 64, 3) := by decide +kernel
theorem rd_k_X12_race_256 : ex_lk ex_mt tX12_race 256 (.getfield 64) [12, 30, 2, 458797] = true := by decide +kernel
theorem rd_d_X12_race_259 : decode tX12_race.1.2.1 259 = .ok (.iload 6, 2) := by decide +kernel
theorem rd_d_X12_race_261 : decode tX12_race.1.2.1 261 = .ok (.dup2, 1) := by decide +kernel
theorem rd_d_X12_race_262 : decode tX12_race.1.2.1 262 = .ok (.iaload, 1) := by decide +kernel
theorem rd_d_X12_race_263 : decode tX12_race.1.2.1 263 = .ok (.aload_n 0, 1) := by decide +kernel
theorem rd_d_X12_race_264 : decode tX12_race.1.2.1 264 = .ok (.getfield 33, 3) := by decide +kernel
theorem rd_k_X12_race_264 : ex_lk ex_mt tX12_race 264 (.getfield 33) [12, 6, 2, 458773] = true := by decide +kernel
theorem rd_d_X12_race_267 : decode tX12_race.1.2.1 267 = .ok (.bipush 12, 2) := by decide +kernel
theorem rd_d_X12_race_269 : decode tX12_race.1.2.1 269 = .ok (.iload 7, 2) := by decide +kernel
theorem rd_d_X12_race_271 : decode tX12_race.1.2.1 271 = .ok (.iadd, 1) := by decide +kernel
theorem rd_d_X12_race_272 : decode tX12_race.1.2.1 272 = .ok (.iaload, 1) := by decide +kernel
theorem rd_d_X12_race_273 : decode tX12_race.1.2.1 273 = .ok (.iadd, 1) := by decide +kernel
theorem rd_d_X12_race_274 : decode tX12_race.1.2.1 274 = .ok (.iastore, 1) := by decide +kernel
theorem rd_d_X12_race_275 : decode tX12_race.1.2.1 275 = .ok (.aload_n 0, 1) := by decide +kernel
theorem rd_d_X12_race_276 : decode tX12_race.1.2.1 276 = .ok (.getfield 70, 3) := by decide +kernel
theorem rd_k_X12_race_276 : ex_lk ex_mt tX12_race 276 (.getfield 70) [12, 32, 2, 458799] = true := by decide +kernel
theorem rd_d_X12_race_279 : decode tX12_race.1.2.1 279 = .ok (.iload 6, 2) := by decide +kernel
theorem rd_d_X12_race_281 : decode tX12_race.1.2.1 281 = .ok (.dup2, 1) := by decide +kernel
theorem rd_d_X12_race_282 : decode tX12_race.1.2.1 282 = .ok (.iaload, 1) := by decide +kernel
theorem rd_d_X12_race_283 : decode tX12_race.1.2.1 283 = .ok (.aload_n 0, 1) := by decide +kernel
theorem rd_d_X12_race_284 : decode tX12_race.1.2.1 284 = .ok (.getfield 64, 3) := by decide +kernel
theorem rd_k_X12_race_284 : ex_lk ex_mt tX12_race 284 (.getfield 64) [12, 30, 2, 458797] = true := by decide +kernel
theorem rd_d_X12_race_287 : decode tX12_race.1.2.1 287 = .ok (.iload 6, 2) := by decide +kernel
theorem rd_d_X12_race_289 : decode tX12_race.1.2.1 289 = .ok (.iaload, 1) := by decide +kernel
theorem rd_d_X12_race_290 : decode tX12_race.1.2.1 290 = .ok (.iload_n 3, 1) := by decide +kernel
theorem rd_d_X12_race_291 : decode tX12_race.1.2.1 291 = .ok (.if_icmp .gt 15, 3) := by decide +kernel
theorem rd_d_X12_race_294 : decode tX12_race.1.2.1 294 = .ok (.aload_n 0, 1) := by decide +kernel
theorem rd_d_X12_race_295 : decode tX12_race.1.2.1 295 = .ok (.getfield 33, 3) := by decide +kernel
theorem rd_k_X12_race_295 : ex_lk ex_mt tX12_race 295 (.getfield 33) [12, 6, 2, 458773] = true := by decide +kernel
theorem rd_d_X12_race_298 : decode tX12_race.1.2.1 298 = .ok (.iconst 2, 1) := by decide +kernel
theorem rd_d_X12_race_299 : decode tX12_race.1.2.1 299 = .ok (.iload 7, 2) := by decide +kernel
theorem rd_d_X12_race_301 : decode tX12_race.1.2.1 301 = .ok (.iadd, 1) := by decide +kernel
theorem rd_d_X12_race_302 : decode tX12_race.1.2.1 302 = .ok (.iaload, 1) := by decide +kernel
theorem rd_d_X12_race_303 : decode tX12_race.1.2.1 303 = .ok (.goto 4, 3) := by decide +kernel
theorem rd_d_X12_race_306 : decode tX12_race.1.2.1 306 = .ok (.iconst 0, 1) := by decide +kernel
theorem rd_d_X12_race_307 : decode tX12_race.1.2.1 307 = .ok (.iadd, 1) := by decide +kernel
theorem rd_d_X12_race_308 : decode tX12_race.1.2.1 308 = .ok (.iastore, 1) := by decide +kernel
theorem rd_d_X12_race_309 : decode tX12_race.1.2.1 309 = .ok (.iinc 9 1, 3) := by decide +kernel
theorem rd_d_X12_race_312 : decode tX12_race.1.2.1 312 = .ok (.goto (-64), 3) := by decide +kernel
theorem rd_d_X12_race_315 : decode tX12_race.1.2.1 315 = .ok (.aload_n 0, 1) := by decide +kernel
theorem rd_d_X12_race_316 : decode tX12_race.1.2.1 316 = .ok (.getfield 64, 3) := by decide +kernel
theorem rd_k_X12_race_316 : ex_lk ex_mt tX12_race 316 (.getfield 64) [12, 30, 2, 458797] = true := by decide +kernel
theorem rd_d_X12_race_319 : decode tX12_race.1.2.1 319 = .ok (.iload 6, 2) := by decide +kernel
theorem rd_d_X12_race_321 : decode tX12_race.1.2.1 321 = .ok (.dup2, 1) := by decide +kernel
theorem rd_d_X12_race_322 : decode tX12_race.1.2.1 322 = .ok (.iaload, 1) := by decide +kernel
theorem rd_d_X12_race_323 : decode tX12_race.1.2.1 323 = .ok (.aload_n 0, 1) := by decide +kernel
theorem rd_d_X12_race_324 : decode tX12_race.1.2.1 324 = .ok (.getfield 33, 3) := by decide +kernel
theorem rd_k_X12_race_324 : ex_lk ex_mt tX12_race 324 (.getfield 33) [12, 6, 2, 458773] = true := by decide +kernel
theorem rd_d_X12_race_327 : decode tX12_race.1.2.1 327 = .ok (.bipush 54, 2) := by decide +kernel
theorem rd_d_X12_race_329 : decode tX12_race.1.2.1 329 = .ok (.iaload, 1) := by decide +kernel
theorem rd_d_X12_race_330 : decode tX12_race.1.2.1 330 = .ok (.iadd, 1) := by decide +kernel
theorem rd_d_X12_race_331 : decode tX12_race.1.2.1 331 = .ok (.iastore, 1) := by decide +kernel
theorem rd_d_X12_race_332 : decode tX12_race.1.2.1 332 = .ok (.aload_n 0, 1) := by decide +kernel
theorem rd_d_X12_race_333 : decode tX12_race.1.2.1 333 = .ok (.getfield 61, 3) := by decide +kernel
theorem rd_k_X12_race_333 : ex_lk ex_mt tX12_race 333 (.getfield 61) [12, 29, 2, 458796] = true := by decide +kernel
theorem rd_d_X12_race_336 : decode tX12_race.1.2.1 336 = .ok (.iload 6, 2) := by decide +kernel
theorem rd_d_X12_race_338 : decode tX12_race.1.2.1 338 = .ok (.dup2, 1) := by decide +kernel
theorem rd_d_X12_race_339 : decode tX12_race.1.2.1 339 = .ok (.iaload, 1) := by decide +kernel
theorem rd_d_X12_race_340 : decode tX12_race.1.2.1 340 = .ok (.iload 6, 2) := by decide +kernel
theorem rd_d_X12_race_342 : decode tX12_race.1.2.1 342 = .ok (.ifCond .ne 7, 3) := by decide +kernel
theorem rd_d_X12_race_345 : decode tX12_race.1.2.1 345 = .ok (.iconst 1, 1) := by decide +kernel
theorem rd_d_X12_race_346 : decode tX12_race.1.2.1 346 = .ok (.goto 4, 3) := by decide +kernel
theorem rd_d_X12_race_349 : decode tX12_race.1.2.1 349 = .ok (.iconst (-1), 1) := by decide +kernel
theorem rd_d_X12_race_350 : decode tX12_race.1.2.1 350 = .ok (.iadd, 1) := by decide +kernel
theorem rd_d_X12_race_351 : decode tX12_race.1.2.1 351 = .ok (.iastore, 1) := by decide +kernel
theorem rd_d_X12_race_352 : decode tX12_race.1.2.1 352 = .ok (.goto (-247), 3) := by decide +kernel
theorem rd_d_X12_race_355 : decode tX12_race.1.2.1 355 = .ok (.aload_n 0, 1) := by decide +kernel
theorem rd_d_X12_race_356 : decode tX12_race.1.2.1 356 = .ok (.getfield 70, 3) := by decide +kernel
theorem rd_k_X12_race_356 : ex_lk ex_mt tX12_race 356 (.getfield 70) [12, 32, 2, 458799] = true := by decide +kernel
theorem rd_d_X12_race_359 : decode tX12_race.1.2.1 359 = .ok (.iload 4, 2) := by decide +kernel
theorem rd_d_X12_race_361 : decode tX12_race.1.2.1 361 = .ok (.iaload, 1) := by decide +kernel
theorem rd_d_X12_race_362 : decode tX12_race.1.2.1 362 = .ok (.ireturn, 1) := by decide +kernel
section AXX
variable {g : am_C} {L : Nat} {xs : Nat → Int32}
def pl_Bm (σ : am_S) : Prop := (0 ≤ (σ.2.1 4 7).toInt ∧ (σ.2.1 4 7).toInt ≤ 10) ∧ (0 ≤ (σ.2.1 4 8).toInt ∧ (σ.2.1 4 8).toInt ≤ 6) ∧ pl_B (σ.2.1 120)
theorem pl_Bm_of {σe σ : am_S} {m : Nat} (hM : sx_M z9 hd_C σe m 0 σ) : pl_Bm σ := ⟨hM.2.2.1 4 7 _ _ _ rfl, hM.2.2.1 4 8 _ _ _ rfl, (pl_BM hM).1⟩
def ax_f_has (m : Nat → Nat → Int32) (a : Int32) : Int32 := if a < 0 then 0 else if (m 4 7) ≤ a then 0 else 1
theorem ax_has (G : sx_G0 g L xs z9 hd_C ex_mt) {σ : am_S} (hS : ax_S σ) (a : Int32) : am_K g 1 tX9_has.1 0 0 0 (lv_args 0 [.ref 4, .int a]) [] σ (ax_R (ax_f_has σ.2.1 a) σ) := by
  refine kr_iload_n 1 rd_d_X9_has_0 rfl ?_
  refine kr_if_lt (tgt := 16) rd_d_X9_has_1 rfl (fun h1 => ?_) (fun h1 => ?_)
  · refine kr_iconst (v := 0) rd_d_X9_has_16 (by decide) ?_
    exact kr_ireturn rd_d_X9_has_17 (ty := .boolean) rfl rfl ⟨by rw [ax_f_has, if_pos h1], rfl⟩
  · refine kr_iload_n 1 rd_d_X9_has_4 rfl ?_
    refine kr_aload_n 0 rd_d_X9_has_5 rfl ?_
    refine kr_getf G.1 (rd_FL rd_k_X9_has_6).1 rd_d_X9_has_6 (hS.1 4 (.inl 9) rfl) (v := .int (σ.2.1 4 7)) (by unfold am_fa; rw [(rd_FL rd_k_X9_has_6).2]; rfl) ?_
    refine kr_icmp_ge (tgt := 16) rd_d_X9_has_9 rfl (fun h2 => ?_) (fun h2 => ?_)
    · refine kr_iconst (v := 0) rd_d_X9_has_16 (by decide) ?_
      exact kr_ireturn rd_d_X9_has_17 (ty := .boolean) rfl rfl ⟨by rw [ax_f_has, if_neg h1, if_pos h2], rfl⟩
    · refine kr_iconst (v := 1) rd_d_X9_has_12 (by decide) ?_
      refine kr_goto (tgt := 17) rd_d_X9_has_13 rfl ?_
      exact kr_ireturn rd_d_X9_has_17 (ty := .boolean) rfl rfl ⟨by rw [ax_f_has, if_neg h1, if_neg h2], rfl⟩
def ax_f_win (s : Nat → Int32) (a : Int32) : Int32 := ax_f_isIn a 0 ((s 0) - 1)
theorem ax_win (G : sx_G0 g L xs z9 hd_C ex_mt) {σ : am_S} (hS : ax_S σ) (a : Int32) : am_K g 2 tX12_isWindow.1 0 0 0 (lv_args 0 [.ref 118, .int a]) [] σ (ax_R (ax_f_win (σ.2.1 120) a) σ) := by
  refine kr_iload_n 1 rd_d_X12_isWindow_0 rfl ?_
  refine kr_iconst (v := 0) rd_d_X12_isWindow_1 (by decide) ?_
  refine kr_aload_n 0 rd_d_X12_isWindow_2 rfl ?_
  refine kr_getf G.1 (rd_FL rd_k_X12_isWindow_3).1 rd_d_X12_isWindow_3 (hS.1 118 (.inl 12) rfl) (v := .ref 120) (by unfold am_fa; rw [(rd_FL rd_k_X12_isWindow_3).2]; exact hS.2 118 6 120 rfl) ?_
  refine kr_iconst (v := 0) rd_d_X12_isWindow_6 (by decide) ?_
  refine kr_iald G.1 (n := 277) rd_d_X12_isWindow_7 (hS.1 120 (.inr (.int, 277)) rfl) (hd_in (n := 0) (by decide) (by decide)) ?_
  rw [hd_clamp (n := 0) (by decide)]
  refine kr_iconst (v := 1) rd_d_X12_isWindow_8 (by decide) ?_
  refine kr_isub rd_d_X12_isWindow_9 ?_
  refine rd_callS G (T2 := tX12_isIn) rfl rd_d_X12_isWindow_10 rd_k_X12_isWindow_10 rfl rfl (as := [.int a, .int 0, .int ((σ.2.1 120 0) - 1)]) (st := []) rfl (Nat.le_of_ble_eq_true rfl) rfl (Nat.le_of_ble_eq_true rfl) (d1 := 1) (by decide) (fun _ h => by cases h.1) (ax_isIn G hS a 0 ((σ.2.1 120 0) - 1)) ?_
  intro v1 σ1 ⟨hv1, hs1⟩
  cases hv1
  rw [hs1]
  exact kr_ireturn rd_d_X12_isWindow_13 (ty := .boolean) rfl (ax_isIn_b _ _ _) ⟨rfl, rfl⟩
theorem ax_winI {s : Nat → Int32} (b : pl_B s) {a : Int32} (h : ¬ ax_f_win s a = 0) : 0 ≤ a.toInt ∧ a.toInt < (s 0).toInt ∧ a.toInt < 10 := by
  have z0 : (0 : Int32).toInt = 0 := rfl
  have z1 : (1 : Int32).toInt = 1 := rfl
  obtain ⟨⟨b1, b2⟩, -⟩ := b
  have e := sx_subI (s 0) 1 (by show (-2147483648 : Int) ≤ _; omega) (by show _ ≤ (2147483647 : Int); omega)
  rw [ax_f_win, ax_f_isIn] at h
  split at h
  · exact absurd rfl h
  · rename_i q1
    split at h
    · exact absurd rfl h
    · rename_i q2
      have g1 : ¬ a.toInt < 0 := fun q => q1 (Int32.lt_iff_toInt_lt.mpr (by omega))
      have g2 : ¬ (s 0 - 1).toInt < a.toInt := fun q => q2 (Int32.lt_iff_toInt_lt.mpr q)
      omega
theorem ax_win10 {s : Nat → Int32} (b : pl_B s) {a : Int32} (h : ¬ ax_f_win s a = 0) : 0 ≤ a.toInt ∧ a.toInt < 10 := ⟨(ax_winI b h).1, (ax_winI b h).2.2⟩
theorem pl_w {m : Nat → Nat → Int32} {o : Nat} {s : Nat → Int32} (h : pl_R m o s) : m o 7 = s 0 := Int32.toInt_inj.mp h.1
theorem ax_hasE {m : Nat → Nat → Int32} {s : Nat → Int32} (h : pl_R m 4 s) (b : pl_B s) (a : Int32) : ax_f_has m a = ax_f_win s a := by
  have z0 : (0 : Int32).toInt = 0 := rfl
  have z1 : (1 : Int32).toInt = 1 := rfl
  have hw := pl_w h
  obtain ⟨⟨b1, b2⟩, -⟩ := b
  have e := sx_subI (s 0) 1 (by show (-2147483648 : Int) ≤ _; omega) (by show _ ≤ (2147483647 : Int); omega)
  rw [ax_f_has, ax_f_win, ax_f_isIn, hw]
  by_cases g1 : a < 0
  · rw [if_pos g1, if_pos g1]
  · rw [if_neg g1, if_neg g1]
    by_cases g2 : s 0 ≤ a
    · rw [if_pos g2, if_pos (Int32.lt_iff_toInt_lt.mpr (by have := Int32.le_iff_toInt_le.mp g2; omega))]
    · rw [if_neg g2, if_neg (fun q => g2 (Int32.le_iff_toInt_le.mpr (by have := Int32.lt_iff_toInt_lt.mp q; omega)))]
theorem ax_rowE {m : Nat → Nat → Int32} {s : Nat → Int32} (h : pl_R m 4 s) (b : pl_B s) {a : Int32} (ha : ¬ ax_f_win s a = 0) {r : Nat} (hr : r < 4) : ax_ent (m (5 + r)) 10 a = s (rc_bs r + a.toInt.toNat) := by
  obtain ⟨a1, a2, a3⟩ := ax_winI b ha
  rw [ax_ent_in (k := a.toInt.toNat) (by decide) (by omega) (by omega)]
  have := h.2.2.2 r (by omega) a.toInt.toNat (by rw [rc_c, if_pos hr]; omega)
  rw [show 4 + 1 + r = 5 + r by omega] at this
  exact this
theorem ax_setE {m : Nat → Nat → Int32} {s : Nat → Int32} (h : pl_R m 4 s) {a : Int32} {j : Nat} (e : a.toInt = (j : Int)) (hj : j < 8) : ax_ent (m 11) 8 a = s (54 + j) := by
  rw [ax_ent_in (k := j) (by decide) e hj]
  exact h.2.2.2 6 (by decide) j hj
def ax_f_pri (m : Nat → Nat → Int32) (a : Int32) : Int32 := ax_ent (m 5) 10 a
theorem ax_pri (G : sx_G0 g L xs z9 hd_C ex_mt) {σ : am_S} (hS : ax_S σ) (a : Int32) : am_K g 2 tX9_priceOf.1 0 0 0 (lv_args 0 [.ref 4, .int a]) [] σ (ax_R (ax_f_pri σ.2.1 a) σ) := by
  refine kr_aload_n 0 rd_d_X9_priceOf_0 rfl ?_
  refine kr_getf G.1 (rd_FL rd_k_X9_priceOf_1).1 rd_d_X9_priceOf_1 (hS.1 4 (.inl 9) rfl) (v := .ref 5) (by unfold am_fa; rw [(rd_FL rd_k_X9_priceOf_1).2]; exact hS.2 4 0 5 rfl) ?_
  refine kr_iload_n 1 rd_d_X9_priceOf_4 rfl ?_
  refine rd_callS G (T2 := tX11_entry) rfl rd_d_X9_priceOf_5 rd_k_X9_priceOf_5 rfl rfl (as := [.ref 5, .int a]) (st := []) rfl (Nat.le_of_ble_eq_true rfl) rfl (Nat.le_of_ble_eq_true rfl) (d1 := 1) (by decide) (fun _ h => by cases h.1) (ax_entry G (hS.1 5 (.inr (.int, 10)) rfl) (by decide) a) ?_
  intro v1 σ1 ⟨hv1, hs1⟩
  cases hv1
  rw [hs1]
  exact kr_ireturn rd_d_X9_priceOf_8 (ty := .int) rfl rfl ⟨rfl, rfl⟩
def ax_f_tak (m : Nat → Nat → Int32) (a : Int32) : Int32 := ax_ent (m 6) 10 a
theorem ax_tak (G : sx_G0 g L xs z9 hd_C ex_mt) {σ : am_S} (hS : ax_S σ) (a : Int32) : am_K g 2 tX9_takesOf.1 0 0 0 (lv_args 0 [.ref 4, .int a]) [] σ (ax_R (ax_f_tak σ.2.1 a) σ) := by
  refine kr_aload_n 0 rd_d_X9_takesOf_0 rfl ?_
  refine kr_getf G.1 (rd_FL rd_k_X9_takesOf_1).1 rd_d_X9_takesOf_1 (hS.1 4 (.inl 9) rfl) (v := .ref 6) (by unfold am_fa; rw [(rd_FL rd_k_X9_takesOf_1).2]; exact hS.2 4 1 6 rfl) ?_
  refine kr_iload_n 1 rd_d_X9_takesOf_4 rfl ?_
  refine rd_callS G (T2 := tX11_entry) rfl rd_d_X9_takesOf_5 rd_k_X9_takesOf_5 rfl rfl (as := [.ref 6, .int a]) (st := []) rfl (Nat.le_of_ble_eq_true rfl) rfl (Nat.le_of_ble_eq_true rfl) (d1 := 1) (by decide) (fun _ h => by cases h.1) (ax_entry G (hS.1 6 (.inr (.int, 10)) rfl) (by decide) a) ?_
  intro v1 σ1 ⟨hv1, hs1⟩
  cases hv1
  rw [hs1]
  exact kr_ireturn rd_d_X9_takesOf_8 (ty := .int) rfl rfl ⟨rfl, rfl⟩
def ax_f_oft (m : Nat → Nat → Int32) (a : Int32) : Int32 := ax_ent (m 7) 10 a
theorem ax_oft (G : sx_G0 g L xs z9 hd_C ex_mt) {σ : am_S} (hS : ax_S σ) (a : Int32) : am_K g 2 tX9_oftenOf.1 0 0 0 (lv_args 0 [.ref 4, .int a]) [] σ (ax_R (ax_f_oft σ.2.1 a) σ) := by
  refine kr_aload_n 0 rd_d_X9_oftenOf_0 rfl ?_
  refine kr_getf G.1 (rd_FL rd_k_X9_oftenOf_1).1 rd_d_X9_oftenOf_1 (hS.1 4 (.inl 9) rfl) (v := .ref 7) (by unfold am_fa; rw [(rd_FL rd_k_X9_oftenOf_1).2]; exact hS.2 4 2 7 rfl) ?_
  refine kr_iload_n 1 rd_d_X9_oftenOf_4 rfl ?_
  refine rd_callS G (T2 := tX11_entry) rfl rd_d_X9_oftenOf_5 rd_k_X9_oftenOf_5 rfl rfl (as := [.ref 7, .int a]) (st := []) rfl (Nat.le_of_ble_eq_true rfl) rfl (Nat.le_of_ble_eq_true rfl) (d1 := 1) (by decide) (fun _ h => by cases h.1) (ax_entry G (hS.1 7 (.inr (.int, 10)) rfl) (by decide) a) ?_
  intro v1 σ1 ⟨hv1, hs1⟩
  cases hv1
  rw [hs1]
  exact kr_ireturn rd_d_X9_oftenOf_8 (ty := .int) rfl rfl ⟨rfl, rfl⟩
def ax_f_bas (m : Nat → Nat → Int32) : Int32 := ax_ent (m 11) 8 1
theorem ax_bas (G : sx_G0 g L xs z9 hd_C ex_mt) {σ : am_S} (hS : ax_S σ) : am_K g 2 tX9_basket.1 0 0 0 (lv_args 0 [.ref 4]) [] σ (ax_R (ax_f_bas σ.2.1) σ) := by
  refine kr_aload_n 0 rd_d_X9_basket_0 rfl ?_
  refine kr_getf G.1 (rd_FL rd_k_X9_basket_1).1 rd_d_X9_basket_1 (hS.1 4 (.inl 9) rfl) (v := .ref 11) (by unfold am_fa; rw [(rd_FL rd_k_X9_basket_1).2]; exact hS.2 4 6 11 rfl) ?_
  refine kr_iconst (v := 1) rd_d_X9_basket_4 (by decide) ?_
  refine rd_callS G (T2 := tX11_entry) rfl rd_d_X9_basket_5 rd_k_X9_basket_5 rfl rfl (as := [.ref 11, .int 1]) (st := []) rfl (Nat.le_of_ble_eq_true rfl) rfl (Nat.le_of_ble_eq_true rfl) (d1 := 1) (by decide) (fun _ h => by cases h.1) (ax_entry G (hS.1 11 (.inr (.int, 8)) rfl) (by decide) 1) ?_
  intro v1 σ1 ⟨hv1, hs1⟩
  cases hv1
  rw [hs1]
  exact kr_ireturn rd_d_X9_basket_8 (ty := .int) rfl rfl ⟨rfl, rfl⟩
def ax_f_wal (m : Nat → Nat → Int32) : Int32 := ax_ent (m 11) 8 0
theorem ax_wal (G : sx_G0 g L xs z9 hd_C ex_mt) {σ : am_S} (hS : ax_S σ) : am_K g 2 tX9_walking.1 0 0 0 (lv_args 0 [.ref 4]) [] σ (ax_R (ax_f_wal σ.2.1) σ) := by
  refine kr_aload_n 0 rd_d_X9_walking_0 rfl ?_
  refine kr_getf G.1 (rd_FL rd_k_X9_walking_1).1 rd_d_X9_walking_1 (hS.1 4 (.inl 9) rfl) (v := .ref 11) (by unfold am_fa; rw [(rd_FL rd_k_X9_walking_1).2]; exact hS.2 4 6 11 rfl) ?_
  refine kr_iconst (v := 0) rd_d_X9_walking_4 (by decide) ?_
  refine rd_callS G (T2 := tX11_entry) rfl rd_d_X9_walking_5 rd_k_X9_walking_5 rfl rfl (as := [.ref 11, .int 0]) (st := []) rfl (Nat.le_of_ble_eq_true rfl) rfl (Nat.le_of_ble_eq_true rfl) (d1 := 1) (by decide) (fun _ h => by cases h.1) (ax_entry G (hS.1 11 (.inr (.int, 8)) rfl) (by decide) 0) ?_
  intro v1 σ1 ⟨hv1, hs1⟩
  cases hv1
  rw [hs1]
  exact kr_ireturn rd_d_X9_walking_8 (ty := .int) rfl rfl ⟨rfl, rfl⟩
/-- the class's place -/
def ax_pl (m : Nat → Nat → Int32) : Nat → Nat → Int32 := fun o k => if o ≤ 11 then m o k else 0
theorem ax_plF {σ τ : am_S} {o ix : Nat} (hf : ∀ a b, ¬ (a = o ∧ b = ix) → τ.2.1 a b = σ.2.1 a b) (ho : 11 < o) : ax_pl τ.2.1 = ax_pl σ.2.1 := funext fun a => funext fun b => by
  unfold ax_pl
  split
  · exact hf a b (fun q => by omega)
  · rfl
theorem ax_120F {σ τ : am_S} {o ix : Nat} (hf : ∀ a b, ¬ (a = o ∧ b = ix) → τ.2.1 a b = σ.2.1 a b) (ho : o ≠ 120) : τ.2.1 120 = σ.2.1 120 := funext fun b => hf 120 b (fun q => ho q.1.symm)
theorem ax_plG {σ τ : am_S} {o : Nat} (hf : ∀ a b, a ≠ o → τ.2.1 a b = σ.2.1 a b) (ho : 11 < o) : ax_pl τ.2.1 = ax_pl σ.2.1 := funext fun a => funext fun b => by
  unfold ax_pl
  split
  · exact hf a b (by omega)
  · rfl
theorem ax_120G {σ τ : am_S} {o : Nat} (hf : ∀ a b, a ≠ o → τ.2.1 a b = σ.2.1 a b) (ho : o ≠ 120) : τ.2.1 120 = σ.2.1 120 := funext fun b => hf 120 b (fun q => ho q.symm)
theorem ax_putW (G : sx_G0 g L xs z9 hd_C ex_mt) {T : ex_T} {σ : am_S} (hS : ax_S σ) {o ci K p pc i : Nat} (hd : decode T.1.2.1 pc = .ok (.putfield i, 3)) (hk : ex_lk ex_mt T pc (.putfield i) [ci, K, 0, p] = true) (ho : σ.1[o]? = some (.inl ci)) {d mc ms : Nat} {lv : List (Nat × Value)} {st : List Value} {x : Int32} {post : Option (Option Value) → am_S → Prop} (kk : ∀ τ : am_S, ax_S τ → τ.2.1 o K = x → (∀ a b, ¬ (a = o ∧ b = K) → τ.2.1 a b = σ.2.1 a b) → am_K g d T.1 mc ms (pc + 3) lv st τ post) : am_K g d T.1 mc ms pc lv (.int x :: .ref o :: st) σ post := by
  have hty := (rd_FPi hk).2
  refine kr_putI G.1 (rd_FPi hk).1 hd ho (by rw [hty]; rfl) (by rw [hty]; rfl) (by rw [hty]; rfl) ?_
  exact kk _ hS (am_up_s _ _ _ _) (fun a b h => am_up_n _ _ h)
theorem ax_astW (G : sx_G0 g L xs z9 hd_C ex_mt) {T : ex_T} {σ : am_S} (hS : ax_S σ) {o n pc : Nat} (hd : decode T.1.2.1 pc = .ok (.iastore, 1)) (ho : σ.1[o]? = some (.inr (.int, n))) {i : Int32} {ix : Nat} (he : i.toInt = (ix : Int)) (hl : ix < n) {d mc ms : Nat} {lv : List (Nat × Value)} {st : List Value} {x : Int32} {post : Option (Option Value) → am_S → Prop} (kk : ∀ τ : am_S, ax_S τ → τ.2.1 o ix = x → (∀ a b, ¬ (a = o ∧ b = ix) → τ.2.1 a b = σ.2.1 a b) → am_K g d T.1 mc ms (pc + 1) lv st τ post) : am_K g d T.1 mc ms pc lv (.int x :: .int i :: .ref o :: st) σ post := by
  refine kr_iast G.1 hd ho (hd_in he hl) ?_
  rw [hd_clamp he]
  exact kk _ hS (am_up_s _ _ _ _) (fun a b h => am_up_n _ _ h)
theorem ax_takC {m m' : Nat → Nat → Int32} (h : ax_pl m = ax_pl m') (a : Int32) : ax_f_tak m a = ax_f_tak m' a := (congrArg (fun p : Nat → Nat → Int32 => ax_f_tak p a) h : ax_f_tak (ax_pl m) a = ax_f_tak (ax_pl m') a)
theorem ax_priC {m m' : Nat → Nat → Int32} (h : ax_pl m = ax_pl m') (a : Int32) : ax_f_pri m a = ax_f_pri m' a := (congrArg (fun p : Nat → Nat → Int32 => ax_f_pri p a) h : ax_f_pri (ax_pl m) a = ax_f_pri (ax_pl m') a)
theorem ax_oftC {m m' : Nat → Nat → Int32} (h : ax_pl m = ax_pl m') (a : Int32) : ax_f_oft m a = ax_f_oft m' a := (congrArg (fun p : Nat → Nat → Int32 => ax_f_oft p a) h : ax_f_oft (ax_pl m) a = ax_f_oft (ax_pl m') a)
theorem ax_hasC {m m' : Nat → Nat → Int32} (h : ax_pl m = ax_pl m') (a : Int32) : ax_f_has m a = ax_f_has m' a := (congrArg (fun p : Nat → Nat → Int32 => ax_f_has p a) h : ax_f_has (ax_pl m) a = ax_f_has (ax_pl m') a)
theorem ax_walC {m m' : Nat → Nat → Int32} (h : ax_pl m = ax_pl m') : ax_f_wal m = ax_f_wal m' := (congrArg (fun p : Nat → Nat → Int32 => ax_f_wal p) h : ax_f_wal (ax_pl m) = ax_f_wal (ax_pl m'))
theorem ax_basC {m m' : Nat → Nat → Int32} (h : ax_pl m = ax_pl m') : ax_f_bas m = ax_f_bas m' := (congrArg (fun p : Nat → Nat → Int32 => ax_f_bas p) h : ax_f_bas (ax_pl m) = ax_f_bas (ax_pl m'))
/-- so many sales in a row: the second behind them, the pence -/
def rc_in (tk pr last : Int32) : Nat → Int32 → Int32 → Int32 × Int32
  | 0, t, c => (t, c)
  | n + 1, t, c => rc_in tk pr last n (t + tk) (if t + tk ≤ last then c + pr else c)
theorem rc_in_s (tk pr last : Int32) (n : Nat) (t c : Int32) : rc_in tk pr last (n + 1) t c = rc_in tk pr last n (t + tk) (if t + tk ≤ last then c + pr else c) := rfl
theorem ax_k1 {k : Int32} (h : 0 ≤ k.toInt) (h2 : k.toInt < 100000) : (k + 1).toInt = k.toInt + 1 := by
  have z1 : (1 : Int32).toInt = 1 := rfl
  rw [sx_addI k 1 (by show (-2147483648 : Int) ≤ _; omega) (by show _ ≤ (2147483647 : Int); omega)]
  omega
def ax_f_isc (t : Int32) : Int32 := if t < 0 then 0 else if 60 < t then 0 else 1
theorem ax_isc (G : sx_G0 g L xs z9 hd_C ex_mt) {σ : am_S} (hS : ax_S σ) (t : Int32) : am_K g 1 tX11_isSecond.1 0 0 0 (lv_args 0 [.int t]) [] σ (ax_R (ax_f_isc t) σ) := by
  refine kr_iload_n 0 rd_d_X11_isSecond_0 rfl ?_
  refine kr_if_lt (tgt := 14) rd_d_X11_isSecond_1 rfl (fun h1 => ?_) (fun h1 => ?_)
  · refine kr_iconst (v := 0) rd_d_X11_isSecond_14 (by decide) ?_
    exact kr_ireturn rd_d_X11_isSecond_15 (ty := .boolean) rfl rfl ⟨by rw [ax_f_isc, if_pos h1], rfl⟩
  · refine kr_iload_n 0 rd_d_X11_isSecond_4 rfl ?_
    refine kr_bipush (v := 60) rd_d_X11_isSecond_5 (by decide) ?_
    refine kr_icmp_gt (tgt := 14) rd_d_X11_isSecond_7 rfl (fun h2 => ?_) (fun h2 => ?_)
    · refine kr_iconst (v := 0) rd_d_X11_isSecond_14 (by decide) ?_
      exact kr_ireturn rd_d_X11_isSecond_15 (ty := .boolean) rfl rfl ⟨by rw [ax_f_isc, if_neg h1, if_pos h2], rfl⟩
    · refine kr_iconst (v := 1) rd_d_X11_isSecond_10 (by decide) ?_
      refine kr_goto (tgt := 15) rd_d_X11_isSecond_11 rfl ?_
      exact kr_ireturn rd_d_X11_isSecond_15 (ty := .boolean) rfl rfl ⟨by rw [ax_f_isc, if_neg h1, if_neg h2], rfl⟩
theorem ax_prep81 (G : sx_G0 g L xs z9 hd_C ex_mt) {σ : am_S} (hS : ax_S σ) (a b : Int32) : am_K g 3 tX5_prepare.1 0 0 0 (lv_args 0 [.ref 81, .int a, .int b, .ref 4]) [] σ (fun r σ' => r = some none ∧ ax_S σ' ∧ (σ'.2.1 81 0 = a ∧ σ'.2.1 81 1 = b ∧ σ'.2.1 81 2 = 0 ∧ σ'.2.1 81 3 = ax_f_bas σ.2.1 ∧ σ'.2.1 81 4 = 0 ∧ σ'.2.1 81 5 = 0) ∧ ∀ x y, x ≠ 81 → σ'.2.1 x y = σ.2.1 x y) := by
  refine kr_aload_n 0 rd_d_X5_prepare_0 rfl ?_
  refine kr_iload_n 1 rd_d_X5_prepare_1 rfl ?_
  refine ax_putW G hS rd_d_X5_prepare_2 rd_k_X5_prepare_2 (hS.1 81 (.inl 5) rfl) ?_
  intro τ1 hT1 hw1 hf1
  have hsτ1 : τ1.2.1 120 = σ.2.1 120 := (ax_120F hf1 (by decide))
  have hqτ1 : ax_pl τ1.2.1 = ax_pl σ.2.1 := (ax_plF hf1 (by decide))
  refine kr_aload_n 0 rd_d_X5_prepare_5 rfl ?_
  refine kr_iload_n 2 rd_d_X5_prepare_6 rfl ?_
  refine ax_putW G hT1 rd_d_X5_prepare_7 rd_k_X5_prepare_7 (hT1.1 81 (.inl 5) rfl) ?_
  intro τ2 hT2 hw2 hf2
  have hsτ2 : τ2.2.1 120 = σ.2.1 120 := (ax_120F hf2 (by decide)).trans hsτ1
  have hqτ2 : ax_pl τ2.2.1 = ax_pl σ.2.1 := (ax_plF hf2 (by decide)).trans hqτ1
  refine kr_aload_n 0 rd_d_X5_prepare_10 rfl ?_
  refine kr_iconst (v := 0) rd_d_X5_prepare_11 (by decide) ?_
  refine ax_putW G hT2 rd_d_X5_prepare_12 rd_k_X5_prepare_12 (hT2.1 81 (.inl 5) rfl) ?_
  intro τ3 hT3 hw3 hf3
  have hsτ3 : τ3.2.1 120 = σ.2.1 120 := (ax_120F hf3 (by decide)).trans hsτ2
  have hqτ3 : ax_pl τ3.2.1 = ax_pl σ.2.1 := (ax_plF hf3 (by decide)).trans hqτ2
  refine kr_aload_n 0 rd_d_X5_prepare_15 rfl ?_
  refine kr_aload_n 3 rd_d_X5_prepare_16 rfl ?_
  refine rd_call G (T2 := tX9_basket) rfl rd_d_X5_prepare_17 rd_k_X5_prepare_17 rfl (hT3.1 4 (.inl 9) rfl) (as := []) (st := [.ref 81]) rfl (Nat.le_of_ble_eq_true rfl) rfl (Nat.le_of_ble_eq_true rfl) (d1 := 2) (by decide) (fun _ h => by cases h.1) (ax_bas G hT3) ?_
  intro v1 σ1 ⟨hv1, hs1⟩
  cases hv1
  rw [hs1]
  rw [show ax_f_bas τ3.2.1 = ax_f_bas σ.2.1 from (congrArg (fun p : Nat → Nat → Int32 => ax_f_bas p) hqτ3 : ax_f_bas (ax_pl τ3.2.1) = ax_f_bas (ax_pl σ.2.1))]
  refine ax_putW G hT3 rd_d_X5_prepare_20 rd_k_X5_prepare_20 (hT3.1 81 (.inl 5) rfl) ?_
  intro τ4 hT4 hw4 hf4
  have hsτ4 : τ4.2.1 120 = σ.2.1 120 := (ax_120F hf4 (by decide)).trans hsτ3
  have hqτ4 : ax_pl τ4.2.1 = ax_pl σ.2.1 := (ax_plF hf4 (by decide)).trans hqτ3
  refine kr_aload_n 0 rd_d_X5_prepare_23 rfl ?_
  refine kr_iconst (v := 0) rd_d_X5_prepare_24 (by decide) ?_
  refine ax_putW G hT4 rd_d_X5_prepare_25 rd_k_X5_prepare_25 (hT4.1 81 (.inl 5) rfl) ?_
  intro τ5 hT5 hw5 hf5
  have hsτ5 : τ5.2.1 120 = σ.2.1 120 := (ax_120F hf5 (by decide)).trans hsτ4
  have hqτ5 : ax_pl τ5.2.1 = ax_pl σ.2.1 := (ax_plF hf5 (by decide)).trans hqτ4
  refine kr_aload_n 0 rd_d_X5_prepare_28 rfl ?_
  refine kr_iconst (v := 0) rd_d_X5_prepare_29 (by decide) ?_
  refine ax_putW G hT5 rd_d_X5_prepare_30 rd_k_X5_prepare_30 (hT5.1 81 (.inl 5) rfl) ?_
  intro τ6 hT6 hw6 hf6
  have hsτ6 : τ6.2.1 120 = σ.2.1 120 := (ax_120F hf6 (by decide)).trans hsτ5
  have hqτ6 : ax_pl τ6.2.1 = ax_pl σ.2.1 := (ax_plF hf6 (by decide)).trans hqτ5
  exact kr_return rd_d_X5_prepare_33 rfl ⟨rfl, hT6, ⟨(hf6 81 0 (fun q => absurd q.2 (by decide))).trans ((hf5 81 0 (fun q => absurd q.2 (by decide))).trans ((hf4 81 0 (fun q => absurd q.2 (by decide))).trans ((hf3 81 0 (fun q => absurd q.2 (by decide))).trans ((hf2 81 0 (fun q => absurd q.2 (by decide))).trans (hw1))))), (hf6 81 1 (fun q => absurd q.2 (by decide))).trans ((hf5 81 1 (fun q => absurd q.2 (by decide))).trans ((hf4 81 1 (fun q => absurd q.2 (by decide))).trans ((hf3 81 1 (fun q => absurd q.2 (by decide))).trans (hw2)))), (hf6 81 2 (fun q => absurd q.2 (by decide))).trans ((hf5 81 2 (fun q => absurd q.2 (by decide))).trans ((hf4 81 2 (fun q => absurd q.2 (by decide))).trans (hw3))), (hf6 81 3 (fun q => absurd q.2 (by decide))).trans ((hf5 81 3 (fun q => absurd q.2 (by decide))).trans (hw4)), (hf6 81 4 (fun q => absurd q.2 (by decide))).trans (hw5), hw6⟩, fun x y hx => (hf6 x y (fun q => hx q.1)).trans ((hf5 x y (fun q => hx q.1)).trans ((hf4 x y (fun q => hx q.1)).trans ((hf3 x y (fun q => hx q.1)).trans ((hf2 x y (fun q => hx q.1)).trans (hf1 x y (fun q => hx q.1))))))⟩
theorem ax_prep82 (G : sx_G0 g L xs z9 hd_C ex_mt) {σ : am_S} (hS : ax_S σ) (a b : Int32) : am_K g 3 tX5_prepare.1 0 0 0 (lv_args 0 [.ref 82, .int a, .int b, .ref 4]) [] σ (fun r σ' => r = some none ∧ ax_S σ' ∧ (σ'.2.1 82 0 = a ∧ σ'.2.1 82 1 = b ∧ σ'.2.1 82 2 = 0 ∧ σ'.2.1 82 3 = ax_f_bas σ.2.1 ∧ σ'.2.1 82 4 = 0 ∧ σ'.2.1 82 5 = 0) ∧ ∀ x y, x ≠ 82 → σ'.2.1 x y = σ.2.1 x y) := by
  refine kr_aload_n 0 rd_d_X5_prepare_0 rfl ?_
  refine kr_iload_n 1 rd_d_X5_prepare_1 rfl ?_
  refine ax_putW G hS rd_d_X5_prepare_2 rd_k_X5_prepare_2 (hS.1 82 (.inl 5) rfl) ?_
  intro τ1 hT1 hw1 hf1
  have hsτ1 : τ1.2.1 120 = σ.2.1 120 := (ax_120F hf1 (by decide))
  have hqτ1 : ax_pl τ1.2.1 = ax_pl σ.2.1 := (ax_plF hf1 (by decide))
  refine kr_aload_n 0 rd_d_X5_prepare_5 rfl ?_
  refine kr_iload_n 2 rd_d_X5_prepare_6 rfl ?_
  refine ax_putW G hT1 rd_d_X5_prepare_7 rd_k_X5_prepare_7 (hT1.1 82 (.inl 5) rfl) ?_
  intro τ2 hT2 hw2 hf2
  have hsτ2 : τ2.2.1 120 = σ.2.1 120 := (ax_120F hf2 (by decide)).trans hsτ1
  have hqτ2 : ax_pl τ2.2.1 = ax_pl σ.2.1 := (ax_plF hf2 (by decide)).trans hqτ1
  refine kr_aload_n 0 rd_d_X5_prepare_10 rfl ?_
  refine kr_iconst (v := 0) rd_d_X5_prepare_11 (by decide) ?_
  refine ax_putW G hT2 rd_d_X5_prepare_12 rd_k_X5_prepare_12 (hT2.1 82 (.inl 5) rfl) ?_
  intro τ3 hT3 hw3 hf3
  have hsτ3 : τ3.2.1 120 = σ.2.1 120 := (ax_120F hf3 (by decide)).trans hsτ2
  have hqτ3 : ax_pl τ3.2.1 = ax_pl σ.2.1 := (ax_plF hf3 (by decide)).trans hqτ2
  refine kr_aload_n 0 rd_d_X5_prepare_15 rfl ?_
  refine kr_aload_n 3 rd_d_X5_prepare_16 rfl ?_
  refine rd_call G (T2 := tX9_basket) rfl rd_d_X5_prepare_17 rd_k_X5_prepare_17 rfl (hT3.1 4 (.inl 9) rfl) (as := []) (st := [.ref 82]) rfl (Nat.le_of_ble_eq_true rfl) rfl (Nat.le_of_ble_eq_true rfl) (d1 := 2) (by decide) (fun _ h => by cases h.1) (ax_bas G hT3) ?_
  intro v1 σ1 ⟨hv1, hs1⟩
  cases hv1
  rw [hs1]
  rw [show ax_f_bas τ3.2.1 = ax_f_bas σ.2.1 from (congrArg (fun p : Nat → Nat → Int32 => ax_f_bas p) hqτ3 : ax_f_bas (ax_pl τ3.2.1) = ax_f_bas (ax_pl σ.2.1))]
  refine ax_putW G hT3 rd_d_X5_prepare_20 rd_k_X5_prepare_20 (hT3.1 82 (.inl 5) rfl) ?_
  intro τ4 hT4 hw4 hf4
  have hsτ4 : τ4.2.1 120 = σ.2.1 120 := (ax_120F hf4 (by decide)).trans hsτ3
  have hqτ4 : ax_pl τ4.2.1 = ax_pl σ.2.1 := (ax_plF hf4 (by decide)).trans hqτ3
  refine kr_aload_n 0 rd_d_X5_prepare_23 rfl ?_
  refine kr_iconst (v := 0) rd_d_X5_prepare_24 (by decide) ?_
  refine ax_putW G hT4 rd_d_X5_prepare_25 rd_k_X5_prepare_25 (hT4.1 82 (.inl 5) rfl) ?_
  intro τ5 hT5 hw5 hf5
  have hsτ5 : τ5.2.1 120 = σ.2.1 120 := (ax_120F hf5 (by decide)).trans hsτ4
  have hqτ5 : ax_pl τ5.2.1 = ax_pl σ.2.1 := (ax_plF hf5 (by decide)).trans hqτ4
  refine kr_aload_n 0 rd_d_X5_prepare_28 rfl ?_
  refine kr_iconst (v := 0) rd_d_X5_prepare_29 (by decide) ?_
  refine ax_putW G hT5 rd_d_X5_prepare_30 rd_k_X5_prepare_30 (hT5.1 82 (.inl 5) rfl) ?_
  intro τ6 hT6 hw6 hf6
  have hsτ6 : τ6.2.1 120 = σ.2.1 120 := (ax_120F hf6 (by decide)).trans hsτ5
  have hqτ6 : ax_pl τ6.2.1 = ax_pl σ.2.1 := (ax_plF hf6 (by decide)).trans hqτ5
  exact kr_return rd_d_X5_prepare_33 rfl ⟨rfl, hT6, ⟨(hf6 82 0 (fun q => absurd q.2 (by decide))).trans ((hf5 82 0 (fun q => absurd q.2 (by decide))).trans ((hf4 82 0 (fun q => absurd q.2 (by decide))).trans ((hf3 82 0 (fun q => absurd q.2 (by decide))).trans ((hf2 82 0 (fun q => absurd q.2 (by decide))).trans (hw1))))), (hf6 82 1 (fun q => absurd q.2 (by decide))).trans ((hf5 82 1 (fun q => absurd q.2 (by decide))).trans ((hf4 82 1 (fun q => absurd q.2 (by decide))).trans ((hf3 82 1 (fun q => absurd q.2 (by decide))).trans (hw2)))), (hf6 82 2 (fun q => absurd q.2 (by decide))).trans ((hf5 82 2 (fun q => absurd q.2 (by decide))).trans ((hf4 82 2 (fun q => absurd q.2 (by decide))).trans (hw3))), (hf6 82 3 (fun q => absurd q.2 (by decide))).trans ((hf5 82 3 (fun q => absurd q.2 (by decide))).trans (hw4)), (hf6 82 4 (fun q => absurd q.2 (by decide))).trans (hw5), hw6⟩, fun x y hx => (hf6 x y (fun q => hx q.1)).trans ((hf5 x y (fun q => hx q.1)).trans ((hf4 x y (fun q => hx q.1)).trans ((hf3 x y (fun q => hx q.1)).trans ((hf2 x y (fun q => hx q.1)).trans (hf1 x y (fun q => hx q.1))))))⟩
def ax_f_ahd (m : Nat → Nat → Int32) : Int32 := if (ax_f_has m (m 81 0)) = 0 then 0 else if (ax_f_has m (m 82 0)) = 0 then 1 else if (m 82 2) < (m 81 2) then 0 else 1
theorem ax_ahd (G : sx_G0 g L xs z9 hd_C ex_mt) {σ : am_S} (hS : ax_S σ) : am_K g 2 tX5_isAhead.1 0 0 0 (lv_args 0 [.ref 81, .ref 82, .ref 4]) [] σ (ax_R (ax_f_ahd σ.2.1) σ) := by
  refine kr_aload_n 2 rd_d_X5_isAhead_0 rfl ?_
  refine kr_aload_n 0 rd_d_X5_isAhead_1 rfl ?_
  refine kr_getf G.1 (rd_FL rd_k_X5_isAhead_2).1 rd_d_X5_isAhead_2 (hS.1 81 (.inl 5) rfl) (v := .int (σ.2.1 81 0)) (by unfold am_fa; rw [(rd_FL rd_k_X5_isAhead_2).2]; rfl) ?_
  refine rd_call G (T2 := tX9_has) rfl rd_d_X5_isAhead_5 rd_k_X5_isAhead_5 rfl (hS.1 4 (.inl 9) rfl) (as := [.int (σ.2.1 81 0)]) (st := []) rfl (Nat.le_of_ble_eq_true rfl) rfl (Nat.le_of_ble_eq_true rfl) (d1 := 1) (by decide) (fun _ h => by cases h.1) (ax_has G hS (σ.2.1 81 0)) ?_
  intro v1 σ1 ⟨hv1, hs1⟩
  cases hv1
  rw [hs1]
  refine kr_if_eq (tgt := 37) rd_d_X5_isAhead_8 rfl (fun h2 => ?_) (fun h2 => ?_)
  · refine kr_iconst (v := 0) rd_d_X5_isAhead_37 (by decide) ?_
    exact kr_ireturn rd_d_X5_isAhead_38 (ty := .boolean) rfl rfl ⟨by rw [ax_f_ahd, if_pos h2], rfl⟩
  · refine kr_aload_n 2 rd_d_X5_isAhead_11 rfl ?_
    refine kr_aload_n 1 rd_d_X5_isAhead_12 rfl ?_
    refine kr_getf G.1 (rd_FL rd_k_X5_isAhead_13).1 rd_d_X5_isAhead_13 (hS.1 82 (.inl 5) rfl) (v := .int (σ.2.1 82 0)) (by unfold am_fa; rw [(rd_FL rd_k_X5_isAhead_13).2]; rfl) ?_
    refine rd_call G (T2 := tX9_has) rfl rd_d_X5_isAhead_16 rd_k_X5_isAhead_16 rfl (hS.1 4 (.inl 9) rfl) (as := [.int (σ.2.1 82 0)]) (st := []) rfl (Nat.le_of_ble_eq_true rfl) rfl (Nat.le_of_ble_eq_true rfl) (d1 := 1) (by decide) (fun _ h => by cases h.1) (ax_has G hS (σ.2.1 82 0)) ?_
    intro v3 σ3 ⟨hv3, hs3⟩
    cases hv3
    rw [hs3]
    refine kr_if_eq (tgt := 33) rd_d_X5_isAhead_19 rfl (fun h4 => ?_) (fun h4 => ?_)
    · refine kr_iconst (v := 1) rd_d_X5_isAhead_33 (by decide) ?_
      refine kr_goto (tgt := 38) rd_d_X5_isAhead_34 rfl ?_
      exact kr_ireturn rd_d_X5_isAhead_38 (ty := .boolean) rfl rfl ⟨by rw [ax_f_ahd, if_neg h2, if_pos h4], rfl⟩
    · refine kr_aload_n 0 rd_d_X5_isAhead_22 rfl ?_
      refine kr_getf G.1 (rd_FL rd_k_X5_isAhead_23).1 rd_d_X5_isAhead_23 (hS.1 81 (.inl 5) rfl) (v := .int (σ.2.1 81 2)) (by unfold am_fa; rw [(rd_FL rd_k_X5_isAhead_23).2]; rfl) ?_
      refine kr_aload_n 1 rd_d_X5_isAhead_26 rfl ?_
      refine kr_getf G.1 (rd_FL rd_k_X5_isAhead_27).1 rd_d_X5_isAhead_27 (hS.1 82 (.inl 5) rfl) (v := .int (σ.2.1 82 2)) (by unfold am_fa; rw [(rd_FL rd_k_X5_isAhead_27).2]; rfl) ?_
      refine kr_icmp_gt (tgt := 37) rd_d_X5_isAhead_30 rfl (fun h5 => ?_) (fun h5 => ?_)
      · refine kr_iconst (v := 0) rd_d_X5_isAhead_37 (by decide) ?_
        exact kr_ireturn rd_d_X5_isAhead_38 (ty := .boolean) rfl rfl ⟨by rw [ax_f_ahd, if_neg h2, if_neg h4, if_pos h5], rfl⟩
      · refine kr_iconst (v := 1) rd_d_X5_isAhead_33 (by decide) ?_
        refine kr_goto (tgt := 38) rd_d_X5_isAhead_34 rfl ?_
        exact kr_ireturn rd_d_X5_isAhead_38 (ty := .boolean) rfl rfl ⟨by rw [ax_f_ahd, if_neg h2, if_neg h4, if_neg h5], rfl⟩
/-- how many he sells there, the other having been there or not -/
def rc_many (m : Nat → Nat → Int32) (W vo fr : Int32) : Int32 := if (vo >>> (W &&& 31)) &&& 1 = 0 then ax_f_min fr (ax_f_oft m W) else 0
theorem ax_vl81 (G : sx_G0 g L xs z9 hd_C ex_mt) {mn last tk pr : Int32} (hmn : mn.toInt ≤ 24) {post : Option (Option Value) → am_S → Prop} : ∀ (f : Nat) (k : Int32) (σ : am_S), ax_S σ → 0 ≤ k.toInt → (mn.toInt - k.toInt).toNat = f → ax_f_tak σ.2.1 (σ.2.1 81 0) = tk → ax_f_pri σ.2.1 (σ.2.1 81 0) = pr → (kk : ∀ τ : am_S, ax_S τ → τ.2.1 81 2 = (rc_in tk pr last f (σ.2.1 81 2) (σ.2.1 81 4)).1 → τ.2.1 81 4 = (rc_in tk pr last f (σ.2.1 81 2) (σ.2.1 81 4)).2 → (∀ x y, ¬ (x = 81 ∧ (y = 2 ∨ y = 4)) → τ.2.1 x y = σ.2.1 x y) → ∀ k2 : Int32, am_K g 3 tX5_visit.1 0 0 89 [(5, .int k2), (4, .int mn), (0, .ref 81), (1, .ref 82), (2, .int last), (3, .ref 4)] [] τ post) → am_K g 3 tX5_visit.1 0 0 34 [(5, .int k), (4, .int mn), (0, .ref 81), (1, .ref 82), (2, .int last), (3, .ref 4)] [] σ post := by
  intro f
  induction f with
  | zero =>
    intro k σ hS hk hf htk hpr kk
    refine kr_iload 0 rd_d_X5_visit_34 rfl ?_
    refine kr_iload 1 rd_d_X5_visit_36 rfl ?_
    refine kr_icmp_ge (tgt := 89) rd_d_X5_visit_38 rfl (fun _ => ?_) (fun h => absurd (Int32.le_iff_toInt_le.mpr (by omega)) h)
    exact kk σ hS rfl rfl (fun _ _ _ => rfl) k
  | succ f ih =>
    intro k σ hS hk hf htk hpr kk
    refine kr_iload 0 rd_d_X5_visit_34 rfl ?_
    refine kr_iload 1 rd_d_X5_visit_36 rfl ?_
    refine kr_icmp_ge (tgt := 89) rd_d_X5_visit_38 rfl (fun h => by have := Int32.le_iff_toInt_le.mp h; omega) (fun _ => ?_)
    refine kr_aload_n 2 rd_d_X5_visit_41 rfl ?_
    refine kr_dup rd_d_X5_visit_42 rfl ?_
    refine kr_getf G.1 (rd_FL rd_k_X5_visit_43).1 rd_d_X5_visit_43 (hS.1 81 (.inl 5) rfl) (v := .int (σ.2.1 81 2)) (by unfold am_fa; rw [(rd_FL rd_k_X5_visit_43).2]; rfl) ?_
    refine kr_aload_n 5 rd_d_X5_visit_46 rfl ?_
    refine kr_aload_n 2 rd_d_X5_visit_47 rfl ?_
    refine kr_getf G.1 (rd_FL rd_k_X5_visit_48).1 rd_d_X5_visit_48 (hS.1 81 (.inl 5) rfl) (v := .int (σ.2.1 81 0)) (by unfold am_fa; rw [(rd_FL rd_k_X5_visit_48).2]; rfl) ?_
    refine rd_call G (T2 := tX9_takesOf) rfl rd_d_X5_visit_51 rd_k_X5_visit_51 rfl (hS.1 4 (.inl 9) rfl) (as := [.int (σ.2.1 81 0)]) (st := [.int (σ.2.1 81 2), .ref 81]) rfl (Nat.le_of_ble_eq_true rfl) rfl (Nat.le_of_ble_eq_true rfl) (d1 := 2) (by decide) (fun _ h => by cases h.1) (ax_tak G hS (σ.2.1 81 0)) ?_
    intro v11 σ11 ⟨hv11, hs11⟩
    cases hv11
    rw [hs11]
    refine kr_iadd rd_d_X5_visit_54 ?_
    refine ax_putW G hS rd_d_X5_visit_55 rd_k_X5_visit_55 (hS.1 81 (.inl 5) rfl) ?_
    intro τ1 hT1 hw1 hf1
    have hsτ1 : τ1.2.1 120 = σ.2.1 120 := (ax_120F hf1 (by decide))
    have hqτ1 : ax_pl τ1.2.1 = ax_pl σ.2.1 := (ax_plF hf1 (by decide))
    refine kr_aload_n 2 rd_d_X5_visit_58 rfl ?_
    refine kr_getf G.1 (rd_FL rd_k_X5_visit_59).1 rd_d_X5_visit_59 (hT1.1 81 (.inl 5) rfl) (v := .int ((σ.2.1 81 2) + (ax_f_tak σ.2.1 (σ.2.1 81 0)))) (by unfold am_fa; rw [(rd_FL rd_k_X5_visit_59).2]; exact congrArg Value.int (hw1)) ?_
    refine kr_iload_n 4 rd_d_X5_visit_62 rfl ?_
    refine kr_icmp_gt (tgt := 83) rd_d_X5_visit_63 rfl (fun h12 => ?_) (fun h12 => ?_)
    · refine kr_iinc (v := k + 1) (lv' := [(5, .int (k + 1)), (4, .int mn), (0, .ref 81), (1, .ref 82), (2, .int last), (3, .ref 4)]) 0 rd_d_X5_visit_83 rfl rfl (by decide) rfl ?_
      refine kr_goto (tgt := 34) rd_d_X5_visit_86 rfl ?_
      have e0 : τ1.2.1 81 0 = σ.2.1 81 0 := hf1 81 0 (fun q => absurd q.2 (by decide))
      have e2 : τ1.2.1 81 2 = σ.2.1 81 2 + tk := by rw [← htk]; exact hw1
      have e4 : τ1.2.1 81 4 = σ.2.1 81 4 := hf1 81 4 (fun q => absurd q.2 (by decide))
      have hl : ¬ σ.2.1 81 2 + tk ≤ last := fun q => by rw [htk] at h12; have q1 := Int32.lt_iff_toInt_lt.mp h12; have q2 := Int32.le_iff_toInt_le.mp q; omega
      refine ih (k + 1) τ1 hT1 (by rw [ax_k1 hk (by omega)]; omega) (by rw [ax_k1 hk (by omega)]; omega) (by rw [e0]; exact (ax_takC hqτ1 _).trans htk) (by rw [e0]; exact (ax_priC hqτ1 _).trans hpr) ?_
      intro τ9 a1 a2 a3 a4 k2
      rw [e2, e4] at a2 a3
      exact kk τ9 a1 (by rw [rc_in_s, if_neg hl]; exact a2) (by rw [rc_in_s, if_neg hl]; exact a3) (fun x y hx => (a4 x y hx).trans (hf1 x y (fun q => hx ⟨q.1, Or.inl q.2⟩))) k2
    · refine kr_aload_n 2 rd_d_X5_visit_66 rfl ?_
      refine kr_dup rd_d_X5_visit_67 rfl ?_
      refine kr_getf G.1 (rd_FL rd_k_X5_visit_68).1 rd_d_X5_visit_68 (hT1.1 81 (.inl 5) rfl) (v := .int (σ.2.1 81 4)) (by unfold am_fa; rw [(rd_FL rd_k_X5_visit_68).2]; exact congrArg Value.int (hf1 81 4 (fun q => absurd q.2 (by decide)))) ?_
      refine kr_aload_n 5 rd_d_X5_visit_71 rfl ?_
      refine kr_aload_n 2 rd_d_X5_visit_72 rfl ?_
      refine kr_getf G.1 (rd_FL rd_k_X5_visit_73).1 rd_d_X5_visit_73 (hT1.1 81 (.inl 5) rfl) (v := .int (σ.2.1 81 0)) (by unfold am_fa; rw [(rd_FL rd_k_X5_visit_73).2]; exact congrArg Value.int (hf1 81 0 (fun q => absurd q.2 (by decide)))) ?_
      refine rd_call G (T2 := tX9_priceOf) rfl rd_d_X5_visit_76 rd_k_X5_visit_76 rfl (hT1.1 4 (.inl 9) rfl) (as := [.int (σ.2.1 81 0)]) (st := [.int (σ.2.1 81 4), .ref 81]) rfl (Nat.le_of_ble_eq_true rfl) rfl (Nat.le_of_ble_eq_true rfl) (d1 := 2) (by decide) (fun _ h => by cases h.1) (ax_pri G hT1 (σ.2.1 81 0)) ?_
      intro v13 σ13 ⟨hv13, hs13⟩
      cases hv13
      rw [hs13]
      rw [show ax_f_pri τ1.2.1 (σ.2.1 81 0) = ax_f_pri σ.2.1 (σ.2.1 81 0) from (congrArg (fun p : Nat → Nat → Int32 => ax_f_pri p (σ.2.1 81 0)) hqτ1 : ax_f_pri (ax_pl τ1.2.1) (σ.2.1 81 0) = ax_f_pri (ax_pl σ.2.1) (σ.2.1 81 0))]
      refine kr_iadd rd_d_X5_visit_79 ?_
      refine ax_putW G hT1 rd_d_X5_visit_80 rd_k_X5_visit_80 (hT1.1 81 (.inl 5) rfl) ?_
      intro τ2 hT2 hw2 hf2
      have hsτ2 : τ2.2.1 120 = σ.2.1 120 := (ax_120F hf2 (by decide)).trans hsτ1
      have hqτ2 : ax_pl τ2.2.1 = ax_pl σ.2.1 := (ax_plF hf2 (by decide)).trans hqτ1
      refine kr_iinc (v := k + 1) (lv' := [(5, .int (k + 1)), (4, .int mn), (0, .ref 81), (1, .ref 82), (2, .int last), (3, .ref 4)]) 0 rd_d_X5_visit_83 rfl rfl (by decide) rfl ?_
      refine kr_goto (tgt := 34) rd_d_X5_visit_86 rfl ?_
      have e0 : τ2.2.1 81 0 = σ.2.1 81 0 := (hf2 81 0 (fun q => absurd q.2 (by decide))).trans (hf1 81 0 (fun q => absurd q.2 (by decide)))
      have e2 : τ2.2.1 81 2 = σ.2.1 81 2 + tk := by rw [← htk]; exact (hf2 81 2 (fun q => absurd q.2 (by decide))).trans (hw1)
      have e4 : τ2.2.1 81 4 = σ.2.1 81 4 + pr := by rw [← hpr]; exact hw2
      have hl : σ.2.1 81 2 + tk ≤ last := by rw [htk] at h12; exact Int32.le_iff_toInt_le.mpr (by have : ¬ last.toInt < (σ.2.1 81 2 + tk).toInt := fun q => h12 (Int32.lt_iff_toInt_lt.mpr q); omega)
      refine ih (k + 1) τ2 hT2 (by rw [ax_k1 hk (by omega)]; omega) (by rw [ax_k1 hk (by omega)]; omega) (by rw [e0]; exact (ax_takC hqτ2 _).trans htk) (by rw [e0]; exact (ax_priC hqτ2 _).trans hpr) ?_
      intro τ9 a1 a2 a3 a4 k2
      rw [e2, e4] at a2 a3
      exact kk τ9 a1 (by rw [rc_in_s, if_pos hl]; exact a2) (by rw [rc_in_s, if_pos hl]; exact a3) (fun x y hx => (a4 x y hx).trans ((hf2 x y (fun q => hx ⟨q.1, Or.inr q.2⟩)).trans (hf1 x y (fun q => hx ⟨q.1, Or.inl q.2⟩)))) k2
theorem ax_vl82 (G : sx_G0 g L xs z9 hd_C ex_mt) {mn last tk pr : Int32} (hmn : mn.toInt ≤ 24) {post : Option (Option Value) → am_S → Prop} : ∀ (f : Nat) (k : Int32) (σ : am_S), ax_S σ → 0 ≤ k.toInt → (mn.toInt - k.toInt).toNat = f → ax_f_tak σ.2.1 (σ.2.1 82 0) = tk → ax_f_pri σ.2.1 (σ.2.1 82 0) = pr → (kk : ∀ τ : am_S, ax_S τ → τ.2.1 82 2 = (rc_in tk pr last f (σ.2.1 82 2) (σ.2.1 82 4)).1 → τ.2.1 82 4 = (rc_in tk pr last f (σ.2.1 82 2) (σ.2.1 82 4)).2 → (∀ x y, ¬ (x = 82 ∧ (y = 2 ∨ y = 4)) → τ.2.1 x y = σ.2.1 x y) → ∀ k2 : Int32, am_K g 3 tX5_visit.1 0 0 89 [(5, .int k2), (4, .int mn), (0, .ref 82), (1, .ref 81), (2, .int last), (3, .ref 4)] [] τ post) → am_K g 3 tX5_visit.1 0 0 34 [(5, .int k), (4, .int mn), (0, .ref 82), (1, .ref 81), (2, .int last), (3, .ref 4)] [] σ post := by
  intro f
  induction f with
  | zero =>
    intro k σ hS hk hf htk hpr kk
    refine kr_iload 0 rd_d_X5_visit_34 rfl ?_
    refine kr_iload 1 rd_d_X5_visit_36 rfl ?_
    refine kr_icmp_ge (tgt := 89) rd_d_X5_visit_38 rfl (fun _ => ?_) (fun h => absurd (Int32.le_iff_toInt_le.mpr (by omega)) h)
    exact kk σ hS rfl rfl (fun _ _ _ => rfl) k
  | succ f ih =>
    intro k σ hS hk hf htk hpr kk
    refine kr_iload 0 rd_d_X5_visit_34 rfl ?_
    refine kr_iload 1 rd_d_X5_visit_36 rfl ?_
    refine kr_icmp_ge (tgt := 89) rd_d_X5_visit_38 rfl (fun h => by have := Int32.le_iff_toInt_le.mp h; omega) (fun _ => ?_)
    refine kr_aload_n 2 rd_d_X5_visit_41 rfl ?_
    refine kr_dup rd_d_X5_visit_42 rfl ?_
    refine kr_getf G.1 (rd_FL rd_k_X5_visit_43).1 rd_d_X5_visit_43 (hS.1 82 (.inl 5) rfl) (v := .int (σ.2.1 82 2)) (by unfold am_fa; rw [(rd_FL rd_k_X5_visit_43).2]; rfl) ?_
    refine kr_aload_n 5 rd_d_X5_visit_46 rfl ?_
    refine kr_aload_n 2 rd_d_X5_visit_47 rfl ?_
    refine kr_getf G.1 (rd_FL rd_k_X5_visit_48).1 rd_d_X5_visit_48 (hS.1 82 (.inl 5) rfl) (v := .int (σ.2.1 82 0)) (by unfold am_fa; rw [(rd_FL rd_k_X5_visit_48).2]; rfl) ?_
    refine rd_call G (T2 := tX9_takesOf) rfl rd_d_X5_visit_51 rd_k_X5_visit_51 rfl (hS.1 4 (.inl 9) rfl) (as := [.int (σ.2.1 82 0)]) (st := [.int (σ.2.1 82 2), .ref 82]) rfl (Nat.le_of_ble_eq_true rfl) rfl (Nat.le_of_ble_eq_true rfl) (d1 := 2) (by decide) (fun _ h => by cases h.1) (ax_tak G hS (σ.2.1 82 0)) ?_
    intro v11 σ11 ⟨hv11, hs11⟩
    cases hv11
    rw [hs11]
    refine kr_iadd rd_d_X5_visit_54 ?_
    refine ax_putW G hS rd_d_X5_visit_55 rd_k_X5_visit_55 (hS.1 82 (.inl 5) rfl) ?_
    intro τ1 hT1 hw1 hf1
    have hsτ1 : τ1.2.1 120 = σ.2.1 120 := (ax_120F hf1 (by decide))
    have hqτ1 : ax_pl τ1.2.1 = ax_pl σ.2.1 := (ax_plF hf1 (by decide))
    refine kr_aload_n 2 rd_d_X5_visit_58 rfl ?_
    refine kr_getf G.1 (rd_FL rd_k_X5_visit_59).1 rd_d_X5_visit_59 (hT1.1 82 (.inl 5) rfl) (v := .int ((σ.2.1 82 2) + (ax_f_tak σ.2.1 (σ.2.1 82 0)))) (by unfold am_fa; rw [(rd_FL rd_k_X5_visit_59).2]; exact congrArg Value.int (hw1)) ?_
    refine kr_iload_n 4 rd_d_X5_visit_62 rfl ?_
    refine kr_icmp_gt (tgt := 83) rd_d_X5_visit_63 rfl (fun h12 => ?_) (fun h12 => ?_)
    · refine kr_iinc (v := k + 1) (lv' := [(5, .int (k + 1)), (4, .int mn), (0, .ref 82), (1, .ref 81), (2, .int last), (3, .ref 4)]) 0 rd_d_X5_visit_83 rfl rfl (by decide) rfl ?_
      refine kr_goto (tgt := 34) rd_d_X5_visit_86 rfl ?_
      have e0 : τ1.2.1 82 0 = σ.2.1 82 0 := hf1 82 0 (fun q => absurd q.2 (by decide))
      have e2 : τ1.2.1 82 2 = σ.2.1 82 2 + tk := by rw [← htk]; exact hw1
      have e4 : τ1.2.1 82 4 = σ.2.1 82 4 := hf1 82 4 (fun q => absurd q.2 (by decide))
      have hl : ¬ σ.2.1 82 2 + tk ≤ last := fun q => by rw [htk] at h12; have q1 := Int32.lt_iff_toInt_lt.mp h12; have q2 := Int32.le_iff_toInt_le.mp q; omega
      refine ih (k + 1) τ1 hT1 (by rw [ax_k1 hk (by omega)]; omega) (by rw [ax_k1 hk (by omega)]; omega) (by rw [e0]; exact (ax_takC hqτ1 _).trans htk) (by rw [e0]; exact (ax_priC hqτ1 _).trans hpr) ?_
      intro τ9 a1 a2 a3 a4 k2
      rw [e2, e4] at a2 a3
      exact kk τ9 a1 (by rw [rc_in_s, if_neg hl]; exact a2) (by rw [rc_in_s, if_neg hl]; exact a3) (fun x y hx => (a4 x y hx).trans (hf1 x y (fun q => hx ⟨q.1, Or.inl q.2⟩))) k2
    · refine kr_aload_n 2 rd_d_X5_visit_66 rfl ?_
      refine kr_dup rd_d_X5_visit_67 rfl ?_
      refine kr_getf G.1 (rd_FL rd_k_X5_visit_68).1 rd_d_X5_visit_68 (hT1.1 82 (.inl 5) rfl) (v := .int (σ.2.1 82 4)) (by unfold am_fa; rw [(rd_FL rd_k_X5_visit_68).2]; exact congrArg Value.int (hf1 82 4 (fun q => absurd q.2 (by decide)))) ?_
      refine kr_aload_n 5 rd_d_X5_visit_71 rfl ?_
      refine kr_aload_n 2 rd_d_X5_visit_72 rfl ?_
      refine kr_getf G.1 (rd_FL rd_k_X5_visit_73).1 rd_d_X5_visit_73 (hT1.1 82 (.inl 5) rfl) (v := .int (σ.2.1 82 0)) (by unfold am_fa; rw [(rd_FL rd_k_X5_visit_73).2]; exact congrArg Value.int (hf1 82 0 (fun q => absurd q.2 (by decide)))) ?_
      refine rd_call G (T2 := tX9_priceOf) rfl rd_d_X5_visit_76 rd_k_X5_visit_76 rfl (hT1.1 4 (.inl 9) rfl) (as := [.int (σ.2.1 82 0)]) (st := [.int (σ.2.1 82 4), .ref 82]) rfl (Nat.le_of_ble_eq_true rfl) rfl (Nat.le_of_ble_eq_true rfl) (d1 := 2) (by decide) (fun _ h => by cases h.1) (ax_pri G hT1 (σ.2.1 82 0)) ?_
      intro v13 σ13 ⟨hv13, hs13⟩
      cases hv13
      rw [hs13]
      rw [show ax_f_pri τ1.2.1 (σ.2.1 82 0) = ax_f_pri σ.2.1 (σ.2.1 82 0) from (congrArg (fun p : Nat → Nat → Int32 => ax_f_pri p (σ.2.1 82 0)) hqτ1 : ax_f_pri (ax_pl τ1.2.1) (σ.2.1 82 0) = ax_f_pri (ax_pl σ.2.1) (σ.2.1 82 0))]
      refine kr_iadd rd_d_X5_visit_79 ?_
      refine ax_putW G hT1 rd_d_X5_visit_80 rd_k_X5_visit_80 (hT1.1 82 (.inl 5) rfl) ?_
      intro τ2 hT2 hw2 hf2
      have hsτ2 : τ2.2.1 120 = σ.2.1 120 := (ax_120F hf2 (by decide)).trans hsτ1
      have hqτ2 : ax_pl τ2.2.1 = ax_pl σ.2.1 := (ax_plF hf2 (by decide)).trans hqτ1
      refine kr_iinc (v := k + 1) (lv' := [(5, .int (k + 1)), (4, .int mn), (0, .ref 82), (1, .ref 81), (2, .int last), (3, .ref 4)]) 0 rd_d_X5_visit_83 rfl rfl (by decide) rfl ?_
      refine kr_goto (tgt := 34) rd_d_X5_visit_86 rfl ?_
      have e0 : τ2.2.1 82 0 = σ.2.1 82 0 := (hf2 82 0 (fun q => absurd q.2 (by decide))).trans (hf1 82 0 (fun q => absurd q.2 (by decide)))
      have e2 : τ2.2.1 82 2 = σ.2.1 82 2 + tk := by rw [← htk]; exact (hf2 82 2 (fun q => absurd q.2 (by decide))).trans (hw1)
      have e4 : τ2.2.1 82 4 = σ.2.1 82 4 + pr := by rw [← hpr]; exact hw2
      have hl : σ.2.1 82 2 + tk ≤ last := by rw [htk] at h12; exact Int32.le_iff_toInt_le.mpr (by have : ¬ last.toInt < (σ.2.1 82 2 + tk).toInt := fun q => h12 (Int32.lt_iff_toInt_lt.mpr q); omega)
      refine ih (k + 1) τ2 hT2 (by rw [ax_k1 hk (by omega)]; omega) (by rw [ax_k1 hk (by omega)]; omega) (by rw [e0]; exact (ax_takC hqτ2 _).trans htk) (by rw [e0]; exact (ax_priC hqτ2 _).trans hpr) ?_
      intro τ9 a1 a2 a3 a4 k2
      rw [e2, e4] at a2 a3
      exact kk τ9 a1 (by rw [rc_in_s, if_pos hl]; exact a2) (by rw [rc_in_s, if_pos hl]; exact a3) (fun x y hx => (a4 x y hx).trans ((hf2 x y (fun q => hx ⟨q.1, Or.inr q.2⟩)).trans (hf1 x y (fun q => hx ⟨q.1, Or.inl q.2⟩)))) k2

theorem ax_vis81 (G : sx_G0 g L xs z9 hd_C ex_mt) {σ : am_S} (hS : ax_S σ) (last : Int32) (h24 : (rc_many σ.2.1 (σ.2.1 81 0) (σ.2.1 82 5) (σ.2.1 81 3)).toInt ≤ 24) : am_K g 3 tX5_visit.1 0 0 0 (lv_args 0 [.ref 81, .ref 82, .int last, .ref 4]) [] σ (fun r σ' => r = some none ∧ ax_S σ' ∧ (σ'.2.1 81 0 = σ.2.1 81 0 + σ.2.1 81 1 ∧ σ'.2.1 81 1 = σ.2.1 81 1 ∧ σ'.2.1 81 2 = (rc_in (ax_f_tak σ.2.1 (σ.2.1 81 0)) (ax_f_pri σ.2.1 (σ.2.1 81 0)) last (rc_many σ.2.1 (σ.2.1 81 0) (σ.2.1 82 5) (σ.2.1 81 3)).toInt.toNat (σ.2.1 81 2) (σ.2.1 81 4)).1 + ax_f_wal σ.2.1 ∧ σ'.2.1 81 3 = σ.2.1 81 3 - rc_many σ.2.1 (σ.2.1 81 0) (σ.2.1 82 5) (σ.2.1 81 3) ∧ σ'.2.1 81 4 = (rc_in (ax_f_tak σ.2.1 (σ.2.1 81 0)) (ax_f_pri σ.2.1 (σ.2.1 81 0)) last (rc_many σ.2.1 (σ.2.1 81 0) (σ.2.1 82 5) (σ.2.1 81 3)).toInt.toNat (σ.2.1 81 2) (σ.2.1 81 4)).2 ∧ σ'.2.1 81 5 = σ.2.1 81 5 ||| (1 <<< (σ.2.1 81 0 &&& 31))) ∧ ∀ x y, x ≠ 81 → σ'.2.1 x y = σ.2.1 x y) := by
  refine kr_aload_n 1 rd_d_X5_visit_0 rfl ?_
  refine kr_getf G.1 (rd_FL rd_k_X5_visit_1).1 rd_d_X5_visit_1 (hS.1 82 (.inl 5) rfl) (v := .int (σ.2.1 82 5)) (by unfold am_fa; rw [(rd_FL rd_k_X5_visit_1).2]; rfl) ?_
  refine kr_aload_n 0 rd_d_X5_visit_4 rfl ?_
  refine kr_getf G.1 (rd_FL rd_k_X5_visit_5).1 rd_d_X5_visit_5 (hS.1 81 (.inl 5) rfl) (v := .int (σ.2.1 81 0)) (by unfold am_fa; rw [(rd_FL rd_k_X5_visit_5).2]; rfl) ?_
  refine kr_ishr rd_d_X5_visit_8 ?_
  refine kr_iconst (v := 1) rd_d_X5_visit_9 (by decide) ?_
  refine kr_iand rd_d_X5_visit_10 ?_
  refine kr_if_ne (tgt := 100) rd_d_X5_visit_11 rfl (fun h1 => ?_) (fun h1 => ?_)
  · have hm : rc_many σ.2.1 (σ.2.1 81 0) (σ.2.1 82 5) (σ.2.1 81 3) = 0 := by rw [rc_many, if_neg h1]
    refine kr_aload_n 0 rd_d_X5_visit_100 rfl ?_
    refine kr_dup rd_d_X5_visit_101 rfl ?_
    refine kr_getf G.1 (rd_FL rd_k_X5_visit_102).1 rd_d_X5_visit_102 (hS.1 81 (.inl 5) rfl) (v := .int (σ.2.1 81 5)) (by unfold am_fa; rw [(rd_FL rd_k_X5_visit_102).2]; rfl) ?_
    refine kr_iconst (v := 1) rd_d_X5_visit_105 (by decide) ?_
    refine kr_aload_n 0 rd_d_X5_visit_106 rfl ?_
    refine kr_getf G.1 (rd_FL rd_k_X5_visit_107).1 rd_d_X5_visit_107 (hS.1 81 (.inl 5) rfl) (v := .int (σ.2.1 81 0)) (by unfold am_fa; rw [(rd_FL rd_k_X5_visit_107).2]; rfl) ?_
    refine kr_ishl rd_d_X5_visit_110 ?_
    refine kr_ior rd_d_X5_visit_111 ?_
    refine ax_putW G hS rd_d_X5_visit_112 rd_k_X5_visit_112 (hS.1 81 (.inl 5) rfl) ?_
    intro τa1 hTa1 hwa1 hfa1
    have hsτa1 : τa1.2.1 120 = σ.2.1 120 := (ax_120F hfa1 (by decide))
    have hqτa1 : ax_pl τa1.2.1 = ax_pl σ.2.1 := (ax_plF hfa1 (by decide))
    refine kr_aload_n 0 rd_d_X5_visit_115 rfl ?_
    refine kr_dup rd_d_X5_visit_116 rfl ?_
    refine kr_getf G.1 (rd_FL rd_k_X5_visit_117).1 rd_d_X5_visit_117 (hTa1.1 81 (.inl 5) rfl) (v := .int (σ.2.1 81 0)) (by unfold am_fa; rw [(rd_FL rd_k_X5_visit_117).2]; exact congrArg Value.int (hfa1 81 0 (fun q => absurd q.2 (by decide)))) ?_
    refine kr_aload_n 0 rd_d_X5_visit_120 rfl ?_
    refine kr_getf G.1 (rd_FL rd_k_X5_visit_121).1 rd_d_X5_visit_121 (hTa1.1 81 (.inl 5) rfl) (v := .int (σ.2.1 81 1)) (by unfold am_fa; rw [(rd_FL rd_k_X5_visit_121).2]; exact congrArg Value.int (hfa1 81 1 (fun q => absurd q.2 (by decide)))) ?_
    refine kr_iadd rd_d_X5_visit_124 ?_
    refine ax_putW G hTa1 rd_d_X5_visit_125 rd_k_X5_visit_125 (hTa1.1 81 (.inl 5) rfl) ?_
    intro τa2 hTa2 hwa2 hfa2
    have hsτa2 : τa2.2.1 120 = σ.2.1 120 := (ax_120F hfa2 (by decide)).trans hsτa1
    have hqτa2 : ax_pl τa2.2.1 = ax_pl σ.2.1 := (ax_plF hfa2 (by decide)).trans hqτa1
    refine kr_aload_n 0 rd_d_X5_visit_128 rfl ?_
    refine kr_dup rd_d_X5_visit_129 rfl ?_
    refine kr_getf G.1 (rd_FL rd_k_X5_visit_130).1 rd_d_X5_visit_130 (hTa2.1 81 (.inl 5) rfl) (v := .int (σ.2.1 81 2)) (by unfold am_fa; rw [(rd_FL rd_k_X5_visit_130).2]; exact congrArg Value.int ((hfa2 81 2 (fun q => absurd q.2 (by decide))).trans (hfa1 81 2 (fun q => absurd q.2 (by decide))))) ?_
    refine kr_aload_n 3 rd_d_X5_visit_133 rfl ?_
    refine rd_call G (T2 := tX9_walking) rfl rd_d_X5_visit_134 rd_k_X5_visit_134 rfl (hTa2.1 4 (.inl 9) rfl) (as := []) (st := [.int (σ.2.1 81 2), .ref 81]) rfl (Nat.le_of_ble_eq_true rfl) rfl (Nat.le_of_ble_eq_true rfl) (d1 := 2) (by decide) (fun _ h => by cases h.1) (ax_wal G hTa2) ?_
    intro v41 σ41 ⟨hv41, hs41⟩
    cases hv41
    rw [hs41]
    rw [show ax_f_wal τa2.2.1 = ax_f_wal σ.2.1 from (congrArg (fun p : Nat → Nat → Int32 => ax_f_wal p) hqτa2 : ax_f_wal (ax_pl τa2.2.1) = ax_f_wal (ax_pl σ.2.1))]
    refine kr_iadd rd_d_X5_visit_137 ?_
    refine ax_putW G hTa2 rd_d_X5_visit_138 rd_k_X5_visit_138 (hTa2.1 81 (.inl 5) rfl) ?_
    intro τa3 hTa3 hwa3 hfa3
    have hsτa3 : τa3.2.1 120 = σ.2.1 120 := (ax_120F hfa3 (by decide)).trans hsτa2
    have hqτa3 : ax_pl τa3.2.1 = ax_pl σ.2.1 := (ax_plF hfa3 (by decide)).trans hqτa2
    exact kr_return rd_d_X5_visit_141 rfl ⟨rfl, hTa3, ⟨((hfa3 81 0 (fun q => absurd q.2 (by decide))).trans (hwa2)).trans (rfl), ((hfa3 81 1 (fun q => absurd q.2 (by decide))).trans ((hfa2 81 1 (fun q => absurd q.2 (by decide))).trans (hfa1 81 1 (fun q => absurd q.2 (by decide))))).trans (rfl), (hwa3).trans (by rw [hm]; rfl), ((hfa3 81 3 (fun q => absurd q.2 (by decide))).trans ((hfa2 81 3 (fun q => absurd q.2 (by decide))).trans (hfa1 81 3 (fun q => absurd q.2 (by decide))))).trans (by rw [hm]; exact (Int32.sub_zero _).symm), ((hfa3 81 4 (fun q => absurd q.2 (by decide))).trans ((hfa2 81 4 (fun q => absurd q.2 (by decide))).trans (hfa1 81 4 (fun q => absurd q.2 (by decide))))).trans (by rw [hm]; rfl), ((hfa3 81 5 (fun q => absurd q.2 (by decide))).trans ((hfa2 81 5 (fun q => absurd q.2 (by decide))).trans (hwa1))).trans (rfl)⟩, fun x y hx => ((hfa3 x y (fun q => hx q.1)).trans ((hfa2 x y (fun q => hx q.1)).trans (hfa1 x y (fun q => hx q.1)))).trans (rfl)⟩
  · refine kr_aload_n 0 rd_d_X5_visit_14 rfl ?_
    refine kr_getf G.1 (rd_FL rd_k_X5_visit_15).1 rd_d_X5_visit_15 (hS.1 81 (.inl 5) rfl) (v := .int (σ.2.1 81 3)) (by unfold am_fa; rw [(rd_FL rd_k_X5_visit_15).2]; rfl) ?_
    refine kr_aload_n 3 rd_d_X5_visit_18 rfl ?_
    refine kr_aload_n 0 rd_d_X5_visit_19 rfl ?_
    refine kr_getf G.1 (rd_FL rd_k_X5_visit_20).1 rd_d_X5_visit_20 (hS.1 81 (.inl 5) rfl) (v := .int (σ.2.1 81 0)) (by unfold am_fa; rw [(rd_FL rd_k_X5_visit_20).2]; rfl) ?_
    refine rd_call G (T2 := tX9_oftenOf) rfl rd_d_X5_visit_23 rd_k_X5_visit_23 rfl (hS.1 4 (.inl 9) rfl) (as := [.int (σ.2.1 81 0)]) (st := [.int (σ.2.1 81 3)]) rfl (Nat.le_of_ble_eq_true rfl) rfl (Nat.le_of_ble_eq_true rfl) (d1 := 2) (by decide) (fun _ h => by cases h.1) (ax_oft G hS (σ.2.1 81 0)) ?_
    intro v2 σ2 ⟨hv2, hs2⟩
    cases hv2
    rw [hs2]
    refine kr_mmin G.1 (ex_mem_ok (show ex_mem 327763 (Cond.methodLink tX5_visit.1.1.cls 42 Lib.Math.min.name) = true from rd_k_X5_visit_26)) rd_d_X5_visit_26 (by decide) (Nat.le_of_ble_eq_true rfl) ?_
    show am_K g 3 tX5_visit.1 0 0 29 [(0, .ref 81), (1, .ref 82), (2, .int last), (3, .ref 4)] [.int (ax_f_min (σ.2.1 81 3) (ax_f_oft σ.2.1 (σ.2.1 81 0)))] σ _
    refine kr_istore (lv' := [(4, .int (ax_f_min (σ.2.1 81 3) (ax_f_oft σ.2.1 (σ.2.1 81 0)))), (0, .ref 81), (1, .ref 82), (2, .int last), (3, .ref 4)]) rd_d_X5_visit_29 (by decide) rfl ?_
    refine kr_iconst (v := 0) rd_d_X5_visit_31 (by decide) ?_
    refine kr_istore (lv' := [(5, .int 0), (4, .int (ax_f_min (σ.2.1 81 3) (ax_f_oft σ.2.1 (σ.2.1 81 0)))), (0, .ref 81), (1, .ref 82), (2, .int last), (3, .ref 4)]) rd_d_X5_visit_32 (by decide) rfl ?_
    have hm : rc_many σ.2.1 (σ.2.1 81 0) (σ.2.1 82 5) (σ.2.1 81 3) = ax_f_min (σ.2.1 81 3) (ax_f_oft σ.2.1 (σ.2.1 81 0)) := by rw [rc_many, if_pos h1]
    rw [← hm]
    refine ax_vl81 G h24 (rc_many σ.2.1 (σ.2.1 81 0) (σ.2.1 82 5) (σ.2.1 81 3)).toInt.toNat 0 σ hS (by decide) (by show ((rc_many σ.2.1 (σ.2.1 81 0) (σ.2.1 82 5) (σ.2.1 81 3)).toInt - 0).toNat = _; rw [Int.sub_zero]) rfl rfl ?_
    intro μ hU u2 u4 uf k2
    have hs0 : μ.2.1 120 = σ.2.1 120 := funext fun b => uf 120 b (fun q => absurd q.1 (by decide))
    have hq0 : ax_pl μ.2.1 = ax_pl σ.2.1 := funext fun a => funext fun b => by unfold ax_pl; split; exact uf a b (fun q => by omega); rfl
    have u0 : μ.2.1 81 0 = σ.2.1 81 0 := uf 81 0 (fun q => absurd q.2 (by decide))
    have u1 : μ.2.1 81 1 = σ.2.1 81 1 := uf 81 1 (fun q => absurd q.2 (by decide))
    have u3 : μ.2.1 81 3 = σ.2.1 81 3 := uf 81 3 (fun q => absurd q.2 (by decide))
    have u5 : μ.2.1 81 5 = σ.2.1 81 5 := uf 81 5 (fun q => absurd q.2 (by decide))
    refine kr_aload_n 2 rd_d_X5_visit_89 rfl ?_
    refine kr_dup rd_d_X5_visit_90 rfl ?_
    refine kr_getf G.1 (rd_FL rd_k_X5_visit_91).1 rd_d_X5_visit_91 (hU.1 81 (.inl 5) rfl) (v := .int (μ.2.1 81 3)) (by unfold am_fa; rw [(rd_FL rd_k_X5_visit_91).2]; rfl) ?_
    refine kr_iload 1 rd_d_X5_visit_94 rfl ?_
    refine kr_isub rd_d_X5_visit_96 ?_
    refine ax_putW G hU rd_d_X5_visit_97 rd_k_X5_visit_97 (hU.1 81 (.inl 5) rfl) ?_
    intro τb1 hTb1 hwb1 hfb1
    have hsτb1 : τb1.2.1 120 = μ.2.1 120 := (ax_120F hfb1 (by decide))
    have hqτb1 : ax_pl τb1.2.1 = ax_pl μ.2.1 := (ax_plF hfb1 (by decide))
    refine kr_aload_n 2 rd_d_X5_visit_100 rfl ?_
    refine kr_dup rd_d_X5_visit_101 rfl ?_
    refine kr_getf G.1 (rd_FL rd_k_X5_visit_102).1 rd_d_X5_visit_102 (hTb1.1 81 (.inl 5) rfl) (v := .int (μ.2.1 81 5)) (by unfold am_fa; rw [(rd_FL rd_k_X5_visit_102).2]; exact congrArg Value.int (hfb1 81 5 (fun q => absurd q.2 (by decide)))) ?_
    refine kr_iconst (v := 1) rd_d_X5_visit_105 (by decide) ?_
    refine kr_aload_n 2 rd_d_X5_visit_106 rfl ?_
    refine kr_getf G.1 (rd_FL rd_k_X5_visit_107).1 rd_d_X5_visit_107 (hTb1.1 81 (.inl 5) rfl) (v := .int (μ.2.1 81 0)) (by unfold am_fa; rw [(rd_FL rd_k_X5_visit_107).2]; exact congrArg Value.int (hfb1 81 0 (fun q => absurd q.2 (by decide)))) ?_
    refine kr_ishl rd_d_X5_visit_110 ?_
    refine kr_ior rd_d_X5_visit_111 ?_
    refine ax_putW G hTb1 rd_d_X5_visit_112 rd_k_X5_visit_112 (hTb1.1 81 (.inl 5) rfl) ?_
    intro τb2 hTb2 hwb2 hfb2
    have hsτb2 : τb2.2.1 120 = μ.2.1 120 := (ax_120F hfb2 (by decide)).trans hsτb1
    have hqτb2 : ax_pl τb2.2.1 = ax_pl μ.2.1 := (ax_plF hfb2 (by decide)).trans hqτb1
    refine kr_aload_n 2 rd_d_X5_visit_115 rfl ?_
    refine kr_dup rd_d_X5_visit_116 rfl ?_
    refine kr_getf G.1 (rd_FL rd_k_X5_visit_117).1 rd_d_X5_visit_117 (hTb2.1 81 (.inl 5) rfl) (v := .int (μ.2.1 81 0)) (by unfold am_fa; rw [(rd_FL rd_k_X5_visit_117).2]; exact congrArg Value.int ((hfb2 81 0 (fun q => absurd q.2 (by decide))).trans (hfb1 81 0 (fun q => absurd q.2 (by decide))))) ?_
    refine kr_aload_n 2 rd_d_X5_visit_120 rfl ?_
    refine kr_getf G.1 (rd_FL rd_k_X5_visit_121).1 rd_d_X5_visit_121 (hTb2.1 81 (.inl 5) rfl) (v := .int (μ.2.1 81 1)) (by unfold am_fa; rw [(rd_FL rd_k_X5_visit_121).2]; exact congrArg Value.int ((hfb2 81 1 (fun q => absurd q.2 (by decide))).trans (hfb1 81 1 (fun q => absurd q.2 (by decide))))) ?_
    refine kr_iadd rd_d_X5_visit_124 ?_
    refine ax_putW G hTb2 rd_d_X5_visit_125 rd_k_X5_visit_125 (hTb2.1 81 (.inl 5) rfl) ?_
    intro τb3 hTb3 hwb3 hfb3
    have hsτb3 : τb3.2.1 120 = μ.2.1 120 := (ax_120F hfb3 (by decide)).trans hsτb2
    have hqτb3 : ax_pl τb3.2.1 = ax_pl μ.2.1 := (ax_plF hfb3 (by decide)).trans hqτb2
    refine kr_aload_n 2 rd_d_X5_visit_128 rfl ?_
    refine kr_dup rd_d_X5_visit_129 rfl ?_
    refine kr_getf G.1 (rd_FL rd_k_X5_visit_130).1 rd_d_X5_visit_130 (hTb3.1 81 (.inl 5) rfl) (v := .int (μ.2.1 81 2)) (by unfold am_fa; rw [(rd_FL rd_k_X5_visit_130).2]; exact congrArg Value.int ((hfb3 81 2 (fun q => absurd q.2 (by decide))).trans ((hfb2 81 2 (fun q => absurd q.2 (by decide))).trans (hfb1 81 2 (fun q => absurd q.2 (by decide)))))) ?_
    refine kr_aload_n 5 rd_d_X5_visit_133 rfl ?_
    refine rd_call G (T2 := tX9_walking) rfl rd_d_X5_visit_134 rd_k_X5_visit_134 rfl (hTb3.1 4 (.inl 9) rfl) (as := []) (st := [.int (μ.2.1 81 2), .ref 81]) rfl (Nat.le_of_ble_eq_true rfl) rfl (Nat.le_of_ble_eq_true rfl) (d1 := 2) (by decide) (fun _ h => by cases h.1) (ax_wal G hTb3) ?_
    intro v41 σ41 ⟨hv41, hs41⟩
    cases hv41
    rw [hs41]
    rw [show ax_f_wal τb3.2.1 = ax_f_wal μ.2.1 from (congrArg (fun p : Nat → Nat → Int32 => ax_f_wal p) hqτb3 : ax_f_wal (ax_pl τb3.2.1) = ax_f_wal (ax_pl μ.2.1))]
    refine kr_iadd rd_d_X5_visit_137 ?_
    refine ax_putW G hTb3 rd_d_X5_visit_138 rd_k_X5_visit_138 (hTb3.1 81 (.inl 5) rfl) ?_
    intro τb4 hTb4 hwb4 hfb4
    have hsτb4 : τb4.2.1 120 = μ.2.1 120 := (ax_120F hfb4 (by decide)).trans hsτb3
    have hqτb4 : ax_pl τb4.2.1 = ax_pl μ.2.1 := (ax_plF hfb4 (by decide)).trans hqτb3
    exact kr_return rd_d_X5_visit_141 rfl ⟨rfl, hTb4, ⟨((hfb4 81 0 (fun q => absurd q.2 (by decide))).trans (hwb3)).trans (by rw [u0, u1]), ((hfb4 81 1 (fun q => absurd q.2 (by decide))).trans ((hfb3 81 1 (fun q => absurd q.2 (by decide))).trans ((hfb2 81 1 (fun q => absurd q.2 (by decide))).trans (hfb1 81 1 (fun q => absurd q.2 (by decide)))))).trans (u1), (hwb4).trans (by rw [u2, ax_walC hq0]), ((hfb4 81 3 (fun q => absurd q.2 (by decide))).trans ((hfb3 81 3 (fun q => absurd q.2 (by decide))).trans ((hfb2 81 3 (fun q => absurd q.2 (by decide))).trans (hwb1)))).trans (by rw [u3]), ((hfb4 81 4 (fun q => absurd q.2 (by decide))).trans ((hfb3 81 4 (fun q => absurd q.2 (by decide))).trans ((hfb2 81 4 (fun q => absurd q.2 (by decide))).trans (hfb1 81 4 (fun q => absurd q.2 (by decide)))))).trans (u4), ((hfb4 81 5 (fun q => absurd q.2 (by decide))).trans ((hfb3 81 5 (fun q => absurd q.2 (by decide))).trans (hwb2))).trans (by rw [u5, u0])⟩, fun x y hx => ((hfb4 x y (fun q => hx q.1)).trans ((hfb3 x y (fun q => hx q.1)).trans ((hfb2 x y (fun q => hx q.1)).trans (hfb1 x y (fun q => hx q.1))))).trans (uf x y (fun q => hx q.1))⟩
theorem ax_vis82 (G : sx_G0 g L xs z9 hd_C ex_mt) {σ : am_S} (hS : ax_S σ) (last : Int32) (h24 : (rc_many σ.2.1 (σ.2.1 82 0) (σ.2.1 81 5) (σ.2.1 82 3)).toInt ≤ 24) : am_K g 3 tX5_visit.1 0 0 0 (lv_args 0 [.ref 82, .ref 81, .int last, .ref 4]) [] σ (fun r σ' => r = some none ∧ ax_S σ' ∧ (σ'.2.1 82 0 = σ.2.1 82 0 + σ.2.1 82 1 ∧ σ'.2.1 82 1 = σ.2.1 82 1 ∧ σ'.2.1 82 2 = (rc_in (ax_f_tak σ.2.1 (σ.2.1 82 0)) (ax_f_pri σ.2.1 (σ.2.1 82 0)) last (rc_many σ.2.1 (σ.2.1 82 0) (σ.2.1 81 5) (σ.2.1 82 3)).toInt.toNat (σ.2.1 82 2) (σ.2.1 82 4)).1 + ax_f_wal σ.2.1 ∧ σ'.2.1 82 3 = σ.2.1 82 3 - rc_many σ.2.1 (σ.2.1 82 0) (σ.2.1 81 5) (σ.2.1 82 3) ∧ σ'.2.1 82 4 = (rc_in (ax_f_tak σ.2.1 (σ.2.1 82 0)) (ax_f_pri σ.2.1 (σ.2.1 82 0)) last (rc_many σ.2.1 (σ.2.1 82 0) (σ.2.1 81 5) (σ.2.1 82 3)).toInt.toNat (σ.2.1 82 2) (σ.2.1 82 4)).2 ∧ σ'.2.1 82 5 = σ.2.1 82 5 ||| (1 <<< (σ.2.1 82 0 &&& 31))) ∧ ∀ x y, x ≠ 82 → σ'.2.1 x y = σ.2.1 x y) := by
  refine kr_aload_n 1 rd_d_X5_visit_0 rfl ?_
  refine kr_getf G.1 (rd_FL rd_k_X5_visit_1).1 rd_d_X5_visit_1 (hS.1 81 (.inl 5) rfl) (v := .int (σ.2.1 81 5)) (by unfold am_fa; rw [(rd_FL rd_k_X5_visit_1).2]; rfl) ?_
  refine kr_aload_n 0 rd_d_X5_visit_4 rfl ?_
  refine kr_getf G.1 (rd_FL rd_k_X5_visit_5).1 rd_d_X5_visit_5 (hS.1 82 (.inl 5) rfl) (v := .int (σ.2.1 82 0)) (by unfold am_fa; rw [(rd_FL rd_k_X5_visit_5).2]; rfl) ?_
  refine kr_ishr rd_d_X5_visit_8 ?_
  refine kr_iconst (v := 1) rd_d_X5_visit_9 (by decide) ?_
  refine kr_iand rd_d_X5_visit_10 ?_
  refine kr_if_ne (tgt := 100) rd_d_X5_visit_11 rfl (fun h1 => ?_) (fun h1 => ?_)
  · have hm : rc_many σ.2.1 (σ.2.1 82 0) (σ.2.1 81 5) (σ.2.1 82 3) = 0 := by rw [rc_many, if_neg h1]
    refine kr_aload_n 0 rd_d_X5_visit_100 rfl ?_
    refine kr_dup rd_d_X5_visit_101 rfl ?_
    refine kr_getf G.1 (rd_FL rd_k_X5_visit_102).1 rd_d_X5_visit_102 (hS.1 82 (.inl 5) rfl) (v := .int (σ.2.1 82 5)) (by unfold am_fa; rw [(rd_FL rd_k_X5_visit_102).2]; rfl) ?_
    refine kr_iconst (v := 1) rd_d_X5_visit_105 (by decide) ?_
    refine kr_aload_n 0 rd_d_X5_visit_106 rfl ?_
    refine kr_getf G.1 (rd_FL rd_k_X5_visit_107).1 rd_d_X5_visit_107 (hS.1 82 (.inl 5) rfl) (v := .int (σ.2.1 82 0)) (by unfold am_fa; rw [(rd_FL rd_k_X5_visit_107).2]; rfl) ?_
    refine kr_ishl rd_d_X5_visit_110 ?_
    refine kr_ior rd_d_X5_visit_111 ?_
    refine ax_putW G hS rd_d_X5_visit_112 rd_k_X5_visit_112 (hS.1 82 (.inl 5) rfl) ?_
    intro τa1 hTa1 hwa1 hfa1
    have hsτa1 : τa1.2.1 120 = σ.2.1 120 := (ax_120F hfa1 (by decide))
    have hqτa1 : ax_pl τa1.2.1 = ax_pl σ.2.1 := (ax_plF hfa1 (by decide))
    refine kr_aload_n 0 rd_d_X5_visit_115 rfl ?_
    refine kr_dup rd_d_X5_visit_116 rfl ?_
    refine kr_getf G.1 (rd_FL rd_k_X5_visit_117).1 rd_d_X5_visit_117 (hTa1.1 82 (.inl 5) rfl) (v := .int (σ.2.1 82 0)) (by unfold am_fa; rw [(rd_FL rd_k_X5_visit_117).2]; exact congrArg Value.int (hfa1 82 0 (fun q => absurd q.2 (by decide)))) ?_
    refine kr_aload_n 0 rd_d_X5_visit_120 rfl ?_
    refine kr_getf G.1 (rd_FL rd_k_X5_visit_121).1 rd_d_X5_visit_121 (hTa1.1 82 (.inl 5) rfl) (v := .int (σ.2.1 82 1)) (by unfold am_fa; rw [(rd_FL rd_k_X5_visit_121).2]; exact congrArg Value.int (hfa1 82 1 (fun q => absurd q.2 (by decide)))) ?_
    refine kr_iadd rd_d_X5_visit_124 ?_
    refine ax_putW G hTa1 rd_d_X5_visit_125 rd_k_X5_visit_125 (hTa1.1 82 (.inl 5) rfl) ?_
    intro τa2 hTa2 hwa2 hfa2
    have hsτa2 : τa2.2.1 120 = σ.2.1 120 := (ax_120F hfa2 (by decide)).trans hsτa1
    have hqτa2 : ax_pl τa2.2.1 = ax_pl σ.2.1 := (ax_plF hfa2 (by decide)).trans hqτa1
    refine kr_aload_n 0 rd_d_X5_visit_128 rfl ?_
    refine kr_dup rd_d_X5_visit_129 rfl ?_
    refine kr_getf G.1 (rd_FL rd_k_X5_visit_130).1 rd_d_X5_visit_130 (hTa2.1 82 (.inl 5) rfl) (v := .int (σ.2.1 82 2)) (by unfold am_fa; rw [(rd_FL rd_k_X5_visit_130).2]; exact congrArg Value.int ((hfa2 82 2 (fun q => absurd q.2 (by decide))).trans (hfa1 82 2 (fun q => absurd q.2 (by decide))))) ?_
    refine kr_aload_n 3 rd_d_X5_visit_133 rfl ?_
    refine rd_call G (T2 := tX9_walking) rfl rd_d_X5_visit_134 rd_k_X5_visit_134 rfl (hTa2.1 4 (.inl 9) rfl) (as := []) (st := [.int (σ.2.1 82 2), .ref 82]) rfl (Nat.le_of_ble_eq_true rfl) rfl (Nat.le_of_ble_eq_true rfl) (d1 := 2) (by decide) (fun _ h => by cases h.1) (ax_wal G hTa2) ?_
    intro v41 σ41 ⟨hv41, hs41⟩
    cases hv41
    rw [hs41]
    rw [show ax_f_wal τa2.2.1 = ax_f_wal σ.2.1 from (congrArg (fun p : Nat → Nat → Int32 => ax_f_wal p) hqτa2 : ax_f_wal (ax_pl τa2.2.1) = ax_f_wal (ax_pl σ.2.1))]
    refine kr_iadd rd_d_X5_visit_137 ?_
    refine ax_putW G hTa2 rd_d_X5_visit_138 rd_k_X5_visit_138 (hTa2.1 82 (.inl 5) rfl) ?_
    intro τa3 hTa3 hwa3 hfa3
    have hsτa3 : τa3.2.1 120 = σ.2.1 120 := (ax_120F hfa3 (by decide)).trans hsτa2
    have hqτa3 : ax_pl τa3.2.1 = ax_pl σ.2.1 := (ax_plF hfa3 (by decide)).trans hqτa2
    exact kr_return rd_d_X5_visit_141 rfl ⟨rfl, hTa3, ⟨((hfa3 82 0 (fun q => absurd q.2 (by decide))).trans (hwa2)).trans (rfl), ((hfa3 82 1 (fun q => absurd q.2 (by decide))).trans ((hfa2 82 1 (fun q => absurd q.2 (by decide))).trans (hfa1 82 1 (fun q => absurd q.2 (by decide))))).trans (rfl), (hwa3).trans (by rw [hm]; rfl), ((hfa3 82 3 (fun q => absurd q.2 (by decide))).trans ((hfa2 82 3 (fun q => absurd q.2 (by decide))).trans (hfa1 82 3 (fun q => absurd q.2 (by decide))))).trans (by rw [hm]; exact (Int32.sub_zero _).symm), ((hfa3 82 4 (fun q => absurd q.2 (by decide))).trans ((hfa2 82 4 (fun q => absurd q.2 (by decide))).trans (hfa1 82 4 (fun q => absurd q.2 (by decide))))).trans (by rw [hm]; rfl), ((hfa3 82 5 (fun q => absurd q.2 (by decide))).trans ((hfa2 82 5 (fun q => absurd q.2 (by decide))).trans (hwa1))).trans (rfl)⟩, fun x y hx => ((hfa3 x y (fun q => hx q.1)).trans ((hfa2 x y (fun q => hx q.1)).trans (hfa1 x y (fun q => hx q.1)))).trans (rfl)⟩
  · refine kr_aload_n 0 rd_d_X5_visit_14 rfl ?_
    refine kr_getf G.1 (rd_FL rd_k_X5_visit_15).1 rd_d_X5_visit_15 (hS.1 82 (.inl 5) rfl) (v := .int (σ.2.1 82 3)) (by unfold am_fa; rw [(rd_FL rd_k_X5_visit_15).2]; rfl) ?_
    refine kr_aload_n 3 rd_d_X5_visit_18 rfl ?_
    refine kr_aload_n 0 rd_d_X5_visit_19 rfl ?_
    refine kr_getf G.1 (rd_FL rd_k_X5_visit_20).1 rd_d_X5_visit_20 (hS.1 82 (.inl 5) rfl) (v := .int (σ.2.1 82 0)) (by unfold am_fa; rw [(rd_FL rd_k_X5_visit_20).2]; rfl) ?_
    refine rd_call G (T2 := tX9_oftenOf) rfl rd_d_X5_visit_23 rd_k_X5_visit_23 rfl (hS.1 4 (.inl 9) rfl) (as := [.int (σ.2.1 82 0)]) (st := [.int (σ.2.1 82 3)]) rfl (Nat.le_of_ble_eq_true rfl) rfl (Nat.le_of_ble_eq_true rfl) (d1 := 2) (by decide) (fun _ h => by cases h.1) (ax_oft G hS (σ.2.1 82 0)) ?_
    intro v2 σ2 ⟨hv2, hs2⟩
    cases hv2
    rw [hs2]
    refine kr_mmin G.1 (ex_mem_ok (show ex_mem 327763 (Cond.methodLink tX5_visit.1.1.cls 42 Lib.Math.min.name) = true from rd_k_X5_visit_26)) rd_d_X5_visit_26 (by decide) (Nat.le_of_ble_eq_true rfl) ?_
    show am_K g 3 tX5_visit.1 0 0 29 [(0, .ref 82), (1, .ref 81), (2, .int last), (3, .ref 4)] [.int (ax_f_min (σ.2.1 82 3) (ax_f_oft σ.2.1 (σ.2.1 82 0)))] σ _
    refine kr_istore (lv' := [(4, .int (ax_f_min (σ.2.1 82 3) (ax_f_oft σ.2.1 (σ.2.1 82 0)))), (0, .ref 82), (1, .ref 81), (2, .int last), (3, .ref 4)]) rd_d_X5_visit_29 (by decide) rfl ?_
    refine kr_iconst (v := 0) rd_d_X5_visit_31 (by decide) ?_
    refine kr_istore (lv' := [(5, .int 0), (4, .int (ax_f_min (σ.2.1 82 3) (ax_f_oft σ.2.1 (σ.2.1 82 0)))), (0, .ref 82), (1, .ref 81), (2, .int last), (3, .ref 4)]) rd_d_X5_visit_32 (by decide) rfl ?_
    have hm : rc_many σ.2.1 (σ.2.1 82 0) (σ.2.1 81 5) (σ.2.1 82 3) = ax_f_min (σ.2.1 82 3) (ax_f_oft σ.2.1 (σ.2.1 82 0)) := by rw [rc_many, if_pos h1]
    rw [← hm]
    refine ax_vl82 G h24 (rc_many σ.2.1 (σ.2.1 82 0) (σ.2.1 81 5) (σ.2.1 82 3)).toInt.toNat 0 σ hS (by decide) (by show ((rc_many σ.2.1 (σ.2.1 82 0) (σ.2.1 81 5) (σ.2.1 82 3)).toInt - 0).toNat = _; rw [Int.sub_zero]) rfl rfl ?_
    intro μ hU u2 u4 uf k2
    have hs0 : μ.2.1 120 = σ.2.1 120 := funext fun b => uf 120 b (fun q => absurd q.1 (by decide))
    have hq0 : ax_pl μ.2.1 = ax_pl σ.2.1 := funext fun a => funext fun b => by unfold ax_pl; split; exact uf a b (fun q => by omega); rfl
    have u0 : μ.2.1 82 0 = σ.2.1 82 0 := uf 82 0 (fun q => absurd q.2 (by decide))
    have u1 : μ.2.1 82 1 = σ.2.1 82 1 := uf 82 1 (fun q => absurd q.2 (by decide))
    have u3 : μ.2.1 82 3 = σ.2.1 82 3 := uf 82 3 (fun q => absurd q.2 (by decide))
    have u5 : μ.2.1 82 5 = σ.2.1 82 5 := uf 82 5 (fun q => absurd q.2 (by decide))
    refine kr_aload_n 2 rd_d_X5_visit_89 rfl ?_
    refine kr_dup rd_d_X5_visit_90 rfl ?_
    refine kr_getf G.1 (rd_FL rd_k_X5_visit_91).1 rd_d_X5_visit_91 (hU.1 82 (.inl 5) rfl) (v := .int (μ.2.1 82 3)) (by unfold am_fa; rw [(rd_FL rd_k_X5_visit_91).2]; rfl) ?_
    refine kr_iload 1 rd_d_X5_visit_94 rfl ?_
    refine kr_isub rd_d_X5_visit_96 ?_
    refine ax_putW G hU rd_d_X5_visit_97 rd_k_X5_visit_97 (hU.1 82 (.inl 5) rfl) ?_
    intro τb1 hTb1 hwb1 hfb1
    have hsτb1 : τb1.2.1 120 = μ.2.1 120 := (ax_120F hfb1 (by decide))
    have hqτb1 : ax_pl τb1.2.1 = ax_pl μ.2.1 := (ax_plF hfb1 (by decide))
    refine kr_aload_n 2 rd_d_X5_visit_100 rfl ?_
    refine kr_dup rd_d_X5_visit_101 rfl ?_
    refine kr_getf G.1 (rd_FL rd_k_X5_visit_102).1 rd_d_X5_visit_102 (hTb1.1 82 (.inl 5) rfl) (v := .int (μ.2.1 82 5)) (by unfold am_fa; rw [(rd_FL rd_k_X5_visit_102).2]; exact congrArg Value.int (hfb1 82 5 (fun q => absurd q.2 (by decide)))) ?_
    refine kr_iconst (v := 1) rd_d_X5_visit_105 (by decide) ?_
    refine kr_aload_n 2 rd_d_X5_visit_106 rfl ?_
    refine kr_getf G.1 (rd_FL rd_k_X5_visit_107).1 rd_d_X5_visit_107 (hTb1.1 82 (.inl 5) rfl) (v := .int (μ.2.1 82 0)) (by unfold am_fa; rw [(rd_FL rd_k_X5_visit_107).2]; exact congrArg Value.int (hfb1 82 0 (fun q => absurd q.2 (by decide)))) ?_
    refine kr_ishl rd_d_X5_visit_110 ?_
    refine kr_ior rd_d_X5_visit_111 ?_
    refine ax_putW G hTb1 rd_d_X5_visit_112 rd_k_X5_visit_112 (hTb1.1 82 (.inl 5) rfl) ?_
    intro τb2 hTb2 hwb2 hfb2
    have hsτb2 : τb2.2.1 120 = μ.2.1 120 := (ax_120F hfb2 (by decide)).trans hsτb1
    have hqτb2 : ax_pl τb2.2.1 = ax_pl μ.2.1 := (ax_plF hfb2 (by decide)).trans hqτb1
    refine kr_aload_n 2 rd_d_X5_visit_115 rfl ?_
    refine kr_dup rd_d_X5_visit_116 rfl ?_
    refine kr_getf G.1 (rd_FL rd_k_X5_visit_117).1 rd_d_X5_visit_117 (hTb2.1 82 (.inl 5) rfl) (v := .int (μ.2.1 82 0)) (by unfold am_fa; rw [(rd_FL rd_k_X5_visit_117).2]; exact congrArg Value.int ((hfb2 82 0 (fun q => absurd q.2 (by decide))).trans (hfb1 82 0 (fun q => absurd q.2 (by decide))))) ?_
    refine kr_aload_n 2 rd_d_X5_visit_120 rfl ?_
    refine kr_getf G.1 (rd_FL rd_k_X5_visit_121).1 rd_d_X5_visit_121 (hTb2.1 82 (.inl 5) rfl) (v := .int (μ.2.1 82 1)) (by unfold am_fa; rw [(rd_FL rd_k_X5_visit_121).2]; exact congrArg Value.int ((hfb2 82 1 (fun q => absurd q.2 (by decide))).trans (hfb1 82 1 (fun q => absurd q.2 (by decide))))) ?_
    refine kr_iadd rd_d_X5_visit_124 ?_
    refine ax_putW G hTb2 rd_d_X5_visit_125 rd_k_X5_visit_125 (hTb2.1 82 (.inl 5) rfl) ?_
    intro τb3 hTb3 hwb3 hfb3
    have hsτb3 : τb3.2.1 120 = μ.2.1 120 := (ax_120F hfb3 (by decide)).trans hsτb2
    have hqτb3 : ax_pl τb3.2.1 = ax_pl μ.2.1 := (ax_plF hfb3 (by decide)).trans hqτb2
    refine kr_aload_n 2 rd_d_X5_visit_128 rfl ?_
    refine kr_dup rd_d_X5_visit_129 rfl ?_
    refine kr_getf G.1 (rd_FL rd_k_X5_visit_130).1 rd_d_X5_visit_130 (hTb3.1 82 (.inl 5) rfl) (v := .int (μ.2.1 82 2)) (by unfold am_fa; rw [(rd_FL rd_k_X5_visit_130).2]; exact congrArg Value.int ((hfb3 82 2 (fun q => absurd q.2 (by decide))).trans ((hfb2 82 2 (fun q => absurd q.2 (by decide))).trans (hfb1 82 2 (fun q => absurd q.2 (by decide)))))) ?_
    refine kr_aload_n 5 rd_d_X5_visit_133 rfl ?_
    refine rd_call G (T2 := tX9_walking) rfl rd_d_X5_visit_134 rd_k_X5_visit_134 rfl (hTb3.1 4 (.inl 9) rfl) (as := []) (st := [.int (μ.2.1 82 2), .ref 82]) rfl (Nat.le_of_ble_eq_true rfl) rfl (Nat.le_of_ble_eq_true rfl) (d1 := 2) (by decide) (fun _ h => by cases h.1) (ax_wal G hTb3) ?_
    intro v41 σ41 ⟨hv41, hs41⟩
    cases hv41
    rw [hs41]
    rw [show ax_f_wal τb3.2.1 = ax_f_wal μ.2.1 from (congrArg (fun p : Nat → Nat → Int32 => ax_f_wal p) hqτb3 : ax_f_wal (ax_pl τb3.2.1) = ax_f_wal (ax_pl μ.2.1))]
    refine kr_iadd rd_d_X5_visit_137 ?_
    refine ax_putW G hTb3 rd_d_X5_visit_138 rd_k_X5_visit_138 (hTb3.1 82 (.inl 5) rfl) ?_
    intro τb4 hTb4 hwb4 hfb4
    have hsτb4 : τb4.2.1 120 = μ.2.1 120 := (ax_120F hfb4 (by decide)).trans hsτb3
    have hqτb4 : ax_pl τb4.2.1 = ax_pl μ.2.1 := (ax_plF hfb4 (by decide)).trans hqτb3
    exact kr_return rd_d_X5_visit_141 rfl ⟨rfl, hTb4, ⟨((hfb4 82 0 (fun q => absurd q.2 (by decide))).trans (hwb3)).trans (by rw [u0, u1]), ((hfb4 82 1 (fun q => absurd q.2 (by decide))).trans ((hfb3 82 1 (fun q => absurd q.2 (by decide))).trans ((hfb2 82 1 (fun q => absurd q.2 (by decide))).trans (hfb1 82 1 (fun q => absurd q.2 (by decide)))))).trans (u1), (hwb4).trans (by rw [u2, ax_walC hq0]), ((hfb4 82 3 (fun q => absurd q.2 (by decide))).trans ((hfb3 82 3 (fun q => absurd q.2 (by decide))).trans ((hfb2 82 3 (fun q => absurd q.2 (by decide))).trans (hwb1)))).trans (by rw [u3]), ((hfb4 82 4 (fun q => absurd q.2 (by decide))).trans ((hfb3 82 4 (fun q => absurd q.2 (by decide))).trans ((hfb2 82 4 (fun q => absurd q.2 (by decide))).trans (hfb1 82 4 (fun q => absurd q.2 (by decide)))))).trans (u4), ((hfb4 82 5 (fun q => absurd q.2 (by decide))).trans ((hfb3 82 5 (fun q => absurd q.2 (by decide))).trans (hwb2))).trans (by rw [u5, u0])⟩, fun x y hx => ((hfb4 x y (fun q => hx q.1)).trans ((hfb3 x y (fun q => hx q.1)).trans ((hfb2 x y (fun q => hx q.1)).trans (hfb1 x y (fun q => hx q.1))))).trans (uf x y (fun q => hx q.1))⟩
theorem rc_many_le {m : Nat → Nat → Int32} (ho : ∀ a, (ax_f_oft m a).toInt ≤ 24) (a b c : Int32) : (rc_many m a b c).toInt ≤ 24 := by
  unfold rc_many
  split
  · unfold ax_f_min
    split
    · exact ho a
    · rename_i h
      have h' : ¬ (ax_f_oft m a).toInt < c.toInt := fun q => h (Int32.lt_iff_toInt_lt.mpr q)
      have := ho a
      omega
  · decide
/-- the six numbers of a racer -/
def rc_six (f : Nat → Int32) : Nat → Int32 := fun j => if j < 6 then f j else 0
theorem rc_six_eq {f h : Nat → Int32} (e0 : f 0 = h 0) (e1 : f 1 = h 1) (e2 : f 2 = h 2) (e3 : f 3 = h 3) (e4 : f 4 = h 4) (e5 : f 5 = h 5) : rc_six f = rc_six h := by
  funext j
  unfold rc_six
  by_cases hj : j < 6
  · rw [if_pos hj, if_pos hj]
    have h6 : j = 0 ∨ j = 1 ∨ j = 2 ∨ j = 3 ∨ j = 4 ∨ j = 5 := by omega
    rcases h6 with rfl | rfl | rfl | rfl | rfl | rfl
    · exact e0
    · exact e1
    · exact e2
    · exact e3
    · exact e4
    · exact e5
  · rw [if_neg hj, if_neg hj]
def rc_vis (m : Nat → Nat → Int32) (last : Int32) (A B : Nat → Int32) : Nat → Int32 := rc_six fun j =>
  if j = 0 then A 0 + A 1 else if j = 1 then A 1
  else if j = 2 then (rc_in (ax_f_tak m (A 0)) (ax_f_pri m (A 0)) last (rc_many m (A 0) (B 5) (A 3)).toInt.toNat (A 2) (A 4)).1 + ax_f_wal m
  else if j = 3 then A 3 - rc_many m (A 0) (B 5) (A 3)
  else if j = 4 then (rc_in (ax_f_tak m (A 0)) (ax_f_pri m (A 0)) last (rc_many m (A 0) (B 5) (A 3)).toInt.toNat (A 2) (A 4)).2
  else A 5 ||| (1 <<< (A 0 &&& 31))
def rc_ahd (m : Nat → Nat → Int32) (A B : Nat → Int32) : Int32 := if (ax_f_has m (A 0)) = 0 then 0 else if (ax_f_has m (B 0)) = 0 then 1 else if (B 2) < (A 2) then 0 else 1
/-- so many visits -/
def rc_it (m : Nat → Nat → Int32) (last : Int32) : Nat → (Nat → Int32) → (Nat → Int32) → (Nat → Int32) × (Nat → Int32)
  | 0, A, B => (A, B)
  | n + 1, A, B => if rc_ahd m A B = 0 then (if ax_f_has m (B 0) = 0 then rc_it m last n A B else rc_it m last n A (rc_vis m last B A)) else rc_it m last n (rc_vis m last A B) B
def rc_out (who : Int32) (q : (Nat → Int32) × (Nat → Int32)) : Int32 := if who = 0 then q.1 4 else q.2 4
theorem rc_manyC {m m' : Nat → Nat → Int32} (h : ax_pl m = ax_pl m') (a b c : Int32) : rc_many m a b c = rc_many m' a b c := by
  rw [rc_many, rc_many, ax_oftC h]
theorem rc_visC {m m' : Nat → Nat → Int32} (h : ax_pl m = ax_pl m') (last : Int32) (A B : Nat → Int32) : rc_vis m last A B = rc_vis m' last A B := by
  rw [rc_vis, rc_vis, ax_takC h, ax_priC h, ax_walC h, rc_manyC h]
theorem rc_itC {m m' : Nat → Nat → Int32} (h : ax_pl m = ax_pl m') (last : Int32) : ∀ (n : Nat) (A B : Nat → Int32), rc_it m last n A B = rc_it m' last n A B := by
  intro n
  induction n with
  | zero => intro A B; rfl
  | succ n ih =>
    intro A B
    rw [rc_it, rc_it, rc_visC h, rc_visC h, ax_hasC h, ih, ih, ih, rc_ahd, rc_ahd, ax_hasC h, ax_hasC h]
theorem ax_vw81 (G : sx_G0 g L xs z9 hd_C ex_mt) {σ : am_S} (hS : ax_S σ) (last : Int32) (ho : ∀ a, (ax_f_oft σ.2.1 a).toInt ≤ 24) : am_K g 3 tX5_visit.1 0 0 0 (lv_args 0 [.ref 81, .ref 82, .int last, .ref 4]) [] σ (fun r σ' => r = some none ∧ ax_S σ' ∧ rc_six (σ'.2.1 81) = rc_vis σ.2.1 last (rc_six (σ.2.1 81)) (rc_six (σ.2.1 82)) ∧ ∀ x y, x ≠ 81 → σ'.2.1 x y = σ.2.1 x y) := by
  refine kr_mono ?_ (ax_vis81 G hS last (rc_many_le ho _ _ _))
  intro r σ' ⟨h1, h2, ⟨e0, e1, e2, e3, e4, e5⟩, h4⟩
  exact ⟨h1, h2, rc_six_eq e0 e1 e2 e3 e4 e5, h4⟩
theorem ax_vw82 (G : sx_G0 g L xs z9 hd_C ex_mt) {σ : am_S} (hS : ax_S σ) (last : Int32) (ho : ∀ a, (ax_f_oft σ.2.1 a).toInt ≤ 24) : am_K g 3 tX5_visit.1 0 0 0 (lv_args 0 [.ref 82, .ref 81, .int last, .ref 4]) [] σ (fun r σ' => r = some none ∧ ax_S σ' ∧ rc_six (σ'.2.1 82) = rc_vis σ.2.1 last (rc_six (σ.2.1 82)) (rc_six (σ.2.1 81)) ∧ ∀ x y, x ≠ 82 → σ'.2.1 x y = σ.2.1 x y) := by
  refine kr_mono ?_ (ax_vis82 G hS last (rc_many_le ho _ _ _))
  intro r σ' ⟨h1, h2, ⟨e0, e1, e2, e3, e4, e5⟩, h4⟩
  exact ⟨h1, h2, rc_six_eq e0 e1 e2 e3 e4 e5, h4⟩
theorem ax_rlX (G : sx_G0 g L xs z9 hd_C ex_mt) (a b c w : Int32) : ∀ (f j : Nat) (k : Int32) (σ : am_S), ax_S σ → (∀ z, (ax_f_oft σ.2.1 z).toInt ≤ 24) → k.toInt = (j : Int) → j + f = 20 → am_K g 4 tX11_race.1 0 0 71 [(5, .int k), (0, .ref 0), (1, .int a), (2, .int b), (3, .int c), (4, .int w)] [] σ (fun r _ => r = some (some (.int (rc_out w (rc_it σ.2.1 c f (rc_six (σ.2.1 81)) (rc_six (σ.2.1 82))))))) := by
  intro f
  induction f with
  | zero =>
    intro j k σ hS ho ek hj
    refine kr_iload 0 rd_d_X11_race_71 rfl ?_
    refine kr_bipush (v := 20) rd_d_X11_race_73 (by decide) ?_
    refine kr_icmp_ge (tgt := 154) rd_d_X11_race_75 rfl (fun h1 => ?_) (fun h1 => ?_)
    · refine kr_iload 5 rd_d_X11_race_154 rfl ?_
      refine kr_if_ne (tgt := 169) rd_d_X11_race_156 rfl (fun h2 => ?_) (fun h2 => ?_)
      · refine kr_aload_n 1 rd_d_X11_race_169 rfl ?_
        refine kr_getf G.1 (rd_FL rd_k_X11_race_170).1 rd_d_X11_race_170 (hS.1 0 (.inl 11) rfl) (v := .ref 82) (by unfold am_fa; rw [(rd_FL rd_k_X11_race_170).2]; exact hS.2 0 12 82 rfl) ?_
        refine kr_getf G.1 (rd_FL rd_k_X11_race_173).1 rd_d_X11_race_173 (hS.1 82 (.inl 5) rfl) (v := .int (σ.2.1 82 4)) (by unfold am_fa; rw [(rd_FL rd_k_X11_race_173).2]; rfl) ?_
        exact kr_ireturn rd_d_X11_race_176 (ty := .int) rfl rfl (by rw [rc_out, if_neg h2]; rfl)
      · refine kr_aload_n 1 rd_d_X11_race_159 rfl ?_
        refine kr_getf G.1 (rd_FL rd_k_X11_race_160).1 rd_d_X11_race_160 (hS.1 0 (.inl 11) rfl) (v := .ref 81) (by unfold am_fa; rw [(rd_FL rd_k_X11_race_160).2]; exact hS.2 0 11 81 rfl) ?_
        refine kr_getf G.1 (rd_FL rd_k_X11_race_163).1 rd_d_X11_race_163 (hS.1 81 (.inl 5) rfl) (v := .int (σ.2.1 81 4)) (by unfold am_fa; rw [(rd_FL rd_k_X11_race_163).2]; rfl) ?_
        refine kr_goto (tgt := 176) rd_d_X11_race_166 rfl ?_
        exact kr_ireturn rd_d_X11_race_176 (ty := .int) rfl rfl (by rw [rc_out, if_pos h2]; rfl)
    · exact absurd (Int32.le_iff_toInt_le.mpr (by show (20 : Int) ≤ _; omega)) h1
  | succ f ih =>
    intro j k σ hS ho ek hj
    refine kr_iload 0 rd_d_X11_race_71 rfl ?_
    refine kr_bipush (v := 20) rd_d_X11_race_73 (by decide) ?_
    refine kr_icmp_ge (tgt := 154) rd_d_X11_race_75 rfl (fun h1 => ?_) (fun h1 => ?_)
    · exact absurd h1 (fun q => by have q9 : (20 : Int32).toInt ≤ k.toInt := Int32.le_iff_toInt_le.mp q; have z20 : (20 : Int32).toInt = 20 := rfl; omega)
    · refine kr_aload_n 1 rd_d_X11_race_78 rfl ?_
      refine kr_getf G.1 (rd_FL rd_k_X11_race_79).1 rd_d_X11_race_79 (hS.1 0 (.inl 11) rfl) (v := .ref 81) (by unfold am_fa; rw [(rd_FL rd_k_X11_race_79).2]; exact hS.2 0 11 81 rfl) ?_
      refine kr_aload_n 1 rd_d_X11_race_82 rfl ?_
      refine kr_getf G.1 (rd_FL rd_k_X11_race_83).1 rd_d_X11_race_83 (hS.1 0 (.inl 11) rfl) (v := .ref 82) (by unfold am_fa; rw [(rd_FL rd_k_X11_race_83).2]; exact hS.2 0 12 82 rfl) ?_
      refine kr_aload_n 1 rd_d_X11_race_86 rfl ?_
      refine kr_getf G.1 (rd_FL rd_k_X11_race_87).1 rd_d_X11_race_87 (hS.1 0 (.inl 11) rfl) (v := .ref 4) (by unfold am_fa; rw [(rd_FL rd_k_X11_race_87).2]; exact hS.2 0 2 4 rfl) ?_
      refine rd_call G (T2 := tX5_isAhead) rfl rd_d_X11_race_90 rd_k_X11_race_90 rfl (hS.1 81 (.inl 5) rfl) (as := [.ref 82, .ref 4]) (st := []) rfl (Nat.le_of_ble_eq_true rfl) rfl (Nat.le_of_ble_eq_true rfl) (d1 := 2) (by decide) (fun _ h => by cases h.1) (ax_ahd G hS) ?_
      intro v2 σ2 ⟨hv2, hs2⟩
      cases hv2
      rw [hs2]
      refine kr_if_eq (tgt := 115) rd_d_X11_race_93 rfl (fun h3 => ?_) (fun h3 => ?_)
      · refine kr_aload_n 1 rd_d_X11_race_115 rfl ?_
        refine kr_getf G.1 (rd_FL rd_k_X11_race_116).1 rd_d_X11_race_116 (hS.1 0 (.inl 11) rfl) (v := .ref 4) (by unfold am_fa; rw [(rd_FL rd_k_X11_race_116).2]; exact hS.2 0 2 4 rfl) ?_
        refine kr_aload_n 1 rd_d_X11_race_119 rfl ?_
        refine kr_getf G.1 (rd_FL rd_k_X11_race_120).1 rd_d_X11_race_120 (hS.1 0 (.inl 11) rfl) (v := .ref 82) (by unfold am_fa; rw [(rd_FL rd_k_X11_race_120).2]; exact hS.2 0 12 82 rfl) ?_
        refine kr_getf G.1 (rd_FL rd_k_X11_race_123).1 rd_d_X11_race_123 (hS.1 82 (.inl 5) rfl) (v := .int (σ.2.1 82 0)) (by unfold am_fa; rw [(rd_FL rd_k_X11_race_123).2]; rfl) ?_
        refine rd_call G (T2 := tX9_has) rfl rd_d_X11_race_126 rd_k_X11_race_126 rfl (hS.1 4 (.inl 9) rfl) (as := [.int (σ.2.1 82 0)]) (st := []) rfl (Nat.le_of_ble_eq_true rfl) rfl (Nat.le_of_ble_eq_true rfl) (d1 := 1) (by decide) (fun _ h => by cases h.1) (ax_has G hS (σ.2.1 82 0)) ?_
        intro v4 σ4 ⟨hv4, hs4⟩
        cases hv4
        rw [hs4]
        refine kr_if_eq (tgt := 148) rd_d_X11_race_129 rfl (fun h5 => ?_) (fun h5 => ?_)
        · refine kr_iinc (v := k + 1) (lv' := [(5, .int (k + 1)), (0, .ref 0), (1, .int a), (2, .int b), (3, .int c), (4, .int w)]) 0 rd_d_X11_race_148 rfl rfl (by decide) rfl ?_
          refine kr_goto (tgt := 71) rd_d_X11_race_151 rfl ?_
          have ha : rc_ahd σ.2.1 (rc_six (σ.2.1 81)) (rc_six (σ.2.1 82)) = ax_f_ahd σ.2.1 := rfl
          have hz : rc_ahd σ.2.1 (rc_six (σ.2.1 81)) (rc_six (σ.2.1 82)) = 0 := ha.trans h3
          have hw : ax_f_has σ.2.1 (rc_six (σ.2.1 82) 0) = 0 := h5
          rw [rc_it, if_pos hz, if_pos hw]
          exact ih (j + 1) (k + 1) σ hS ho (ax_inc ek (by omega)) (by omega)
        · refine kr_aload_n 1 rd_d_X11_race_132 rfl ?_
          refine kr_getf G.1 (rd_FL rd_k_X11_race_133).1 rd_d_X11_race_133 (hS.1 0 (.inl 11) rfl) (v := .ref 82) (by unfold am_fa; rw [(rd_FL rd_k_X11_race_133).2]; exact hS.2 0 12 82 rfl) ?_
          refine kr_aload_n 1 rd_d_X11_race_136 rfl ?_
          refine kr_getf G.1 (rd_FL rd_k_X11_race_137).1 rd_d_X11_race_137 (hS.1 0 (.inl 11) rfl) (v := .ref 81) (by unfold am_fa; rw [(rd_FL rd_k_X11_race_137).2]; exact hS.2 0 11 81 rfl) ?_
          refine kr_iload_n 4 rd_d_X11_race_140 rfl ?_
          refine kr_aload_n 1 rd_d_X11_race_141 rfl ?_
          refine kr_getf G.1 (rd_FL rd_k_X11_race_142).1 rd_d_X11_race_142 (hS.1 0 (.inl 11) rfl) (v := .ref 4) (by unfold am_fa; rw [(rd_FL rd_k_X11_race_142).2]; exact hS.2 0 2 4 rfl) ?_
          refine rd_call G (T2 := tX5_visit) rfl rd_d_X11_race_145 rd_k_X11_race_145 rfl (hS.1 82 (.inl 5) rfl) (as := [.ref 81, .int c, .ref 4]) (st := []) rfl (Nat.le_of_ble_eq_true rfl) rfl (Nat.le_of_ble_eq_true rfl) (d1 := 3) (by decide) (fun _ h => by cases h.1) (ax_vw82 G hS c ho) ?_
          intro vv τ ⟨hvv, hT, hvis, hfr⟩
          cases hvv
          have hq : ax_pl τ.2.1 = ax_pl σ.2.1 := ax_plG hfr (by decide)
          have hot : rc_six (τ.2.1 81) = rc_six (σ.2.1 81) := by have e : τ.2.1 81 = σ.2.1 81 := funext fun y => hfr 81 y (by decide); rw [e]
          refine kr_iinc (v := k + 1) (lv' := [(5, .int (k + 1)), (0, .ref 0), (1, .int a), (2, .int b), (3, .int c), (4, .int w)]) 0 rd_d_X11_race_148 rfl rfl (by decide) rfl ?_
          refine kr_goto (tgt := 71) rd_d_X11_race_151 rfl ?_
          have ha : rc_ahd σ.2.1 (rc_six (σ.2.1 81)) (rc_six (σ.2.1 82)) = ax_f_ahd σ.2.1 := rfl
          have hz : rc_ahd σ.2.1 (rc_six (σ.2.1 81)) (rc_six (σ.2.1 82)) = 0 := ha.trans h3
          have hw : ¬ ax_f_has σ.2.1 (rc_six (σ.2.1 82) 0) = 0 := h5
          have K := ih (j + 1) (k + 1) τ hT (fun z => by rw [ax_oftC hq]; exact ho z) (ax_inc ek (by omega)) (by omega)
          rw [rc_itC hq, hvis, hot] at K
          rw [rc_it, if_pos hz, if_neg hw]
          exact K
      · refine kr_aload_n 1 rd_d_X11_race_96 rfl ?_
        refine kr_getf G.1 (rd_FL rd_k_X11_race_97).1 rd_d_X11_race_97 (hS.1 0 (.inl 11) rfl) (v := .ref 81) (by unfold am_fa; rw [(rd_FL rd_k_X11_race_97).2]; exact hS.2 0 11 81 rfl) ?_
        refine kr_aload_n 1 rd_d_X11_race_100 rfl ?_
        refine kr_getf G.1 (rd_FL rd_k_X11_race_101).1 rd_d_X11_race_101 (hS.1 0 (.inl 11) rfl) (v := .ref 82) (by unfold am_fa; rw [(rd_FL rd_k_X11_race_101).2]; exact hS.2 0 12 82 rfl) ?_
        refine kr_iload_n 4 rd_d_X11_race_104 rfl ?_
        refine kr_aload_n 1 rd_d_X11_race_105 rfl ?_
        refine kr_getf G.1 (rd_FL rd_k_X11_race_106).1 rd_d_X11_race_106 (hS.1 0 (.inl 11) rfl) (v := .ref 4) (by unfold am_fa; rw [(rd_FL rd_k_X11_race_106).2]; exact hS.2 0 2 4 rfl) ?_
        refine rd_call G (T2 := tX5_visit) rfl rd_d_X11_race_109 rd_k_X11_race_109 rfl (hS.1 81 (.inl 5) rfl) (as := [.ref 82, .int c, .ref 4]) (st := []) rfl (Nat.le_of_ble_eq_true rfl) rfl (Nat.le_of_ble_eq_true rfl) (d1 := 3) (by decide) (fun _ h => by cases h.1) (ax_vw81 G hS c ho) ?_
        intro vv τ ⟨hvv, hT, hvis, hfr⟩
        cases hvv
        have hq : ax_pl τ.2.1 = ax_pl σ.2.1 := ax_plG hfr (by decide)
        have hot : rc_six (τ.2.1 82) = rc_six (σ.2.1 82) := by have e : τ.2.1 82 = σ.2.1 82 := funext fun y => hfr 82 y (by decide); rw [e]
        refine kr_goto (tgt := 148) rd_d_X11_race_112 rfl ?_
        refine kr_iinc (v := k + 1) (lv' := [(5, .int (k + 1)), (0, .ref 0), (1, .int a), (2, .int b), (3, .int c), (4, .int w)]) 0 rd_d_X11_race_148 rfl rfl (by decide) rfl ?_
        refine kr_goto (tgt := 71) rd_d_X11_race_151 rfl ?_
        have ha : rc_ahd σ.2.1 (rc_six (σ.2.1 81)) (rc_six (σ.2.1 82)) = ax_f_ahd σ.2.1 := rfl
        have hz : ¬ rc_ahd σ.2.1 (rc_six (σ.2.1 81)) (rc_six (σ.2.1 82)) = 0 := fun q => h3 (ha.symm.trans q)
        have K := ih (j + 1) (k + 1) τ hT (fun z => by rw [ax_oftC hq]; exact ho z) (ax_inc ek (by omega)) (by omega)
        rw [rc_itC hq, hvis, hot] at K
        rw [rc_it, if_neg hz]
        exact K
def ax_f_raX (m : Nat → Nat → Int32) (a b c d : Int32) : Int32 := if (ax_f_has m a) = 0 then (-1) else if (ax_f_has m b) = 0 then (-1) else if (ax_f_isc c) = 0 then (-1) else if d < 0 then (-1) else if d ≤ 1 then rc_out d (rc_it m c 20 (rc_six fun j => if j = 0 then a else if j = 1 then 1 else if j = 3 then ax_f_bas m else 0) (rc_six fun j => if j = 0 then b else if j = 1 then (-1) else if j = 3 then ax_f_bas m else 0)) else (-1)
theorem ax_raX (G : sx_G0 g L xs z9 hd_C ex_mt) {σ : am_S} (hS : ax_S σ) (a b c d : Int32) (ho : ∀ z, (ax_f_oft σ.2.1 z).toInt ≤ 24) : am_K g 4 tX11_race.1 0 0 0 (lv_args 0 [.ref 0, .int a, .int b, .int c, .int d]) [] σ (fun r _ => r = some (some (.int (ax_f_raX σ.2.1 a b c d)))) := by
  refine kr_aload_n 0 rd_d_X11_race_0 rfl ?_
  refine kr_getf G.1 (rd_FL rd_k_X11_race_1).1 rd_d_X11_race_1 (hS.1 0 (.inl 11) rfl) (v := .ref 4) (by unfold am_fa; rw [(rd_FL rd_k_X11_race_1).2]; exact hS.2 0 2 4 rfl) ?_
  refine kr_iload_n 1 rd_d_X11_race_4 rfl ?_
  refine rd_call G (T2 := tX9_has) rfl rd_d_X11_race_5 rd_k_X11_race_5 rfl (hS.1 4 (.inl 9) rfl) (as := [.int a]) (st := []) rfl (Nat.le_of_ble_eq_true rfl) rfl (Nat.le_of_ble_eq_true rfl) (d1 := 1) (by decide) (fun _ h => by cases h.1) (ax_has G hS a) ?_
  intro v1 σ1 ⟨hv1, hs1⟩
  cases hv1
  rw [hs1]
  refine kr_if_eq (tgt := 40) rd_d_X11_race_8 rfl (fun h2 => ?_) (fun h2 => ?_)
  · refine kr_iconst (v := (-1)) rd_d_X11_race_40 (by decide) ?_
    exact kr_ireturn rd_d_X11_race_41 (ty := .int) rfl rfl (by rw [ax_f_raX, if_pos h2])
  · refine kr_aload_n 0 rd_d_X11_race_11 rfl ?_
    refine kr_getf G.1 (rd_FL rd_k_X11_race_12).1 rd_d_X11_race_12 (hS.1 0 (.inl 11) rfl) (v := .ref 4) (by unfold am_fa; rw [(rd_FL rd_k_X11_race_12).2]; exact hS.2 0 2 4 rfl) ?_
    refine kr_iload_n 2 rd_d_X11_race_15 rfl ?_
    refine rd_call G (T2 := tX9_has) rfl rd_d_X11_race_16 rd_k_X11_race_16 rfl (hS.1 4 (.inl 9) rfl) (as := [.int b]) (st := []) rfl (Nat.le_of_ble_eq_true rfl) rfl (Nat.le_of_ble_eq_true rfl) (d1 := 1) (by decide) (fun _ h => by cases h.1) (ax_has G hS b) ?_
    intro v3 σ3 ⟨hv3, hs3⟩
    cases hv3
    rw [hs3]
    refine kr_if_eq (tgt := 40) rd_d_X11_race_19 rfl (fun h4 => ?_) (fun h4 => ?_)
    · refine kr_iconst (v := (-1)) rd_d_X11_race_40 (by decide) ?_
      exact kr_ireturn rd_d_X11_race_41 (ty := .int) rfl rfl (by rw [ax_f_raX, if_neg h2, if_pos h4])
    · refine kr_iload_n 3 rd_d_X11_race_22 rfl ?_
      refine rd_callS G (T2 := tX11_isSecond) rfl rd_d_X11_race_23 rd_k_X11_race_23 rfl rfl (as := [.int c]) (st := []) rfl (Nat.le_of_ble_eq_true rfl) rfl (Nat.le_of_ble_eq_true rfl) (d1 := 1) (by decide) (fun _ h => by cases h.1) (ax_isc G hS c) ?_
      intro v5 σ5 ⟨hv5, hs5⟩
      cases hv5
      rw [hs5]
      refine kr_if_eq (tgt := 40) rd_d_X11_race_26 rfl (fun h6 => ?_) (fun h6 => ?_)
      · refine kr_iconst (v := (-1)) rd_d_X11_race_40 (by decide) ?_
        exact kr_ireturn rd_d_X11_race_41 (ty := .int) rfl rfl (by rw [ax_f_raX, if_neg h2, if_neg h4, if_pos h6])
      · refine kr_iload 4 rd_d_X11_race_29 rfl ?_
        refine kr_if_lt (tgt := 40) rd_d_X11_race_31 rfl (fun h7 => ?_) (fun h7 => ?_)
        · refine kr_iconst (v := (-1)) rd_d_X11_race_40 (by decide) ?_
          exact kr_ireturn rd_d_X11_race_41 (ty := .int) rfl rfl (by rw [ax_f_raX, if_neg h2, if_neg h4, if_neg h6, if_pos h7])
        · refine kr_iload 4 rd_d_X11_race_34 rfl ?_
          refine kr_iconst (v := 1) rd_d_X11_race_36 (by decide) ?_
          refine kr_icmp_le (tgt := 42) rd_d_X11_race_37 rfl (fun h8 => ?_) (fun h8 => ?_)
          · refine kr_aload_n 0 rd_d_X11_race_42 rfl ?_
            refine kr_getf G.1 (rd_FL rd_k_X11_race_43).1 rd_d_X11_race_43 (hS.1 0 (.inl 11) rfl) (v := .ref 81) (by unfold am_fa; rw [(rd_FL rd_k_X11_race_43).2]; exact hS.2 0 11 81 rfl) ?_
            refine kr_iload_n 1 rd_d_X11_race_46 rfl ?_
            refine kr_iconst (v := 1) rd_d_X11_race_47 (by decide) ?_
            refine kr_aload_n 0 rd_d_X11_race_48 rfl ?_
            refine kr_getf G.1 (rd_FL rd_k_X11_race_49).1 rd_d_X11_race_49 (hS.1 0 (.inl 11) rfl) (v := .ref 4) (by unfold am_fa; rw [(rd_FL rd_k_X11_race_49).2]; exact hS.2 0 2 4 rfl) ?_
            refine rd_call G (T2 := tX5_prepare) rfl rd_d_X11_race_52 rd_k_X11_race_52 rfl (hS.1 81 (.inl 5) rfl) (as := [.int a, .int 1, .ref 4]) (st := []) rfl (Nat.le_of_ble_eq_true rfl) rfl (Nat.le_of_ble_eq_true rfl) (d1 := 3) (by decide) (fun _ h => by cases h.1) (ax_prep81 G hS a 1) ?_
            intro vv1 τ1 ⟨hvv1, hT1, ⟨p10, p11, p12, p13, p14, p15⟩, hfr1⟩
            cases hvv1
            have hq1 : ax_pl τ1.2.1 = ax_pl σ.2.1 := ax_plG hfr1 (by decide)
            refine kr_aload_n 0 rd_d_X11_race_55 rfl ?_
            refine kr_getf G.1 (rd_FL rd_k_X11_race_56).1 rd_d_X11_race_56 (hT1.1 0 (.inl 11) rfl) (v := .ref 82) (by unfold am_fa; rw [(rd_FL rd_k_X11_race_56).2]; exact hT1.2 0 12 82 rfl) ?_
            refine kr_iload_n 2 rd_d_X11_race_59 rfl ?_
            refine kr_iconst (v := (-1)) rd_d_X11_race_60 (by decide) ?_
            refine kr_aload_n 0 rd_d_X11_race_61 rfl ?_
            refine kr_getf G.1 (rd_FL rd_k_X11_race_62).1 rd_d_X11_race_62 (hT1.1 0 (.inl 11) rfl) (v := .ref 4) (by unfold am_fa; rw [(rd_FL rd_k_X11_race_62).2]; exact hT1.2 0 2 4 rfl) ?_
            refine rd_call G (T2 := tX5_prepare) rfl rd_d_X11_race_65 rd_k_X11_race_65 rfl (hT1.1 82 (.inl 5) rfl) (as := [.int b, .int ((-1)), .ref 4]) (st := []) rfl (Nat.le_of_ble_eq_true rfl) rfl (Nat.le_of_ble_eq_true rfl) (d1 := 3) (by decide) (fun _ h => by cases h.1) (ax_prep82 G hT1 b ((-1))) ?_
            intro vv2 τ2 ⟨hvv2, hT2, ⟨p20, p21, p22, p23, p24, p25⟩, hfr2⟩
            cases hvv2
            have hq2 : ax_pl τ2.2.1 = ax_pl τ1.2.1 := ax_plG hfr2 (by decide)
            refine kr_iconst (v := 0) rd_d_X11_race_68 (by decide) ?_
            refine kr_istore (lv' := [(5, .int 0), (0, .ref 0), (1, .int a), (2, .int b), (3, .int c), (4, .int d)]) rd_d_X11_race_69 (by decide) rfl ?_
            have hA : rc_six (τ2.2.1 81) = (rc_six fun j => if j = 0 then a else if j = 1 then 1 else if j = 3 then ax_f_bas σ.2.1 else 0) := by
              have e : τ2.2.1 81 = τ1.2.1 81 := funext fun y => hfr2 81 y (by decide)
              rw [e]
              exact rc_six_eq p10 p11 p12 p13 p14 p15
            have hB : rc_six (τ2.2.1 82) = (rc_six fun j => if j = 0 then b else if j = 1 then (-1) else if j = 3 then ax_f_bas σ.2.1 else 0) := rc_six_eq p20 p21 p22 (p23.trans (ax_basC hq1)) p24 p25
            have hq := hq2.trans hq1
            have K := ax_rlX G a b c d 20 0 0 τ2 hT2 (fun z => by rw [ax_oftC hq]; exact ho z) rfl rfl
            rw [rc_itC hq, hA, hB] at K
            rw [ax_f_raX, if_neg h2, if_neg h4, if_neg h6, if_neg h7, if_pos h8]
            exact kr_less (by decide) (Nat.le_refl _) (Nat.le_refl _) K
          · refine kr_iconst (v := (-1)) rd_d_X11_race_40 (by decide) ?_
            exact kr_ireturn rd_d_X11_race_41 (ty := .int) rfl rfl (by rw [ax_f_raX, if_neg h2, if_neg h4, if_neg h6, if_neg h7, if_neg h8])
def ax_f_bit (a b : Int32) : Int32 := if ((a >>> (b &&& 31)) &&& 1) = 1 then 1 else 0
theorem ax_bit (G : sx_G0 g L xs z9 hd_C ex_mt) {σ : am_S} (hS : ax_S σ) (a b : Int32) : am_K g 1 tX12_bitOf.1 0 0 0 (lv_args 0 [.int a, .int b]) [] σ (ax_R (ax_f_bit a b) σ) := by
  refine kr_iload_n 0 rd_d_X12_bitOf_0 rfl ?_
  refine kr_iload_n 1 rd_d_X12_bitOf_1 rfl ?_
  refine kr_ishr rd_d_X12_bitOf_2 ?_
  refine kr_iconst (v := 1) rd_d_X12_bitOf_3 (by decide) ?_
  refine kr_iand rd_d_X12_bitOf_4 ?_
  refine kr_iconst (v := 1) rd_d_X12_bitOf_5 (by decide) ?_
  refine kr_icmp_ne (tgt := 13) rd_d_X12_bitOf_6 rfl (fun h1 => ?_) (fun h1 => ?_)
  · refine kr_iconst (v := 0) rd_d_X12_bitOf_13 (by decide) ?_
    exact kr_ireturn rd_d_X12_bitOf_14 (ty := .boolean) rfl rfl ⟨by rw [ax_f_bit, if_neg h1], rfl⟩
  · refine kr_iconst (v := 1) rd_d_X12_bitOf_9 (by decide) ?_
    refine kr_goto (tgt := 14) rd_d_X12_bitOf_10 rfl ?_
    exact kr_ireturn rd_d_X12_bitOf_14 (ty := .boolean) rfl rfl ⟨by rw [ax_f_bit, if_pos h1], rfl⟩
def ax_f_les (a b : Int32) : Int32 := if b ≤ a then b else a
theorem ax_les (G : sx_G0 g L xs z9 hd_C ex_mt) {σ : am_S} (hS : ax_S σ) (a b : Int32) : am_K g 1 tX12_lesser.1 0 0 0 (lv_args 0 [.int a, .int b]) [] σ (ax_R (ax_f_les a b) σ) := by
  refine kr_iload_n 0 rd_d_X12_lesser_0 rfl ?_
  refine kr_iload_n 1 rd_d_X12_lesser_1 rfl ?_
  refine kr_icmp_ge (tgt := 9) rd_d_X12_lesser_2 rfl (fun h1 => ?_) (fun h1 => ?_)
  · refine kr_iload_n 1 rd_d_X12_lesser_9 rfl ?_
    exact kr_ireturn rd_d_X12_lesser_10 (ty := .int) rfl rfl ⟨by rw [ax_f_les, if_pos h1], rfl⟩
  · refine kr_iload_n 0 rd_d_X12_lesser_5 rfl ?_
    refine kr_goto (tgt := 10) rd_d_X12_lesser_6 rfl ?_
    exact kr_ireturn rd_d_X12_lesser_10 (ty := .int) rfl rfl ⟨by rw [ax_f_les, if_neg h1], rfl⟩
/-- a racer of the reference -/
def rm_A (m : Nat → Nat → Int32) (k : Nat) (st : Int32) : Nat → Int32 := rc_six fun j => if j = 0 then m 129 k else if j = 1 then st else if j = 2 then m 130 k else if j = 3 then m 131 k else if j = 4 then m 132 k else 0
def rm_many (s : Nat → Int32) (W had fr : Int32) : Int32 := if ax_f_bit had W = 0 then ax_f_les fr (s (22 + W.toInt.toNat)) else 0
def rm_vis (s : Nat → Int32) (last had : Int32) (A : Nat → Int32) : Nat → Int32 := rc_six fun j =>
  if j = 0 then A 0 + A 1 else if j = 1 then A 1
  else if j = 2 then (rc_in (s (12 + (A 0).toInt.toNat)) (s (2 + (A 0).toInt.toNat)) last (rm_many s (A 0) had (A 3)).toInt.toNat (A 2) (A 4)).1 + s 54
  else if j = 3 then A 3 - rm_many s (A 0) had (A 3)
  else if j = 4 then (rc_in (s (12 + (A 0).toInt.toNat)) (s (2 + (A 0).toInt.toNat)) last (rm_many s (A 0) had (A 3)).toInt.toNat (A 2) (A 4)).2
  else 0
/-- whose turn it is: 2 if nobody's -/
def rm_who (s : Nat → Int32) (A B : Nat → Int32) : Nat := if ax_f_win s (A 0) = 0 then (if ax_f_win s (B 0) = 0 then 2 else 1) else if ax_f_win s (B 0) = 0 then 0 else if A 2 ≤ B 2 then 0 else 1
def rm_it (s : Nat → Int32) (last : Int32) : Nat → (Nat → Int32) → (Nat → Int32) → Int32 → (Nat → Int32) × (Nat → Int32)
  | 0, A, B, _ => (A, B)
  | n + 1, A, B, had => if rm_who s A B = 2 then (A, B) else if rm_who s A B = 0 then rm_it s last n (rm_vis s last had A) B (had ||| (1 <<< (A 0 &&& 31))) else rm_it s last n A (rm_vis s last had B) (had ||| (1 <<< (B 0 &&& 31)))
theorem ax_ml0 (G : sx_G0 g L xs z9 hd_C ex_mt) {a b mn W had last w : Int32} (hW : 0 ≤ W.toInt ∧ W.toInt < 10) (hmn : mn.toInt ≤ 24) {post : Option (Option Value) → am_S → Prop} : ∀ (f : Nat) (k : Int32) (σ : am_S), ax_S σ → 0 ≤ k.toInt → (mn.toInt - k.toInt).toNat = f → (kk : ∀ τ : am_S, ax_S τ → τ.2.1 130 0 = (rc_in (σ.2.1 120 (12 + W.toInt.toNat)) (σ.2.1 120 (2 + W.toInt.toNat)) last f (σ.2.1 130 0) (σ.2.1 132 0)).1 → τ.2.1 132 0 = (rc_in (σ.2.1 120 (12 + W.toInt.toNat)) (σ.2.1 120 (2 + W.toInt.toNat)) last f (σ.2.1 130 0) (σ.2.1 132 0)).2 → (∀ x y, ¬ ((x = 130 ∨ x = 132) ∧ y = 0) → τ.2.1 x y = σ.2.1 x y) → ∀ k2 : Int32, am_K g 3 tX12_race.1 0 0 315 [(9, .int k2), (8, .int mn), (7, .int W), (6, .int 0), (5, .int had), (0, .ref 118), (1, .int a), (2, .int b), (3, .int last), (4, .int w)] [] τ post) → am_K g 3 tX12_race.1 0 0 248 [(9, .int k), (8, .int mn), (7, .int W), (6, .int 0), (5, .int had), (0, .ref 118), (1, .int a), (2, .int b), (3, .int last), (4, .int w)] [] σ post := by
  have z0 : ∀ x : Int32, x + 0 = x := fun x => Int32.add_zero x
  intro f
  induction f with
  | zero =>
    intro k σ hS hk hf kk
    refine kr_iload 0 rd_d_X12_race_248 rfl ?_
    refine kr_iload 1 rd_d_X12_race_250 rfl ?_
    refine kr_icmp_ge (tgt := 315) rd_d_X12_race_252 rfl (fun _ => ?_) (fun h => absurd (Int32.le_iff_toInt_le.mpr (by omega)) h)
    exact kk σ hS rfl rfl (fun _ _ _ => rfl) k
  | succ f ih =>
    intro k σ hS hk hf kk
    refine kr_iload 0 rd_d_X12_race_248 rfl ?_
    refine kr_iload 1 rd_d_X12_race_250 rfl ?_
    refine kr_icmp_ge (tgt := 315) rd_d_X12_race_252 rfl (fun h => by have := Int32.le_iff_toInt_le.mp h; omega) (fun _ => ?_)
    refine kr_aload_n 5 rd_d_X12_race_255 rfl ?_
    refine kr_getf G.1 (rd_FL rd_k_X12_race_256).1 rd_d_X12_race_256 (hS.1 118 (.inl 12) rfl) (v := .ref 130) (by unfold am_fa; rw [(rd_FL rd_k_X12_race_256).2]; exact hS.2 118 30 130 rfl) ?_
    refine kr_iload 3 rd_d_X12_race_259 rfl ?_
    refine kr_dup2 rd_d_X12_race_261 rfl rfl ?_
    refine kr_iald G.1 (n := 2) rd_d_X12_race_262 (hS.1 130 (.inr (.int, 2)) rfl) (hd_in (n := 0) (by decide) (by decide)) ?_
    rw [hd_clamp (n := 0) (by decide)]
    refine kr_aload_n 5 rd_d_X12_race_263 rfl ?_
    refine kr_getf G.1 (rd_FL rd_k_X12_race_264).1 rd_d_X12_race_264 (hS.1 118 (.inl 12) rfl) (v := .ref 120) (by unfold am_fa; rw [(rd_FL rd_k_X12_race_264).2]; exact hS.2 118 6 120 rfl) ?_
    refine kr_bipush (v := 12) rd_d_X12_race_267 (by decide) ?_
    refine kr_iload 2 rd_d_X12_race_269 rfl ?_
    refine kr_iadd rd_d_X12_race_271 ?_
    refine kr_iald G.1 (n := 277) rd_d_X12_race_272 (hS.1 120 (.inr (.int, 277)) rfl) (hd_in (n := 12 + W.toInt.toNat) (ax_ixn (C := 12) (by decide) (by decide) ⟨hW.1, Int.lt_trans hW.2 (by decide)⟩) (by omega)) ?_
    rw [hd_clamp (n := 12 + W.toInt.toNat) (ax_ixn (C := 12) (by decide) (by decide) ⟨hW.1, Int.lt_trans hW.2 (by decide)⟩)]
    refine kr_iadd rd_d_X12_race_273 ?_
    refine ax_astW G hS rd_d_X12_race_274 (n := 2) (hS.1 130 (.inr (.int, 2)) rfl) (ix := 0) (by decide) (by decide) ?_
    intro τ1 hT1 hw1 hf1
    have hsτ1 : τ1.2.1 120 = σ.2.1 120 := (ax_120F hf1 (by decide))
    have hqτ1 : ax_pl τ1.2.1 = ax_pl σ.2.1 := (ax_plF hf1 (by decide))
    refine kr_aload_n 5 rd_d_X12_race_275 rfl ?_
    refine kr_getf G.1 (rd_FL rd_k_X12_race_276).1 rd_d_X12_race_276 (hT1.1 118 (.inl 12) rfl) (v := .ref 132) (by unfold am_fa; rw [(rd_FL rd_k_X12_race_276).2]; exact hT1.2 118 32 132 rfl) ?_
    refine kr_iload 3 rd_d_X12_race_279 rfl ?_
    refine kr_dup2 rd_d_X12_race_281 rfl rfl ?_
    refine kr_iald G.1 (n := 2) rd_d_X12_race_282 (hT1.1 132 (.inr (.int, 2)) rfl) (hd_in (n := 0) (by decide) (by decide)) ?_
    rw [hd_clamp (n := 0) (by decide)]
    rw [show τ1.2.1 132 0 = σ.2.1 132 0 from hf1 132 0 (fun q => absurd q.1 (by decide))]
    refine kr_aload_n 5 rd_d_X12_race_283 rfl ?_
    refine kr_getf G.1 (rd_FL rd_k_X12_race_284).1 rd_d_X12_race_284 (hT1.1 118 (.inl 12) rfl) (v := .ref 130) (by unfold am_fa; rw [(rd_FL rd_k_X12_race_284).2]; exact hT1.2 118 30 130 rfl) ?_
    refine kr_iload 3 rd_d_X12_race_287 rfl ?_
    refine kr_iald G.1 (n := 2) rd_d_X12_race_289 (hT1.1 130 (.inr (.int, 2)) rfl) (hd_in (n := 0) (by decide) (by decide)) ?_
    rw [hd_clamp (n := 0) (by decide)]
    rw [show τ1.2.1 130 0 = (σ.2.1 130 0) + (σ.2.1 120 (12 + W.toInt.toNat)) from hw1]
    refine kr_iload_n 8 rd_d_X12_race_290 rfl ?_
    refine kr_icmp_gt (tgt := 306) rd_d_X12_race_291 rfl (fun h11 => ?_) (fun h11 => ?_)
    · refine kr_iconst (v := 0) rd_d_X12_race_306 (by decide) ?_
      refine kr_iadd rd_d_X12_race_307 ?_
      refine ax_astW G hT1 rd_d_X12_race_308 (n := 2) (hT1.1 132 (.inr (.int, 2)) rfl) (ix := 0) (by decide) (by decide) ?_
      intro τ2 hT2 hw2 hf2
      have hsτ2 : τ2.2.1 120 = σ.2.1 120 := (ax_120F hf2 (by decide)).trans hsτ1
      have hqτ2 : ax_pl τ2.2.1 = ax_pl σ.2.1 := (ax_plF hf2 (by decide)).trans hqτ1
      refine kr_iinc (v := k + 1) (lv' := [(9, .int (k + 1)), (8, .int mn), (7, .int W), (6, .int 0), (5, .int had), (0, .ref 118), (1, .int a), (2, .int b), (3, .int last), (4, .int w)]) 0 rd_d_X12_race_309 rfl rfl (by decide) rfl ?_
      refine kr_goto (tgt := 248) rd_d_X12_race_312 rfl ?_
      have e2 : τ2.2.1 130 0 = σ.2.1 130 0 + σ.2.1 120 (12 + W.toInt.toNat) := (hf2 130 0 (fun q => absurd q.1 (by decide))).trans (hw1)
      have e4 : τ2.2.1 132 0 = σ.2.1 132 0 := (hw2).trans (z0 _)
      have hl : ¬ σ.2.1 130 0 + σ.2.1 120 (12 + W.toInt.toNat) ≤ last := fun q => by have q1 := Int32.lt_iff_toInt_lt.mp h11; have q2 := Int32.le_iff_toInt_le.mp q; omega
      refine ih (k + 1) τ2 hT2 (by rw [ax_k1 hk (by omega)]; omega) (by rw [ax_k1 hk (by omega)]; omega) ?_
      intro τ9 a1 a2 a3 a4 k2
      rw [e2, e4, hsτ2] at a2 a3
      exact kk τ9 a1 (by rw [rc_in_s, if_neg hl]; exact a2) (by rw [rc_in_s, if_neg hl]; exact a3) (fun x y hx => (a4 x y hx).trans ((hf2 x y (fun q => hx ⟨Or.inr q.1, q.2⟩)).trans (hf1 x y (fun q => hx ⟨Or.inl q.1, q.2⟩)))) k2
    · refine kr_aload_n 5 rd_d_X12_race_294 rfl ?_
      refine kr_getf G.1 (rd_FL rd_k_X12_race_295).1 rd_d_X12_race_295 (hT1.1 118 (.inl 12) rfl) (v := .ref 120) (by unfold am_fa; rw [(rd_FL rd_k_X12_race_295).2]; exact hT1.2 118 6 120 rfl) ?_
      refine kr_iconst (v := 2) rd_d_X12_race_298 (by decide) ?_
      refine kr_iload 2 rd_d_X12_race_299 rfl ?_
      refine kr_iadd rd_d_X12_race_301 ?_
      refine kr_iald G.1 (n := 277) rd_d_X12_race_302 (hT1.1 120 (.inr (.int, 277)) rfl) (hd_in (n := 2 + W.toInt.toNat) (ax_ixn (C := 2) (by decide) (by decide) ⟨hW.1, Int.lt_trans hW.2 (by decide)⟩) (by omega)) ?_
      rw [hd_clamp (n := 2 + W.toInt.toNat) (ax_ixn (C := 2) (by decide) (by decide) ⟨hW.1, Int.lt_trans hW.2 (by decide)⟩)]
      rw [show τ1.2.1 120 (2 + W.toInt.toNat) = σ.2.1 120 (2 + W.toInt.toNat) from hf1 120 (2 + W.toInt.toNat) (fun q => absurd q.1 (by decide))]
      refine kr_goto (tgt := 307) rd_d_X12_race_303 rfl ?_
      refine kr_iadd rd_d_X12_race_307 ?_
      refine ax_astW G hT1 rd_d_X12_race_308 (n := 2) (hT1.1 132 (.inr (.int, 2)) rfl) (ix := 0) (by decide) (by decide) ?_
      intro τ3 hT3 hw3 hf3
      have hsτ3 : τ3.2.1 120 = σ.2.1 120 := (ax_120F hf3 (by decide)).trans hsτ1
      have hqτ3 : ax_pl τ3.2.1 = ax_pl σ.2.1 := (ax_plF hf3 (by decide)).trans hqτ1
      refine kr_iinc (v := k + 1) (lv' := [(9, .int (k + 1)), (8, .int mn), (7, .int W), (6, .int 0), (5, .int had), (0, .ref 118), (1, .int a), (2, .int b), (3, .int last), (4, .int w)]) 0 rd_d_X12_race_309 rfl rfl (by decide) rfl ?_
      refine kr_goto (tgt := 248) rd_d_X12_race_312 rfl ?_
      have e2 : τ3.2.1 130 0 = σ.2.1 130 0 + σ.2.1 120 (12 + W.toInt.toNat) := (hf3 130 0 (fun q => absurd q.1 (by decide))).trans (hw1)
      have e4 : τ3.2.1 132 0 = σ.2.1 132 0 + σ.2.1 120 (2 + W.toInt.toNat) := hw3
      have hl : σ.2.1 130 0 + σ.2.1 120 (12 + W.toInt.toNat) ≤ last := Int32.le_iff_toInt_le.mpr (by have : ¬ last.toInt < (σ.2.1 130 0 + σ.2.1 120 (12 + W.toInt.toNat)).toInt := fun q => h11 (Int32.lt_iff_toInt_lt.mpr q); omega)
      refine ih (k + 1) τ3 hT3 (by rw [ax_k1 hk (by omega)]; omega) (by rw [ax_k1 hk (by omega)]; omega) ?_
      intro τ9 a1 a2 a3 a4 k2
      rw [e2, e4, hsτ3] at a2 a3
      exact kk τ9 a1 (by rw [rc_in_s, if_pos hl]; exact a2) (by rw [rc_in_s, if_pos hl]; exact a3) (fun x y hx => (a4 x y hx).trans ((hf3 x y (fun q => hx ⟨Or.inr q.1, q.2⟩)).trans (hf1 x y (fun q => hx ⟨Or.inl q.1, q.2⟩)))) k2
theorem ax_ml1 (G : sx_G0 g L xs z9 hd_C ex_mt) {a b mn W had last w : Int32} (hW : 0 ≤ W.toInt ∧ W.toInt < 10) (hmn : mn.toInt ≤ 24) {post : Option (Option Value) → am_S → Prop} : ∀ (f : Nat) (k : Int32) (σ : am_S), ax_S σ → 0 ≤ k.toInt → (mn.toInt - k.toInt).toNat = f → (kk : ∀ τ : am_S, ax_S τ → τ.2.1 130 1 = (rc_in (σ.2.1 120 (12 + W.toInt.toNat)) (σ.2.1 120 (2 + W.toInt.toNat)) last f (σ.2.1 130 1) (σ.2.1 132 1)).1 → τ.2.1 132 1 = (rc_in (σ.2.1 120 (12 + W.toInt.toNat)) (σ.2.1 120 (2 + W.toInt.toNat)) last f (σ.2.1 130 1) (σ.2.1 132 1)).2 → (∀ x y, ¬ ((x = 130 ∨ x = 132) ∧ y = 1) → τ.2.1 x y = σ.2.1 x y) → ∀ k2 : Int32, am_K g 3 tX12_race.1 0 0 315 [(9, .int k2), (8, .int mn), (7, .int W), (6, .int 1), (5, .int had), (0, .ref 118), (1, .int a), (2, .int b), (3, .int last), (4, .int w)] [] τ post) → am_K g 3 tX12_race.1 0 0 248 [(9, .int k), (8, .int mn), (7, .int W), (6, .int 1), (5, .int had), (0, .ref 118), (1, .int a), (2, .int b), (3, .int last), (4, .int w)] [] σ post := by
  have z0 : ∀ x : Int32, x + 0 = x := fun x => Int32.add_zero x
  intro f
  induction f with
  | zero =>
    intro k σ hS hk hf kk
    refine kr_iload 0 rd_d_X12_race_248 rfl ?_
    refine kr_iload 1 rd_d_X12_race_250 rfl ?_
    refine kr_icmp_ge (tgt := 315) rd_d_X12_race_252 rfl (fun _ => ?_) (fun h => absurd (Int32.le_iff_toInt_le.mpr (by omega)) h)
    exact kk σ hS rfl rfl (fun _ _ _ => rfl) k
  | succ f ih =>
    intro k σ hS hk hf kk
    refine kr_iload 0 rd_d_X12_race_248 rfl ?_
    refine kr_iload 1 rd_d_X12_race_250 rfl ?_
    refine kr_icmp_ge (tgt := 315) rd_d_X12_race_252 rfl (fun h => by have := Int32.le_iff_toInt_le.mp h; omega) (fun _ => ?_)
    refine kr_aload_n 5 rd_d_X12_race_255 rfl ?_
    refine kr_getf G.1 (rd_FL rd_k_X12_race_256).1 rd_d_X12_race_256 (hS.1 118 (.inl 12) rfl) (v := .ref 130) (by unfold am_fa; rw [(rd_FL rd_k_X12_race_256).2]; exact hS.2 118 30 130 rfl) ?_
    refine kr_iload 3 rd_d_X12_race_259 rfl ?_
    refine kr_dup2 rd_d_X12_race_261 rfl rfl ?_
    refine kr_iald G.1 (n := 2) rd_d_X12_race_262 (hS.1 130 (.inr (.int, 2)) rfl) (hd_in (n := 1) (by decide) (by decide)) ?_
    rw [hd_clamp (n := 1) (by decide)]
    refine kr_aload_n 5 rd_d_X12_race_263 rfl ?_
    refine kr_getf G.1 (rd_FL rd_k_X12_race_264).1 rd_d_X12_race_264 (hS.1 118 (.inl 12) rfl) (v := .ref 120) (by unfold am_fa; rw [(rd_FL rd_k_X12_race_264).2]; exact hS.2 118 6 120 rfl) ?_
    refine kr_bipush (v := 12) rd_d_X12_race_267 (by decide) ?_
    refine kr_iload 2 rd_d_X12_race_269 rfl ?_
    refine kr_iadd rd_d_X12_race_271 ?_
    refine kr_iald G.1 (n := 277) rd_d_X12_race_272 (hS.1 120 (.inr (.int, 277)) rfl) (hd_in (n := 12 + W.toInt.toNat) (ax_ixn (C := 12) (by decide) (by decide) ⟨hW.1, Int.lt_trans hW.2 (by decide)⟩) (by omega)) ?_
    rw [hd_clamp (n := 12 + W.toInt.toNat) (ax_ixn (C := 12) (by decide) (by decide) ⟨hW.1, Int.lt_trans hW.2 (by decide)⟩)]
    refine kr_iadd rd_d_X12_race_273 ?_
    refine ax_astW G hS rd_d_X12_race_274 (n := 2) (hS.1 130 (.inr (.int, 2)) rfl) (ix := 1) (by decide) (by decide) ?_
    intro τ1 hT1 hw1 hf1
    have hsτ1 : τ1.2.1 120 = σ.2.1 120 := (ax_120F hf1 (by decide))
    have hqτ1 : ax_pl τ1.2.1 = ax_pl σ.2.1 := (ax_plF hf1 (by decide))
    refine kr_aload_n 5 rd_d_X12_race_275 rfl ?_
    refine kr_getf G.1 (rd_FL rd_k_X12_race_276).1 rd_d_X12_race_276 (hT1.1 118 (.inl 12) rfl) (v := .ref 132) (by unfold am_fa; rw [(rd_FL rd_k_X12_race_276).2]; exact hT1.2 118 32 132 rfl) ?_
    refine kr_iload 3 rd_d_X12_race_279 rfl ?_
    refine kr_dup2 rd_d_X12_race_281 rfl rfl ?_
    refine kr_iald G.1 (n := 2) rd_d_X12_race_282 (hT1.1 132 (.inr (.int, 2)) rfl) (hd_in (n := 1) (by decide) (by decide)) ?_
    rw [hd_clamp (n := 1) (by decide)]
    rw [show τ1.2.1 132 1 = σ.2.1 132 1 from hf1 132 1 (fun q => absurd q.1 (by decide))]
    refine kr_aload_n 5 rd_d_X12_race_283 rfl ?_
    refine kr_getf G.1 (rd_FL rd_k_X12_race_284).1 rd_d_X12_race_284 (hT1.1 118 (.inl 12) rfl) (v := .ref 130) (by unfold am_fa; rw [(rd_FL rd_k_X12_race_284).2]; exact hT1.2 118 30 130 rfl) ?_
    refine kr_iload 3 rd_d_X12_race_287 rfl ?_
    refine kr_iald G.1 (n := 2) rd_d_X12_race_289 (hT1.1 130 (.inr (.int, 2)) rfl) (hd_in (n := 1) (by decide) (by decide)) ?_
    rw [hd_clamp (n := 1) (by decide)]
    rw [show τ1.2.1 130 1 = (σ.2.1 130 1) + (σ.2.1 120 (12 + W.toInt.toNat)) from hw1]
    refine kr_iload_n 8 rd_d_X12_race_290 rfl ?_
    refine kr_icmp_gt (tgt := 306) rd_d_X12_race_291 rfl (fun h11 => ?_) (fun h11 => ?_)
    · refine kr_iconst (v := 0) rd_d_X12_race_306 (by decide) ?_
      refine kr_iadd rd_d_X12_race_307 ?_
      refine ax_astW G hT1 rd_d_X12_race_308 (n := 2) (hT1.1 132 (.inr (.int, 2)) rfl) (ix := 1) (by decide) (by decide) ?_
      intro τ2 hT2 hw2 hf2
      have hsτ2 : τ2.2.1 120 = σ.2.1 120 := (ax_120F hf2 (by decide)).trans hsτ1
      have hqτ2 : ax_pl τ2.2.1 = ax_pl σ.2.1 := (ax_plF hf2 (by decide)).trans hqτ1
      refine kr_iinc (v := k + 1) (lv' := [(9, .int (k + 1)), (8, .int mn), (7, .int W), (6, .int 1), (5, .int had), (0, .ref 118), (1, .int a), (2, .int b), (3, .int last), (4, .int w)]) 0 rd_d_X12_race_309 rfl rfl (by decide) rfl ?_
      refine kr_goto (tgt := 248) rd_d_X12_race_312 rfl ?_
      have e2 : τ2.2.1 130 1 = σ.2.1 130 1 + σ.2.1 120 (12 + W.toInt.toNat) := (hf2 130 1 (fun q => absurd q.1 (by decide))).trans (hw1)
      have e4 : τ2.2.1 132 1 = σ.2.1 132 1 := (hw2).trans (z0 _)
      have hl : ¬ σ.2.1 130 1 + σ.2.1 120 (12 + W.toInt.toNat) ≤ last := fun q => by have q1 := Int32.lt_iff_toInt_lt.mp h11; have q2 := Int32.le_iff_toInt_le.mp q; omega
      refine ih (k + 1) τ2 hT2 (by rw [ax_k1 hk (by omega)]; omega) (by rw [ax_k1 hk (by omega)]; omega) ?_
      intro τ9 a1 a2 a3 a4 k2
      rw [e2, e4, hsτ2] at a2 a3
      exact kk τ9 a1 (by rw [rc_in_s, if_neg hl]; exact a2) (by rw [rc_in_s, if_neg hl]; exact a3) (fun x y hx => (a4 x y hx).trans ((hf2 x y (fun q => hx ⟨Or.inr q.1, q.2⟩)).trans (hf1 x y (fun q => hx ⟨Or.inl q.1, q.2⟩)))) k2
    · refine kr_aload_n 5 rd_d_X12_race_294 rfl ?_
      refine kr_getf G.1 (rd_FL rd_k_X12_race_295).1 rd_d_X12_race_295 (hT1.1 118 (.inl 12) rfl) (v := .ref 120) (by unfold am_fa; rw [(rd_FL rd_k_X12_race_295).2]; exact hT1.2 118 6 120 rfl) ?_
      refine kr_iconst (v := 2) rd_d_X12_race_298 (by decide) ?_
      refine kr_iload 2 rd_d_X12_race_299 rfl ?_
      refine kr_iadd rd_d_X12_race_301 ?_
      refine kr_iald G.1 (n := 277) rd_d_X12_race_302 (hT1.1 120 (.inr (.int, 277)) rfl) (hd_in (n := 2 + W.toInt.toNat) (ax_ixn (C := 2) (by decide) (by decide) ⟨hW.1, Int.lt_trans hW.2 (by decide)⟩) (by omega)) ?_
      rw [hd_clamp (n := 2 + W.toInt.toNat) (ax_ixn (C := 2) (by decide) (by decide) ⟨hW.1, Int.lt_trans hW.2 (by decide)⟩)]
      rw [show τ1.2.1 120 (2 + W.toInt.toNat) = σ.2.1 120 (2 + W.toInt.toNat) from hf1 120 (2 + W.toInt.toNat) (fun q => absurd q.1 (by decide))]
      refine kr_goto (tgt := 307) rd_d_X12_race_303 rfl ?_
      refine kr_iadd rd_d_X12_race_307 ?_
      refine ax_astW G hT1 rd_d_X12_race_308 (n := 2) (hT1.1 132 (.inr (.int, 2)) rfl) (ix := 1) (by decide) (by decide) ?_
      intro τ3 hT3 hw3 hf3
      have hsτ3 : τ3.2.1 120 = σ.2.1 120 := (ax_120F hf3 (by decide)).trans hsτ1
      have hqτ3 : ax_pl τ3.2.1 = ax_pl σ.2.1 := (ax_plF hf3 (by decide)).trans hqτ1
      refine kr_iinc (v := k + 1) (lv' := [(9, .int (k + 1)), (8, .int mn), (7, .int W), (6, .int 1), (5, .int had), (0, .ref 118), (1, .int a), (2, .int b), (3, .int last), (4, .int w)]) 0 rd_d_X12_race_309 rfl rfl (by decide) rfl ?_
      refine kr_goto (tgt := 248) rd_d_X12_race_312 rfl ?_
      have e2 : τ3.2.1 130 1 = σ.2.1 130 1 + σ.2.1 120 (12 + W.toInt.toNat) := (hf3 130 1 (fun q => absurd q.1 (by decide))).trans (hw1)
      have e4 : τ3.2.1 132 1 = σ.2.1 132 1 + σ.2.1 120 (2 + W.toInt.toNat) := hw3
      have hl : σ.2.1 130 1 + σ.2.1 120 (12 + W.toInt.toNat) ≤ last := Int32.le_iff_toInt_le.mpr (by have : ¬ last.toInt < (σ.2.1 130 1 + σ.2.1 120 (12 + W.toInt.toNat)).toInt := fun q => h11 (Int32.lt_iff_toInt_lt.mpr q); omega)
      refine ih (k + 1) τ3 hT3 (by rw [ax_k1 hk (by omega)]; omega) (by rw [ax_k1 hk (by omega)]; omega) ?_
      intro τ9 a1 a2 a3 a4 k2
      rw [e2, e4, hsτ3] at a2 a3
      exact kk τ9 a1 (by rw [rc_in_s, if_pos hl]; exact a2) (by rw [rc_in_s, if_pos hl]; exact a3) (fun x y hx => (a4 x y hx).trans ((hf3 x y (fun q => hx ⟨Or.inr q.1, q.2⟩)).trans (hf1 x y (fun q => hx ⟨Or.inl q.1, q.2⟩)))) k2
theorem rm_many_le {s : Nat → Int32} (ho : ∀ k, k < 10 → (s (22 + k)).toInt ≤ 24) {a b c : Int32} (ha : 0 ≤ a.toInt ∧ a.toInt < 10) : (rm_many s a b c).toInt ≤ 24 := by
  unfold rm_many
  have := ho a.toInt.toNat (by omega)
  split
  · unfold ax_f_les
    split
    · exact this
    · rename_i h
      have h' : ¬ (s (22 + a.toInt.toNat)).toInt ≤ c.toInt := fun q => h (Int32.le_iff_toInt_le.mpr q)
      omega
  · decide
/-- how far they have to go yet -/
def rm_rem (s : Nat → Int32) (A B : Nat → Int32) : Nat := (if ax_f_win s (A 0) = 0 then 0 else ((s 0).toInt - (A 0).toInt).toNat) + (if ax_f_win s (B 0) = 0 then 0 else ((B 0).toInt + 1).toNat)
theorem rm_remA {s A B A' : Nat → Int32} (b : pl_B s) (hA : ¬ ax_f_win s (A 0) = 0) (e : A' 0 = A 0 + 1) : rm_rem s A' B + 1 ≤ rm_rem s A B := by
  obtain ⟨w1, w2, w3⟩ := ax_winI b hA
  have z1 : (1 : Int32).toInt = 1 := rfl
  have e1 := sx_addI (A 0) 1 (by show (-2147483648 : Int) ≤ _; omega) (by show _ ≤ (2147483647 : Int); omega)
  unfold rm_rem
  rw [if_neg hA, e]
  split
  · omega
  · omega
theorem rm_remB {s A B B' : Nat → Int32} (b : pl_B s) (hB : ¬ ax_f_win s (B 0) = 0) (e : B' 0 = B 0 + (-1)) : rm_rem s A B' + 1 ≤ rm_rem s A B := by
  obtain ⟨w1, w2, w3⟩ := ax_winI b hB
  have z1 : ((-1 : Int32)).toInt = -1 := rfl
  have e1 := sx_addI (B 0) (-1) (by show (-2147483648 : Int) ≤ _; omega) (by show _ ≤ (2147483647 : Int); omega)
  unfold rm_rem
  rw [if_neg hB, e]
  split <;> split <;> omega
theorem rm_rem0 {s A B : Nat → Int32} (b : pl_B s) (h : rm_rem s A B ≤ 0) : ax_f_win s (A 0) = 0 ∧ ax_f_win s (B 0) = 0 := by
  unfold rm_rem at h
  refine ⟨?_, ?_⟩
  · by_cases q : ax_f_win s (A 0) = 0
    · exact q
    · rw [if_neg q] at h
      obtain ⟨w1, w2, w3⟩ := ax_winI b q
      omega
  · by_cases q : ax_f_win s (B 0) = 0
    · exact q
    · rw [if_neg (c := ax_f_win s (B 0) = 0) q] at h
      obtain ⟨w1, w2, w3⟩ := ax_winI b q
      omega
theorem ax_rlM (G : sx_G0 g L xs z9 hd_C ex_mt) (a b c w : Int32) (hw : 0 ≤ w.toInt ∧ w.toInt < 2) : ∀ (f : Nat) (had : Int32) (σ : am_S), ax_S σ → pl_B (σ.2.1 120) → (∀ k, k < 10 → (σ.2.1 120 (22 + k)).toInt ≤ 24) → rm_rem (σ.2.1 120) (rm_A σ.2.1 0 1) (rm_A σ.2.1 1 (-1)) ≤ f → am_K g 3 tX12_race.1 0 0 105 [(5, .int had), (0, .ref 118), (1, .int a), (2, .int b), (3, .int c), (4, .int w)] [] σ (fun r _ => r = some (some (.int (rc_out w (rm_it (σ.2.1 120) c f (rm_A σ.2.1 0 1) (rm_A σ.2.1 1 (-1)) had))))) := by
  have hw01 : w = 0 ∨ w = 1 := by
    have z0 : (0 : Int32).toInt = 0 := rfl
    have z1 : (1 : Int32).toInt = 1 := rfl
    have h2 : w.toInt = 0 ∨ w.toInt = 1 := by omega
    rcases h2 with h2 | h2
    · exact Or.inl (Int32.toInt_inj.mp (by omega))
    · exact Or.inr (Int32.toInt_inj.mp (by omega))
  have fin : ∀ (lv : List (Nat × Value)) (σ : am_S), ax_S σ → lv[0]? = some (5, Value.int 0) ∨ True → (0, Value.ref 118) ∈ lv → (4, Value.int w) ∈ lv → am_K g 3 tX12_race.1 0 0 355 lv [] σ (fun r _ => r = some (some (.int (rc_out w ((rm_A σ.2.1 0 1), (rm_A σ.2.1 1 (-1))))))) := by
    intro lv σ hS _ m0 m4
    refine kr_sub (lv' := [(0, .ref 118), (4, .int w)]) (by intro q hq; simp only [List.mem_cons, List.not_mem_nil, or_false] at hq; rcases hq with rfl | rfl; exact m0; exact m4) ?_
    refine kr_aload_n 0 rd_d_X12_race_355 rfl ?_
    refine kr_getf G.1 (rd_FL rd_k_X12_race_356).1 rd_d_X12_race_356 (hS.1 118 (.inl 12) rfl) (v := .ref 132) (by unfold am_fa; rw [(rd_FL rd_k_X12_race_356).2]; exact hS.2 118 32 132 rfl) ?_
    refine kr_iload 1 rd_d_X12_race_359 rfl ?_
    rcases hw01 with rfl | rfl
    · refine kr_iald G.1 (n := 2) rd_d_X12_race_361 (hS.1 132 (.inr (.int, 2)) rfl) (hd_in (n := 0) (by decide) (by decide)) ?_
      exact kr_ireturn rd_d_X12_race_362 (ty := .int) rfl rfl rfl
    · refine kr_iald G.1 (n := 2) rd_d_X12_race_361 (hS.1 132 (.inr (.int, 2)) rfl) (hd_in (n := 1) (by decide) (by decide)) ?_
      exact kr_ireturn rd_d_X12_race_362 (ty := .int) rfl rfl rfl
  intro f
  induction f with
  | zero =>
    intro had σ hS hb ho hr
    refine kr_aload_n 1 rd_d_X12_race_105 rfl ?_
    refine kr_aload_n 1 rd_d_X12_race_106 rfl ?_
    refine kr_getf G.1 (rd_FL rd_k_X12_race_107).1 rd_d_X12_race_107 (hS.1 118 (.inl 12) rfl) (v := .ref 129) (by unfold am_fa; rw [(rd_FL rd_k_X12_race_107).2]; exact hS.2 118 29 129 rfl) ?_
    refine kr_iconst (v := 0) rd_d_X12_race_110 (by decide) ?_
    refine kr_iald G.1 (n := 2) rd_d_X12_race_111 (hS.1 129 (.inr (.int, 2)) rfl) (hd_in (n := 0) (by decide) (by decide)) ?_
    rw [hd_clamp (n := 0) (by decide)]
    refine rd_call G (T2 := tX12_isWindow) rfl rd_d_X12_race_112 rd_k_X12_race_112 rfl (hS.1 118 (.inl 12) rfl) (as := [.int (σ.2.1 129 0)]) (st := []) rfl (Nat.le_of_ble_eq_true rfl) rfl (Nat.le_of_ble_eq_true rfl) (d1 := 2) (by decide) (fun _ h => by cases h.1) (ax_win G hS (σ.2.1 129 0)) ?_
    intro v1 σ1 ⟨hv1, hs1⟩
    cases hv1
    rw [hs1]
    refine kr_if_ne (tgt := 131) rd_d_X12_race_115 rfl (fun h2 => ?_) (fun h2 => ?_)
    · exact absurd (rm_rem0 hb hr).1 h2
    · refine kr_aload_n 1 rd_d_X12_race_118 rfl ?_
      refine kr_aload_n 1 rd_d_X12_race_119 rfl ?_
      refine kr_getf G.1 (rd_FL rd_k_X12_race_120).1 rd_d_X12_race_120 (hS.1 118 (.inl 12) rfl) (v := .ref 129) (by unfold am_fa; rw [(rd_FL rd_k_X12_race_120).2]; exact hS.2 118 29 129 rfl) ?_
      refine kr_iconst (v := 1) rd_d_X12_race_123 (by decide) ?_
      refine kr_iald G.1 (n := 2) rd_d_X12_race_124 (hS.1 129 (.inr (.int, 2)) rfl) (hd_in (n := 1) (by decide) (by decide)) ?_
      rw [hd_clamp (n := 1) (by decide)]
      refine rd_call G (T2 := tX12_isWindow) rfl rd_d_X12_race_125 rd_k_X12_race_125 rfl (hS.1 118 (.inl 12) rfl) (as := [.int (σ.2.1 129 1)]) (st := []) rfl (Nat.le_of_ble_eq_true rfl) rfl (Nat.le_of_ble_eq_true rfl) (d1 := 2) (by decide) (fun _ h => by cases h.1) (ax_win G hS (σ.2.1 129 1)) ?_
      intro v3 σ3 ⟨hv3, hs3⟩
      cases hv3
      rw [hs3]
      refine kr_if_eq (tgt := 355) rd_d_X12_race_128 rfl (fun h4 => ?_) (fun h4 => ?_)
      · exact fin _ σ hS (Or.inr trivial) (by simp) (by simp)
      · exact absurd (rm_rem0 hb hr).2 h4
  | succ f ih =>
    intro had σ hS hb ho hr
    refine kr_aload_n 1 rd_d_X12_race_105 rfl ?_
    refine kr_aload_n 1 rd_d_X12_race_106 rfl ?_
    refine kr_getf G.1 (rd_FL rd_k_X12_race_107).1 rd_d_X12_race_107 (hS.1 118 (.inl 12) rfl) (v := .ref 129) (by unfold am_fa; rw [(rd_FL rd_k_X12_race_107).2]; exact hS.2 118 29 129 rfl) ?_
    refine kr_iconst (v := 0) rd_d_X12_race_110 (by decide) ?_
    refine kr_iald G.1 (n := 2) rd_d_X12_race_111 (hS.1 129 (.inr (.int, 2)) rfl) (hd_in (n := 0) (by decide) (by decide)) ?_
    rw [hd_clamp (n := 0) (by decide)]
    refine rd_call G (T2 := tX12_isWindow) rfl rd_d_X12_race_112 rd_k_X12_race_112 rfl (hS.1 118 (.inl 12) rfl) (as := [.int (σ.2.1 129 0)]) (st := []) rfl (Nat.le_of_ble_eq_true rfl) rfl (Nat.le_of_ble_eq_true rfl) (d1 := 2) (by decide) (fun _ h => by cases h.1) (ax_win G hS (σ.2.1 129 0)) ?_
    intro v1 σ1 ⟨hv1, hs1⟩
    cases hv1
    rw [hs1]
    refine kr_if_ne (tgt := 131) rd_d_X12_race_115 rfl (fun h2 => ?_) (fun h2 => ?_)
    · refine kr_aload_n 1 rd_d_X12_race_131 rfl ?_
      refine kr_aload_n 1 rd_d_X12_race_132 rfl ?_
      refine kr_getf G.1 (rd_FL rd_k_X12_race_133).1 rd_d_X12_race_133 (hS.1 118 (.inl 12) rfl) (v := .ref 129) (by unfold am_fa; rw [(rd_FL rd_k_X12_race_133).2]; exact hS.2 118 29 129 rfl) ?_
      refine kr_iconst (v := 0) rd_d_X12_race_136 (by decide) ?_
      refine kr_iald G.1 (n := 2) rd_d_X12_race_137 (hS.1 129 (.inr (.int, 2)) rfl) (hd_in (n := 0) (by decide) (by decide)) ?_
      rw [hd_clamp (n := 0) (by decide)]
      refine rd_call G (T2 := tX12_isWindow) rfl rd_d_X12_race_138 rd_k_X12_race_138 rfl (hS.1 118 (.inl 12) rfl) (as := [.int (σ.2.1 129 0)]) (st := []) rfl (Nat.le_of_ble_eq_true rfl) rfl (Nat.le_of_ble_eq_true rfl) (d1 := 2) (by decide) (fun _ h => by cases h.1) (ax_win G hS (σ.2.1 129 0)) ?_
      intro v3 σ3 ⟨hv3, hs3⟩
      cases hv3
      rw [hs3]
      refine kr_if_eq (tgt := 172) rd_d_X12_race_141 rfl (fun h => absurd h h2) (fun h => ?_)
      refine kr_aload_n 1 rd_d_X12_race_144 rfl ?_
      refine kr_aload_n 1 rd_d_X12_race_145 rfl ?_
      refine kr_getf G.1 (rd_FL rd_k_X12_race_146).1 rd_d_X12_race_146 (hS.1 118 (.inl 12) rfl) (v := .ref 129) (by unfold am_fa; rw [(rd_FL rd_k_X12_race_146).2]; exact hS.2 118 29 129 rfl) ?_
      refine kr_iconst (v := 1) rd_d_X12_race_149 (by decide) ?_
      refine kr_iald G.1 (n := 2) rd_d_X12_race_150 (hS.1 129 (.inr (.int, 2)) rfl) (hd_in (n := 1) (by decide) (by decide)) ?_
      rw [hd_clamp (n := 1) (by decide)]
      refine rd_call G (T2 := tX12_isWindow) rfl rd_d_X12_race_151 rd_k_X12_race_151 rfl (hS.1 118 (.inl 12) rfl) (as := [.int (σ.2.1 129 1)]) (st := []) rfl (Nat.le_of_ble_eq_true rfl) rfl (Nat.le_of_ble_eq_true rfl) (d1 := 2) (by decide) (fun _ h => by cases h.1) (ax_win G hS (σ.2.1 129 1)) ?_
      intro v5 σ5 ⟨hv5, hs5⟩
      cases hv5
      rw [hs5]
      refine kr_if_eq (tgt := 176) rd_d_X12_race_154 rfl (fun h6 => ?_) (fun h6 => ?_)
      · refine kr_iconst (v := 0) rd_d_X12_race_176 (by decide) ?_
        refine kr_istore (lv' := [(6, .int 0), (5, .int had), (0, .ref 118), (1, .int a), (2, .int b), (3, .int c), (4, .int w)]) rd_d_X12_race_177 (by decide) rfl ?_
        refine kr_aload_n 2 rd_d_X12_race_179 rfl ?_
        refine kr_getf G.1 (rd_FL rd_k_X12_race_180).1 rd_d_X12_race_180 (hS.1 118 (.inl 12) rfl) (v := .ref 129) (by unfold am_fa; rw [(rd_FL rd_k_X12_race_180).2]; exact hS.2 118 29 129 rfl) ?_
        refine kr_iload 0 rd_d_X12_race_183 rfl ?_
        refine kr_iald G.1 (n := 2) rd_d_X12_race_185 (hS.1 129 (.inr (.int, 2)) rfl) (hd_in (n := 0) (by decide) (by decide)) ?_
        rw [hd_clamp (n := 0) (by decide)]
        refine kr_istore (lv' := [(7, .int (σ.2.1 129 0)), (6, .int 0), (5, .int had), (0, .ref 118), (1, .int a), (2, .int b), (3, .int c), (4, .int w)]) rd_d_X12_race_186 (by decide) rfl ?_
        refine kr_iload 2 rd_d_X12_race_188 rfl ?_
        refine kr_iload 0 rd_d_X12_race_190 rfl ?_
        refine rd_callS G (T2 := tX12_bitOf) rfl rd_d_X12_race_192 rd_k_X12_race_192 rfl rfl (as := [.int had, .int (σ.2.1 129 0)]) (st := []) rfl (Nat.le_of_ble_eq_true rfl) rfl (Nat.le_of_ble_eq_true rfl) (d1 := 1) (by decide) (fun _ h => by cases h.1) (ax_bit G hS had (σ.2.1 129 0)) ?_
        intro v7 σ7 ⟨hv7, hs7⟩
        cases hv7
        rw [hs7]
        refine kr_if_eq (tgt := 202) rd_d_X12_race_195 rfl (fun h8 => ?_) (fun h8 => ?_)
        · refine kr_aload_n 3 rd_d_X12_race_202 rfl ?_
          refine kr_getf G.1 (rd_FL rd_k_X12_race_203).1 rd_d_X12_race_203 (hS.1 118 (.inl 12) rfl) (v := .ref 131) (by unfold am_fa; rw [(rd_FL rd_k_X12_race_203).2]; exact hS.2 118 31 131 rfl) ?_
          refine kr_iload 1 rd_d_X12_race_206 rfl ?_
          refine kr_iald G.1 (n := 2) rd_d_X12_race_208 (hS.1 131 (.inr (.int, 2)) rfl) (hd_in (n := 0) (by decide) (by decide)) ?_
          rw [hd_clamp (n := 0) (by decide)]
          refine kr_aload_n 3 rd_d_X12_race_209 rfl ?_
          refine kr_getf G.1 (rd_FL rd_k_X12_race_210).1 rd_d_X12_race_210 (hS.1 118 (.inl 12) rfl) (v := .ref 120) (by unfold am_fa; rw [(rd_FL rd_k_X12_race_210).2]; exact hS.2 118 6 120 rfl) ?_
          refine kr_bipush (v := 22) rd_d_X12_race_213 (by decide) ?_
          refine kr_iload 0 rd_d_X12_race_215 rfl ?_
          refine kr_iadd rd_d_X12_race_217 ?_
          refine kr_iald G.1 (n := 277) rd_d_X12_race_218 (hS.1 120 (.inr (.int, 277)) rfl) (hd_in (n := 22 + (σ.2.1 129 0).toInt.toNat) (ax_ixn (C := 22) (by decide) (by decide) ⟨(ax_win10 hb h2).1, Int.lt_trans (ax_win10 hb h2).2 (by decide)⟩) (by have := ax_win10 hb h2; omega)) ?_
          rw [hd_clamp (n := 22 + (σ.2.1 129 0).toInt.toNat) (ax_ixn (C := 22) (by decide) (by decide) ⟨(ax_win10 hb h2).1, Int.lt_trans (ax_win10 hb h2).2 (by decide)⟩)]
          refine rd_callS G (T2 := tX12_lesser) rfl rd_d_X12_race_219 rd_k_X12_race_219 rfl rfl (as := [.int (σ.2.1 131 0), .int (σ.2.1 120 (22 + (σ.2.1 129 0).toInt.toNat))]) (st := []) rfl (Nat.le_of_ble_eq_true rfl) rfl (Nat.le_of_ble_eq_true rfl) (d1 := 1) (by decide) (fun _ h => by cases h.1) (ax_les G hS (σ.2.1 131 0) (σ.2.1 120 (22 + (σ.2.1 129 0).toInt.toNat))) ?_
          intro v9 σ9 ⟨hv9, hs9⟩
          cases hv9
          rw [hs9]
          refine kr_istore (lv' := [(8, .int (ax_f_les (σ.2.1 131 0) (σ.2.1 120 (22 + (σ.2.1 129 0).toInt.toNat)))), (7, .int (σ.2.1 129 0)), (6, .int 0), (5, .int had), (0, .ref 118), (1, .int a), (2, .int b), (3, .int c), (4, .int w)]) rd_d_X12_race_222 (by decide) rfl ?_
          refine kr_iload 3 rd_d_X12_race_224 rfl ?_
          refine kr_iconst (v := 1) rd_d_X12_race_226 (by decide) ?_
          refine kr_iload 1 rd_d_X12_race_227 rfl ?_
          refine kr_ishl rd_d_X12_race_229 ?_
          refine kr_ior rd_d_X12_race_230 ?_
          refine kr_istore (lv' := [(5, .int (had ||| (1 <<< ((σ.2.1 129 0) &&& 31)))), (8, .int (ax_f_les (σ.2.1 131 0) (σ.2.1 120 (22 + (σ.2.1 129 0).toInt.toNat)))), (7, .int (σ.2.1 129 0)), (6, .int 0), (0, .ref 118), (1, .int a), (2, .int b), (3, .int c), (4, .int w)]) rd_d_X12_race_231 (by decide) rfl ?_
          refine kr_aload_n 4 rd_d_X12_race_233 rfl ?_
          refine kr_getf G.1 (rd_FL rd_k_X12_race_234).1 rd_d_X12_race_234 (hS.1 118 (.inl 12) rfl) (v := .ref 131) (by unfold am_fa; rw [(rd_FL rd_k_X12_race_234).2]; exact hS.2 118 31 131 rfl) ?_
          refine kr_iload 3 rd_d_X12_race_237 rfl ?_
          refine kr_dup2 rd_d_X12_race_239 rfl rfl ?_
          refine kr_iald G.1 (n := 2) rd_d_X12_race_240 (hS.1 131 (.inr (.int, 2)) rfl) (hd_in (n := 0) (by decide) (by decide)) ?_
          rw [hd_clamp (n := 0) (by decide)]
          refine kr_iload 1 rd_d_X12_race_241 rfl ?_
          refine kr_isub rd_d_X12_race_243 ?_
          refine ax_astW G hS rd_d_X12_race_244 (n := 2) (hS.1 131 (.inr (.int, 2)) rfl) (ix := 0) (by decide) (by decide) ?_
          intro τ1 hT1 hw1 hf1
          have hsτ1 : τ1.2.1 120 = σ.2.1 120 := (ax_120F hf1 (by decide))
          have hqτ1 : ax_pl τ1.2.1 = ax_pl σ.2.1 := (ax_plF hf1 (by decide))
          refine kr_iconst (v := 0) rd_d_X12_race_245 (by decide) ?_
          refine kr_istore (lv' := [(9, .int 0), (5, .int (had ||| (1 <<< ((σ.2.1 129 0) &&& 31)))), (8, .int (ax_f_les (σ.2.1 131 0) (σ.2.1 120 (22 + (σ.2.1 129 0).toInt.toNat)))), (7, .int (σ.2.1 129 0)), (6, .int 0), (0, .ref 118), (1, .int a), (2, .int b), (3, .int c), (4, .int w)]) rd_d_X12_race_246 (by decide) rfl ?_
          have hm : rm_many (σ.2.1 120) (σ.2.1 129 0) had (σ.2.1 131 0) = ax_f_les (σ.2.1 131 0) (σ.2.1 120 (22 + (σ.2.1 129 0).toInt.toNat)) := by rw [rm_many, if_pos h8]
          have hle := rm_many_le ho (b := had) (c := σ.2.1 131 0) (ax_win10 hb h2)
          rw [hm] at hle
          refine kr_sub (lv' := [(9, .int 0), (8, .int (ax_f_les (σ.2.1 131 0) (σ.2.1 120 (22 + (σ.2.1 129 0).toInt.toNat)))), (7, .int (σ.2.1 129 0)), (6, .int 0), (5, .int (had ||| (1 <<< ((σ.2.1 129 0) &&& 31)))), (0, .ref 118), (1, .int a), (2, .int b), (3, .int c), (4, .int w)]) (by simp) ?_
          refine ax_ml0 G (ax_win10 hb h2) hle (ax_f_les (σ.2.1 131 0) (σ.2.1 120 (22 + (σ.2.1 129 0).toInt.toNat))).toInt.toNat 0 τ1 hT1 (by decide) (by show ((ax_f_les (σ.2.1 131 0) (σ.2.1 120 (22 + (σ.2.1 129 0).toInt.toNat))).toInt - 0).toNat = _; rw [Int.sub_zero]) ?_
          intro μ hU u2 u4 uf k2
          rw [hsτ1, show τ1.2.1 130 0 = σ.2.1 130 0 from hf1 130 0 (fun q => absurd q.1 (by decide)), show τ1.2.1 132 0 = σ.2.1 132 0 from hf1 132 0 (fun q => absurd q.1 (by decide))] at u2 u4
          have hs0 : μ.2.1 120 = σ.2.1 120 := (funext fun y => uf 120 y (fun z => absurd z.1 (by decide))).trans hsτ1
          have m29 : ∀ y, μ.2.1 129 y = σ.2.1 129 y := fun y => (uf 129 y (fun z => absurd z.1 (by decide))).trans (hf1 129 y (fun z => absurd z.1 (by decide)))
          have m31 : μ.2.1 131 0 = σ.2.1 131 0 - (ax_f_les (σ.2.1 131 0) (σ.2.1 120 (22 + (σ.2.1 129 0).toInt.toNat))) := (uf 131 0 (fun z => absurd z.1 (by decide))).trans (hw1)
          have o30 : μ.2.1 130 1 = σ.2.1 130 1 := (uf 130 1 (fun z => absurd z.2 (by decide))).trans (hf1 130 1 (fun q => absurd q.1 (by decide)))
          have o32 : μ.2.1 132 1 = σ.2.1 132 1 := (uf 132 1 (fun z => absurd z.2 (by decide))).trans (hf1 132 1 (fun q => absurd q.1 (by decide)))
          have o31 : μ.2.1 131 1 = σ.2.1 131 1 := (uf 131 1 (fun z => absurd z.1 (by decide))).trans (hf1 131 1 (fun q => absurd q.2 (by decide)))
          have hwho : rm_who (σ.2.1 120) (rm_A σ.2.1 0 1) (rm_A σ.2.1 1 (-1)) = 0 := by
            show (if ax_f_win (σ.2.1 120) (σ.2.1 129 0) = 0 then (if ax_f_win (σ.2.1 120) (σ.2.1 129 1) = 0 then 2 else 1) else if ax_f_win (σ.2.1 120) (σ.2.1 129 1) = 0 then 0 else if σ.2.1 130 0 ≤ σ.2.1 130 1 then 0 else 1) = _
            rw [if_neg h2, if_pos h6]
          refine kr_aload_n 5 rd_d_X12_race_315 rfl ?_
          refine kr_getf G.1 (rd_FL rd_k_X12_race_316).1 rd_d_X12_race_316 (hU.1 118 (.inl 12) rfl) (v := .ref 130) (by unfold am_fa; rw [(rd_FL rd_k_X12_race_316).2]; exact hU.2 118 30 130 rfl) ?_
          refine kr_iload 3 rd_d_X12_race_319 rfl ?_
          refine kr_dup2 rd_d_X12_race_321 rfl rfl ?_
          refine kr_iald G.1 (n := 2) rd_d_X12_race_322 (hU.1 130 (.inr (.int, 2)) rfl) (hd_in (n := 0) (by decide) (by decide)) ?_
          rw [hd_clamp (n := 0) (by decide)]
          refine kr_aload_n 5 rd_d_X12_race_323 rfl ?_
          refine kr_getf G.1 (rd_FL rd_k_X12_race_324).1 rd_d_X12_race_324 (hU.1 118 (.inl 12) rfl) (v := .ref 120) (by unfold am_fa; rw [(rd_FL rd_k_X12_race_324).2]; exact hU.2 118 6 120 rfl) ?_
          refine kr_bipush (v := 54) rd_d_X12_race_327 (by decide) ?_
          refine kr_iald G.1 (n := 277) rd_d_X12_race_329 (hU.1 120 (.inr (.int, 277)) rfl) (hd_in (n := 54) (by decide) (by decide)) ?_
          rw [hd_clamp (n := 54) (by decide)]
          refine kr_iadd rd_d_X12_race_330 ?_
          refine ax_astW G hU rd_d_X12_race_331 (n := 2) (hU.1 130 (.inr (.int, 2)) rfl) (ix := 0) (by decide) (by decide) ?_
          intro τm1 hTm1 hwm1 hfm1
          have hsτm1 : τm1.2.1 120 = μ.2.1 120 := (ax_120F hfm1 (by decide))
          have hqτm1 : ax_pl τm1.2.1 = ax_pl μ.2.1 := (ax_plF hfm1 (by decide))
          refine kr_aload_n 5 rd_d_X12_race_332 rfl ?_
          refine kr_getf G.1 (rd_FL rd_k_X12_race_333).1 rd_d_X12_race_333 (hTm1.1 118 (.inl 12) rfl) (v := .ref 129) (by unfold am_fa; rw [(rd_FL rd_k_X12_race_333).2]; exact hTm1.2 118 29 129 rfl) ?_
          refine kr_iload 3 rd_d_X12_race_336 rfl ?_
          refine kr_dup2 rd_d_X12_race_338 rfl rfl ?_
          refine kr_iald G.1 (n := 2) rd_d_X12_race_339 (hTm1.1 129 (.inr (.int, 2)) rfl) (hd_in (n := 0) (by decide) (by decide)) ?_
          rw [hd_clamp (n := 0) (by decide)]
          rw [show τm1.2.1 129 0 = μ.2.1 129 0 from hfm1 129 0 (fun q => absurd q.1 (by decide))]
          refine kr_iload 3 rd_d_X12_race_340 rfl ?_
          refine kr_if_ne (tgt := 349) rd_d_X12_race_342 rfl (fun h => absurd rfl h) (fun _ => ?_)
          refine kr_iconst (v := 1) rd_d_X12_race_345 (by decide) ?_
          refine kr_goto (tgt := 350) rd_d_X12_race_346 rfl ?_
          refine kr_iadd rd_d_X12_race_350 ?_
          refine ax_astW G hTm1 rd_d_X12_race_351 (n := 2) (hTm1.1 129 (.inr (.int, 2)) rfl) (ix := 0) (by decide) (by decide) ?_
          intro τm2 hTm2 hwm2 hfm2
          have hsτm2 : τm2.2.1 120 = μ.2.1 120 := (ax_120F hfm2 (by decide)).trans hsτm1
          have hqτm2 : ax_pl τm2.2.1 = ax_pl μ.2.1 := (ax_plF hfm2 (by decide)).trans hqτm1
          refine kr_goto (tgt := 105) rd_d_X12_race_352 rfl ?_
          have eV : rm_A τm2.2.1 0 1 = rm_vis (σ.2.1 120) c had (rm_A σ.2.1 0 1) := by
            refine rc_six_eq ?_ (show (1 : Int32) = 1 from rfl) ?_ ?_ ?_ (show (0 : Int32) = 0 from rfl)
            · show τm2.2.1 129 0 = σ.2.1 129 0 + 1
              rw [← m29 0]; exact hwm2
            · show τm2.2.1 130 0 = (rc_in (σ.2.1 120 (12 + (σ.2.1 129 0).toInt.toNat)) (σ.2.1 120 (2 + (σ.2.1 129 0).toInt.toNat)) c (rm_many (σ.2.1 120) (σ.2.1 129 0) had (σ.2.1 131 0)).toInt.toNat (σ.2.1 130 0) (σ.2.1 132 0)).1 + σ.2.1 120 54
              rw [hm, ← u2, ← hs0]; exact (hfm2 130 0 (fun q => absurd q.1 (by decide))).trans (hwm1)
            · show τm2.2.1 131 0 = σ.2.1 131 0 - rm_many (σ.2.1 120) (σ.2.1 129 0) had (σ.2.1 131 0)
              rw [hm, ← m31]; exact (hfm2 131 0 (fun q => absurd q.1 (by decide))).trans (hfm1 131 0 (fun q => absurd q.1 (by decide)))
            · show τm2.2.1 132 0 = (rc_in (σ.2.1 120 (12 + (σ.2.1 129 0).toInt.toNat)) (σ.2.1 120 (2 + (σ.2.1 129 0).toInt.toNat)) c (rm_many (σ.2.1 120) (σ.2.1 129 0) had (σ.2.1 131 0)).toInt.toNat (σ.2.1 130 0) (σ.2.1 132 0)).2
              rw [hm, ← u4]; exact (hfm2 132 0 (fun q => absurd q.1 (by decide))).trans (hfm1 132 0 (fun q => absurd q.1 (by decide)))
          have eO : rm_A τm2.2.1 1 (-1) = rm_A σ.2.1 1 (-1) := rc_six_eq (((hfm2 129 1 (fun q => absurd q.2 (by decide))).trans (hfm1 129 1 (fun q => absurd q.1 (by decide)))).trans (m29 1)) (show ((-1) : Int32) = (-1) from rfl) (((hfm2 130 1 (fun q => absurd q.1 (by decide))).trans (hfm1 130 1 (fun q => absurd q.2 (by decide)))).trans o30) (((hfm2 131 1 (fun q => absurd q.1 (by decide))).trans (hfm1 131 1 (fun q => absurd q.1 (by decide)))).trans o31) (((hfm2 132 1 (fun q => absurd q.1 (by decide))).trans (hfm1 132 1 (fun q => absurd q.1 (by decide)))).trans o32) (show (0 : Int32) = 0 from rfl)
          have h120 : τm2.2.1 120 = σ.2.1 120 := (hsτm2).trans hs0
          have hr2 : rm_rem (σ.2.1 120) (rm_vis (σ.2.1 120) c had (rm_A σ.2.1 0 1)) (rm_A σ.2.1 1 (-1)) ≤ f := by
            have := rm_remA (A := rm_A σ.2.1 0 1) (B := rm_A σ.2.1 1 (-1)) (A' := rm_vis (σ.2.1 120) c had (rm_A σ.2.1 0 1)) (s := σ.2.1 120) (hb) (h2) (show (rm_vis (σ.2.1 120) c had (rm_A σ.2.1 0 1)) 0 = _ from rfl)
            omega
          have K := ih (had ||| (1 <<< ((σ.2.1 129 0) &&& 31))) τm2 hTm2 (by rw [h120]; exact hb) (by rw [h120]; exact ho) (by rw [h120, eV, eO]; exact hr2)
          rw [h120, eV, eO] at K
          refine kr_sub (lv' := [(5, .int (had ||| (1 <<< ((σ.2.1 129 0) &&& 31)))), (0, .ref 118), (1, .int a), (2, .int b), (3, .int c), (4, .int w)]) (by simp) ?_
          rw [rm_it, if_neg (by rw [hwho]; decide), if_pos (hwho)]
          exact K
        · refine kr_iconst (v := 0) rd_d_X12_race_198 (by decide) ?_
          refine kr_goto (tgt := 222) rd_d_X12_race_199 rfl ?_
          refine kr_istore (lv' := [(8, .int 0), (7, .int (σ.2.1 129 0)), (6, .int 0), (5, .int had), (0, .ref 118), (1, .int a), (2, .int b), (3, .int c), (4, .int w)]) rd_d_X12_race_222 (by decide) rfl ?_
          refine kr_iload 3 rd_d_X12_race_224 rfl ?_
          refine kr_iconst (v := 1) rd_d_X12_race_226 (by decide) ?_
          refine kr_iload 1 rd_d_X12_race_227 rfl ?_
          refine kr_ishl rd_d_X12_race_229 ?_
          refine kr_ior rd_d_X12_race_230 ?_
          refine kr_istore (lv' := [(5, .int (had ||| (1 <<< ((σ.2.1 129 0) &&& 31)))), (8, .int 0), (7, .int (σ.2.1 129 0)), (6, .int 0), (0, .ref 118), (1, .int a), (2, .int b), (3, .int c), (4, .int w)]) rd_d_X12_race_231 (by decide) rfl ?_
          refine kr_aload_n 4 rd_d_X12_race_233 rfl ?_
          refine kr_getf G.1 (rd_FL rd_k_X12_race_234).1 rd_d_X12_race_234 (hS.1 118 (.inl 12) rfl) (v := .ref 131) (by unfold am_fa; rw [(rd_FL rd_k_X12_race_234).2]; exact hS.2 118 31 131 rfl) ?_
          refine kr_iload 3 rd_d_X12_race_237 rfl ?_
          refine kr_dup2 rd_d_X12_race_239 rfl rfl ?_
          refine kr_iald G.1 (n := 2) rd_d_X12_race_240 (hS.1 131 (.inr (.int, 2)) rfl) (hd_in (n := 0) (by decide) (by decide)) ?_
          rw [hd_clamp (n := 0) (by decide)]
          refine kr_iload 1 rd_d_X12_race_241 rfl ?_
          refine kr_isub rd_d_X12_race_243 ?_
          refine ax_astW G hS rd_d_X12_race_244 (n := 2) (hS.1 131 (.inr (.int, 2)) rfl) (ix := 0) (by decide) (by decide) ?_
          intro τ2 hT2 hw2 hf2
          have hsτ2 : τ2.2.1 120 = σ.2.1 120 := (ax_120F hf2 (by decide))
          have hqτ2 : ax_pl τ2.2.1 = ax_pl σ.2.1 := (ax_plF hf2 (by decide))
          refine kr_iconst (v := 0) rd_d_X12_race_245 (by decide) ?_
          refine kr_istore (lv' := [(9, .int 0), (5, .int (had ||| (1 <<< ((σ.2.1 129 0) &&& 31)))), (8, .int 0), (7, .int (σ.2.1 129 0)), (6, .int 0), (0, .ref 118), (1, .int a), (2, .int b), (3, .int c), (4, .int w)]) rd_d_X12_race_246 (by decide) rfl ?_
          have hm : rm_many (σ.2.1 120) (σ.2.1 129 0) had (σ.2.1 131 0) = 0 := by rw [rm_many, if_neg h8]
          have hle := rm_many_le ho (b := had) (c := σ.2.1 131 0) (ax_win10 hb h2)
          rw [hm] at hle
          refine kr_sub (lv' := [(9, .int 0), (8, .int 0), (7, .int (σ.2.1 129 0)), (6, .int 0), (5, .int (had ||| (1 <<< ((σ.2.1 129 0) &&& 31)))), (0, .ref 118), (1, .int a), (2, .int b), (3, .int c), (4, .int w)]) (by simp) ?_
          refine ax_ml0 G (ax_win10 hb h2) hle ((0 : Int32)).toInt.toNat 0 τ2 hT2 (by decide) (by show (((0 : Int32)).toInt - 0).toNat = _; rw [Int.sub_zero]) ?_
          intro μ hU u2 u4 uf k2
          rw [hsτ2, show τ2.2.1 130 0 = σ.2.1 130 0 from hf2 130 0 (fun q => absurd q.1 (by decide)), show τ2.2.1 132 0 = σ.2.1 132 0 from hf2 132 0 (fun q => absurd q.1 (by decide))] at u2 u4
          have hs0 : μ.2.1 120 = σ.2.1 120 := (funext fun y => uf 120 y (fun z => absurd z.1 (by decide))).trans hsτ2
          have m29 : ∀ y, μ.2.1 129 y = σ.2.1 129 y := fun y => (uf 129 y (fun z => absurd z.1 (by decide))).trans (hf2 129 y (fun z => absurd z.1 (by decide)))
          have m31 : μ.2.1 131 0 = σ.2.1 131 0 - 0 := (uf 131 0 (fun z => absurd z.1 (by decide))).trans (hw2)
          have o30 : μ.2.1 130 1 = σ.2.1 130 1 := (uf 130 1 (fun z => absurd z.2 (by decide))).trans (hf2 130 1 (fun q => absurd q.1 (by decide)))
          have o32 : μ.2.1 132 1 = σ.2.1 132 1 := (uf 132 1 (fun z => absurd z.2 (by decide))).trans (hf2 132 1 (fun q => absurd q.1 (by decide)))
          have o31 : μ.2.1 131 1 = σ.2.1 131 1 := (uf 131 1 (fun z => absurd z.1 (by decide))).trans (hf2 131 1 (fun q => absurd q.2 (by decide)))
          have hwho : rm_who (σ.2.1 120) (rm_A σ.2.1 0 1) (rm_A σ.2.1 1 (-1)) = 0 := by
            show (if ax_f_win (σ.2.1 120) (σ.2.1 129 0) = 0 then (if ax_f_win (σ.2.1 120) (σ.2.1 129 1) = 0 then 2 else 1) else if ax_f_win (σ.2.1 120) (σ.2.1 129 1) = 0 then 0 else if σ.2.1 130 0 ≤ σ.2.1 130 1 then 0 else 1) = _
            rw [if_neg h2, if_pos h6]
          refine kr_aload_n 5 rd_d_X12_race_315 rfl ?_
          refine kr_getf G.1 (rd_FL rd_k_X12_race_316).1 rd_d_X12_race_316 (hU.1 118 (.inl 12) rfl) (v := .ref 130) (by unfold am_fa; rw [(rd_FL rd_k_X12_race_316).2]; exact hU.2 118 30 130 rfl) ?_
          refine kr_iload 3 rd_d_X12_race_319 rfl ?_
          refine kr_dup2 rd_d_X12_race_321 rfl rfl ?_
          refine kr_iald G.1 (n := 2) rd_d_X12_race_322 (hU.1 130 (.inr (.int, 2)) rfl) (hd_in (n := 0) (by decide) (by decide)) ?_
          rw [hd_clamp (n := 0) (by decide)]
          refine kr_aload_n 5 rd_d_X12_race_323 rfl ?_
          refine kr_getf G.1 (rd_FL rd_k_X12_race_324).1 rd_d_X12_race_324 (hU.1 118 (.inl 12) rfl) (v := .ref 120) (by unfold am_fa; rw [(rd_FL rd_k_X12_race_324).2]; exact hU.2 118 6 120 rfl) ?_
          refine kr_bipush (v := 54) rd_d_X12_race_327 (by decide) ?_
          refine kr_iald G.1 (n := 277) rd_d_X12_race_329 (hU.1 120 (.inr (.int, 277)) rfl) (hd_in (n := 54) (by decide) (by decide)) ?_
          rw [hd_clamp (n := 54) (by decide)]
          refine kr_iadd rd_d_X12_race_330 ?_
          refine ax_astW G hU rd_d_X12_race_331 (n := 2) (hU.1 130 (.inr (.int, 2)) rfl) (ix := 0) (by decide) (by decide) ?_
          intro τm1 hTm1 hwm1 hfm1
          have hsτm1 : τm1.2.1 120 = μ.2.1 120 := (ax_120F hfm1 (by decide))
          have hqτm1 : ax_pl τm1.2.1 = ax_pl μ.2.1 := (ax_plF hfm1 (by decide))
          refine kr_aload_n 5 rd_d_X12_race_332 rfl ?_
          refine kr_getf G.1 (rd_FL rd_k_X12_race_333).1 rd_d_X12_race_333 (hTm1.1 118 (.inl 12) rfl) (v := .ref 129) (by unfold am_fa; rw [(rd_FL rd_k_X12_race_333).2]; exact hTm1.2 118 29 129 rfl) ?_
          refine kr_iload 3 rd_d_X12_race_336 rfl ?_
          refine kr_dup2 rd_d_X12_race_338 rfl rfl ?_
          refine kr_iald G.1 (n := 2) rd_d_X12_race_339 (hTm1.1 129 (.inr (.int, 2)) rfl) (hd_in (n := 0) (by decide) (by decide)) ?_
          rw [hd_clamp (n := 0) (by decide)]
          rw [show τm1.2.1 129 0 = μ.2.1 129 0 from hfm1 129 0 (fun q => absurd q.1 (by decide))]
          refine kr_iload 3 rd_d_X12_race_340 rfl ?_
          refine kr_if_ne (tgt := 349) rd_d_X12_race_342 rfl (fun h => absurd rfl h) (fun _ => ?_)
          refine kr_iconst (v := 1) rd_d_X12_race_345 (by decide) ?_
          refine kr_goto (tgt := 350) rd_d_X12_race_346 rfl ?_
          refine kr_iadd rd_d_X12_race_350 ?_
          refine ax_astW G hTm1 rd_d_X12_race_351 (n := 2) (hTm1.1 129 (.inr (.int, 2)) rfl) (ix := 0) (by decide) (by decide) ?_
          intro τm2 hTm2 hwm2 hfm2
          have hsτm2 : τm2.2.1 120 = μ.2.1 120 := (ax_120F hfm2 (by decide)).trans hsτm1
          have hqτm2 : ax_pl τm2.2.1 = ax_pl μ.2.1 := (ax_plF hfm2 (by decide)).trans hqτm1
          refine kr_goto (tgt := 105) rd_d_X12_race_352 rfl ?_
          have eV : rm_A τm2.2.1 0 1 = rm_vis (σ.2.1 120) c had (rm_A σ.2.1 0 1) := by
            refine rc_six_eq ?_ (show (1 : Int32) = 1 from rfl) ?_ ?_ ?_ (show (0 : Int32) = 0 from rfl)
            · show τm2.2.1 129 0 = σ.2.1 129 0 + 1
              rw [← m29 0]; exact hwm2
            · show τm2.2.1 130 0 = (rc_in (σ.2.1 120 (12 + (σ.2.1 129 0).toInt.toNat)) (σ.2.1 120 (2 + (σ.2.1 129 0).toInt.toNat)) c (rm_many (σ.2.1 120) (σ.2.1 129 0) had (σ.2.1 131 0)).toInt.toNat (σ.2.1 130 0) (σ.2.1 132 0)).1 + σ.2.1 120 54
              rw [hm, ← u2, ← hs0]; exact (hfm2 130 0 (fun q => absurd q.1 (by decide))).trans (hwm1)
            · show τm2.2.1 131 0 = σ.2.1 131 0 - rm_many (σ.2.1 120) (σ.2.1 129 0) had (σ.2.1 131 0)
              rw [hm, ← m31]; exact (hfm2 131 0 (fun q => absurd q.1 (by decide))).trans (hfm1 131 0 (fun q => absurd q.1 (by decide)))
            · show τm2.2.1 132 0 = (rc_in (σ.2.1 120 (12 + (σ.2.1 129 0).toInt.toNat)) (σ.2.1 120 (2 + (σ.2.1 129 0).toInt.toNat)) c (rm_many (σ.2.1 120) (σ.2.1 129 0) had (σ.2.1 131 0)).toInt.toNat (σ.2.1 130 0) (σ.2.1 132 0)).2
              rw [hm, ← u4]; exact (hfm2 132 0 (fun q => absurd q.1 (by decide))).trans (hfm1 132 0 (fun q => absurd q.1 (by decide)))
          have eO : rm_A τm2.2.1 1 (-1) = rm_A σ.2.1 1 (-1) := rc_six_eq (((hfm2 129 1 (fun q => absurd q.2 (by decide))).trans (hfm1 129 1 (fun q => absurd q.1 (by decide)))).trans (m29 1)) (show ((-1) : Int32) = (-1) from rfl) (((hfm2 130 1 (fun q => absurd q.1 (by decide))).trans (hfm1 130 1 (fun q => absurd q.2 (by decide)))).trans o30) (((hfm2 131 1 (fun q => absurd q.1 (by decide))).trans (hfm1 131 1 (fun q => absurd q.1 (by decide)))).trans o31) (((hfm2 132 1 (fun q => absurd q.1 (by decide))).trans (hfm1 132 1 (fun q => absurd q.1 (by decide)))).trans o32) (show (0 : Int32) = 0 from rfl)
          have h120 : τm2.2.1 120 = σ.2.1 120 := (hsτm2).trans hs0
          have hr2 : rm_rem (σ.2.1 120) (rm_vis (σ.2.1 120) c had (rm_A σ.2.1 0 1)) (rm_A σ.2.1 1 (-1)) ≤ f := by
            have := rm_remA (A := rm_A σ.2.1 0 1) (B := rm_A σ.2.1 1 (-1)) (A' := rm_vis (σ.2.1 120) c had (rm_A σ.2.1 0 1)) (s := σ.2.1 120) (hb) (h2) (show (rm_vis (σ.2.1 120) c had (rm_A σ.2.1 0 1)) 0 = _ from rfl)
            omega
          have K := ih (had ||| (1 <<< ((σ.2.1 129 0) &&& 31))) τm2 hTm2 (by rw [h120]; exact hb) (by rw [h120]; exact ho) (by rw [h120, eV, eO]; exact hr2)
          rw [h120, eV, eO] at K
          refine kr_sub (lv' := [(5, .int (had ||| (1 <<< ((σ.2.1 129 0) &&& 31)))), (0, .ref 118), (1, .int a), (2, .int b), (3, .int c), (4, .int w)]) (by simp) ?_
          rw [rm_it, if_neg (by rw [hwho]; decide), if_pos (hwho)]
          exact K
      · refine kr_aload_n 1 rd_d_X12_race_157 rfl ?_
        refine kr_getf G.1 (rd_FL rd_k_X12_race_158).1 rd_d_X12_race_158 (hS.1 118 (.inl 12) rfl) (v := .ref 130) (by unfold am_fa; rw [(rd_FL rd_k_X12_race_158).2]; exact hS.2 118 30 130 rfl) ?_
        refine kr_iconst (v := 1) rd_d_X12_race_161 (by decide) ?_
        refine kr_iald G.1 (n := 2) rd_d_X12_race_162 (hS.1 130 (.inr (.int, 2)) rfl) (hd_in (n := 1) (by decide) (by decide)) ?_
        rw [hd_clamp (n := 1) (by decide)]
        refine kr_aload_n 1 rd_d_X12_race_163 rfl ?_
        refine kr_getf G.1 (rd_FL rd_k_X12_race_164).1 rd_d_X12_race_164 (hS.1 118 (.inl 12) rfl) (v := .ref 130) (by unfold am_fa; rw [(rd_FL rd_k_X12_race_164).2]; exact hS.2 118 30 130 rfl) ?_
        refine kr_iconst (v := 0) rd_d_X12_race_167 (by decide) ?_
        refine kr_iald G.1 (n := 2) rd_d_X12_race_168 (hS.1 130 (.inr (.int, 2)) rfl) (hd_in (n := 0) (by decide) (by decide)) ?_
        rw [hd_clamp (n := 0) (by decide)]
        refine kr_icmp_ge (tgt := 176) rd_d_X12_race_169 rfl (fun h10 => ?_) (fun h10 => ?_)
        · refine kr_iconst (v := 0) rd_d_X12_race_176 (by decide) ?_
          refine kr_istore (lv' := [(6, .int 0), (5, .int had), (0, .ref 118), (1, .int a), (2, .int b), (3, .int c), (4, .int w)]) rd_d_X12_race_177 (by decide) rfl ?_
          refine kr_aload_n 2 rd_d_X12_race_179 rfl ?_
          refine kr_getf G.1 (rd_FL rd_k_X12_race_180).1 rd_d_X12_race_180 (hS.1 118 (.inl 12) rfl) (v := .ref 129) (by unfold am_fa; rw [(rd_FL rd_k_X12_race_180).2]; exact hS.2 118 29 129 rfl) ?_
          refine kr_iload 0 rd_d_X12_race_183 rfl ?_
          refine kr_iald G.1 (n := 2) rd_d_X12_race_185 (hS.1 129 (.inr (.int, 2)) rfl) (hd_in (n := 0) (by decide) (by decide)) ?_
          rw [hd_clamp (n := 0) (by decide)]
          refine kr_istore (lv' := [(7, .int (σ.2.1 129 0)), (6, .int 0), (5, .int had), (0, .ref 118), (1, .int a), (2, .int b), (3, .int c), (4, .int w)]) rd_d_X12_race_186 (by decide) rfl ?_
          refine kr_iload 2 rd_d_X12_race_188 rfl ?_
          refine kr_iload 0 rd_d_X12_race_190 rfl ?_
          refine rd_callS G (T2 := tX12_bitOf) rfl rd_d_X12_race_192 rd_k_X12_race_192 rfl rfl (as := [.int had, .int (σ.2.1 129 0)]) (st := []) rfl (Nat.le_of_ble_eq_true rfl) rfl (Nat.le_of_ble_eq_true rfl) (d1 := 1) (by decide) (fun _ h => by cases h.1) (ax_bit G hS had (σ.2.1 129 0)) ?_
          intro v11 σ11 ⟨hv11, hs11⟩
          cases hv11
          rw [hs11]
          refine kr_if_eq (tgt := 202) rd_d_X12_race_195 rfl (fun h12 => ?_) (fun h12 => ?_)
          · refine kr_aload_n 3 rd_d_X12_race_202 rfl ?_
            refine kr_getf G.1 (rd_FL rd_k_X12_race_203).1 rd_d_X12_race_203 (hS.1 118 (.inl 12) rfl) (v := .ref 131) (by unfold am_fa; rw [(rd_FL rd_k_X12_race_203).2]; exact hS.2 118 31 131 rfl) ?_
            refine kr_iload 1 rd_d_X12_race_206 rfl ?_
            refine kr_iald G.1 (n := 2) rd_d_X12_race_208 (hS.1 131 (.inr (.int, 2)) rfl) (hd_in (n := 0) (by decide) (by decide)) ?_
            rw [hd_clamp (n := 0) (by decide)]
            refine kr_aload_n 3 rd_d_X12_race_209 rfl ?_
            refine kr_getf G.1 (rd_FL rd_k_X12_race_210).1 rd_d_X12_race_210 (hS.1 118 (.inl 12) rfl) (v := .ref 120) (by unfold am_fa; rw [(rd_FL rd_k_X12_race_210).2]; exact hS.2 118 6 120 rfl) ?_
            refine kr_bipush (v := 22) rd_d_X12_race_213 (by decide) ?_
            refine kr_iload 0 rd_d_X12_race_215 rfl ?_
            refine kr_iadd rd_d_X12_race_217 ?_
            refine kr_iald G.1 (n := 277) rd_d_X12_race_218 (hS.1 120 (.inr (.int, 277)) rfl) (hd_in (n := 22 + (σ.2.1 129 0).toInt.toNat) (ax_ixn (C := 22) (by decide) (by decide) ⟨(ax_win10 hb h2).1, Int.lt_trans (ax_win10 hb h2).2 (by decide)⟩) (by have := ax_win10 hb h2; omega)) ?_
            rw [hd_clamp (n := 22 + (σ.2.1 129 0).toInt.toNat) (ax_ixn (C := 22) (by decide) (by decide) ⟨(ax_win10 hb h2).1, Int.lt_trans (ax_win10 hb h2).2 (by decide)⟩)]
            refine rd_callS G (T2 := tX12_lesser) rfl rd_d_X12_race_219 rd_k_X12_race_219 rfl rfl (as := [.int (σ.2.1 131 0), .int (σ.2.1 120 (22 + (σ.2.1 129 0).toInt.toNat))]) (st := []) rfl (Nat.le_of_ble_eq_true rfl) rfl (Nat.le_of_ble_eq_true rfl) (d1 := 1) (by decide) (fun _ h => by cases h.1) (ax_les G hS (σ.2.1 131 0) (σ.2.1 120 (22 + (σ.2.1 129 0).toInt.toNat))) ?_
            intro v13 σ13 ⟨hv13, hs13⟩
            cases hv13
            rw [hs13]
            refine kr_istore (lv' := [(8, .int (ax_f_les (σ.2.1 131 0) (σ.2.1 120 (22 + (σ.2.1 129 0).toInt.toNat)))), (7, .int (σ.2.1 129 0)), (6, .int 0), (5, .int had), (0, .ref 118), (1, .int a), (2, .int b), (3, .int c), (4, .int w)]) rd_d_X12_race_222 (by decide) rfl ?_
            refine kr_iload 3 rd_d_X12_race_224 rfl ?_
            refine kr_iconst (v := 1) rd_d_X12_race_226 (by decide) ?_
            refine kr_iload 1 rd_d_X12_race_227 rfl ?_
            refine kr_ishl rd_d_X12_race_229 ?_
            refine kr_ior rd_d_X12_race_230 ?_
            refine kr_istore (lv' := [(5, .int (had ||| (1 <<< ((σ.2.1 129 0) &&& 31)))), (8, .int (ax_f_les (σ.2.1 131 0) (σ.2.1 120 (22 + (σ.2.1 129 0).toInt.toNat)))), (7, .int (σ.2.1 129 0)), (6, .int 0), (0, .ref 118), (1, .int a), (2, .int b), (3, .int c), (4, .int w)]) rd_d_X12_race_231 (by decide) rfl ?_
            refine kr_aload_n 4 rd_d_X12_race_233 rfl ?_
            refine kr_getf G.1 (rd_FL rd_k_X12_race_234).1 rd_d_X12_race_234 (hS.1 118 (.inl 12) rfl) (v := .ref 131) (by unfold am_fa; rw [(rd_FL rd_k_X12_race_234).2]; exact hS.2 118 31 131 rfl) ?_
            refine kr_iload 3 rd_d_X12_race_237 rfl ?_
            refine kr_dup2 rd_d_X12_race_239 rfl rfl ?_
            refine kr_iald G.1 (n := 2) rd_d_X12_race_240 (hS.1 131 (.inr (.int, 2)) rfl) (hd_in (n := 0) (by decide) (by decide)) ?_
            rw [hd_clamp (n := 0) (by decide)]
            refine kr_iload 1 rd_d_X12_race_241 rfl ?_
            refine kr_isub rd_d_X12_race_243 ?_
            refine ax_astW G hS rd_d_X12_race_244 (n := 2) (hS.1 131 (.inr (.int, 2)) rfl) (ix := 0) (by decide) (by decide) ?_
            intro τ3 hT3 hw3 hf3
            have hsτ3 : τ3.2.1 120 = σ.2.1 120 := (ax_120F hf3 (by decide))
            have hqτ3 : ax_pl τ3.2.1 = ax_pl σ.2.1 := (ax_plF hf3 (by decide))
            refine kr_iconst (v := 0) rd_d_X12_race_245 (by decide) ?_
            refine kr_istore (lv' := [(9, .int 0), (5, .int (had ||| (1 <<< ((σ.2.1 129 0) &&& 31)))), (8, .int (ax_f_les (σ.2.1 131 0) (σ.2.1 120 (22 + (σ.2.1 129 0).toInt.toNat)))), (7, .int (σ.2.1 129 0)), (6, .int 0), (0, .ref 118), (1, .int a), (2, .int b), (3, .int c), (4, .int w)]) rd_d_X12_race_246 (by decide) rfl ?_
            have hm : rm_many (σ.2.1 120) (σ.2.1 129 0) had (σ.2.1 131 0) = ax_f_les (σ.2.1 131 0) (σ.2.1 120 (22 + (σ.2.1 129 0).toInt.toNat)) := by rw [rm_many, if_pos h12]
            have hle := rm_many_le ho (b := had) (c := σ.2.1 131 0) (ax_win10 hb h2)
            rw [hm] at hle
            refine kr_sub (lv' := [(9, .int 0), (8, .int (ax_f_les (σ.2.1 131 0) (σ.2.1 120 (22 + (σ.2.1 129 0).toInt.toNat)))), (7, .int (σ.2.1 129 0)), (6, .int 0), (5, .int (had ||| (1 <<< ((σ.2.1 129 0) &&& 31)))), (0, .ref 118), (1, .int a), (2, .int b), (3, .int c), (4, .int w)]) (by simp) ?_
            refine ax_ml0 G (ax_win10 hb h2) hle (ax_f_les (σ.2.1 131 0) (σ.2.1 120 (22 + (σ.2.1 129 0).toInt.toNat))).toInt.toNat 0 τ3 hT3 (by decide) (by show ((ax_f_les (σ.2.1 131 0) (σ.2.1 120 (22 + (σ.2.1 129 0).toInt.toNat))).toInt - 0).toNat = _; rw [Int.sub_zero]) ?_
            intro μ hU u2 u4 uf k2
            rw [hsτ3, show τ3.2.1 130 0 = σ.2.1 130 0 from hf3 130 0 (fun q => absurd q.1 (by decide)), show τ3.2.1 132 0 = σ.2.1 132 0 from hf3 132 0 (fun q => absurd q.1 (by decide))] at u2 u4
            have hs0 : μ.2.1 120 = σ.2.1 120 := (funext fun y => uf 120 y (fun z => absurd z.1 (by decide))).trans hsτ3
            have m29 : ∀ y, μ.2.1 129 y = σ.2.1 129 y := fun y => (uf 129 y (fun z => absurd z.1 (by decide))).trans (hf3 129 y (fun z => absurd z.1 (by decide)))
            have m31 : μ.2.1 131 0 = σ.2.1 131 0 - (ax_f_les (σ.2.1 131 0) (σ.2.1 120 (22 + (σ.2.1 129 0).toInt.toNat))) := (uf 131 0 (fun z => absurd z.1 (by decide))).trans (hw3)
            have o30 : μ.2.1 130 1 = σ.2.1 130 1 := (uf 130 1 (fun z => absurd z.2 (by decide))).trans (hf3 130 1 (fun q => absurd q.1 (by decide)))
            have o32 : μ.2.1 132 1 = σ.2.1 132 1 := (uf 132 1 (fun z => absurd z.2 (by decide))).trans (hf3 132 1 (fun q => absurd q.1 (by decide)))
            have o31 : μ.2.1 131 1 = σ.2.1 131 1 := (uf 131 1 (fun z => absurd z.1 (by decide))).trans (hf3 131 1 (fun q => absurd q.2 (by decide)))
            have hwho : rm_who (σ.2.1 120) (rm_A σ.2.1 0 1) (rm_A σ.2.1 1 (-1)) = 0 := by
              show (if ax_f_win (σ.2.1 120) (σ.2.1 129 0) = 0 then (if ax_f_win (σ.2.1 120) (σ.2.1 129 1) = 0 then 2 else 1) else if ax_f_win (σ.2.1 120) (σ.2.1 129 1) = 0 then 0 else if σ.2.1 130 0 ≤ σ.2.1 130 1 then 0 else 1) = _
              rw [if_neg h2, if_neg h6, if_pos h10]
            refine kr_aload_n 5 rd_d_X12_race_315 rfl ?_
            refine kr_getf G.1 (rd_FL rd_k_X12_race_316).1 rd_d_X12_race_316 (hU.1 118 (.inl 12) rfl) (v := .ref 130) (by unfold am_fa; rw [(rd_FL rd_k_X12_race_316).2]; exact hU.2 118 30 130 rfl) ?_
            refine kr_iload 3 rd_d_X12_race_319 rfl ?_
            refine kr_dup2 rd_d_X12_race_321 rfl rfl ?_
            refine kr_iald G.1 (n := 2) rd_d_X12_race_322 (hU.1 130 (.inr (.int, 2)) rfl) (hd_in (n := 0) (by decide) (by decide)) ?_
            rw [hd_clamp (n := 0) (by decide)]
            refine kr_aload_n 5 rd_d_X12_race_323 rfl ?_
            refine kr_getf G.1 (rd_FL rd_k_X12_race_324).1 rd_d_X12_race_324 (hU.1 118 (.inl 12) rfl) (v := .ref 120) (by unfold am_fa; rw [(rd_FL rd_k_X12_race_324).2]; exact hU.2 118 6 120 rfl) ?_
            refine kr_bipush (v := 54) rd_d_X12_race_327 (by decide) ?_
            refine kr_iald G.1 (n := 277) rd_d_X12_race_329 (hU.1 120 (.inr (.int, 277)) rfl) (hd_in (n := 54) (by decide) (by decide)) ?_
            rw [hd_clamp (n := 54) (by decide)]
            refine kr_iadd rd_d_X12_race_330 ?_
            refine ax_astW G hU rd_d_X12_race_331 (n := 2) (hU.1 130 (.inr (.int, 2)) rfl) (ix := 0) (by decide) (by decide) ?_
            intro τm1 hTm1 hwm1 hfm1
            have hsτm1 : τm1.2.1 120 = μ.2.1 120 := (ax_120F hfm1 (by decide))
            have hqτm1 : ax_pl τm1.2.1 = ax_pl μ.2.1 := (ax_plF hfm1 (by decide))
            refine kr_aload_n 5 rd_d_X12_race_332 rfl ?_
            refine kr_getf G.1 (rd_FL rd_k_X12_race_333).1 rd_d_X12_race_333 (hTm1.1 118 (.inl 12) rfl) (v := .ref 129) (by unfold am_fa; rw [(rd_FL rd_k_X12_race_333).2]; exact hTm1.2 118 29 129 rfl) ?_
            refine kr_iload 3 rd_d_X12_race_336 rfl ?_
            refine kr_dup2 rd_d_X12_race_338 rfl rfl ?_
            refine kr_iald G.1 (n := 2) rd_d_X12_race_339 (hTm1.1 129 (.inr (.int, 2)) rfl) (hd_in (n := 0) (by decide) (by decide)) ?_
            rw [hd_clamp (n := 0) (by decide)]
            rw [show τm1.2.1 129 0 = μ.2.1 129 0 from hfm1 129 0 (fun q => absurd q.1 (by decide))]
            refine kr_iload 3 rd_d_X12_race_340 rfl ?_
            refine kr_if_ne (tgt := 349) rd_d_X12_race_342 rfl (fun h => absurd rfl h) (fun _ => ?_)
            refine kr_iconst (v := 1) rd_d_X12_race_345 (by decide) ?_
            refine kr_goto (tgt := 350) rd_d_X12_race_346 rfl ?_
            refine kr_iadd rd_d_X12_race_350 ?_
            refine ax_astW G hTm1 rd_d_X12_race_351 (n := 2) (hTm1.1 129 (.inr (.int, 2)) rfl) (ix := 0) (by decide) (by decide) ?_
            intro τm2 hTm2 hwm2 hfm2
            have hsτm2 : τm2.2.1 120 = μ.2.1 120 := (ax_120F hfm2 (by decide)).trans hsτm1
            have hqτm2 : ax_pl τm2.2.1 = ax_pl μ.2.1 := (ax_plF hfm2 (by decide)).trans hqτm1
            refine kr_goto (tgt := 105) rd_d_X12_race_352 rfl ?_
            have eV : rm_A τm2.2.1 0 1 = rm_vis (σ.2.1 120) c had (rm_A σ.2.1 0 1) := by
              refine rc_six_eq ?_ (show (1 : Int32) = 1 from rfl) ?_ ?_ ?_ (show (0 : Int32) = 0 from rfl)
              · show τm2.2.1 129 0 = σ.2.1 129 0 + 1
                rw [← m29 0]; exact hwm2
              · show τm2.2.1 130 0 = (rc_in (σ.2.1 120 (12 + (σ.2.1 129 0).toInt.toNat)) (σ.2.1 120 (2 + (σ.2.1 129 0).toInt.toNat)) c (rm_many (σ.2.1 120) (σ.2.1 129 0) had (σ.2.1 131 0)).toInt.toNat (σ.2.1 130 0) (σ.2.1 132 0)).1 + σ.2.1 120 54
                rw [hm, ← u2, ← hs0]; exact (hfm2 130 0 (fun q => absurd q.1 (by decide))).trans (hwm1)
              · show τm2.2.1 131 0 = σ.2.1 131 0 - rm_many (σ.2.1 120) (σ.2.1 129 0) had (σ.2.1 131 0)
                rw [hm, ← m31]; exact (hfm2 131 0 (fun q => absurd q.1 (by decide))).trans (hfm1 131 0 (fun q => absurd q.1 (by decide)))
              · show τm2.2.1 132 0 = (rc_in (σ.2.1 120 (12 + (σ.2.1 129 0).toInt.toNat)) (σ.2.1 120 (2 + (σ.2.1 129 0).toInt.toNat)) c (rm_many (σ.2.1 120) (σ.2.1 129 0) had (σ.2.1 131 0)).toInt.toNat (σ.2.1 130 0) (σ.2.1 132 0)).2
                rw [hm, ← u4]; exact (hfm2 132 0 (fun q => absurd q.1 (by decide))).trans (hfm1 132 0 (fun q => absurd q.1 (by decide)))
            have eO : rm_A τm2.2.1 1 (-1) = rm_A σ.2.1 1 (-1) := rc_six_eq (((hfm2 129 1 (fun q => absurd q.2 (by decide))).trans (hfm1 129 1 (fun q => absurd q.1 (by decide)))).trans (m29 1)) (show ((-1) : Int32) = (-1) from rfl) (((hfm2 130 1 (fun q => absurd q.1 (by decide))).trans (hfm1 130 1 (fun q => absurd q.2 (by decide)))).trans o30) (((hfm2 131 1 (fun q => absurd q.1 (by decide))).trans (hfm1 131 1 (fun q => absurd q.1 (by decide)))).trans o31) (((hfm2 132 1 (fun q => absurd q.1 (by decide))).trans (hfm1 132 1 (fun q => absurd q.1 (by decide)))).trans o32) (show (0 : Int32) = 0 from rfl)
            have h120 : τm2.2.1 120 = σ.2.1 120 := (hsτm2).trans hs0
            have hr2 : rm_rem (σ.2.1 120) (rm_vis (σ.2.1 120) c had (rm_A σ.2.1 0 1)) (rm_A σ.2.1 1 (-1)) ≤ f := by
              have := rm_remA (A := rm_A σ.2.1 0 1) (B := rm_A σ.2.1 1 (-1)) (A' := rm_vis (σ.2.1 120) c had (rm_A σ.2.1 0 1)) (s := σ.2.1 120) (hb) (h2) (show (rm_vis (σ.2.1 120) c had (rm_A σ.2.1 0 1)) 0 = _ from rfl)
              omega
            have K := ih (had ||| (1 <<< ((σ.2.1 129 0) &&& 31))) τm2 hTm2 (by rw [h120]; exact hb) (by rw [h120]; exact ho) (by rw [h120, eV, eO]; exact hr2)
            rw [h120, eV, eO] at K
            refine kr_sub (lv' := [(5, .int (had ||| (1 <<< ((σ.2.1 129 0) &&& 31)))), (0, .ref 118), (1, .int a), (2, .int b), (3, .int c), (4, .int w)]) (by simp) ?_
            rw [rm_it, if_neg (by rw [hwho]; decide), if_pos (hwho)]
            exact K
          · refine kr_iconst (v := 0) rd_d_X12_race_198 (by decide) ?_
            refine kr_goto (tgt := 222) rd_d_X12_race_199 rfl ?_
            refine kr_istore (lv' := [(8, .int 0), (7, .int (σ.2.1 129 0)), (6, .int 0), (5, .int had), (0, .ref 118), (1, .int a), (2, .int b), (3, .int c), (4, .int w)]) rd_d_X12_race_222 (by decide) rfl ?_
            refine kr_iload 3 rd_d_X12_race_224 rfl ?_
            refine kr_iconst (v := 1) rd_d_X12_race_226 (by decide) ?_
            refine kr_iload 1 rd_d_X12_race_227 rfl ?_
            refine kr_ishl rd_d_X12_race_229 ?_
            refine kr_ior rd_d_X12_race_230 ?_
            refine kr_istore (lv' := [(5, .int (had ||| (1 <<< ((σ.2.1 129 0) &&& 31)))), (8, .int 0), (7, .int (σ.2.1 129 0)), (6, .int 0), (0, .ref 118), (1, .int a), (2, .int b), (3, .int c), (4, .int w)]) rd_d_X12_race_231 (by decide) rfl ?_
            refine kr_aload_n 4 rd_d_X12_race_233 rfl ?_
            refine kr_getf G.1 (rd_FL rd_k_X12_race_234).1 rd_d_X12_race_234 (hS.1 118 (.inl 12) rfl) (v := .ref 131) (by unfold am_fa; rw [(rd_FL rd_k_X12_race_234).2]; exact hS.2 118 31 131 rfl) ?_
            refine kr_iload 3 rd_d_X12_race_237 rfl ?_
            refine kr_dup2 rd_d_X12_race_239 rfl rfl ?_
            refine kr_iald G.1 (n := 2) rd_d_X12_race_240 (hS.1 131 (.inr (.int, 2)) rfl) (hd_in (n := 0) (by decide) (by decide)) ?_
            rw [hd_clamp (n := 0) (by decide)]
            refine kr_iload 1 rd_d_X12_race_241 rfl ?_
            refine kr_isub rd_d_X12_race_243 ?_
            refine ax_astW G hS rd_d_X12_race_244 (n := 2) (hS.1 131 (.inr (.int, 2)) rfl) (ix := 0) (by decide) (by decide) ?_
            intro τ4 hT4 hw4 hf4
            have hsτ4 : τ4.2.1 120 = σ.2.1 120 := (ax_120F hf4 (by decide))
            have hqτ4 : ax_pl τ4.2.1 = ax_pl σ.2.1 := (ax_plF hf4 (by decide))
            refine kr_iconst (v := 0) rd_d_X12_race_245 (by decide) ?_
            refine kr_istore (lv' := [(9, .int 0), (5, .int (had ||| (1 <<< ((σ.2.1 129 0) &&& 31)))), (8, .int 0), (7, .int (σ.2.1 129 0)), (6, .int 0), (0, .ref 118), (1, .int a), (2, .int b), (3, .int c), (4, .int w)]) rd_d_X12_race_246 (by decide) rfl ?_
            have hm : rm_many (σ.2.1 120) (σ.2.1 129 0) had (σ.2.1 131 0) = 0 := by rw [rm_many, if_neg h12]
            have hle := rm_many_le ho (b := had) (c := σ.2.1 131 0) (ax_win10 hb h2)
            rw [hm] at hle
            refine kr_sub (lv' := [(9, .int 0), (8, .int 0), (7, .int (σ.2.1 129 0)), (6, .int 0), (5, .int (had ||| (1 <<< ((σ.2.1 129 0) &&& 31)))), (0, .ref 118), (1, .int a), (2, .int b), (3, .int c), (4, .int w)]) (by simp) ?_
            refine ax_ml0 G (ax_win10 hb h2) hle ((0 : Int32)).toInt.toNat 0 τ4 hT4 (by decide) (by show (((0 : Int32)).toInt - 0).toNat = _; rw [Int.sub_zero]) ?_
            intro μ hU u2 u4 uf k2
            rw [hsτ4, show τ4.2.1 130 0 = σ.2.1 130 0 from hf4 130 0 (fun q => absurd q.1 (by decide)), show τ4.2.1 132 0 = σ.2.1 132 0 from hf4 132 0 (fun q => absurd q.1 (by decide))] at u2 u4
            have hs0 : μ.2.1 120 = σ.2.1 120 := (funext fun y => uf 120 y (fun z => absurd z.1 (by decide))).trans hsτ4
            have m29 : ∀ y, μ.2.1 129 y = σ.2.1 129 y := fun y => (uf 129 y (fun z => absurd z.1 (by decide))).trans (hf4 129 y (fun z => absurd z.1 (by decide)))
            have m31 : μ.2.1 131 0 = σ.2.1 131 0 - 0 := (uf 131 0 (fun z => absurd z.1 (by decide))).trans (hw4)
            have o30 : μ.2.1 130 1 = σ.2.1 130 1 := (uf 130 1 (fun z => absurd z.2 (by decide))).trans (hf4 130 1 (fun q => absurd q.1 (by decide)))
            have o32 : μ.2.1 132 1 = σ.2.1 132 1 := (uf 132 1 (fun z => absurd z.2 (by decide))).trans (hf4 132 1 (fun q => absurd q.1 (by decide)))
            have o31 : μ.2.1 131 1 = σ.2.1 131 1 := (uf 131 1 (fun z => absurd z.1 (by decide))).trans (hf4 131 1 (fun q => absurd q.2 (by decide)))
            have hwho : rm_who (σ.2.1 120) (rm_A σ.2.1 0 1) (rm_A σ.2.1 1 (-1)) = 0 := by
              show (if ax_f_win (σ.2.1 120) (σ.2.1 129 0) = 0 then (if ax_f_win (σ.2.1 120) (σ.2.1 129 1) = 0 then 2 else 1) else if ax_f_win (σ.2.1 120) (σ.2.1 129 1) = 0 then 0 else if σ.2.1 130 0 ≤ σ.2.1 130 1 then 0 else 1) = _
              rw [if_neg h2, if_neg h6, if_pos h10]
            refine kr_aload_n 5 rd_d_X12_race_315 rfl ?_
            refine kr_getf G.1 (rd_FL rd_k_X12_race_316).1 rd_d_X12_race_316 (hU.1 118 (.inl 12) rfl) (v := .ref 130) (by unfold am_fa; rw [(rd_FL rd_k_X12_race_316).2]; exact hU.2 118 30 130 rfl) ?_
            refine kr_iload 3 rd_d_X12_race_319 rfl ?_
            refine kr_dup2 rd_d_X12_race_321 rfl rfl ?_
            refine kr_iald G.1 (n := 2) rd_d_X12_race_322 (hU.1 130 (.inr (.int, 2)) rfl) (hd_in (n := 0) (by decide) (by decide)) ?_
            rw [hd_clamp (n := 0) (by decide)]
            refine kr_aload_n 5 rd_d_X12_race_323 rfl ?_
            refine kr_getf G.1 (rd_FL rd_k_X12_race_324).1 rd_d_X12_race_324 (hU.1 118 (.inl 12) rfl) (v := .ref 120) (by unfold am_fa; rw [(rd_FL rd_k_X12_race_324).2]; exact hU.2 118 6 120 rfl) ?_
            refine kr_bipush (v := 54) rd_d_X12_race_327 (by decide) ?_
            refine kr_iald G.1 (n := 277) rd_d_X12_race_329 (hU.1 120 (.inr (.int, 277)) rfl) (hd_in (n := 54) (by decide) (by decide)) ?_
            rw [hd_clamp (n := 54) (by decide)]
            refine kr_iadd rd_d_X12_race_330 ?_
            refine ax_astW G hU rd_d_X12_race_331 (n := 2) (hU.1 130 (.inr (.int, 2)) rfl) (ix := 0) (by decide) (by decide) ?_
            intro τm1 hTm1 hwm1 hfm1
            have hsτm1 : τm1.2.1 120 = μ.2.1 120 := (ax_120F hfm1 (by decide))
            have hqτm1 : ax_pl τm1.2.1 = ax_pl μ.2.1 := (ax_plF hfm1 (by decide))
            refine kr_aload_n 5 rd_d_X12_race_332 rfl ?_
            refine kr_getf G.1 (rd_FL rd_k_X12_race_333).1 rd_d_X12_race_333 (hTm1.1 118 (.inl 12) rfl) (v := .ref 129) (by unfold am_fa; rw [(rd_FL rd_k_X12_race_333).2]; exact hTm1.2 118 29 129 rfl) ?_
            refine kr_iload 3 rd_d_X12_race_336 rfl ?_
            refine kr_dup2 rd_d_X12_race_338 rfl rfl ?_
            refine kr_iald G.1 (n := 2) rd_d_X12_race_339 (hTm1.1 129 (.inr (.int, 2)) rfl) (hd_in (n := 0) (by decide) (by decide)) ?_
            rw [hd_clamp (n := 0) (by decide)]
            rw [show τm1.2.1 129 0 = μ.2.1 129 0 from hfm1 129 0 (fun q => absurd q.1 (by decide))]
            refine kr_iload 3 rd_d_X12_race_340 rfl ?_
            refine kr_if_ne (tgt := 349) rd_d_X12_race_342 rfl (fun h => absurd rfl h) (fun _ => ?_)
            refine kr_iconst (v := 1) rd_d_X12_race_345 (by decide) ?_
            refine kr_goto (tgt := 350) rd_d_X12_race_346 rfl ?_
            refine kr_iadd rd_d_X12_race_350 ?_
            refine ax_astW G hTm1 rd_d_X12_race_351 (n := 2) (hTm1.1 129 (.inr (.int, 2)) rfl) (ix := 0) (by decide) (by decide) ?_
            intro τm2 hTm2 hwm2 hfm2
            have hsτm2 : τm2.2.1 120 = μ.2.1 120 := (ax_120F hfm2 (by decide)).trans hsτm1
            have hqτm2 : ax_pl τm2.2.1 = ax_pl μ.2.1 := (ax_plF hfm2 (by decide)).trans hqτm1
            refine kr_goto (tgt := 105) rd_d_X12_race_352 rfl ?_
            have eV : rm_A τm2.2.1 0 1 = rm_vis (σ.2.1 120) c had (rm_A σ.2.1 0 1) := by
              refine rc_six_eq ?_ (show (1 : Int32) = 1 from rfl) ?_ ?_ ?_ (show (0 : Int32) = 0 from rfl)
              · show τm2.2.1 129 0 = σ.2.1 129 0 + 1
                rw [← m29 0]; exact hwm2
              · show τm2.2.1 130 0 = (rc_in (σ.2.1 120 (12 + (σ.2.1 129 0).toInt.toNat)) (σ.2.1 120 (2 + (σ.2.1 129 0).toInt.toNat)) c (rm_many (σ.2.1 120) (σ.2.1 129 0) had (σ.2.1 131 0)).toInt.toNat (σ.2.1 130 0) (σ.2.1 132 0)).1 + σ.2.1 120 54
                rw [hm, ← u2, ← hs0]; exact (hfm2 130 0 (fun q => absurd q.1 (by decide))).trans (hwm1)
              · show τm2.2.1 131 0 = σ.2.1 131 0 - rm_many (σ.2.1 120) (σ.2.1 129 0) had (σ.2.1 131 0)
                rw [hm, ← m31]; exact (hfm2 131 0 (fun q => absurd q.1 (by decide))).trans (hfm1 131 0 (fun q => absurd q.1 (by decide)))
              · show τm2.2.1 132 0 = (rc_in (σ.2.1 120 (12 + (σ.2.1 129 0).toInt.toNat)) (σ.2.1 120 (2 + (σ.2.1 129 0).toInt.toNat)) c (rm_many (σ.2.1 120) (σ.2.1 129 0) had (σ.2.1 131 0)).toInt.toNat (σ.2.1 130 0) (σ.2.1 132 0)).2
                rw [hm, ← u4]; exact (hfm2 132 0 (fun q => absurd q.1 (by decide))).trans (hfm1 132 0 (fun q => absurd q.1 (by decide)))
            have eO : rm_A τm2.2.1 1 (-1) = rm_A σ.2.1 1 (-1) := rc_six_eq (((hfm2 129 1 (fun q => absurd q.2 (by decide))).trans (hfm1 129 1 (fun q => absurd q.1 (by decide)))).trans (m29 1)) (show ((-1) : Int32) = (-1) from rfl) (((hfm2 130 1 (fun q => absurd q.1 (by decide))).trans (hfm1 130 1 (fun q => absurd q.2 (by decide)))).trans o30) (((hfm2 131 1 (fun q => absurd q.1 (by decide))).trans (hfm1 131 1 (fun q => absurd q.1 (by decide)))).trans o31) (((hfm2 132 1 (fun q => absurd q.1 (by decide))).trans (hfm1 132 1 (fun q => absurd q.1 (by decide)))).trans o32) (show (0 : Int32) = 0 from rfl)
            have h120 : τm2.2.1 120 = σ.2.1 120 := (hsτm2).trans hs0
            have hr2 : rm_rem (σ.2.1 120) (rm_vis (σ.2.1 120) c had (rm_A σ.2.1 0 1)) (rm_A σ.2.1 1 (-1)) ≤ f := by
              have := rm_remA (A := rm_A σ.2.1 0 1) (B := rm_A σ.2.1 1 (-1)) (A' := rm_vis (σ.2.1 120) c had (rm_A σ.2.1 0 1)) (s := σ.2.1 120) (hb) (h2) (show (rm_vis (σ.2.1 120) c had (rm_A σ.2.1 0 1)) 0 = _ from rfl)
              omega
            have K := ih (had ||| (1 <<< ((σ.2.1 129 0) &&& 31))) τm2 hTm2 (by rw [h120]; exact hb) (by rw [h120]; exact ho) (by rw [h120, eV, eO]; exact hr2)
            rw [h120, eV, eO] at K
            refine kr_sub (lv' := [(5, .int (had ||| (1 <<< ((σ.2.1 129 0) &&& 31)))), (0, .ref 118), (1, .int a), (2, .int b), (3, .int c), (4, .int w)]) (by simp) ?_
            rw [rm_it, if_neg (by rw [hwho]; decide), if_pos (hwho)]
            exact K
        · refine kr_iconst (v := 1) rd_d_X12_race_172 (by decide) ?_
          refine kr_goto (tgt := 177) rd_d_X12_race_173 rfl ?_
          refine kr_istore (lv' := [(6, .int 1), (5, .int had), (0, .ref 118), (1, .int a), (2, .int b), (3, .int c), (4, .int w)]) rd_d_X12_race_177 (by decide) rfl ?_
          refine kr_aload_n 2 rd_d_X12_race_179 rfl ?_
          refine kr_getf G.1 (rd_FL rd_k_X12_race_180).1 rd_d_X12_race_180 (hS.1 118 (.inl 12) rfl) (v := .ref 129) (by unfold am_fa; rw [(rd_FL rd_k_X12_race_180).2]; exact hS.2 118 29 129 rfl) ?_
          refine kr_iload 0 rd_d_X12_race_183 rfl ?_
          refine kr_iald G.1 (n := 2) rd_d_X12_race_185 (hS.1 129 (.inr (.int, 2)) rfl) (hd_in (n := 1) (by decide) (by decide)) ?_
          rw [hd_clamp (n := 1) (by decide)]
          refine kr_istore (lv' := [(7, .int (σ.2.1 129 1)), (6, .int 1), (5, .int had), (0, .ref 118), (1, .int a), (2, .int b), (3, .int c), (4, .int w)]) rd_d_X12_race_186 (by decide) rfl ?_
          refine kr_iload 2 rd_d_X12_race_188 rfl ?_
          refine kr_iload 0 rd_d_X12_race_190 rfl ?_
          refine rd_callS G (T2 := tX12_bitOf) rfl rd_d_X12_race_192 rd_k_X12_race_192 rfl rfl (as := [.int had, .int (σ.2.1 129 1)]) (st := []) rfl (Nat.le_of_ble_eq_true rfl) rfl (Nat.le_of_ble_eq_true rfl) (d1 := 1) (by decide) (fun _ h => by cases h.1) (ax_bit G hS had (σ.2.1 129 1)) ?_
          intro v14 σ14 ⟨hv14, hs14⟩
          cases hv14
          rw [hs14]
          refine kr_if_eq (tgt := 202) rd_d_X12_race_195 rfl (fun h15 => ?_) (fun h15 => ?_)
          · refine kr_aload_n 3 rd_d_X12_race_202 rfl ?_
            refine kr_getf G.1 (rd_FL rd_k_X12_race_203).1 rd_d_X12_race_203 (hS.1 118 (.inl 12) rfl) (v := .ref 131) (by unfold am_fa; rw [(rd_FL rd_k_X12_race_203).2]; exact hS.2 118 31 131 rfl) ?_
            refine kr_iload 1 rd_d_X12_race_206 rfl ?_
            refine kr_iald G.1 (n := 2) rd_d_X12_race_208 (hS.1 131 (.inr (.int, 2)) rfl) (hd_in (n := 1) (by decide) (by decide)) ?_
            rw [hd_clamp (n := 1) (by decide)]
            refine kr_aload_n 3 rd_d_X12_race_209 rfl ?_
            refine kr_getf G.1 (rd_FL rd_k_X12_race_210).1 rd_d_X12_race_210 (hS.1 118 (.inl 12) rfl) (v := .ref 120) (by unfold am_fa; rw [(rd_FL rd_k_X12_race_210).2]; exact hS.2 118 6 120 rfl) ?_
            refine kr_bipush (v := 22) rd_d_X12_race_213 (by decide) ?_
            refine kr_iload 0 rd_d_X12_race_215 rfl ?_
            refine kr_iadd rd_d_X12_race_217 ?_
            refine kr_iald G.1 (n := 277) rd_d_X12_race_218 (hS.1 120 (.inr (.int, 277)) rfl) (hd_in (n := 22 + (σ.2.1 129 1).toInt.toNat) (ax_ixn (C := 22) (by decide) (by decide) ⟨(ax_win10 hb h6).1, Int.lt_trans (ax_win10 hb h6).2 (by decide)⟩) (by have := ax_win10 hb h6; omega)) ?_
            rw [hd_clamp (n := 22 + (σ.2.1 129 1).toInt.toNat) (ax_ixn (C := 22) (by decide) (by decide) ⟨(ax_win10 hb h6).1, Int.lt_trans (ax_win10 hb h6).2 (by decide)⟩)]
            refine rd_callS G (T2 := tX12_lesser) rfl rd_d_X12_race_219 rd_k_X12_race_219 rfl rfl (as := [.int (σ.2.1 131 1), .int (σ.2.1 120 (22 + (σ.2.1 129 1).toInt.toNat))]) (st := []) rfl (Nat.le_of_ble_eq_true rfl) rfl (Nat.le_of_ble_eq_true rfl) (d1 := 1) (by decide) (fun _ h => by cases h.1) (ax_les G hS (σ.2.1 131 1) (σ.2.1 120 (22 + (σ.2.1 129 1).toInt.toNat))) ?_
            intro v16 σ16 ⟨hv16, hs16⟩
            cases hv16
            rw [hs16]
            refine kr_istore (lv' := [(8, .int (ax_f_les (σ.2.1 131 1) (σ.2.1 120 (22 + (σ.2.1 129 1).toInt.toNat)))), (7, .int (σ.2.1 129 1)), (6, .int 1), (5, .int had), (0, .ref 118), (1, .int a), (2, .int b), (3, .int c), (4, .int w)]) rd_d_X12_race_222 (by decide) rfl ?_
            refine kr_iload 3 rd_d_X12_race_224 rfl ?_
            refine kr_iconst (v := 1) rd_d_X12_race_226 (by decide) ?_
            refine kr_iload 1 rd_d_X12_race_227 rfl ?_
            refine kr_ishl rd_d_X12_race_229 ?_
            refine kr_ior rd_d_X12_race_230 ?_
            refine kr_istore (lv' := [(5, .int (had ||| (1 <<< ((σ.2.1 129 1) &&& 31)))), (8, .int (ax_f_les (σ.2.1 131 1) (σ.2.1 120 (22 + (σ.2.1 129 1).toInt.toNat)))), (7, .int (σ.2.1 129 1)), (6, .int 1), (0, .ref 118), (1, .int a), (2, .int b), (3, .int c), (4, .int w)]) rd_d_X12_race_231 (by decide) rfl ?_
            refine kr_aload_n 4 rd_d_X12_race_233 rfl ?_
            refine kr_getf G.1 (rd_FL rd_k_X12_race_234).1 rd_d_X12_race_234 (hS.1 118 (.inl 12) rfl) (v := .ref 131) (by unfold am_fa; rw [(rd_FL rd_k_X12_race_234).2]; exact hS.2 118 31 131 rfl) ?_
            refine kr_iload 3 rd_d_X12_race_237 rfl ?_
            refine kr_dup2 rd_d_X12_race_239 rfl rfl ?_
            refine kr_iald G.1 (n := 2) rd_d_X12_race_240 (hS.1 131 (.inr (.int, 2)) rfl) (hd_in (n := 1) (by decide) (by decide)) ?_
            rw [hd_clamp (n := 1) (by decide)]
            refine kr_iload 1 rd_d_X12_race_241 rfl ?_
            refine kr_isub rd_d_X12_race_243 ?_
            refine ax_astW G hS rd_d_X12_race_244 (n := 2) (hS.1 131 (.inr (.int, 2)) rfl) (ix := 1) (by decide) (by decide) ?_
            intro τ5 hT5 hw5 hf5
            have hsτ5 : τ5.2.1 120 = σ.2.1 120 := (ax_120F hf5 (by decide))
            have hqτ5 : ax_pl τ5.2.1 = ax_pl σ.2.1 := (ax_plF hf5 (by decide))
            refine kr_iconst (v := 0) rd_d_X12_race_245 (by decide) ?_
            refine kr_istore (lv' := [(9, .int 0), (5, .int (had ||| (1 <<< ((σ.2.1 129 1) &&& 31)))), (8, .int (ax_f_les (σ.2.1 131 1) (σ.2.1 120 (22 + (σ.2.1 129 1).toInt.toNat)))), (7, .int (σ.2.1 129 1)), (6, .int 1), (0, .ref 118), (1, .int a), (2, .int b), (3, .int c), (4, .int w)]) rd_d_X12_race_246 (by decide) rfl ?_
            have hm : rm_many (σ.2.1 120) (σ.2.1 129 1) had (σ.2.1 131 1) = ax_f_les (σ.2.1 131 1) (σ.2.1 120 (22 + (σ.2.1 129 1).toInt.toNat)) := by rw [rm_many, if_pos h15]
            have hle := rm_many_le ho (b := had) (c := σ.2.1 131 1) (ax_win10 hb h6)
            rw [hm] at hle
            refine kr_sub (lv' := [(9, .int 0), (8, .int (ax_f_les (σ.2.1 131 1) (σ.2.1 120 (22 + (σ.2.1 129 1).toInt.toNat)))), (7, .int (σ.2.1 129 1)), (6, .int 1), (5, .int (had ||| (1 <<< ((σ.2.1 129 1) &&& 31)))), (0, .ref 118), (1, .int a), (2, .int b), (3, .int c), (4, .int w)]) (by simp) ?_
            refine ax_ml1 G (ax_win10 hb h6) hle (ax_f_les (σ.2.1 131 1) (σ.2.1 120 (22 + (σ.2.1 129 1).toInt.toNat))).toInt.toNat 0 τ5 hT5 (by decide) (by show ((ax_f_les (σ.2.1 131 1) (σ.2.1 120 (22 + (σ.2.1 129 1).toInt.toNat))).toInt - 0).toNat = _; rw [Int.sub_zero]) ?_
            intro μ hU u2 u4 uf k2
            rw [hsτ5, show τ5.2.1 130 1 = σ.2.1 130 1 from hf5 130 1 (fun q => absurd q.1 (by decide)), show τ5.2.1 132 1 = σ.2.1 132 1 from hf5 132 1 (fun q => absurd q.1 (by decide))] at u2 u4
            have hs0 : μ.2.1 120 = σ.2.1 120 := (funext fun y => uf 120 y (fun z => absurd z.1 (by decide))).trans hsτ5
            have m29 : ∀ y, μ.2.1 129 y = σ.2.1 129 y := fun y => (uf 129 y (fun z => absurd z.1 (by decide))).trans (hf5 129 y (fun z => absurd z.1 (by decide)))
            have m31 : μ.2.1 131 1 = σ.2.1 131 1 - (ax_f_les (σ.2.1 131 1) (σ.2.1 120 (22 + (σ.2.1 129 1).toInt.toNat))) := (uf 131 1 (fun z => absurd z.1 (by decide))).trans (hw5)
            have o30 : μ.2.1 130 0 = σ.2.1 130 0 := (uf 130 0 (fun z => absurd z.2 (by decide))).trans (hf5 130 0 (fun q => absurd q.1 (by decide)))
            have o32 : μ.2.1 132 0 = σ.2.1 132 0 := (uf 132 0 (fun z => absurd z.2 (by decide))).trans (hf5 132 0 (fun q => absurd q.1 (by decide)))
            have o31 : μ.2.1 131 0 = σ.2.1 131 0 := (uf 131 0 (fun z => absurd z.1 (by decide))).trans (hf5 131 0 (fun q => absurd q.2 (by decide)))
            have hwho : rm_who (σ.2.1 120) (rm_A σ.2.1 0 1) (rm_A σ.2.1 1 (-1)) = 1 := by
              show (if ax_f_win (σ.2.1 120) (σ.2.1 129 0) = 0 then (if ax_f_win (σ.2.1 120) (σ.2.1 129 1) = 0 then 2 else 1) else if ax_f_win (σ.2.1 120) (σ.2.1 129 1) = 0 then 0 else if σ.2.1 130 0 ≤ σ.2.1 130 1 then 0 else 1) = _
              rw [if_neg h2, if_neg h6, if_neg h10]
            refine kr_aload_n 5 rd_d_X12_race_315 rfl ?_
            refine kr_getf G.1 (rd_FL rd_k_X12_race_316).1 rd_d_X12_race_316 (hU.1 118 (.inl 12) rfl) (v := .ref 130) (by unfold am_fa; rw [(rd_FL rd_k_X12_race_316).2]; exact hU.2 118 30 130 rfl) ?_
            refine kr_iload 3 rd_d_X12_race_319 rfl ?_
            refine kr_dup2 rd_d_X12_race_321 rfl rfl ?_
            refine kr_iald G.1 (n := 2) rd_d_X12_race_322 (hU.1 130 (.inr (.int, 2)) rfl) (hd_in (n := 1) (by decide) (by decide)) ?_
            rw [hd_clamp (n := 1) (by decide)]
            refine kr_aload_n 5 rd_d_X12_race_323 rfl ?_
            refine kr_getf G.1 (rd_FL rd_k_X12_race_324).1 rd_d_X12_race_324 (hU.1 118 (.inl 12) rfl) (v := .ref 120) (by unfold am_fa; rw [(rd_FL rd_k_X12_race_324).2]; exact hU.2 118 6 120 rfl) ?_
            refine kr_bipush (v := 54) rd_d_X12_race_327 (by decide) ?_
            refine kr_iald G.1 (n := 277) rd_d_X12_race_329 (hU.1 120 (.inr (.int, 277)) rfl) (hd_in (n := 54) (by decide) (by decide)) ?_
            rw [hd_clamp (n := 54) (by decide)]
            refine kr_iadd rd_d_X12_race_330 ?_
            refine ax_astW G hU rd_d_X12_race_331 (n := 2) (hU.1 130 (.inr (.int, 2)) rfl) (ix := 1) (by decide) (by decide) ?_
            intro τm1 hTm1 hwm1 hfm1
            have hsτm1 : τm1.2.1 120 = μ.2.1 120 := (ax_120F hfm1 (by decide))
            have hqτm1 : ax_pl τm1.2.1 = ax_pl μ.2.1 := (ax_plF hfm1 (by decide))
            refine kr_aload_n 5 rd_d_X12_race_332 rfl ?_
            refine kr_getf G.1 (rd_FL rd_k_X12_race_333).1 rd_d_X12_race_333 (hTm1.1 118 (.inl 12) rfl) (v := .ref 129) (by unfold am_fa; rw [(rd_FL rd_k_X12_race_333).2]; exact hTm1.2 118 29 129 rfl) ?_
            refine kr_iload 3 rd_d_X12_race_336 rfl ?_
            refine kr_dup2 rd_d_X12_race_338 rfl rfl ?_
            refine kr_iald G.1 (n := 2) rd_d_X12_race_339 (hTm1.1 129 (.inr (.int, 2)) rfl) (hd_in (n := 1) (by decide) (by decide)) ?_
            rw [hd_clamp (n := 1) (by decide)]
            rw [show τm1.2.1 129 1 = μ.2.1 129 1 from hfm1 129 1 (fun q => absurd q.1 (by decide))]
            refine kr_iload 3 rd_d_X12_race_340 rfl ?_
            refine kr_if_ne (tgt := 349) rd_d_X12_race_342 rfl (fun _ => ?_) (fun h => absurd h (by decide))
            refine kr_iconst (v := (-1)) rd_d_X12_race_349 (by decide) ?_
            refine kr_iadd rd_d_X12_race_350 ?_
            refine ax_astW G hTm1 rd_d_X12_race_351 (n := 2) (hTm1.1 129 (.inr (.int, 2)) rfl) (ix := 1) (by decide) (by decide) ?_
            intro τm2 hTm2 hwm2 hfm2
            have hsτm2 : τm2.2.1 120 = μ.2.1 120 := (ax_120F hfm2 (by decide)).trans hsτm1
            have hqτm2 : ax_pl τm2.2.1 = ax_pl μ.2.1 := (ax_plF hfm2 (by decide)).trans hqτm1
            refine kr_goto (tgt := 105) rd_d_X12_race_352 rfl ?_
            have eV : rm_A τm2.2.1 1 (-1) = rm_vis (σ.2.1 120) c had (rm_A σ.2.1 1 (-1)) := by
              refine rc_six_eq ?_ (show ((-1) : Int32) = (-1) from rfl) ?_ ?_ ?_ (show (0 : Int32) = 0 from rfl)
              · show τm2.2.1 129 1 = σ.2.1 129 1 + (-1)
                rw [← m29 1]; exact hwm2
              · show τm2.2.1 130 1 = (rc_in (σ.2.1 120 (12 + (σ.2.1 129 1).toInt.toNat)) (σ.2.1 120 (2 + (σ.2.1 129 1).toInt.toNat)) c (rm_many (σ.2.1 120) (σ.2.1 129 1) had (σ.2.1 131 1)).toInt.toNat (σ.2.1 130 1) (σ.2.1 132 1)).1 + σ.2.1 120 54
                rw [hm, ← u2, ← hs0]; exact (hfm2 130 1 (fun q => absurd q.1 (by decide))).trans (hwm1)
              · show τm2.2.1 131 1 = σ.2.1 131 1 - rm_many (σ.2.1 120) (σ.2.1 129 1) had (σ.2.1 131 1)
                rw [hm, ← m31]; exact (hfm2 131 1 (fun q => absurd q.1 (by decide))).trans (hfm1 131 1 (fun q => absurd q.1 (by decide)))
              · show τm2.2.1 132 1 = (rc_in (σ.2.1 120 (12 + (σ.2.1 129 1).toInt.toNat)) (σ.2.1 120 (2 + (σ.2.1 129 1).toInt.toNat)) c (rm_many (σ.2.1 120) (σ.2.1 129 1) had (σ.2.1 131 1)).toInt.toNat (σ.2.1 130 1) (σ.2.1 132 1)).2
                rw [hm, ← u4]; exact (hfm2 132 1 (fun q => absurd q.1 (by decide))).trans (hfm1 132 1 (fun q => absurd q.1 (by decide)))
            have eO : rm_A τm2.2.1 0 1 = rm_A σ.2.1 0 1 := rc_six_eq (((hfm2 129 0 (fun q => absurd q.2 (by decide))).trans (hfm1 129 0 (fun q => absurd q.1 (by decide)))).trans (m29 0)) (show (1 : Int32) = 1 from rfl) (((hfm2 130 0 (fun q => absurd q.1 (by decide))).trans (hfm1 130 0 (fun q => absurd q.2 (by decide)))).trans o30) (((hfm2 131 0 (fun q => absurd q.1 (by decide))).trans (hfm1 131 0 (fun q => absurd q.1 (by decide)))).trans o31) (((hfm2 132 0 (fun q => absurd q.1 (by decide))).trans (hfm1 132 0 (fun q => absurd q.1 (by decide)))).trans o32) (show (0 : Int32) = 0 from rfl)
            have h120 : τm2.2.1 120 = σ.2.1 120 := (hsτm2).trans hs0
            have hr2 : rm_rem (σ.2.1 120) (rm_A σ.2.1 0 1) (rm_vis (σ.2.1 120) c had (rm_A σ.2.1 1 (-1))) ≤ f := by
              have := rm_remB (A := rm_A σ.2.1 0 1) (B := rm_A σ.2.1 1 (-1)) (B' := rm_vis (σ.2.1 120) c had (rm_A σ.2.1 1 (-1))) (s := σ.2.1 120) (hb) (h6) (show (rm_vis (σ.2.1 120) c had (rm_A σ.2.1 1 (-1))) 0 = _ from rfl)
              omega
            have K := ih (had ||| (1 <<< ((σ.2.1 129 1) &&& 31))) τm2 hTm2 (by rw [h120]; exact hb) (by rw [h120]; exact ho) (by rw [h120, eV, eO]; exact hr2)
            rw [h120, eV, eO] at K
            refine kr_sub (lv' := [(5, .int (had ||| (1 <<< ((σ.2.1 129 1) &&& 31)))), (0, .ref 118), (1, .int a), (2, .int b), (3, .int c), (4, .int w)]) (by simp) ?_
            rw [rm_it, if_neg (by rw [hwho]; decide), if_neg (by rw [hwho]; decide)]
            exact K
          · refine kr_iconst (v := 0) rd_d_X12_race_198 (by decide) ?_
            refine kr_goto (tgt := 222) rd_d_X12_race_199 rfl ?_
            refine kr_istore (lv' := [(8, .int 0), (7, .int (σ.2.1 129 1)), (6, .int 1), (5, .int had), (0, .ref 118), (1, .int a), (2, .int b), (3, .int c), (4, .int w)]) rd_d_X12_race_222 (by decide) rfl ?_
            refine kr_iload 3 rd_d_X12_race_224 rfl ?_
            refine kr_iconst (v := 1) rd_d_X12_race_226 (by decide) ?_
            refine kr_iload 1 rd_d_X12_race_227 rfl ?_
            refine kr_ishl rd_d_X12_race_229 ?_
            refine kr_ior rd_d_X12_race_230 ?_
            refine kr_istore (lv' := [(5, .int (had ||| (1 <<< ((σ.2.1 129 1) &&& 31)))), (8, .int 0), (7, .int (σ.2.1 129 1)), (6, .int 1), (0, .ref 118), (1, .int a), (2, .int b), (3, .int c), (4, .int w)]) rd_d_X12_race_231 (by decide) rfl ?_
            refine kr_aload_n 4 rd_d_X12_race_233 rfl ?_
            refine kr_getf G.1 (rd_FL rd_k_X12_race_234).1 rd_d_X12_race_234 (hS.1 118 (.inl 12) rfl) (v := .ref 131) (by unfold am_fa; rw [(rd_FL rd_k_X12_race_234).2]; exact hS.2 118 31 131 rfl) ?_
            refine kr_iload 3 rd_d_X12_race_237 rfl ?_
            refine kr_dup2 rd_d_X12_race_239 rfl rfl ?_
            refine kr_iald G.1 (n := 2) rd_d_X12_race_240 (hS.1 131 (.inr (.int, 2)) rfl) (hd_in (n := 1) (by decide) (by decide)) ?_
            rw [hd_clamp (n := 1) (by decide)]
            refine kr_iload 1 rd_d_X12_race_241 rfl ?_
            refine kr_isub rd_d_X12_race_243 ?_
            refine ax_astW G hS rd_d_X12_race_244 (n := 2) (hS.1 131 (.inr (.int, 2)) rfl) (ix := 1) (by decide) (by decide) ?_
            intro τ6 hT6 hw6 hf6
            have hsτ6 : τ6.2.1 120 = σ.2.1 120 := (ax_120F hf6 (by decide))
            have hqτ6 : ax_pl τ6.2.1 = ax_pl σ.2.1 := (ax_plF hf6 (by decide))
            refine kr_iconst (v := 0) rd_d_X12_race_245 (by decide) ?_
            refine kr_istore (lv' := [(9, .int 0), (5, .int (had ||| (1 <<< ((σ.2.1 129 1) &&& 31)))), (8, .int 0), (7, .int (σ.2.1 129 1)), (6, .int 1), (0, .ref 118), (1, .int a), (2, .int b), (3, .int c), (4, .int w)]) rd_d_X12_race_246 (by decide) rfl ?_
            have hm : rm_many (σ.2.1 120) (σ.2.1 129 1) had (σ.2.1 131 1) = 0 := by rw [rm_many, if_neg h15]
            have hle := rm_many_le ho (b := had) (c := σ.2.1 131 1) (ax_win10 hb h6)
            rw [hm] at hle
            refine kr_sub (lv' := [(9, .int 0), (8, .int 0), (7, .int (σ.2.1 129 1)), (6, .int 1), (5, .int (had ||| (1 <<< ((σ.2.1 129 1) &&& 31)))), (0, .ref 118), (1, .int a), (2, .int b), (3, .int c), (4, .int w)]) (by simp) ?_
            refine ax_ml1 G (ax_win10 hb h6) hle ((0 : Int32)).toInt.toNat 0 τ6 hT6 (by decide) (by show (((0 : Int32)).toInt - 0).toNat = _; rw [Int.sub_zero]) ?_
            intro μ hU u2 u4 uf k2
            rw [hsτ6, show τ6.2.1 130 1 = σ.2.1 130 1 from hf6 130 1 (fun q => absurd q.1 (by decide)), show τ6.2.1 132 1 = σ.2.1 132 1 from hf6 132 1 (fun q => absurd q.1 (by decide))] at u2 u4
            have hs0 : μ.2.1 120 = σ.2.1 120 := (funext fun y => uf 120 y (fun z => absurd z.1 (by decide))).trans hsτ6
            have m29 : ∀ y, μ.2.1 129 y = σ.2.1 129 y := fun y => (uf 129 y (fun z => absurd z.1 (by decide))).trans (hf6 129 y (fun z => absurd z.1 (by decide)))
            have m31 : μ.2.1 131 1 = σ.2.1 131 1 - 0 := (uf 131 1 (fun z => absurd z.1 (by decide))).trans (hw6)
            have o30 : μ.2.1 130 0 = σ.2.1 130 0 := (uf 130 0 (fun z => absurd z.2 (by decide))).trans (hf6 130 0 (fun q => absurd q.1 (by decide)))
            have o32 : μ.2.1 132 0 = σ.2.1 132 0 := (uf 132 0 (fun z => absurd z.2 (by decide))).trans (hf6 132 0 (fun q => absurd q.1 (by decide)))
            have o31 : μ.2.1 131 0 = σ.2.1 131 0 := (uf 131 0 (fun z => absurd z.1 (by decide))).trans (hf6 131 0 (fun q => absurd q.2 (by decide)))
            have hwho : rm_who (σ.2.1 120) (rm_A σ.2.1 0 1) (rm_A σ.2.1 1 (-1)) = 1 := by
              show (if ax_f_win (σ.2.1 120) (σ.2.1 129 0) = 0 then (if ax_f_win (σ.2.1 120) (σ.2.1 129 1) = 0 then 2 else 1) else if ax_f_win (σ.2.1 120) (σ.2.1 129 1) = 0 then 0 else if σ.2.1 130 0 ≤ σ.2.1 130 1 then 0 else 1) = _
              rw [if_neg h2, if_neg h6, if_neg h10]
            refine kr_aload_n 5 rd_d_X12_race_315 rfl ?_
            refine kr_getf G.1 (rd_FL rd_k_X12_race_316).1 rd_d_X12_race_316 (hU.1 118 (.inl 12) rfl) (v := .ref 130) (by unfold am_fa; rw [(rd_FL rd_k_X12_race_316).2]; exact hU.2 118 30 130 rfl) ?_
            refine kr_iload 3 rd_d_X12_race_319 rfl ?_
            refine kr_dup2 rd_d_X12_race_321 rfl rfl ?_
            refine kr_iald G.1 (n := 2) rd_d_X12_race_322 (hU.1 130 (.inr (.int, 2)) rfl) (hd_in (n := 1) (by decide) (by decide)) ?_
            rw [hd_clamp (n := 1) (by decide)]
            refine kr_aload_n 5 rd_d_X12_race_323 rfl ?_
            refine kr_getf G.1 (rd_FL rd_k_X12_race_324).1 rd_d_X12_race_324 (hU.1 118 (.inl 12) rfl) (v := .ref 120) (by unfold am_fa; rw [(rd_FL rd_k_X12_race_324).2]; exact hU.2 118 6 120 rfl) ?_
            refine kr_bipush (v := 54) rd_d_X12_race_327 (by decide) ?_
            refine kr_iald G.1 (n := 277) rd_d_X12_race_329 (hU.1 120 (.inr (.int, 277)) rfl) (hd_in (n := 54) (by decide) (by decide)) ?_
            rw [hd_clamp (n := 54) (by decide)]
            refine kr_iadd rd_d_X12_race_330 ?_
            refine ax_astW G hU rd_d_X12_race_331 (n := 2) (hU.1 130 (.inr (.int, 2)) rfl) (ix := 1) (by decide) (by decide) ?_
            intro τm1 hTm1 hwm1 hfm1
            have hsτm1 : τm1.2.1 120 = μ.2.1 120 := (ax_120F hfm1 (by decide))
            have hqτm1 : ax_pl τm1.2.1 = ax_pl μ.2.1 := (ax_plF hfm1 (by decide))
            refine kr_aload_n 5 rd_d_X12_race_332 rfl ?_
            refine kr_getf G.1 (rd_FL rd_k_X12_race_333).1 rd_d_X12_race_333 (hTm1.1 118 (.inl 12) rfl) (v := .ref 129) (by unfold am_fa; rw [(rd_FL rd_k_X12_race_333).2]; exact hTm1.2 118 29 129 rfl) ?_
            refine kr_iload 3 rd_d_X12_race_336 rfl ?_
            refine kr_dup2 rd_d_X12_race_338 rfl rfl ?_
            refine kr_iald G.1 (n := 2) rd_d_X12_race_339 (hTm1.1 129 (.inr (.int, 2)) rfl) (hd_in (n := 1) (by decide) (by decide)) ?_
            rw [hd_clamp (n := 1) (by decide)]
            rw [show τm1.2.1 129 1 = μ.2.1 129 1 from hfm1 129 1 (fun q => absurd q.1 (by decide))]
            refine kr_iload 3 rd_d_X12_race_340 rfl ?_
            refine kr_if_ne (tgt := 349) rd_d_X12_race_342 rfl (fun _ => ?_) (fun h => absurd h (by decide))
            refine kr_iconst (v := (-1)) rd_d_X12_race_349 (by decide) ?_
            refine kr_iadd rd_d_X12_race_350 ?_
            refine ax_astW G hTm1 rd_d_X12_race_351 (n := 2) (hTm1.1 129 (.inr (.int, 2)) rfl) (ix := 1) (by decide) (by decide) ?_
            intro τm2 hTm2 hwm2 hfm2
            have hsτm2 : τm2.2.1 120 = μ.2.1 120 := (ax_120F hfm2 (by decide)).trans hsτm1
            have hqτm2 : ax_pl τm2.2.1 = ax_pl μ.2.1 := (ax_plF hfm2 (by decide)).trans hqτm1
            refine kr_goto (tgt := 105) rd_d_X12_race_352 rfl ?_
            have eV : rm_A τm2.2.1 1 (-1) = rm_vis (σ.2.1 120) c had (rm_A σ.2.1 1 (-1)) := by
              refine rc_six_eq ?_ (show ((-1) : Int32) = (-1) from rfl) ?_ ?_ ?_ (show (0 : Int32) = 0 from rfl)
              · show τm2.2.1 129 1 = σ.2.1 129 1 + (-1)
                rw [← m29 1]; exact hwm2
              · show τm2.2.1 130 1 = (rc_in (σ.2.1 120 (12 + (σ.2.1 129 1).toInt.toNat)) (σ.2.1 120 (2 + (σ.2.1 129 1).toInt.toNat)) c (rm_many (σ.2.1 120) (σ.2.1 129 1) had (σ.2.1 131 1)).toInt.toNat (σ.2.1 130 1) (σ.2.1 132 1)).1 + σ.2.1 120 54
                rw [hm, ← u2, ← hs0]; exact (hfm2 130 1 (fun q => absurd q.1 (by decide))).trans (hwm1)
              · show τm2.2.1 131 1 = σ.2.1 131 1 - rm_many (σ.2.1 120) (σ.2.1 129 1) had (σ.2.1 131 1)
                rw [hm, ← m31]; exact (hfm2 131 1 (fun q => absurd q.1 (by decide))).trans (hfm1 131 1 (fun q => absurd q.1 (by decide)))
              · show τm2.2.1 132 1 = (rc_in (σ.2.1 120 (12 + (σ.2.1 129 1).toInt.toNat)) (σ.2.1 120 (2 + (σ.2.1 129 1).toInt.toNat)) c (rm_many (σ.2.1 120) (σ.2.1 129 1) had (σ.2.1 131 1)).toInt.toNat (σ.2.1 130 1) (σ.2.1 132 1)).2
                rw [hm, ← u4]; exact (hfm2 132 1 (fun q => absurd q.1 (by decide))).trans (hfm1 132 1 (fun q => absurd q.1 (by decide)))
            have eO : rm_A τm2.2.1 0 1 = rm_A σ.2.1 0 1 := rc_six_eq (((hfm2 129 0 (fun q => absurd q.2 (by decide))).trans (hfm1 129 0 (fun q => absurd q.1 (by decide)))).trans (m29 0)) (show (1 : Int32) = 1 from rfl) (((hfm2 130 0 (fun q => absurd q.1 (by decide))).trans (hfm1 130 0 (fun q => absurd q.2 (by decide)))).trans o30) (((hfm2 131 0 (fun q => absurd q.1 (by decide))).trans (hfm1 131 0 (fun q => absurd q.1 (by decide)))).trans o31) (((hfm2 132 0 (fun q => absurd q.1 (by decide))).trans (hfm1 132 0 (fun q => absurd q.1 (by decide)))).trans o32) (show (0 : Int32) = 0 from rfl)
            have h120 : τm2.2.1 120 = σ.2.1 120 := (hsτm2).trans hs0
            have hr2 : rm_rem (σ.2.1 120) (rm_A σ.2.1 0 1) (rm_vis (σ.2.1 120) c had (rm_A σ.2.1 1 (-1))) ≤ f := by
              have := rm_remB (A := rm_A σ.2.1 0 1) (B := rm_A σ.2.1 1 (-1)) (B' := rm_vis (σ.2.1 120) c had (rm_A σ.2.1 1 (-1))) (s := σ.2.1 120) (hb) (h6) (show (rm_vis (σ.2.1 120) c had (rm_A σ.2.1 1 (-1))) 0 = _ from rfl)
              omega
            have K := ih (had ||| (1 <<< ((σ.2.1 129 1) &&& 31))) τm2 hTm2 (by rw [h120]; exact hb) (by rw [h120]; exact ho) (by rw [h120, eV, eO]; exact hr2)
            rw [h120, eV, eO] at K
            refine kr_sub (lv' := [(5, .int (had ||| (1 <<< ((σ.2.1 129 1) &&& 31)))), (0, .ref 118), (1, .int a), (2, .int b), (3, .int c), (4, .int w)]) (by simp) ?_
            rw [rm_it, if_neg (by rw [hwho]; decide), if_neg (by rw [hwho]; decide)]
            exact K
    · refine kr_aload_n 1 rd_d_X12_race_118 rfl ?_
      refine kr_aload_n 1 rd_d_X12_race_119 rfl ?_
      refine kr_getf G.1 (rd_FL rd_k_X12_race_120).1 rd_d_X12_race_120 (hS.1 118 (.inl 12) rfl) (v := .ref 129) (by unfold am_fa; rw [(rd_FL rd_k_X12_race_120).2]; exact hS.2 118 29 129 rfl) ?_
      refine kr_iconst (v := 1) rd_d_X12_race_123 (by decide) ?_
      refine kr_iald G.1 (n := 2) rd_d_X12_race_124 (hS.1 129 (.inr (.int, 2)) rfl) (hd_in (n := 1) (by decide) (by decide)) ?_
      rw [hd_clamp (n := 1) (by decide)]
      refine rd_call G (T2 := tX12_isWindow) rfl rd_d_X12_race_125 rd_k_X12_race_125 rfl (hS.1 118 (.inl 12) rfl) (as := [.int (σ.2.1 129 1)]) (st := []) rfl (Nat.le_of_ble_eq_true rfl) rfl (Nat.le_of_ble_eq_true rfl) (d1 := 2) (by decide) (fun _ h => by cases h.1) (ax_win G hS (σ.2.1 129 1)) ?_
      intro v17 σ17 ⟨hv17, hs17⟩
      cases hv17
      rw [hs17]
      refine kr_if_eq (tgt := 355) rd_d_X12_race_128 rfl (fun h18 => ?_) (fun h18 => ?_)
      · have hwho : rm_who (σ.2.1 120) (rm_A σ.2.1 0 1) (rm_A σ.2.1 1 (-1)) = 2 := by
          show (if ax_f_win (σ.2.1 120) (σ.2.1 129 0) = 0 then (if ax_f_win (σ.2.1 120) (σ.2.1 129 1) = 0 then 2 else 1) else if ax_f_win (σ.2.1 120) (σ.2.1 129 1) = 0 then 0 else if σ.2.1 130 0 ≤ σ.2.1 130 1 then 0 else 1) = _
          rw [if_pos h2, if_pos h18]
        rw [rm_it, if_pos hwho]
        exact fin _ σ hS (Or.inr trivial) (by simp) (by simp)
      · refine kr_aload_n 1 rd_d_X12_race_131 rfl ?_
        refine kr_aload_n 1 rd_d_X12_race_132 rfl ?_
        refine kr_getf G.1 (rd_FL rd_k_X12_race_133).1 rd_d_X12_race_133 (hS.1 118 (.inl 12) rfl) (v := .ref 129) (by unfold am_fa; rw [(rd_FL rd_k_X12_race_133).2]; exact hS.2 118 29 129 rfl) ?_
        refine kr_iconst (v := 0) rd_d_X12_race_136 (by decide) ?_
        refine kr_iald G.1 (n := 2) rd_d_X12_race_137 (hS.1 129 (.inr (.int, 2)) rfl) (hd_in (n := 0) (by decide) (by decide)) ?_
        rw [hd_clamp (n := 0) (by decide)]
        refine rd_call G (T2 := tX12_isWindow) rfl rd_d_X12_race_138 rd_k_X12_race_138 rfl (hS.1 118 (.inl 12) rfl) (as := [.int (σ.2.1 129 0)]) (st := []) rfl (Nat.le_of_ble_eq_true rfl) rfl (Nat.le_of_ble_eq_true rfl) (d1 := 2) (by decide) (fun _ h => by cases h.1) (ax_win G hS (σ.2.1 129 0)) ?_
        intro v19 σ19 ⟨hv19, hs19⟩
        cases hv19
        rw [hs19]
        refine kr_if_eq (tgt := 172) rd_d_X12_race_141 rfl (fun h => ?_) (fun h => absurd h2 h)
        refine kr_iconst (v := 1) rd_d_X12_race_172 (by decide) ?_
        refine kr_goto (tgt := 177) rd_d_X12_race_173 rfl ?_
        refine kr_istore (lv' := [(6, .int 1), (5, .int had), (0, .ref 118), (1, .int a), (2, .int b), (3, .int c), (4, .int w)]) rd_d_X12_race_177 (by decide) rfl ?_
        refine kr_aload_n 2 rd_d_X12_race_179 rfl ?_
        refine kr_getf G.1 (rd_FL rd_k_X12_race_180).1 rd_d_X12_race_180 (hS.1 118 (.inl 12) rfl) (v := .ref 129) (by unfold am_fa; rw [(rd_FL rd_k_X12_race_180).2]; exact hS.2 118 29 129 rfl) ?_
        refine kr_iload 0 rd_d_X12_race_183 rfl ?_
        refine kr_iald G.1 (n := 2) rd_d_X12_race_185 (hS.1 129 (.inr (.int, 2)) rfl) (hd_in (n := 1) (by decide) (by decide)) ?_
        rw [hd_clamp (n := 1) (by decide)]
        refine kr_istore (lv' := [(7, .int (σ.2.1 129 1)), (6, .int 1), (5, .int had), (0, .ref 118), (1, .int a), (2, .int b), (3, .int c), (4, .int w)]) rd_d_X12_race_186 (by decide) rfl ?_
        refine kr_iload 2 rd_d_X12_race_188 rfl ?_
        refine kr_iload 0 rd_d_X12_race_190 rfl ?_
        refine rd_callS G (T2 := tX12_bitOf) rfl rd_d_X12_race_192 rd_k_X12_race_192 rfl rfl (as := [.int had, .int (σ.2.1 129 1)]) (st := []) rfl (Nat.le_of_ble_eq_true rfl) rfl (Nat.le_of_ble_eq_true rfl) (d1 := 1) (by decide) (fun _ h => by cases h.1) (ax_bit G hS had (σ.2.1 129 1)) ?_
        intro v21 σ21 ⟨hv21, hs21⟩
        cases hv21
        rw [hs21]
        refine kr_if_eq (tgt := 202) rd_d_X12_race_195 rfl (fun h22 => ?_) (fun h22 => ?_)
        · refine kr_aload_n 3 rd_d_X12_race_202 rfl ?_
          refine kr_getf G.1 (rd_FL rd_k_X12_race_203).1 rd_d_X12_race_203 (hS.1 118 (.inl 12) rfl) (v := .ref 131) (by unfold am_fa; rw [(rd_FL rd_k_X12_race_203).2]; exact hS.2 118 31 131 rfl) ?_
          refine kr_iload 1 rd_d_X12_race_206 rfl ?_
          refine kr_iald G.1 (n := 2) rd_d_X12_race_208 (hS.1 131 (.inr (.int, 2)) rfl) (hd_in (n := 1) (by decide) (by decide)) ?_
          rw [hd_clamp (n := 1) (by decide)]
          refine kr_aload_n 3 rd_d_X12_race_209 rfl ?_
          refine kr_getf G.1 (rd_FL rd_k_X12_race_210).1 rd_d_X12_race_210 (hS.1 118 (.inl 12) rfl) (v := .ref 120) (by unfold am_fa; rw [(rd_FL rd_k_X12_race_210).2]; exact hS.2 118 6 120 rfl) ?_
          refine kr_bipush (v := 22) rd_d_X12_race_213 (by decide) ?_
          refine kr_iload 0 rd_d_X12_race_215 rfl ?_
          refine kr_iadd rd_d_X12_race_217 ?_
          refine kr_iald G.1 (n := 277) rd_d_X12_race_218 (hS.1 120 (.inr (.int, 277)) rfl) (hd_in (n := 22 + (σ.2.1 129 1).toInt.toNat) (ax_ixn (C := 22) (by decide) (by decide) ⟨(ax_win10 hb h18).1, Int.lt_trans (ax_win10 hb h18).2 (by decide)⟩) (by have := ax_win10 hb h18; omega)) ?_
          rw [hd_clamp (n := 22 + (σ.2.1 129 1).toInt.toNat) (ax_ixn (C := 22) (by decide) (by decide) ⟨(ax_win10 hb h18).1, Int.lt_trans (ax_win10 hb h18).2 (by decide)⟩)]
          refine rd_callS G (T2 := tX12_lesser) rfl rd_d_X12_race_219 rd_k_X12_race_219 rfl rfl (as := [.int (σ.2.1 131 1), .int (σ.2.1 120 (22 + (σ.2.1 129 1).toInt.toNat))]) (st := []) rfl (Nat.le_of_ble_eq_true rfl) rfl (Nat.le_of_ble_eq_true rfl) (d1 := 1) (by decide) (fun _ h => by cases h.1) (ax_les G hS (σ.2.1 131 1) (σ.2.1 120 (22 + (σ.2.1 129 1).toInt.toNat))) ?_
          intro v23 σ23 ⟨hv23, hs23⟩
          cases hv23
          rw [hs23]
          refine kr_istore (lv' := [(8, .int (ax_f_les (σ.2.1 131 1) (σ.2.1 120 (22 + (σ.2.1 129 1).toInt.toNat)))), (7, .int (σ.2.1 129 1)), (6, .int 1), (5, .int had), (0, .ref 118), (1, .int a), (2, .int b), (3, .int c), (4, .int w)]) rd_d_X12_race_222 (by decide) rfl ?_
          refine kr_iload 3 rd_d_X12_race_224 rfl ?_
          refine kr_iconst (v := 1) rd_d_X12_race_226 (by decide) ?_
          refine kr_iload 1 rd_d_X12_race_227 rfl ?_
          refine kr_ishl rd_d_X12_race_229 ?_
          refine kr_ior rd_d_X12_race_230 ?_
          refine kr_istore (lv' := [(5, .int (had ||| (1 <<< ((σ.2.1 129 1) &&& 31)))), (8, .int (ax_f_les (σ.2.1 131 1) (σ.2.1 120 (22 + (σ.2.1 129 1).toInt.toNat)))), (7, .int (σ.2.1 129 1)), (6, .int 1), (0, .ref 118), (1, .int a), (2, .int b), (3, .int c), (4, .int w)]) rd_d_X12_race_231 (by decide) rfl ?_
          refine kr_aload_n 4 rd_d_X12_race_233 rfl ?_
          refine kr_getf G.1 (rd_FL rd_k_X12_race_234).1 rd_d_X12_race_234 (hS.1 118 (.inl 12) rfl) (v := .ref 131) (by unfold am_fa; rw [(rd_FL rd_k_X12_race_234).2]; exact hS.2 118 31 131 rfl) ?_
          refine kr_iload 3 rd_d_X12_race_237 rfl ?_
          refine kr_dup2 rd_d_X12_race_239 rfl rfl ?_
          refine kr_iald G.1 (n := 2) rd_d_X12_race_240 (hS.1 131 (.inr (.int, 2)) rfl) (hd_in (n := 1) (by decide) (by decide)) ?_
          rw [hd_clamp (n := 1) (by decide)]
          refine kr_iload 1 rd_d_X12_race_241 rfl ?_
          refine kr_isub rd_d_X12_race_243 ?_
          refine ax_astW G hS rd_d_X12_race_244 (n := 2) (hS.1 131 (.inr (.int, 2)) rfl) (ix := 1) (by decide) (by decide) ?_
          intro τ7 hT7 hw7 hf7
          have hsτ7 : τ7.2.1 120 = σ.2.1 120 := (ax_120F hf7 (by decide))
          have hqτ7 : ax_pl τ7.2.1 = ax_pl σ.2.1 := (ax_plF hf7 (by decide))
          refine kr_iconst (v := 0) rd_d_X12_race_245 (by decide) ?_
          refine kr_istore (lv' := [(9, .int 0), (5, .int (had ||| (1 <<< ((σ.2.1 129 1) &&& 31)))), (8, .int (ax_f_les (σ.2.1 131 1) (σ.2.1 120 (22 + (σ.2.1 129 1).toInt.toNat)))), (7, .int (σ.2.1 129 1)), (6, .int 1), (0, .ref 118), (1, .int a), (2, .int b), (3, .int c), (4, .int w)]) rd_d_X12_race_246 (by decide) rfl ?_
          have hm : rm_many (σ.2.1 120) (σ.2.1 129 1) had (σ.2.1 131 1) = ax_f_les (σ.2.1 131 1) (σ.2.1 120 (22 + (σ.2.1 129 1).toInt.toNat)) := by rw [rm_many, if_pos h22]
          have hle := rm_many_le ho (b := had) (c := σ.2.1 131 1) (ax_win10 hb h18)
          rw [hm] at hle
          refine kr_sub (lv' := [(9, .int 0), (8, .int (ax_f_les (σ.2.1 131 1) (σ.2.1 120 (22 + (σ.2.1 129 1).toInt.toNat)))), (7, .int (σ.2.1 129 1)), (6, .int 1), (5, .int (had ||| (1 <<< ((σ.2.1 129 1) &&& 31)))), (0, .ref 118), (1, .int a), (2, .int b), (3, .int c), (4, .int w)]) (by simp) ?_
          refine ax_ml1 G (ax_win10 hb h18) hle (ax_f_les (σ.2.1 131 1) (σ.2.1 120 (22 + (σ.2.1 129 1).toInt.toNat))).toInt.toNat 0 τ7 hT7 (by decide) (by show ((ax_f_les (σ.2.1 131 1) (σ.2.1 120 (22 + (σ.2.1 129 1).toInt.toNat))).toInt - 0).toNat = _; rw [Int.sub_zero]) ?_
          intro μ hU u2 u4 uf k2
          rw [hsτ7, show τ7.2.1 130 1 = σ.2.1 130 1 from hf7 130 1 (fun q => absurd q.1 (by decide)), show τ7.2.1 132 1 = σ.2.1 132 1 from hf7 132 1 (fun q => absurd q.1 (by decide))] at u2 u4
          have hs0 : μ.2.1 120 = σ.2.1 120 := (funext fun y => uf 120 y (fun z => absurd z.1 (by decide))).trans hsτ7
          have m29 : ∀ y, μ.2.1 129 y = σ.2.1 129 y := fun y => (uf 129 y (fun z => absurd z.1 (by decide))).trans (hf7 129 y (fun z => absurd z.1 (by decide)))
          have m31 : μ.2.1 131 1 = σ.2.1 131 1 - (ax_f_les (σ.2.1 131 1) (σ.2.1 120 (22 + (σ.2.1 129 1).toInt.toNat))) := (uf 131 1 (fun z => absurd z.1 (by decide))).trans (hw7)
          have o30 : μ.2.1 130 0 = σ.2.1 130 0 := (uf 130 0 (fun z => absurd z.2 (by decide))).trans (hf7 130 0 (fun q => absurd q.1 (by decide)))
          have o32 : μ.2.1 132 0 = σ.2.1 132 0 := (uf 132 0 (fun z => absurd z.2 (by decide))).trans (hf7 132 0 (fun q => absurd q.1 (by decide)))
          have o31 : μ.2.1 131 0 = σ.2.1 131 0 := (uf 131 0 (fun z => absurd z.1 (by decide))).trans (hf7 131 0 (fun q => absurd q.2 (by decide)))
          have hwho : rm_who (σ.2.1 120) (rm_A σ.2.1 0 1) (rm_A σ.2.1 1 (-1)) = 1 := by
            show (if ax_f_win (σ.2.1 120) (σ.2.1 129 0) = 0 then (if ax_f_win (σ.2.1 120) (σ.2.1 129 1) = 0 then 2 else 1) else if ax_f_win (σ.2.1 120) (σ.2.1 129 1) = 0 then 0 else if σ.2.1 130 0 ≤ σ.2.1 130 1 then 0 else 1) = _
            rw [if_pos h2, if_neg h18]
          refine kr_aload_n 5 rd_d_X12_race_315 rfl ?_
          refine kr_getf G.1 (rd_FL rd_k_X12_race_316).1 rd_d_X12_race_316 (hU.1 118 (.inl 12) rfl) (v := .ref 130) (by unfold am_fa; rw [(rd_FL rd_k_X12_race_316).2]; exact hU.2 118 30 130 rfl) ?_
          refine kr_iload 3 rd_d_X12_race_319 rfl ?_
          refine kr_dup2 rd_d_X12_race_321 rfl rfl ?_
          refine kr_iald G.1 (n := 2) rd_d_X12_race_322 (hU.1 130 (.inr (.int, 2)) rfl) (hd_in (n := 1) (by decide) (by decide)) ?_
          rw [hd_clamp (n := 1) (by decide)]
          refine kr_aload_n 5 rd_d_X12_race_323 rfl ?_
          refine kr_getf G.1 (rd_FL rd_k_X12_race_324).1 rd_d_X12_race_324 (hU.1 118 (.inl 12) rfl) (v := .ref 120) (by unfold am_fa; rw [(rd_FL rd_k_X12_race_324).2]; exact hU.2 118 6 120 rfl) ?_
          refine kr_bipush (v := 54) rd_d_X12_race_327 (by decide) ?_
          refine kr_iald G.1 (n := 277) rd_d_X12_race_329 (hU.1 120 (.inr (.int, 277)) rfl) (hd_in (n := 54) (by decide) (by decide)) ?_
          rw [hd_clamp (n := 54) (by decide)]
          refine kr_iadd rd_d_X12_race_330 ?_
          refine ax_astW G hU rd_d_X12_race_331 (n := 2) (hU.1 130 (.inr (.int, 2)) rfl) (ix := 1) (by decide) (by decide) ?_
          intro τm1 hTm1 hwm1 hfm1
          have hsτm1 : τm1.2.1 120 = μ.2.1 120 := (ax_120F hfm1 (by decide))
          have hqτm1 : ax_pl τm1.2.1 = ax_pl μ.2.1 := (ax_plF hfm1 (by decide))
          refine kr_aload_n 5 rd_d_X12_race_332 rfl ?_
          refine kr_getf G.1 (rd_FL rd_k_X12_race_333).1 rd_d_X12_race_333 (hTm1.1 118 (.inl 12) rfl) (v := .ref 129) (by unfold am_fa; rw [(rd_FL rd_k_X12_race_333).2]; exact hTm1.2 118 29 129 rfl) ?_
          refine kr_iload 3 rd_d_X12_race_336 rfl ?_
          refine kr_dup2 rd_d_X12_race_338 rfl rfl ?_
          refine kr_iald G.1 (n := 2) rd_d_X12_race_339 (hTm1.1 129 (.inr (.int, 2)) rfl) (hd_in (n := 1) (by decide) (by decide)) ?_
          rw [hd_clamp (n := 1) (by decide)]
          rw [show τm1.2.1 129 1 = μ.2.1 129 1 from hfm1 129 1 (fun q => absurd q.1 (by decide))]
          refine kr_iload 3 rd_d_X12_race_340 rfl ?_
          refine kr_if_ne (tgt := 349) rd_d_X12_race_342 rfl (fun _ => ?_) (fun h => absurd h (by decide))
          refine kr_iconst (v := (-1)) rd_d_X12_race_349 (by decide) ?_
          refine kr_iadd rd_d_X12_race_350 ?_
          refine ax_astW G hTm1 rd_d_X12_race_351 (n := 2) (hTm1.1 129 (.inr (.int, 2)) rfl) (ix := 1) (by decide) (by decide) ?_
          intro τm2 hTm2 hwm2 hfm2
          have hsτm2 : τm2.2.1 120 = μ.2.1 120 := (ax_120F hfm2 (by decide)).trans hsτm1
          have hqτm2 : ax_pl τm2.2.1 = ax_pl μ.2.1 := (ax_plF hfm2 (by decide)).trans hqτm1
          refine kr_goto (tgt := 105) rd_d_X12_race_352 rfl ?_
          have eV : rm_A τm2.2.1 1 (-1) = rm_vis (σ.2.1 120) c had (rm_A σ.2.1 1 (-1)) := by
            refine rc_six_eq ?_ (show ((-1) : Int32) = (-1) from rfl) ?_ ?_ ?_ (show (0 : Int32) = 0 from rfl)
            · show τm2.2.1 129 1 = σ.2.1 129 1 + (-1)
              rw [← m29 1]; exact hwm2
            · show τm2.2.1 130 1 = (rc_in (σ.2.1 120 (12 + (σ.2.1 129 1).toInt.toNat)) (σ.2.1 120 (2 + (σ.2.1 129 1).toInt.toNat)) c (rm_many (σ.2.1 120) (σ.2.1 129 1) had (σ.2.1 131 1)).toInt.toNat (σ.2.1 130 1) (σ.2.1 132 1)).1 + σ.2.1 120 54
              rw [hm, ← u2, ← hs0]; exact (hfm2 130 1 (fun q => absurd q.1 (by decide))).trans (hwm1)
            · show τm2.2.1 131 1 = σ.2.1 131 1 - rm_many (σ.2.1 120) (σ.2.1 129 1) had (σ.2.1 131 1)
              rw [hm, ← m31]; exact (hfm2 131 1 (fun q => absurd q.1 (by decide))).trans (hfm1 131 1 (fun q => absurd q.1 (by decide)))
            · show τm2.2.1 132 1 = (rc_in (σ.2.1 120 (12 + (σ.2.1 129 1).toInt.toNat)) (σ.2.1 120 (2 + (σ.2.1 129 1).toInt.toNat)) c (rm_many (σ.2.1 120) (σ.2.1 129 1) had (σ.2.1 131 1)).toInt.toNat (σ.2.1 130 1) (σ.2.1 132 1)).2
              rw [hm, ← u4]; exact (hfm2 132 1 (fun q => absurd q.1 (by decide))).trans (hfm1 132 1 (fun q => absurd q.1 (by decide)))
          have eO : rm_A τm2.2.1 0 1 = rm_A σ.2.1 0 1 := rc_six_eq (((hfm2 129 0 (fun q => absurd q.2 (by decide))).trans (hfm1 129 0 (fun q => absurd q.1 (by decide)))).trans (m29 0)) (show (1 : Int32) = 1 from rfl) (((hfm2 130 0 (fun q => absurd q.1 (by decide))).trans (hfm1 130 0 (fun q => absurd q.2 (by decide)))).trans o30) (((hfm2 131 0 (fun q => absurd q.1 (by decide))).trans (hfm1 131 0 (fun q => absurd q.1 (by decide)))).trans o31) (((hfm2 132 0 (fun q => absurd q.1 (by decide))).trans (hfm1 132 0 (fun q => absurd q.1 (by decide)))).trans o32) (show (0 : Int32) = 0 from rfl)
          have h120 : τm2.2.1 120 = σ.2.1 120 := (hsτm2).trans hs0
          have hr2 : rm_rem (σ.2.1 120) (rm_A σ.2.1 0 1) (rm_vis (σ.2.1 120) c had (rm_A σ.2.1 1 (-1))) ≤ f := by
            have := rm_remB (A := rm_A σ.2.1 0 1) (B := rm_A σ.2.1 1 (-1)) (B' := rm_vis (σ.2.1 120) c had (rm_A σ.2.1 1 (-1))) (s := σ.2.1 120) (hb) (h18) (show (rm_vis (σ.2.1 120) c had (rm_A σ.2.1 1 (-1))) 0 = _ from rfl)
            omega
          have K := ih (had ||| (1 <<< ((σ.2.1 129 1) &&& 31))) τm2 hTm2 (by rw [h120]; exact hb) (by rw [h120]; exact ho) (by rw [h120, eV, eO]; exact hr2)
          rw [h120, eV, eO] at K
          refine kr_sub (lv' := [(5, .int (had ||| (1 <<< ((σ.2.1 129 1) &&& 31)))), (0, .ref 118), (1, .int a), (2, .int b), (3, .int c), (4, .int w)]) (by simp) ?_
          rw [rm_it, if_neg (by rw [hwho]; decide), if_neg (by rw [hwho]; decide)]
          exact K
        · refine kr_iconst (v := 0) rd_d_X12_race_198 (by decide) ?_
          refine kr_goto (tgt := 222) rd_d_X12_race_199 rfl ?_
          refine kr_istore (lv' := [(8, .int 0), (7, .int (σ.2.1 129 1)), (6, .int 1), (5, .int had), (0, .ref 118), (1, .int a), (2, .int b), (3, .int c), (4, .int w)]) rd_d_X12_race_222 (by decide) rfl ?_
          refine kr_iload 3 rd_d_X12_race_224 rfl ?_
          refine kr_iconst (v := 1) rd_d_X12_race_226 (by decide) ?_
          refine kr_iload 1 rd_d_X12_race_227 rfl ?_
          refine kr_ishl rd_d_X12_race_229 ?_
          refine kr_ior rd_d_X12_race_230 ?_
          refine kr_istore (lv' := [(5, .int (had ||| (1 <<< ((σ.2.1 129 1) &&& 31)))), (8, .int 0), (7, .int (σ.2.1 129 1)), (6, .int 1), (0, .ref 118), (1, .int a), (2, .int b), (3, .int c), (4, .int w)]) rd_d_X12_race_231 (by decide) rfl ?_
          refine kr_aload_n 4 rd_d_X12_race_233 rfl ?_
          refine kr_getf G.1 (rd_FL rd_k_X12_race_234).1 rd_d_X12_race_234 (hS.1 118 (.inl 12) rfl) (v := .ref 131) (by unfold am_fa; rw [(rd_FL rd_k_X12_race_234).2]; exact hS.2 118 31 131 rfl) ?_
          refine kr_iload 3 rd_d_X12_race_237 rfl ?_
          refine kr_dup2 rd_d_X12_race_239 rfl rfl ?_
          refine kr_iald G.1 (n := 2) rd_d_X12_race_240 (hS.1 131 (.inr (.int, 2)) rfl) (hd_in (n := 1) (by decide) (by decide)) ?_
          rw [hd_clamp (n := 1) (by decide)]
          refine kr_iload 1 rd_d_X12_race_241 rfl ?_
          refine kr_isub rd_d_X12_race_243 ?_
          refine ax_astW G hS rd_d_X12_race_244 (n := 2) (hS.1 131 (.inr (.int, 2)) rfl) (ix := 1) (by decide) (by decide) ?_
          intro τ8 hT8 hw8 hf8
          have hsτ8 : τ8.2.1 120 = σ.2.1 120 := (ax_120F hf8 (by decide))
          have hqτ8 : ax_pl τ8.2.1 = ax_pl σ.2.1 := (ax_plF hf8 (by decide))
          refine kr_iconst (v := 0) rd_d_X12_race_245 (by decide) ?_
          refine kr_istore (lv' := [(9, .int 0), (5, .int (had ||| (1 <<< ((σ.2.1 129 1) &&& 31)))), (8, .int 0), (7, .int (σ.2.1 129 1)), (6, .int 1), (0, .ref 118), (1, .int a), (2, .int b), (3, .int c), (4, .int w)]) rd_d_X12_race_246 (by decide) rfl ?_
          have hm : rm_many (σ.2.1 120) (σ.2.1 129 1) had (σ.2.1 131 1) = 0 := by rw [rm_many, if_neg h22]
          have hle := rm_many_le ho (b := had) (c := σ.2.1 131 1) (ax_win10 hb h18)
          rw [hm] at hle
          refine kr_sub (lv' := [(9, .int 0), (8, .int 0), (7, .int (σ.2.1 129 1)), (6, .int 1), (5, .int (had ||| (1 <<< ((σ.2.1 129 1) &&& 31)))), (0, .ref 118), (1, .int a), (2, .int b), (3, .int c), (4, .int w)]) (by simp) ?_
          refine ax_ml1 G (ax_win10 hb h18) hle ((0 : Int32)).toInt.toNat 0 τ8 hT8 (by decide) (by show (((0 : Int32)).toInt - 0).toNat = _; rw [Int.sub_zero]) ?_
          intro μ hU u2 u4 uf k2
          rw [hsτ8, show τ8.2.1 130 1 = σ.2.1 130 1 from hf8 130 1 (fun q => absurd q.1 (by decide)), show τ8.2.1 132 1 = σ.2.1 132 1 from hf8 132 1 (fun q => absurd q.1 (by decide))] at u2 u4
          have hs0 : μ.2.1 120 = σ.2.1 120 := (funext fun y => uf 120 y (fun z => absurd z.1 (by decide))).trans hsτ8
          have m29 : ∀ y, μ.2.1 129 y = σ.2.1 129 y := fun y => (uf 129 y (fun z => absurd z.1 (by decide))).trans (hf8 129 y (fun z => absurd z.1 (by decide)))
          have m31 : μ.2.1 131 1 = σ.2.1 131 1 - 0 := (uf 131 1 (fun z => absurd z.1 (by decide))).trans (hw8)
          have o30 : μ.2.1 130 0 = σ.2.1 130 0 := (uf 130 0 (fun z => absurd z.2 (by decide))).trans (hf8 130 0 (fun q => absurd q.1 (by decide)))
          have o32 : μ.2.1 132 0 = σ.2.1 132 0 := (uf 132 0 (fun z => absurd z.2 (by decide))).trans (hf8 132 0 (fun q => absurd q.1 (by decide)))
          have o31 : μ.2.1 131 0 = σ.2.1 131 0 := (uf 131 0 (fun z => absurd z.1 (by decide))).trans (hf8 131 0 (fun q => absurd q.2 (by decide)))
          have hwho : rm_who (σ.2.1 120) (rm_A σ.2.1 0 1) (rm_A σ.2.1 1 (-1)) = 1 := by
            show (if ax_f_win (σ.2.1 120) (σ.2.1 129 0) = 0 then (if ax_f_win (σ.2.1 120) (σ.2.1 129 1) = 0 then 2 else 1) else if ax_f_win (σ.2.1 120) (σ.2.1 129 1) = 0 then 0 else if σ.2.1 130 0 ≤ σ.2.1 130 1 then 0 else 1) = _
            rw [if_pos h2, if_neg h18]
          refine kr_aload_n 5 rd_d_X12_race_315 rfl ?_
          refine kr_getf G.1 (rd_FL rd_k_X12_race_316).1 rd_d_X12_race_316 (hU.1 118 (.inl 12) rfl) (v := .ref 130) (by unfold am_fa; rw [(rd_FL rd_k_X12_race_316).2]; exact hU.2 118 30 130 rfl) ?_
          refine kr_iload 3 rd_d_X12_race_319 rfl ?_
          refine kr_dup2 rd_d_X12_race_321 rfl rfl ?_
          refine kr_iald G.1 (n := 2) rd_d_X12_race_322 (hU.1 130 (.inr (.int, 2)) rfl) (hd_in (n := 1) (by decide) (by decide)) ?_
          rw [hd_clamp (n := 1) (by decide)]
          refine kr_aload_n 5 rd_d_X12_race_323 rfl ?_
          refine kr_getf G.1 (rd_FL rd_k_X12_race_324).1 rd_d_X12_race_324 (hU.1 118 (.inl 12) rfl) (v := .ref 120) (by unfold am_fa; rw [(rd_FL rd_k_X12_race_324).2]; exact hU.2 118 6 120 rfl) ?_
          refine kr_bipush (v := 54) rd_d_X12_race_327 (by decide) ?_
          refine kr_iald G.1 (n := 277) rd_d_X12_race_329 (hU.1 120 (.inr (.int, 277)) rfl) (hd_in (n := 54) (by decide) (by decide)) ?_
          rw [hd_clamp (n := 54) (by decide)]
          refine kr_iadd rd_d_X12_race_330 ?_
          refine ax_astW G hU rd_d_X12_race_331 (n := 2) (hU.1 130 (.inr (.int, 2)) rfl) (ix := 1) (by decide) (by decide) ?_
          intro τm1 hTm1 hwm1 hfm1
          have hsτm1 : τm1.2.1 120 = μ.2.1 120 := (ax_120F hfm1 (by decide))
          have hqτm1 : ax_pl τm1.2.1 = ax_pl μ.2.1 := (ax_plF hfm1 (by decide))
          refine kr_aload_n 5 rd_d_X12_race_332 rfl ?_
          refine kr_getf G.1 (rd_FL rd_k_X12_race_333).1 rd_d_X12_race_333 (hTm1.1 118 (.inl 12) rfl) (v := .ref 129) (by unfold am_fa; rw [(rd_FL rd_k_X12_race_333).2]; exact hTm1.2 118 29 129 rfl) ?_
          refine kr_iload 3 rd_d_X12_race_336 rfl ?_
          refine kr_dup2 rd_d_X12_race_338 rfl rfl ?_
          refine kr_iald G.1 (n := 2) rd_d_X12_race_339 (hTm1.1 129 (.inr (.int, 2)) rfl) (hd_in (n := 1) (by decide) (by decide)) ?_
          rw [hd_clamp (n := 1) (by decide)]
          rw [show τm1.2.1 129 1 = μ.2.1 129 1 from hfm1 129 1 (fun q => absurd q.1 (by decide))]
          refine kr_iload 3 rd_d_X12_race_340 rfl ?_
          refine kr_if_ne (tgt := 349) rd_d_X12_race_342 rfl (fun _ => ?_) (fun h => absurd h (by decide))
          refine kr_iconst (v := (-1)) rd_d_X12_race_349 (by decide) ?_
          refine kr_iadd rd_d_X12_race_350 ?_
          refine ax_astW G hTm1 rd_d_X12_race_351 (n := 2) (hTm1.1 129 (.inr (.int, 2)) rfl) (ix := 1) (by decide) (by decide) ?_
          intro τm2 hTm2 hwm2 hfm2
          have hsτm2 : τm2.2.1 120 = μ.2.1 120 := (ax_120F hfm2 (by decide)).trans hsτm1
          have hqτm2 : ax_pl τm2.2.1 = ax_pl μ.2.1 := (ax_plF hfm2 (by decide)).trans hqτm1
          refine kr_goto (tgt := 105) rd_d_X12_race_352 rfl ?_
          have eV : rm_A τm2.2.1 1 (-1) = rm_vis (σ.2.1 120) c had (rm_A σ.2.1 1 (-1)) := by
            refine rc_six_eq ?_ (show ((-1) : Int32) = (-1) from rfl) ?_ ?_ ?_ (show (0 : Int32) = 0 from rfl)
            · show τm2.2.1 129 1 = σ.2.1 129 1 + (-1)
              rw [← m29 1]; exact hwm2
            · show τm2.2.1 130 1 = (rc_in (σ.2.1 120 (12 + (σ.2.1 129 1).toInt.toNat)) (σ.2.1 120 (2 + (σ.2.1 129 1).toInt.toNat)) c (rm_many (σ.2.1 120) (σ.2.1 129 1) had (σ.2.1 131 1)).toInt.toNat (σ.2.1 130 1) (σ.2.1 132 1)).1 + σ.2.1 120 54
              rw [hm, ← u2, ← hs0]; exact (hfm2 130 1 (fun q => absurd q.1 (by decide))).trans (hwm1)
            · show τm2.2.1 131 1 = σ.2.1 131 1 - rm_many (σ.2.1 120) (σ.2.1 129 1) had (σ.2.1 131 1)
              rw [hm, ← m31]; exact (hfm2 131 1 (fun q => absurd q.1 (by decide))).trans (hfm1 131 1 (fun q => absurd q.1 (by decide)))
            · show τm2.2.1 132 1 = (rc_in (σ.2.1 120 (12 + (σ.2.1 129 1).toInt.toNat)) (σ.2.1 120 (2 + (σ.2.1 129 1).toInt.toNat)) c (rm_many (σ.2.1 120) (σ.2.1 129 1) had (σ.2.1 131 1)).toInt.toNat (σ.2.1 130 1) (σ.2.1 132 1)).2
              rw [hm, ← u4]; exact (hfm2 132 1 (fun q => absurd q.1 (by decide))).trans (hfm1 132 1 (fun q => absurd q.1 (by decide)))
          have eO : rm_A τm2.2.1 0 1 = rm_A σ.2.1 0 1 := rc_six_eq (((hfm2 129 0 (fun q => absurd q.2 (by decide))).trans (hfm1 129 0 (fun q => absurd q.1 (by decide)))).trans (m29 0)) (show (1 : Int32) = 1 from rfl) (((hfm2 130 0 (fun q => absurd q.1 (by decide))).trans (hfm1 130 0 (fun q => absurd q.2 (by decide)))).trans o30) (((hfm2 131 0 (fun q => absurd q.1 (by decide))).trans (hfm1 131 0 (fun q => absurd q.1 (by decide)))).trans o31) (((hfm2 132 0 (fun q => absurd q.1 (by decide))).trans (hfm1 132 0 (fun q => absurd q.1 (by decide)))).trans o32) (show (0 : Int32) = 0 from rfl)
          have h120 : τm2.2.1 120 = σ.2.1 120 := (hsτm2).trans hs0
          have hr2 : rm_rem (σ.2.1 120) (rm_A σ.2.1 0 1) (rm_vis (σ.2.1 120) c had (rm_A σ.2.1 1 (-1))) ≤ f := by
            have := rm_remB (A := rm_A σ.2.1 0 1) (B := rm_A σ.2.1 1 (-1)) (B' := rm_vis (σ.2.1 120) c had (rm_A σ.2.1 1 (-1))) (s := σ.2.1 120) (hb) (h18) (show (rm_vis (σ.2.1 120) c had (rm_A σ.2.1 1 (-1))) 0 = _ from rfl)
            omega
          have K := ih (had ||| (1 <<< ((σ.2.1 129 1) &&& 31))) τm2 hTm2 (by rw [h120]; exact hb) (by rw [h120]; exact ho) (by rw [h120, eV, eO]; exact hr2)
          rw [h120, eV, eO] at K
          refine kr_sub (lv' := [(5, .int (had ||| (1 <<< ((σ.2.1 129 1) &&& 31)))), (0, .ref 118), (1, .int a), (2, .int b), (3, .int c), (4, .int w)]) (by simp) ?_
          rw [rm_it, if_neg (by rw [hwho]; decide), if_neg (by rw [hwho]; decide)]
          exact K
theorem ax_in01 {d : Int32} (h : ¬ ax_f_isIn d 0 1 = 0) : 0 ≤ d.toInt ∧ d.toInt < 2 := by
  have z0 : (0 : Int32).toInt = 0 := rfl
  have z1 : (1 : Int32).toInt = 1 := rfl
  rw [ax_f_isIn] at h
  split at h
  · exact absurd rfl h
  · rename_i q1
    split at h
    · exact absurd rfl h
    · rename_i q2
      have g1 : ¬ d.toInt < 0 := fun q => q1 (Int32.lt_iff_toInt_lt.mpr (by omega))
      have g2 : ¬ 1 < d.toInt := fun q => q2 (Int32.lt_iff_toInt_lt.mpr (by omega))
      omega
theorem rm_start {s : Nat → Int32} (hb : pl_B s) {a b : Int32} (ha : ¬ ax_f_win s a = 0) (hbb : ¬ ax_f_win s b = 0) : rm_rem s (rc_six fun j => if j = 0 then a else if j = 1 then 1 else if j = 3 then s 55 else 0) (rc_six fun j => if j = 0 then b else if j = 1 then (-1) else if j = 3 then s 55 else 0) ≤ 20 := by
  obtain ⟨a1, a2, a3⟩ := ax_winI hb ha
  obtain ⟨b1, b2, b3⟩ := ax_winI hb hbb
  have h1 := hb.1
  show (if ax_f_win s a = 0 then 0 else ((s 0).toInt - a.toInt).toNat) + (if ax_f_win s b = 0 then 0 else (b.toInt + 1).toNat) ≤ 20
  rw [if_neg ha, if_neg hbb]
  omega
def pl_B5 (s : Nat → Int32) : Prop := ∀ k, k < 10 → (s (22 + k)).toInt ≤ 24
theorem pl_z5 : ∀ k, k < 10 → sx_atl (z9.1 120) (22 + k) = some (.ofNat 0, .ofNat 3, 411) := by decide +kernel
theorem pl_B5M {σe σ : am_S} {m : Nat} (hM : sx_M z9 hd_C σe m 0 σ) : pl_B5 (σ.2.1 120) := fun k hk => Int.le_trans (hM.2.2.1 120 (22 + k) _ _ _ (pl_z5 k hk)).2 (by decide)
theorem pl_z7 : ∀ k, k < 10 → sx_atl (z9.1 7) k = some (.ofNat 0, .ofNat 3, 42) := by decide +kernel
theorem ax_ho {σe σ : am_S} {m : Nat} (hM : sx_M z9 hd_C σe m 0 σ) (z : Int32) : (ax_f_oft σ.2.1 z).toInt ≤ 24 := by
  rw [ax_f_oft, ax_ent]
  split
  · decide
  · split
    · decide
    · rename_i h1 h2
      have z0 : (0 : Int32).toInt = 0 := rfl
      have zn : (nI 10).toInt = 10 := rfl
      have g1 : ¬ z.toInt < 0 := fun q => h1 (Int32.lt_iff_toInt_lt.mpr (by omega))
      have g2 : ¬ 10 ≤ z.toInt := fun q => h2 (Int32.le_iff_toInt_le.mpr (by omega))
      rw [hd_clamp (n := z.toInt.toNat) (by omega)]
      exact Int.le_trans (hM.2.2.1 7 z.toInt.toNat _ _ _ (pl_z7 _ (by omega))).2 (by decide)
def ax_f_raM (s : Nat → Int32) (a b c d : Int32) : Int32 := if (ax_f_win (s) a) = 0 then (-1) else if (ax_f_win (s) b) = 0 then (-1) else if (ax_f_isIn c 0 60) = 0 then (-1) else if (ax_f_isIn d 0 1) = 0 then (-1) else rc_out d (rm_it (s) c 20 (rc_six fun j => if j = 0 then a else if j = 1 then 1 else if j = 3 then s 55 else 0) (rc_six fun j => if j = 0 then b else if j = 1 then (-1) else if j = 3 then s 55 else 0) 0)
theorem ax_raM (G : sx_G0 g L xs z9 hd_C ex_mt) {σ : am_S} (hS : ax_S σ) (a b c d : Int32) (h1 : pl_B (σ.2.1 120)) (h5 : pl_B5 (σ.2.1 120)) : am_K g 4 tX12_race.1 0 0 0 (lv_args 0 [.ref 118, .int a, .int b, .int c, .int d]) [] σ (fun r _ => r = some (some (.int (ax_f_raM (σ.2.1 120) a b c d)))) := by
  refine ax_thr G hS rd_d_X12_race_0 rd_d_X12_race_1 rd_d_X12_race_2 rd_k_X12_race_2 rfl ?_
  intro τ hT hm hm8
  have e120 : σ.2.1 120 = τ.2.1 120 := funext fun k => (hm 120 k (by decide)).symm
  have hb := e120 ▸ h1
  have hb5 := e120 ▸ h5
  refine kr_aload_n 0 rd_d_X12_race_5 rfl ?_
  refine kr_iload_n 1 rd_d_X12_race_6 rfl ?_
  refine rd_call G (T2 := tX12_isWindow) rfl rd_d_X12_race_7 rd_k_X12_race_7 rfl (hT.1 118 (.inl 12) rfl) (as := [.int a]) (st := []) rfl (Nat.le_of_ble_eq_true rfl) rfl (Nat.le_of_ble_eq_true rfl) (d1 := 2) (by decide) (fun _ h => by cases h.1) (ax_win G hT a) ?_
  intro v1 σ1 ⟨hv1, hs1⟩
  cases hv1
  rw [hs1]
  refine kr_if_eq (tgt := 41) rd_d_X12_race_10 rfl (fun h2 => ?_) (fun h2 => ?_)
  · refine kr_iconst (v := (-1)) rd_d_X12_race_41 (by decide) ?_
    exact kr_ireturn rd_d_X12_race_42 (ty := .int) rfl rfl (by rw [e120, ax_f_raM, if_pos h2])
  · refine kr_aload_n 0 rd_d_X12_race_13 rfl ?_
    refine kr_iload_n 2 rd_d_X12_race_14 rfl ?_
    refine rd_call G (T2 := tX12_isWindow) rfl rd_d_X12_race_15 rd_k_X12_race_15 rfl (hT.1 118 (.inl 12) rfl) (as := [.int b]) (st := []) rfl (Nat.le_of_ble_eq_true rfl) rfl (Nat.le_of_ble_eq_true rfl) (d1 := 2) (by decide) (fun _ h => by cases h.1) (ax_win G hT b) ?_
    intro v3 σ3 ⟨hv3, hs3⟩
    cases hv3
    rw [hs3]
    refine kr_if_eq (tgt := 41) rd_d_X12_race_18 rfl (fun h4 => ?_) (fun h4 => ?_)
    · refine kr_iconst (v := (-1)) rd_d_X12_race_41 (by decide) ?_
      exact kr_ireturn rd_d_X12_race_42 (ty := .int) rfl rfl (by rw [e120, ax_f_raM, if_neg h2, if_pos h4])
    · refine kr_iload_n 3 rd_d_X12_race_21 rfl ?_
      refine kr_iconst (v := 0) rd_d_X12_race_22 (by decide) ?_
      refine kr_bipush (v := 60) rd_d_X12_race_23 (by decide) ?_
      refine rd_callS G (T2 := tX12_isIn) rfl rd_d_X12_race_25 rd_k_X12_race_25 rfl rfl (as := [.int c, .int 0, .int 60]) (st := []) rfl (Nat.le_of_ble_eq_true rfl) rfl (Nat.le_of_ble_eq_true rfl) (d1 := 1) (by decide) (fun _ h => by cases h.1) (ax_isIn G hT c 0 60) ?_
      intro v5 σ5 ⟨hv5, hs5⟩
      cases hv5
      rw [hs5]
      refine kr_if_eq (tgt := 41) rd_d_X12_race_28 rfl (fun h6 => ?_) (fun h6 => ?_)
      · refine kr_iconst (v := (-1)) rd_d_X12_race_41 (by decide) ?_
        exact kr_ireturn rd_d_X12_race_42 (ty := .int) rfl rfl (by rw [e120, ax_f_raM, if_neg h2, if_neg h4, if_pos h6])
      · refine kr_iload 4 rd_d_X12_race_31 rfl ?_
        refine kr_iconst (v := 0) rd_d_X12_race_33 (by decide) ?_
        refine kr_iconst (v := 1) rd_d_X12_race_34 (by decide) ?_
        refine rd_callS G (T2 := tX12_isIn) rfl rd_d_X12_race_35 rd_k_X12_race_35 rfl rfl (as := [.int d, .int 0, .int 1]) (st := []) rfl (Nat.le_of_ble_eq_true rfl) rfl (Nat.le_of_ble_eq_true rfl) (d1 := 1) (by decide) (fun _ h => by cases h.1) (ax_isIn G hT d 0 1) ?_
        intro v7 σ7 ⟨hv7, hs7⟩
        cases hv7
        rw [hs7]
        refine kr_if_ne (tgt := 43) rd_d_X12_race_38 rfl (fun h8 => ?_) (fun h8 => ?_)
        · refine kr_aload_n 0 rd_d_X12_race_43 rfl ?_
          refine kr_getf G.1 (rd_FL rd_k_X12_race_44).1 rd_d_X12_race_44 (hT.1 118 (.inl 12) rfl) (v := .ref 129) (by unfold am_fa; rw [(rd_FL rd_k_X12_race_44).2]; exact hT.2 118 29 129 rfl) ?_
          refine kr_iconst (v := 0) rd_d_X12_race_47 (by decide) ?_
          refine kr_iload_n 1 rd_d_X12_race_48 rfl ?_
          refine ax_astW G hT rd_d_X12_race_49 (n := 2) (hT.1 129 (.inr (.int, 2)) rfl) (ix := 0) (by decide) (by decide) ?_
          intro τr1 hTr1 hwr1 hfr1
          have hsτr1 : τr1.2.1 120 = τ.2.1 120 := (ax_120F hfr1 (by decide))
          have hqτr1 : ax_pl τr1.2.1 = ax_pl τ.2.1 := (ax_plF hfr1 (by decide))
          refine kr_aload_n 0 rd_d_X12_race_50 rfl ?_
          refine kr_getf G.1 (rd_FL rd_k_X12_race_51).1 rd_d_X12_race_51 (hTr1.1 118 (.inl 12) rfl) (v := .ref 129) (by unfold am_fa; rw [(rd_FL rd_k_X12_race_51).2]; exact hTr1.2 118 29 129 rfl) ?_
          refine kr_iconst (v := 1) rd_d_X12_race_54 (by decide) ?_
          refine kr_iload_n 2 rd_d_X12_race_55 rfl ?_
          refine ax_astW G hTr1 rd_d_X12_race_56 (n := 2) (hTr1.1 129 (.inr (.int, 2)) rfl) (ix := 1) (by decide) (by decide) ?_
          intro τr2 hTr2 hwr2 hfr2
          have hsτr2 : τr2.2.1 120 = τ.2.1 120 := (ax_120F hfr2 (by decide)).trans hsτr1
          have hqτr2 : ax_pl τr2.2.1 = ax_pl τ.2.1 := (ax_plF hfr2 (by decide)).trans hqτr1
          refine kr_iconst (v := 0) rd_d_X12_race_57 (by decide) ?_
          refine kr_istore (lv' := [(5, .int 0), (0, .ref 118), (1, .int a), (2, .int b), (3, .int c), (4, .int d)]) rd_d_X12_race_58 (by decide) rfl ?_
          refine kr_iload 0 rd_d_X12_race_60 rfl ?_
          refine kr_iconst (v := 2) rd_d_X12_race_62 (by decide) ?_
          refine kr_icmp_ge (tgt := 102) rd_d_X12_race_63 rfl (fun h => absurd h (by decide)) (fun h => ?_)
          refine kr_aload_n 1 rd_d_X12_race_66 rfl ?_
          refine kr_getf G.1 (rd_FL rd_k_X12_race_67).1 rd_d_X12_race_67 (hTr2.1 118 (.inl 12) rfl) (v := .ref 130) (by unfold am_fa; rw [(rd_FL rd_k_X12_race_67).2]; exact hTr2.2 118 30 130 rfl) ?_
          refine kr_iload 0 rd_d_X12_race_70 rfl ?_
          refine kr_iconst (v := 0) rd_d_X12_race_72 (by decide) ?_
          refine ax_astW G hTr2 rd_d_X12_race_73 (n := 2) (hTr2.1 130 (.inr (.int, 2)) rfl) (ix := 0) (by decide) (by decide) ?_
          intro τr3 hTr3 hwr3 hfr3
          have hsτr3 : τr3.2.1 120 = τ.2.1 120 := (ax_120F hfr3 (by decide)).trans hsτr2
          have hqτr3 : ax_pl τr3.2.1 = ax_pl τ.2.1 := (ax_plF hfr3 (by decide)).trans hqτr2
          refine kr_aload_n 1 rd_d_X12_race_74 rfl ?_
          refine kr_getf G.1 (rd_FL rd_k_X12_race_75).1 rd_d_X12_race_75 (hTr3.1 118 (.inl 12) rfl) (v := .ref 131) (by unfold am_fa; rw [(rd_FL rd_k_X12_race_75).2]; exact hTr3.2 118 31 131 rfl) ?_
          refine kr_iload 0 rd_d_X12_race_78 rfl ?_
          refine kr_aload_n 1 rd_d_X12_race_80 rfl ?_
          refine kr_getf G.1 (rd_FL rd_k_X12_race_81).1 rd_d_X12_race_81 (hTr3.1 118 (.inl 12) rfl) (v := .ref 120) (by unfold am_fa; rw [(rd_FL rd_k_X12_race_81).2]; exact hTr3.2 118 6 120 rfl) ?_
          refine kr_bipush (v := 55) rd_d_X12_race_84 (by decide) ?_
          refine kr_iald G.1 (n := 277) rd_d_X12_race_86 (hTr3.1 120 (.inr (.int, 277)) rfl) (hd_in (n := 55) (by decide) (by decide)) ?_
          rw [hd_clamp (n := 55) (by decide)]
          rw [show τr3.2.1 120 55 = τ.2.1 120 55 from (hfr3 120 55 (fun q => absurd q.1 (by decide))).trans ((hfr2 120 55 (fun q => absurd q.1 (by decide))).trans (hfr1 120 55 (fun q => absurd q.1 (by decide))))]
          refine ax_astW G hTr3 rd_d_X12_race_87 (n := 2) (hTr3.1 131 (.inr (.int, 2)) rfl) (ix := 0) (by decide) (by decide) ?_
          intro τr4 hTr4 hwr4 hfr4
          have hsτr4 : τr4.2.1 120 = τ.2.1 120 := (ax_120F hfr4 (by decide)).trans hsτr3
          have hqτr4 : ax_pl τr4.2.1 = ax_pl τ.2.1 := (ax_plF hfr4 (by decide)).trans hqτr3
          refine kr_aload_n 1 rd_d_X12_race_88 rfl ?_
          refine kr_getf G.1 (rd_FL rd_k_X12_race_89).1 rd_d_X12_race_89 (hTr4.1 118 (.inl 12) rfl) (v := .ref 132) (by unfold am_fa; rw [(rd_FL rd_k_X12_race_89).2]; exact hTr4.2 118 32 132 rfl) ?_
          refine kr_iload 0 rd_d_X12_race_92 rfl ?_
          refine kr_iconst (v := 0) rd_d_X12_race_94 (by decide) ?_
          refine ax_astW G hTr4 rd_d_X12_race_95 (n := 2) (hTr4.1 132 (.inr (.int, 2)) rfl) (ix := 0) (by decide) (by decide) ?_
          intro τr5 hTr5 hwr5 hfr5
          have hsτr5 : τr5.2.1 120 = τ.2.1 120 := (ax_120F hfr5 (by decide)).trans hsτr4
          have hqτr5 : ax_pl τr5.2.1 = ax_pl τ.2.1 := (ax_plF hfr5 (by decide)).trans hqτr4
          refine kr_iinc (v := 1) (lv' := [(5, .int 1), (0, .ref 118), (1, .int a), (2, .int b), (3, .int c), (4, .int d)]) 0 rd_d_X12_race_96 rfl rfl (by decide) rfl ?_
          refine kr_goto (tgt := 60) rd_d_X12_race_99 rfl ?_
          refine kr_iload 0 rd_d_X12_race_60 rfl ?_
          refine kr_iconst (v := 2) rd_d_X12_race_62 (by decide) ?_
          refine kr_icmp_ge (tgt := 102) rd_d_X12_race_63 rfl (fun h => absurd h (by decide)) (fun h => ?_)
          refine kr_aload_n 1 rd_d_X12_race_66 rfl ?_
          refine kr_getf G.1 (rd_FL rd_k_X12_race_67).1 rd_d_X12_race_67 (hTr5.1 118 (.inl 12) rfl) (v := .ref 130) (by unfold am_fa; rw [(rd_FL rd_k_X12_race_67).2]; exact hTr5.2 118 30 130 rfl) ?_
          refine kr_iload 0 rd_d_X12_race_70 rfl ?_
          refine kr_iconst (v := 0) rd_d_X12_race_72 (by decide) ?_
          refine ax_astW G hTr5 rd_d_X12_race_73 (n := 2) (hTr5.1 130 (.inr (.int, 2)) rfl) (ix := 1) (by decide) (by decide) ?_
          intro τr6 hTr6 hwr6 hfr6
          have hsτr6 : τr6.2.1 120 = τ.2.1 120 := (ax_120F hfr6 (by decide)).trans hsτr5
          have hqτr6 : ax_pl τr6.2.1 = ax_pl τ.2.1 := (ax_plF hfr6 (by decide)).trans hqτr5
          refine kr_aload_n 1 rd_d_X12_race_74 rfl ?_
          refine kr_getf G.1 (rd_FL rd_k_X12_race_75).1 rd_d_X12_race_75 (hTr6.1 118 (.inl 12) rfl) (v := .ref 131) (by unfold am_fa; rw [(rd_FL rd_k_X12_race_75).2]; exact hTr6.2 118 31 131 rfl) ?_
          refine kr_iload 0 rd_d_X12_race_78 rfl ?_
          refine kr_aload_n 1 rd_d_X12_race_80 rfl ?_
          refine kr_getf G.1 (rd_FL rd_k_X12_race_81).1 rd_d_X12_race_81 (hTr6.1 118 (.inl 12) rfl) (v := .ref 120) (by unfold am_fa; rw [(rd_FL rd_k_X12_race_81).2]; exact hTr6.2 118 6 120 rfl) ?_
          refine kr_bipush (v := 55) rd_d_X12_race_84 (by decide) ?_
          refine kr_iald G.1 (n := 277) rd_d_X12_race_86 (hTr6.1 120 (.inr (.int, 277)) rfl) (hd_in (n := 55) (by decide) (by decide)) ?_
          rw [hd_clamp (n := 55) (by decide)]
          rw [show τr6.2.1 120 55 = τ.2.1 120 55 from (hfr6 120 55 (fun q => absurd q.1 (by decide))).trans ((hfr5 120 55 (fun q => absurd q.1 (by decide))).trans ((hfr4 120 55 (fun q => absurd q.1 (by decide))).trans ((hfr3 120 55 (fun q => absurd q.1 (by decide))).trans ((hfr2 120 55 (fun q => absurd q.1 (by decide))).trans (hfr1 120 55 (fun q => absurd q.1 (by decide)))))))]
          refine ax_astW G hTr6 rd_d_X12_race_87 (n := 2) (hTr6.1 131 (.inr (.int, 2)) rfl) (ix := 1) (by decide) (by decide) ?_
          intro τr7 hTr7 hwr7 hfr7
          have hsτr7 : τr7.2.1 120 = τ.2.1 120 := (ax_120F hfr7 (by decide)).trans hsτr6
          have hqτr7 : ax_pl τr7.2.1 = ax_pl τ.2.1 := (ax_plF hfr7 (by decide)).trans hqτr6
          refine kr_aload_n 1 rd_d_X12_race_88 rfl ?_
          refine kr_getf G.1 (rd_FL rd_k_X12_race_89).1 rd_d_X12_race_89 (hTr7.1 118 (.inl 12) rfl) (v := .ref 132) (by unfold am_fa; rw [(rd_FL rd_k_X12_race_89).2]; exact hTr7.2 118 32 132 rfl) ?_
          refine kr_iload 0 rd_d_X12_race_92 rfl ?_
          refine kr_iconst (v := 0) rd_d_X12_race_94 (by decide) ?_
          refine ax_astW G hTr7 rd_d_X12_race_95 (n := 2) (hTr7.1 132 (.inr (.int, 2)) rfl) (ix := 1) (by decide) (by decide) ?_
          intro τr8 hTr8 hwr8 hfr8
          have hsτr8 : τr8.2.1 120 = τ.2.1 120 := (ax_120F hfr8 (by decide)).trans hsτr7
          have hqτr8 : ax_pl τr8.2.1 = ax_pl τ.2.1 := (ax_plF hfr8 (by decide)).trans hqτr7
          refine kr_iinc (v := 2) (lv' := [(5, .int 2), (0, .ref 118), (1, .int a), (2, .int b), (3, .int c), (4, .int d)]) 0 rd_d_X12_race_96 rfl rfl (by decide) rfl ?_
          refine kr_goto (tgt := 60) rd_d_X12_race_99 rfl ?_
          refine kr_iload 0 rd_d_X12_race_60 rfl ?_
          refine kr_iconst (v := 2) rd_d_X12_race_62 (by decide) ?_
          refine kr_icmp_ge (tgt := 102) rd_d_X12_race_63 rfl (fun h => ?_) (fun h => absurd h (by decide))
          refine kr_iconst (v := 0) rd_d_X12_race_102 (by decide) ?_
          refine kr_istore (lv' := [(5, .int 0), (0, .ref 118), (1, .int a), (2, .int b), (3, .int c), (4, .int d)]) rd_d_X12_race_103 (by decide) rfl ?_
          have hA : rm_A τr8.2.1 0 1 = (rc_six fun j => if j = 0 then a else if j = 1 then 1 else if j = 3 then τ.2.1 120 55 else 0) := rc_six_eq ((hfr8 129 0 (fun q => absurd q.1 (by decide))).trans ((hfr7 129 0 (fun q => absurd q.1 (by decide))).trans ((hfr6 129 0 (fun q => absurd q.1 (by decide))).trans ((hfr5 129 0 (fun q => absurd q.1 (by decide))).trans ((hfr4 129 0 (fun q => absurd q.1 (by decide))).trans ((hfr3 129 0 (fun q => absurd q.1 (by decide))).trans ((hfr2 129 0 (fun q => absurd q.2 (by decide))).trans (hwr1)))))))) (show (1 : Int32) = 1 from rfl) ((hfr8 130 0 (fun q => absurd q.1 (by decide))).trans ((hfr7 130 0 (fun q => absurd q.1 (by decide))).trans ((hfr6 130 0 (fun q => absurd q.2 (by decide))).trans ((hfr5 130 0 (fun q => absurd q.1 (by decide))).trans ((hfr4 130 0 (fun q => absurd q.1 (by decide))).trans (hwr3)))))) ((hfr8 131 0 (fun q => absurd q.1 (by decide))).trans ((hfr7 131 0 (fun q => absurd q.2 (by decide))).trans ((hfr6 131 0 (fun q => absurd q.1 (by decide))).trans ((hfr5 131 0 (fun q => absurd q.1 (by decide))).trans (hwr4))))) ((hfr8 132 0 (fun q => absurd q.2 (by decide))).trans ((hfr7 132 0 (fun q => absurd q.1 (by decide))).trans ((hfr6 132 0 (fun q => absurd q.1 (by decide))).trans (hwr5)))) (show (0 : Int32) = 0 from rfl)
          have hB : rm_A τr8.2.1 1 (-1) = (rc_six fun j => if j = 0 then b else if j = 1 then (-1) else if j = 3 then τ.2.1 120 55 else 0) := rc_six_eq ((hfr8 129 1 (fun q => absurd q.1 (by decide))).trans ((hfr7 129 1 (fun q => absurd q.1 (by decide))).trans ((hfr6 129 1 (fun q => absurd q.1 (by decide))).trans ((hfr5 129 1 (fun q => absurd q.1 (by decide))).trans ((hfr4 129 1 (fun q => absurd q.1 (by decide))).trans ((hfr3 129 1 (fun q => absurd q.1 (by decide))).trans (hwr2))))))) (show ((-1) : Int32) = (-1) from rfl) ((hfr8 130 1 (fun q => absurd q.1 (by decide))).trans ((hfr7 130 1 (fun q => absurd q.1 (by decide))).trans (hwr6))) ((hfr8 131 1 (fun q => absurd q.1 (by decide))).trans (hwr7)) (hwr8) (show (0 : Int32) = 0 from rfl)
          have hr : rm_rem (τ.2.1 120) (rc_six fun j => if j = 0 then a else if j = 1 then 1 else if j = 3 then τ.2.1 120 55 else 0) (rc_six fun j => if j = 0 then b else if j = 1 then (-1) else if j = 3 then τ.2.1 120 55 else 0) ≤ 20 := rm_start hb h2 h4
          have K := ax_rlM G a b c d (ax_in01 h8) 20 0 τr8 hTr8 (by rw [hsτr8]; exact hb) (by rw [hsτr8]; exact hb5) (by rw [hsτr8, hA, hB]; exact hr)
          rw [hsτr8, hA, hB] at K
          rw [e120, ax_f_raM, if_neg h2, if_neg h4, if_neg h6, if_neg h8]
          exact kr_less (by decide) (Nat.le_refl _) (Nat.le_refl _) K
        · refine kr_iconst (v := (-1)) rd_d_X12_race_41 (by decide) ?_
          exact kr_ireturn rd_d_X12_race_42 (ty := .int) rfl rfl (by rw [e120, ax_f_raM, if_neg h2, if_neg h4, if_neg h6, if_pos h8])
/-! both races are one -/
def rc_vA (a p : Nat) : Int32 := Int32.ofNat (2 ^ p - 2 ^ a)
theorem rc_b1 : ∀ a, a < 11 → ∀ p, p < 10 → a ≤ p → rc_vA a p ||| (1 <<< (Int32.ofNat p &&& 31)) = rc_vA a (p + 1) := by decide +kernel
theorem rc_b2 : ∀ q, q < 10 → ∀ b, b < 11 → q + 1 ≤ b → rc_vA (q + 1) b ||| (1 <<< (Int32.ofNat q &&& 31)) = rc_vA q b := by decide +kernel
def rc_k3 (a p q b : Nat) : Bool := !(a.ble p && q.ble b) || (decide (ax_f_bit (rc_vA a p ||| rc_vA q b) (Int32.ofNat p) = 0) == decide ((rc_vA q b >>> (Int32.ofNat p &&& 31)) &&& 1 = 0))
def rc_k4 (a p q b : Nat) : Bool := !(a.ble p && (q + 1).ble b) || (decide (ax_f_bit (rc_vA a p ||| rc_vA (q + 1) b) (Int32.ofNat q) = 0) == decide ((rc_vA a p >>> (Int32.ofNat q &&& 31)) &&& 1 = 0))
theorem rc_k3a : ((List.range 11).all fun a => (List.range 10).all fun p => (List.range 11).all fun q => (List.range 11).all fun b => rc_k3 a p q b) = true := by decide +kernel
theorem rc_k4a : ((List.range 11).all fun a => (List.range 11).all fun p => (List.range 10).all fun q => (List.range 11).all fun b => rc_k4 a p q b) = true := by decide +kernel
theorem rc_b3 (a : Nat) (ha : a < 11) (p : Nat) (hp : p < 10) (hap : a ≤ p) (q : Nat) (hq : q < 11) (b : Nat) (hb : b < 11) (hqb : q ≤ b) : (ax_f_bit (rc_vA a p ||| rc_vA q b) (Int32.ofNat p) = 0 ↔ (rc_vA q b >>> (Int32.ofNat p &&& 31)) &&& 1 = 0) := by
  have h := List.all_eq_true.mp (List.all_eq_true.mp (List.all_eq_true.mp (List.all_eq_true.mp rc_k3a a (List.mem_range.mpr ha)) p (List.mem_range.mpr hp)) q (List.mem_range.mpr hq)) b (List.mem_range.mpr hb)
  unfold rc_k3 at h
  rw [Nat.ble_eq_true_of_le hap, Nat.ble_eq_true_of_le hqb] at h
  have h' : (decide (ax_f_bit (rc_vA a p ||| rc_vA q b) (Int32.ofNat p) = 0) == decide ((rc_vA q b >>> (Int32.ofNat p &&& 31)) &&& 1 = 0)) = true := h
  exact decide_eq_decide.mp (eq_of_beq h')
theorem rc_b4 (a : Nat) (ha : a < 11) (p : Nat) (hp : p < 11) (hap : a ≤ p) (q : Nat) (hq : q < 10) (b : Nat) (hb : b < 11) (hqb : q + 1 ≤ b) : (ax_f_bit (rc_vA a p ||| rc_vA (q + 1) b) (Int32.ofNat q) = 0 ↔ (rc_vA a p >>> (Int32.ofNat q &&& 31)) &&& 1 = 0) := by
  have h := List.all_eq_true.mp (List.all_eq_true.mp (List.all_eq_true.mp (List.all_eq_true.mp rc_k4a a (List.mem_range.mpr ha)) p (List.mem_range.mpr hp)) q (List.mem_range.mpr hq)) b (List.mem_range.mpr hb)
  unfold rc_k4 at h
  rw [Nat.ble_eq_true_of_le hap, Nat.ble_eq_true_of_le hqb] at h
  have h' : (decide (ax_f_bit (rc_vA a p ||| rc_vA (q + 1) b) (Int32.ofNat q) = 0) == decide ((rc_vA a p >>> (Int32.ofNat q &&& 31)) &&& 1 = 0)) = true := h
  exact decide_eq_decide.mp (eq_of_beq h')
theorem rc_les (a b : Int32) : ax_f_min a b = ax_f_les a b := by
  rw [ax_f_min, ax_f_les]
  by_cases h : b < a
  · rw [if_pos h, if_pos (Int32.le_iff_toInt_le.mpr (by have := Int32.lt_iff_toInt_lt.mp h; omega))]
  · rw [if_neg h]
    by_cases h2 : b ≤ a
    · rw [if_pos h2]
      apply Int32.toInt_inj.mp
      have h' : ¬ b.toInt < a.toInt := fun q => h (Int32.lt_iff_toInt_lt.mpr q)
      have := Int32.le_iff_toInt_le.mp h2
      omega
    · rw [if_neg h2]
theorem rc_manyE {m : Nat → Nat → Int32} {s : Nat → Int32} (h : pl_R m 4 s) (b : pl_B s) {W vo had fr : Int32} (hW : ¬ ax_f_win s W = 0) (e : ax_f_bit had W = 0 ↔ (vo >>> (W &&& 31)) &&& 1 = 0) : rc_many m W vo fr = rm_many s W had fr := by
  have e2 : ax_f_oft m W = s (22 + W.toInt.toNat) := ax_rowE h b hW (r := 2) (by decide)
  rw [rc_many, rm_many, e2, rc_les]
  by_cases q : ax_f_bit had W = 0
  · rw [if_pos q, if_pos (e.mp q)]
  · rw [if_neg q, if_neg (fun z => q (e.mpr z))]
/-- a racer of either side -/
def rc_like (A A' : Nat → Int32) : Prop := A 0 = A' 0 ∧ A 1 = A' 1 ∧ A 2 = A' 2 ∧ A 3 = A' 3 ∧ A 4 = A' 4
theorem rc_visE {m : Nat → Nat → Int32} {s : Nat → Int32} (h : pl_R m 4 s) (b : pl_B s) {last had : Int32} {A B A' : Nat → Int32} (hA : rc_like A A') (hW : ¬ ax_f_win s (A 0) = 0) (e : ax_f_bit had (A 0) = 0 ↔ (B 5 >>> (A 0 &&& 31)) &&& 1 = 0) : rc_like (rc_vis m last A B) (rm_vis s last had A') := by
  obtain ⟨e0, e1, e2, e3, e4⟩ := hA
  have hm := rc_manyE h b (fr := A 3) hW e
  have t : ax_f_tak m (A 0) = s (12 + (A 0).toInt.toNat) := ax_rowE h b hW (r := 1) (by decide)
  have p : ax_f_pri m (A 0) = s (2 + (A 0).toInt.toNat) := ax_rowE h b hW (r := 0) (by decide)
  have w : ax_f_wal m = s 54 := ax_setE h (a := 0) (j := 0) rfl (by decide)
  refine ⟨?_, ?_, ?_, ?_, ?_⟩
  · show A 0 + A 1 = A' 0 + A' 1
    rw [e0, e1]
  · exact e1
  · show (rc_in (ax_f_tak m (A 0)) (ax_f_pri m (A 0)) last (rc_many m (A 0) (B 5) (A 3)).toInt.toNat (A 2) (A 4)).1 + ax_f_wal m = (rc_in (s (12 + (A' 0).toInt.toNat)) (s (2 + (A' 0).toInt.toNat)) last (rm_many s (A' 0) had (A' 3)).toInt.toNat (A' 2) (A' 4)).1 + s 54
    rw [hm, t, p, w, e0, e2, e3, e4]
  · show A 3 - rc_many m (A 0) (B 5) (A 3) = A' 3 - rm_many s (A' 0) had (A' 3)
    rw [hm, e0, e3]
  · show (rc_in (ax_f_tak m (A 0)) (ax_f_pri m (A 0)) last (rc_many m (A 0) (B 5) (A 3)).toInt.toNat (A 2) (A 4)).2 = (rc_in (s (12 + (A' 0).toInt.toNat)) (s (2 + (A' 0).toInt.toNat)) last (rm_many s (A' 0) had (A' 3)).toInt.toNat (A' 2) (A' 4)).2
    rw [hm, t, p, e0, e2, e3, e4]
theorem rc_vis_0 (m : Nat → Nat → Int32) (last : Int32) (A B : Nat → Int32) : rc_vis m last A B 0 = A 0 + A 1 := rfl
theorem rc_vis_1 (m : Nat → Nat → Int32) (last : Int32) (A B : Nat → Int32) : rc_vis m last A B 1 = A 1 := rfl
theorem rc_vis_5 (m : Nat → Nat → Int32) (last : Int32) (A B : Nat → Int32) : rc_vis m last A B 5 = A 5 ||| (1 <<< (A 0 &&& 31)) := rfl
theorem rc_stop {m : Nat → Nat → Int32} {last : Int32} {A B : Nat → Int32} (ha : rc_ahd m A B = 0) (hb : ax_f_has m (B 0) = 0) : ∀ n, rc_it m last n A B = (A, B) := by
  intro n
  induction n with
  | zero => rfl
  | succ n ih => rw [rc_it, if_pos ha, if_pos hb, ih]
theorem rc_ofN {x : Int32} (h0 : 0 ≤ x.toInt) : x = Int32.ofNat x.toInt.toNat := by
  have := Int32.toInt_lt x
  apply Int32.toInt_inj.mp
  rw [Int32.toInt_ofNat_of_lt (by omega)]
  omega
theorem rc_itE {m : Nat → Nat → Int32} {s : Nat → Int32} (h : pl_R m 4 s) (hb : pl_B s) (last : Int32) {a b : Nat} (ha10 : a ≤ 10) (hb10 : b ≤ 10) : ∀ (n p q : Nat) (A B A' B' : Nat → Int32), a ≤ p → p ≤ 10 → q ≤ b → (A 0).toInt = (p : Int) → (B 0).toInt = (q : Int) - 1 → A 1 = 1 → B 1 = (-1) → A 5 = rc_vA a p → B 5 = rc_vA q b → rc_like A A' → rc_like B B' → (rc_it m last n A B).1 4 = (rm_it s last n A' B' (rc_vA a p ||| rc_vA q b)).1 4 ∧ (rc_it m last n A B).2 4 = (rm_it s last n A' B' (rc_vA a p ||| rc_vA q b)).2 4 := by
  have z1 : (1 : Int32).toInt = 1 := rfl
  have zm : ((-1 : Int32)).toInt = -1 := rfl
  intro n
  induction n with
  | zero =>
    intro p q A B A' B' h1 h2 h3 eA eB a1 b1 a5 b5 lA lB
    exact ⟨lA.2.2.2.2, lB.2.2.2.2⟩
  | succ n ih =>
    intro p q A B A' B' h1 h2 h3 eA eB a1 b1 a5 b5 lA lB
    have hA0 : A' 0 = A 0 := lA.1.symm
    have hB0 : B' 0 = B 0 := lB.1.symm
    have hhA := ax_hasE h hb (A 0)
    have hhB := ax_hasE h hb (B 0)
    have stepA : ¬ ax_f_win s (A 0) = 0 → (rc_it m last n (rc_vis m last A B) B).1 4 = (rm_it s last n (rm_vis s last (rc_vA a p ||| rc_vA q b) A') B' (rc_vA a p ||| rc_vA q b ||| (1 <<< (A' 0 &&& 31)))).1 4 ∧ (rc_it m last n (rc_vis m last A B) B).2 4 = (rm_it s last n (rm_vis s last (rc_vA a p ||| rc_vA q b) A') B' (rc_vA a p ||| rc_vA q b ||| (1 <<< (A' 0 &&& 31)))).2 4 := by
      intro hW
      obtain ⟨w1, w2, w3⟩ := ax_winI hb hW
      have eo : A 0 = Int32.ofNat p := (rc_ofN (x := A 0) (by omega)).trans (congrArg Int32.ofNat (by omega))
      have bb := rc_b3 a (by omega) p (by omega) h1 q (by omega) b (by omega) h3
      have bc : ax_f_bit (rc_vA a p ||| rc_vA q b) (A 0) = 0 ↔ (B 5 >>> (A 0 &&& 31)) &&& 1 = 0 := by rw [b5, eo]; exact bb
      have V := rc_visE h hb (last := last) (B := B) lA hW bc
      have e1 := sx_addI (A 0) 1 (by show (-2147483648 : Int) ≤ _; omega) (by show _ ≤ (2147483647 : Int); omega)
      have v5 : (rc_vis m last A B) 5 = rc_vA a (p + 1) := by
        rw [rc_vis_5, a5, eo]
        exact rc_b1 a (by omega) p (by omega) h1
      have hd : rc_vA a p ||| rc_vA q b ||| (1 <<< (A' 0 &&& 31)) = rc_vA a (p + 1) ||| rc_vA q b := by
        rw [hA0, eo, ← rc_b1 a (by omega) p (by omega) h1, Int32.or_assoc, Int32.or_comm (rc_vA q b), ← Int32.or_assoc]
      rw [hd]
      exact ih (p + 1) q (rc_vis m last A B) B (rm_vis s last (rc_vA a p ||| rc_vA q b) A') B' (by omega) (by omega) h3 (by rw [rc_vis_0, a1]; omega) eB (by rw [rc_vis_1]; exact a1) b1 v5 b5 V lB
    have stepB : ¬ ax_f_win s (B 0) = 0 → (rc_it m last n A (rc_vis m last B A)).1 4 = (rm_it s last n A' (rm_vis s last (rc_vA a p ||| rc_vA q b) B') (rc_vA a p ||| rc_vA q b ||| (1 <<< (B' 0 &&& 31)))).1 4 ∧ (rc_it m last n A (rc_vis m last B A)).2 4 = (rm_it s last n A' (rm_vis s last (rc_vA a p ||| rc_vA q b) B') (rc_vA a p ||| rc_vA q b ||| (1 <<< (B' 0 &&& 31)))).2 4 := by
      intro hW
      obtain ⟨w1, w2, w3⟩ := ax_winI hb hW
      obtain ⟨q', rfl⟩ : ∃ q', q = q' + 1 := ⟨q - 1, by omega⟩
      have eo : B 0 = Int32.ofNat q' := (rc_ofN (x := B 0) (by omega)).trans (congrArg Int32.ofNat (by omega))
      have bb := rc_b4 a (by omega) p (by omega) h1 q' (by omega) b (by omega) h3
      have bc : ax_f_bit (rc_vA a p ||| rc_vA (q' + 1) b) (B 0) = 0 ↔ (A 5 >>> (B 0 &&& 31)) &&& 1 = 0 := by rw [a5, eo]; exact bb
      have V := rc_visE h hb (last := last) (B := A) lB hW bc
      have e1 := sx_addI (B 0) (-1) (by show (-2147483648 : Int) ≤ _; omega) (by show _ ≤ (2147483647 : Int); omega)
      have v5 : (rc_vis m last B A) 5 = rc_vA q' b := by
        rw [rc_vis_5, b5, eo]
        exact rc_b2 q' (by omega) b (by omega) h3
      have hd : rc_vA a p ||| rc_vA (q' + 1) b ||| (1 <<< (B' 0 &&& 31)) = rc_vA a p ||| rc_vA q' b := by
        rw [hB0, eo, Int32.or_assoc, rc_b2 q' (by omega) b (by omega) h3]
      rw [hd]
      exact ih p q' A (rc_vis m last B A) A' (rm_vis s last (rc_vA a p ||| rc_vA (q' + 1) b) B') h1 h2 (by omega) eA (by rw [rc_vis_0, b1]; omega) a1 (by rw [rc_vis_1]; exact b1) a5 v5 lA V
    have eW : rm_who s A' B' = (if ax_f_win s (A 0) = 0 then (if ax_f_win s (B 0) = 0 then 2 else 1) else if ax_f_win s (B 0) = 0 then 0 else if A 2 ≤ B 2 then 0 else 1) := by
      rw [rm_who, hA0, hB0, lA.2.2.1, lB.2.2.1]
    have eH : rc_ahd m A B = (if ax_f_win s (A 0) = 0 then 0 else if ax_f_win s (B 0) = 0 then 1 else if B 2 < A 2 then 0 else 1) := by
      rw [rc_ahd, hhA, hhB]
    by_cases wa : ax_f_win s (A 0) = 0
    · rw [if_pos wa] at eW eH
      by_cases wb : ax_f_win s (B 0) = 0
      · rw [if_pos wb] at eW
        rw [rc_stop eH (hhB.trans wb), rm_it, if_pos eW]
        exact ⟨lA.2.2.2.2, lB.2.2.2.2⟩
      · rw [if_neg wb] at eW
        rw [rc_it, if_pos eH, if_neg (fun z => wb (hhB.symm.trans z)), rm_it, if_neg (by rw [eW]; decide), if_neg (by rw [eW]; decide)]
        exact stepB wb
    · rw [if_neg wa] at eW eH
      by_cases wb : ax_f_win s (B 0) = 0
      · rw [if_pos wb] at eW eH
        rw [rc_it, if_neg (by rw [eH]; decide), rm_it, if_neg (by rw [eW]; decide), if_pos eW]
        exact stepA wa
      · rw [if_neg wb] at eW eH
        by_cases tt : B 2 < A 2
        · have t2 : ¬ A 2 ≤ B 2 := fun z => by have q1 := Int32.lt_iff_toInt_lt.mp tt; have q2 := Int32.le_iff_toInt_le.mp z; omega
          rw [if_pos tt] at eH
          rw [if_neg t2] at eW
          rw [rc_it, if_pos eH, if_neg (fun z => wb (hhB.symm.trans z)), rm_it, if_neg (by rw [eW]; decide), if_neg (by rw [eW]; decide)]
          exact stepB wb
        · have t2 : A 2 ≤ B 2 := Int32.le_iff_toInt_le.mpr (by have : ¬ (B 2).toInt < (A 2).toInt := fun z => tt (Int32.lt_iff_toInt_lt.mpr z); omega)
          rw [if_neg tt] at eH
          rw [if_pos t2] at eW
          rw [rc_it, if_neg (by rw [eH]; decide), rm_it, if_neg (by rw [eW]; decide), if_pos eW]
          exact stepA wa
theorem ra_eq {m : Nat → Nat → Int32} {s : Nat → Int32} (h : pl_R m 4 s) (hb : pl_B s) (a b c d : Int32) : ax_f_raX m a b c d = ax_f_raM s a b c d := by
  have e : ax_f_isc c = ax_f_isIn c 0 60 := rfl
  have eb : ax_f_bas m = s 55 := ax_setE h (a := 1) (j := 1) rfl (by decide)
  rw [ax_f_raX, ax_f_raM, ax_hasE h hb, ax_hasE h hb, e, eb]
  by_cases ha : ax_f_win s a = 0
  · rw [if_pos ha, if_pos ha]
  rw [if_neg ha, if_neg ha]
  by_cases hbb : ax_f_win s b = 0
  · rw [if_pos hbb, if_pos hbb]
  rw [if_neg hbb, if_neg hbb]
  by_cases hc : ax_f_isIn c 0 60 = 0
  · rw [if_pos hc, if_pos hc]
  rw [if_neg hc, if_neg hc]
  obtain ⟨a1, a2, a3⟩ := ax_winI hb ha
  obtain ⟨b1, b2, b3⟩ := ax_winI hb hbb
  have v0 : ∀ x, x < 11 → rc_vA x x = 0 := by decide +kernel
  have K := rc_itE h hb c (a := a.toInt.toNat) (b := b.toInt.toNat + 1) (by omega) (by omega) 20 a.toInt.toNat (b.toInt.toNat + 1) (rc_six fun j => if j = 0 then a else if j = 1 then 1 else if j = 3 then s 55 else 0) (rc_six fun j => if j = 0 then b else if j = 1 then (-1) else if j = 3 then s 55 else 0) (rc_six fun j => if j = 0 then a else if j = 1 then 1 else if j = 3 then s 55 else 0) (rc_six fun j => if j = 0 then b else if j = 1 then (-1) else if j = 3 then s 55 else 0) (Nat.le_refl _) (by omega) (Nat.le_refl _) (by show a.toInt = _; omega) (by show b.toInt = _; omega) (show (1 : Int32) = 1 from rfl) (show ((-1) : Int32) = (-1) from rfl) (by rw [v0 _ (by omega)]; rfl) (by rw [v0 _ (by omega)]; rfl) ⟨rfl, rfl, rfl, rfl, rfl⟩ ⟨rfl, rfl, rfl, rfl, rfl⟩
  rw [v0 _ (by omega), v0 _ (by omega), show (0 : Int32) ||| 0 = 0 from by decide] at K
  have i := ax_f_isIn d 0 1
  have hd : (ax_f_isIn d 0 1 = 0 ↔ (d < 0 ∨ 1 < d)) := by
    rw [ax_f_isIn]
    by_cases q1 : d < 0
    · rw [if_pos q1]; exact ⟨fun _ => Or.inl q1, fun _ => rfl⟩
    · rw [if_neg q1]
      by_cases q2 : 1 < d
      · rw [if_pos q2]; exact ⟨fun _ => Or.inr q2, fun _ => rfl⟩
      · rw [if_neg q2]; exact ⟨fun z => absurd z (by decide), fun z => by rcases z with z | z; exact absurd z q1; exact absurd z q2⟩
  by_cases q1 : d < 0
  · rw [if_pos q1, if_pos (hd.mpr (Or.inl q1))]
  rw [if_neg q1]
  by_cases q2 : 1 < d
  · have q3 : ¬ d ≤ 1 := fun z => by have y1 := Int32.lt_iff_toInt_lt.mp q2; have y2 := Int32.le_iff_toInt_le.mp z; omega
    rw [if_neg q3, if_pos (hd.mpr (Or.inr q2))]
  · have q3 : d ≤ 1 := Int32.le_iff_toInt_le.mpr (by have : ¬ (1 : Int32).toInt < d.toInt := fun z => q2 (Int32.lt_iff_toInt_lt.mpr z); omega)
    have q4 : ¬ ax_f_isIn d 0 1 = 0 := fun z => by rcases hd.mp z with z | z; exact absurd z q1; exact absurd z q2
    rw [if_pos q3, if_neg q4, rc_out, rc_out]
    by_cases d0 : d = 0
    · rw [if_pos d0, if_pos d0]; exact K.1
    · rw [if_neg d0, if_neg d0]; exact K.2
end AXX
